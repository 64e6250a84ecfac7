/-! the law: its judgement and rows -/
def Sl (p : Program) (l : Launch) (e : Env) (s : State) (m : MethodId) (args : Array Value) (below : List Frame) (meth : Method) (c : Code) (D : va_G) (t6 : Nat → ClassId) (b : Nat) (Q : State → Prop) (M : Mem) (pc : Nat) (L : List (Option Value)) (st : List Value) : Prop :=
  ∀ (H : Heap) (locs : List Loc) (ls : Array Slot), wo D t6 b 133 M H → va_S (fun q => b ≤ q) s.heap H locs → hs ls 4 L → W p l e room_1 s m args below meth c H locs 600000 7302250 Q (F0 m pc ls st)
/-- the script -/
def sc_ (s : State) (a0 N : Nat) (xs : Nat → Int32) (b : Nat) : Prop := va_X a0 N xs s s.heap ∧ a0 < b ∧ s.heap.size = b ∧ N ≤ 4096
abbrev LL (a0 b i : Nat) : List (Option Value) := [some (.ref a0), some (.ref (ad b 0 0)), some (.ref (ad b 20 0)), some (.int (nI i))]
section
variable {p : Program} {l : Launch} {e : Env} {s : State} {m : MethodId} {args : Array Value} {below : List Frame} {meth : Method} {c : Code} {D : va_G} {t6 : Nat → ClassId} {b : Nat} {Q : State → Prop} {M : Mem} {pc pc2 : Nat} {L : List (Option Value)} {st : List Value} {ret9 : Option FieldType} {a0 N : Nat} {xs : Nat → Int32}
theorem sl_iconst (G : cx p s m meth c code 4 "BridgeClientsLaw" ret9 D t6) {z : Int} {v : Int32} (hv : Int32.ofInt z = v) (hd : dc code pc (.iconst z) 1 pc2) (k : Sl p l e s m args below meth c D t6 b Q M pc2 L (.int v :: st)) : Sl p l e s m args below meth c D t6 b Q M pc L st := by
  intro H locs ls hw hS hl
  obtain ⟨hx, hb, hml, hown, hr, hlk, hk⟩ := G
  obtain ⟨hd, rfl⟩ := hd
  exact lv_iconst hx hb hd hv (k H locs ls hw hS hl)
theorem sl_bipush (G : cx p s m meth c code 4 "BridgeClientsLaw" ret9 D t6) {z : Int} {v : Int32} (hv : (Int8.ofInt z).toInt32 = v) (hd : dc code pc (.bipush z) 2 pc2) (k : Sl p l e s m args below meth c D t6 b Q M pc2 L (.int v :: st)) : Sl p l e s m args below meth c D t6 b Q M pc L st := by
  intro H locs ls hw hS hl
  obtain ⟨hx, hb, hml, hown, hr, hlk, hk⟩ := G
  obtain ⟨hd, rfl⟩ := hd
  exact lv_bipush hx hb hd hv (k H locs ls hw hS hl)
theorem sl_iload_n (G : cx p s m meth c code 4 "BridgeClientsLaw" ret9 D t6) {i : Fin 4} {x : Int32} (hi : L[(i : Nat)]? = some (some (.int x))) (hd : dc code pc (.iload_n i) 1 pc2) (k : Sl p l e s m args below meth c D t6 b Q M pc2 L (.int x :: st)) : Sl p l e s m args below meth c D t6 b Q M pc L st := by
  intro H locs ls hw hS hl
  obtain ⟨hx, hb, hml, hown, hr, hlk, hk⟩ := G
  obtain ⟨hd, rfl⟩ := hd
  exact lv_iload_n hx hb hd rfl (hl.2.2 _ _ hi).2 (k H locs ls hw hS hl)
theorem sl_aload_n (G : cx p s m meth c code 4 "BridgeClientsLaw" ret9 D t6) {i : Fin 4} {x : Nat} (hi : L[(i : Nat)]? = some (some (.ref x))) (hd : dc code pc (.aload_n i) 1 pc2) (k : Sl p l e s m args below meth c D t6 b Q M pc2 L (.ref x :: st)) : Sl p l e s m args below meth c D t6 b Q M pc L st := by
  intro H locs ls hw hS hl
  obtain ⟨hx, hb, hml, hown, hr, hlk, hk⟩ := G
  obtain ⟨hd, rfl⟩ := hd
  exact lv_aload_n hx hb hd rfl (hl.2.2 _ _ hi).2 (k H locs ls hw hS hl)
theorem sl_istore_n (G : cx p s m meth c code 4 "BridgeClientsLaw" ret9 D t6) {i : Fin 4} {x : Int32} (hn : (i : Nat) < 4) (hd : dc code pc (.istore_n i) 1 pc2) (k : Sl p l e s m args below meth c D t6 b Q M pc2 (L.set (i : Nat) (some (.int x))) st) : Sl p l e s m args below meth c D t6 b Q M pc L (.int x :: st) := by
  intro H locs ls hw hS hl
  obtain ⟨hx, hb, hml, hown, hr, hlk, hk⟩ := G
  obtain ⟨hd, rfl⟩ := hd
  exact lv_istore_n hx hb hd rfl (hs_to hl) hn rfl (fun ls2 h2 => k H locs ls2 hw hS (hs_store hl rfl h2))
theorem sl_iinc (G : cx p s m meth c code 4 "BridgeClientsLaw" ret9 D t6) {i : Nat} {z : Int} {x v : Int32} (hi : L[i]? = some (some (.int x))) (hv : x + Int32.ofInt z = v) (hn : i < 4) (hd : dc code pc (.iinc i z) 3 pc2) (k : Sl p l e s m args below meth c D t6 b Q M pc2 (L.set i (some (.int v))) st) : Sl p l e s m args below meth c D t6 b Q M pc L st := by
  intro H locs ls hw hS hl
  obtain ⟨hx, hb, hml, hown, hr, hlk, hk⟩ := G
  obtain ⟨hd, rfl⟩ := hd
  obtain ⟨k9, hk9⟩ := List.getElem?_of_mem (lf_in hi)
  exact lv_iinc hx hb hd (hs_to hl) hk9 hv hn rfl (fun ls2 h2 => k H locs ls2 hw hS (hs_store hl rfl h2))
theorem sl_iadd (G : cx p s m meth c code 4 "BridgeClientsLaw" ret9 D t6) {x y : Int32} (hd : dc code pc (.iadd) 1 pc2) (k : Sl p l e s m args below meth c D t6 b Q M pc2 L (.int (x + y) :: st)) : Sl p l e s m args below meth c D t6 b Q M pc L (.int y :: .int x :: st) := by
  intro H locs ls hw hS hl
  obtain ⟨hx, hb, hml, hown, hr, hlk, hk⟩ := G
  obtain ⟨hd, rfl⟩ := hd
  exact lv_iadd hx hb hd (k H locs ls hw hS hl)
theorem sl_isub (G : cx p s m meth c code 4 "BridgeClientsLaw" ret9 D t6) {x y : Int32} (hd : dc code pc (.isub) 1 pc2) (k : Sl p l e s m args below meth c D t6 b Q M pc2 L (.int (x - y) :: st)) : Sl p l e s m args below meth c D t6 b Q M pc L (.int y :: .int x :: st) := by
  intro H locs ls hw hS hl
  obtain ⟨hx, hb, hml, hown, hr, hlk, hk⟩ := G
  obtain ⟨hd, rfl⟩ := hd
  exact lv_isub hx hb hd (k H locs ls hw hS hl)
theorem sl_iand (G : cx p s m meth c code 4 "BridgeClientsLaw" ret9 D t6) {x y : Int32} (hd : dc code pc (.iand) 1 pc2) (k : Sl p l e s m args below meth c D t6 b Q M pc2 L (.int (x &&& y) :: st)) : Sl p l e s m args below meth c D t6 b Q M pc L (.int y :: .int x :: st) := by
  intro H locs ls hw hS hl
  obtain ⟨hx, hb, hml, hown, hr, hlk, hk⟩ := G
  obtain ⟨hd, rfl⟩ := hd
  exact lv_iand hx hb hd (k H locs ls hw hS hl)
theorem sl_icmp_gt (G : cx p s m meth c code 4 "BridgeClientsLaw" ret9 D t6) {x y : Int32} {off : Int} (tgt : Nat) (hd : dc code pc (.if_icmp .gt off) 3 pc2) (ht : (pc : Int) + off = (tgt : Int)) (kt : y < x → Sl p l e s m args below meth c D t6 b Q M tgt L st) (kf : ¬ y < x → Sl p l e s m args below meth c D t6 b Q M pc2 L st) : Sl p l e s m args below meth c D t6 b Q M pc L (.int y :: .int x :: st) := by
  intro H locs ls hw hS hl
  obtain ⟨hx, hb, hml, hown, hr, hlk, hk⟩ := G
  obtain ⟨hd, rfl⟩ := hd
  exact lv_icmp_gt hx hb hd ht (fun h => kt h H locs ls hw hS hl) (fun h => kf h H locs ls hw hS hl)
theorem sl_icmp_eq (G : cx p s m meth c code 4 "BridgeClientsLaw" ret9 D t6) {x y : Int32} {off : Int} (tgt : Nat) (hd : dc code pc (.if_icmp .eq off) 3 pc2) (ht : (pc : Int) + off = (tgt : Int)) (kt : x = y → Sl p l e s m args below meth c D t6 b Q M tgt L st) (kf : ¬ x = y → Sl p l e s m args below meth c D t6 b Q M pc2 L st) : Sl p l e s m args below meth c D t6 b Q M pc L (.int y :: .int x :: st) := by
  intro H locs ls hw hS hl
  obtain ⟨hx, hb, hml, hown, hr, hlk, hk⟩ := G
  obtain ⟨hd, rfl⟩ := hd
  exact lv_icmp_eq hx hb hd ht (fun h => kt h H locs ls hw hS hl) (fun h => kf h H locs ls hw hS hl)
theorem sl_if_eq (G : cx p s m meth c code 4 "BridgeClientsLaw" ret9 D t6) {x : Int32} {off : Int} (tgt : Nat) (hd : dc code pc (.ifCond .eq off) 3 pc2) (ht : (pc : Int) + off = (tgt : Int)) (kt : x = 0 → Sl p l e s m args below meth c D t6 b Q M tgt L st) (kf : ¬ x = 0 → Sl p l e s m args below meth c D t6 b Q M pc2 L st) : Sl p l e s m args below meth c D t6 b Q M pc L (.int x :: st) := by
  intro H locs ls hw hS hl
  obtain ⟨hx, hb, hml, hown, hr, hlk, hk⟩ := G
  obtain ⟨hd, rfl⟩ := hd
  exact lv_if_eq hx hb hd ht (fun h => kt h H locs ls hw hS hl) (fun h => kf h H locs ls hw hS hl)
theorem sl_goto (G : cx p s m meth c code 4 "BridgeClientsLaw" ret9 D t6) {off : Int} (tgt : Nat) (hd : dc code pc (.goto off) 3 pc2) (ht : (pc : Int) + off = (tgt : Int)) (k : Sl p l e s m args below meth c D t6 b Q M tgt L st) : Sl p l e s m args below meth c D t6 b Q M pc L st := by
  intro H locs ls hw hS hl
  obtain ⟨hx, hb, hml, hown, hr, hlk, hk⟩ := G
  obtain ⟨hd, rfl⟩ := hd
  exact lv_goto hx hb hd ht (k H locs ls hw hS hl)
theorem sl_tabOut (G : cx p s m meth c code 4 "BridgeClientsLaw" ret9 D t6) {dflt lo hi : Int} {offs : Array Int} {len : Nat} {x : Int32} (tgt : Nat) (hd : dc code pc (.tableswitch dflt lo hi offs) len pc2) (h : x.toInt < lo ∨ hi < x.toInt) (ht : (pc : Int) + dflt = (tgt : Int)) (k : Sl p l e s m args below meth c D t6 b Q M tgt L st) : Sl p l e s m args below meth c D t6 b Q M pc L (.int x :: st) := by
  intro H locs ls hw hS hl
  obtain ⟨hx, hb, hml, hown, hr, hlk, hk⟩ := G
  obtain ⟨hd, rfl⟩ := hd
  exact lv_tableOut hx hb hd h ht (k H locs ls hw hS hl)
theorem sl_tabIn (G : cx p s m meth c code 4 "BridgeClientsLaw" ret9 D t6) {dflt lo hi : Int} {offs : Array Int} {len : Nat} {x : Int32} {off : Int} (tgt : Nat) (hd : dc code pc (.tableswitch dflt lo hi offs) len pc2) (h1 : ¬ x.toInt < lo) (h2 : ¬ hi < x.toInt) (ho : offs[(x.toInt - lo).toNat]? = some off) (ht : (pc : Int) + off = (tgt : Int)) (k : Sl p l e s m args below meth c D t6 b Q M tgt L st) : Sl p l e s m args below meth c D t6 b Q M pc L (.int x :: st) := by
  intro H locs ls hw hS hl
  obtain ⟨hx, hb, hml, hown, hr, hlk, hk⟩ := G
  obtain ⟨hd, rfl⟩ := hd
  exact lv_tableIn hx hb hd h1 h2 ho ht (k H locs ls hw hS hl)
theorem sl_len (G : cx p s m meth c code 4 "BridgeClientsLaw" ret9 D t6) (S : sc_ s a0 N xs b) (hd : dc code pc (.arraylength) 1 pc2) (k : Sl p l e s m args below meth c D t6 b Q M pc2 L (.int (nI N) :: st)) : Sl p l e s m args below meth c D t6 b Q M pc L (.ref a0 :: st) := by
  intro H locs ls hw hS hl
  obtain ⟨hx, hb, hml, hown, hr, hlk, hk⟩ := G
  obtain ⟨hd, rfl⟩ := hd
  obtain ⟨hX, h1, h2, h3⟩ := S
  exact va_slen hx hb hX (by omega) (by show ¬ b ≤ a0; omega) hS hd (k H locs ls hw hS hl)
theorem sl_ld (G : cx p s m meth c code 4 "BridgeClientsLaw" ret9 D t6) (S : sc_ s a0 N xs b) {j : Nat} {x : Int32} (hj : j < N) (hxj : x = nI j) (hd : dc code pc (.iaload) 1 pc2) (k : Sl p l e s m args below meth c D t6 b Q M pc2 L (.int (xs j) :: st)) : Sl p l e s m args below meth c D t6 b Q M pc L (.int x :: .ref a0 :: st) := by
  intro H locs ls hw hS hl
  obtain ⟨hx, hb, hml, hown, hr, hlk, hk⟩ := G
  obtain ⟨hd, rfl⟩ := hd
  obtain ⟨hX, h1, h2, h3⟩ := S
  subst hxj
  have e : (nI j).toNatClampNeg = j := nI_clamp (by omega)
  refine va_sld hx hb hX (by omega) (by show ¬ b ≤ a0; omega) hS (vp_in_nI hj (by omega)) hd ?_
  rw [e]
  exact (k H locs ls hw hS hl)
theorem sl_arg (G : cx p s m meth c code 4 "BridgeClientsLaw" ret9 D t6) (S : sc_ s a0 N xs b) {i q p1 p2 p3 p4 p5 : Nat} {z : Int} (hz : Int32.ofInt z = nI q) (hq : i + q < N) (d1 : dc code pc (.aload_n 0) 1 p1) (d2 : dc code p1 (.iload_n 3) 1 p2) (d3 : dc code p2 (.iconst z) 1 p3) (d4 : dc code p3 (.iadd) 1 p4) (d5 : dc code p4 (.iaload) 1 p5) (k : Sl p l e s m args below meth c D t6 b Q M p5 (LL a0 b i) (.int (xs (i + q)) :: st)) : Sl p l e s m args below meth c D t6 b Q M pc (LL a0 b i) st :=
  sl_aload_n G (i := 0) (x := a0) rfl d1 (sl_iload_n G (i := 3) (x := nI i) rfl d2 (sl_iconst G hz d3 (sl_iadd G d4 (sl_ld G S hq (nI_add i q) d5 k))))
theorem sl_arb (G : cx p s m meth c code 4 "BridgeClientsLaw" ret9 D t6) (S : sc_ s a0 N xs b) {i q p1 p2 p3 p4 p5 : Nat} {z : Int} (hz : (Int8.ofInt z).toInt32 = nI q) (hq : i + q < N) (d1 : dc code pc (.aload_n 0) 1 p1) (d2 : dc code p1 (.iload_n 3) 1 p2) (d3 : dc code p2 (.bipush z) 2 p3) (d4 : dc code p3 (.iadd) 1 p4) (d5 : dc code p4 (.iaload) 1 p5) (k : Sl p l e s m args below meth c D t6 b Q M p5 (LL a0 b i) (.int (xs (i + q)) :: st)) : Sl p l e s m args below meth c D t6 b Q M pc (LL a0 b i) st :=
  sl_aload_n G (i := 0) (x := a0) rfl d1 (sl_iload_n G (i := 3) (x := nI i) rfl d2 (sl_bipush G hz d3 (sl_iadd G d4 (sl_ld G S hq (nI_add i q) d5 k))))
theorem sl_cvi (G : cx p s m meth c code 4 "BridgeClientsLaw" ret9 D t6) {y : MethodName} {cc2 : ByteArray} {nL2 k9 : Nat} {rm : Room} {As rest stk : List Value} {ty2 : FieldType} {r : Int32} {M2 : Mem} {kd i ci : Nat} {fs : List Value} {T : u_T} {N : Nat} (hv : vv 133 kd i) (hc : cm_ t6 b kd i (M kd i) = .inr (ci, fs)) (hq : classes[ci]? = some (y.cls, T, N)) (hin : Cond.instanceMethod y ∈ lw_tbl) (hse : Cond.selects y.cls y y ∈ lw_tbl) (hM : CI l D t6 b 133 y cc2 nL2 ty2 rm (.ref (ad b kd i) :: As) M r M2) {index : Nat} (hco : Cond.code y cc2 nL2 (some ty2) ∈ lw_tbl) (hlk : Cond.methodLink "BridgeClientsLaw" index y ∈ lw_tbl) (hini : Cond.initialized y.cls ∈ lw_tbl) (hy : yy_ y k9) (hin1 : As.length = k9) (hrr : rr_ rm room_1 nL2) (hrest : (rest.map fun v => v.category).sum ≤ 8) (hstk : stk = As.reverse ++ .ref (ad b kd i) :: rest) (hd : dc code pc (.invokevirtual index) 3 pc2) (k : Sl p l e s m args below meth c D t6 b Q M2 pc2 L (.int r :: rest)) : Sl p l e s m args below meth c D t6 b Q M pc L stk := by
  intro H locs ls hw hS hl
  obtain ⟨hx, hb, hml, hown, hr, hlk9, hk⟩ := G
  obtain ⟨hd, rfl⟩ := hd
  subst hstk
  subst hin1
  have hts : ∀ w ∈ tb_, w.before args s = true := fun w h => hk.1 w h _
  refine va_calli (va_runV (As := As) (rest := rest) (g := F0 m pc ls _) ⟨hx, hb, hml, hown, hts⟩ hM (⟨callB_of As.length hts (gd_code hco) rfl hrr.1 hrr.2.1 (hts _ (tb_in hini rfl)) (hts _ (tb_in hlk rfl)) hy ⟨hrr.2.2.1, hrr.2.2.2⟩, hts _ (tb_in hin rfl), hts _ (tb_in hse rfl)⟩) ⟨pw_blind, wo_recv hk hw hv hc hq, fun U hU hW => ⟨rfl, kk_warm hW hk, by rw [hU]; exact hw⟩⟩ rfl rfl hl.1 rfl (lv_room hrest) hd ⟨Nat.le_refl _, Nat.le_refl _⟩) hS (fun q _ h => h) (fun q h => h) (fun r1 u t H1 locs1 ht _ hp hB _ _ hS1 => ?_)
  obtain ⟨rfl, rfl⟩ := hp
  exact k H1 locs1 ls (by rw [← ht]; exact hB) hS1 hl
end
