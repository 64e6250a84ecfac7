/-! from the cells one behind another to the memory -/
theorem iv_su : ∀ k, k < 133 → of_ (iv_ k).1 (iv_ k).2 = k ∧ (iv_ k).2 < nk_ (iv_ k).1 := by decide +kernel
theorem wl_get {b n : Nat} {f : Nat → va_E} {k : Nat} {q : Nat × va_E} (hk : ([] ++ va_pl (wl_ b n) f)[k]? = some q) : k < n ∧ q = (b + k, f (b + k)) := by
  rw [List.nil_append] at hk
  unfold va_pl wl_ at hk
  rw [List.map_map, List.getElem?_map] at hk
  cases hr : (List.range n)[k]? with
  | none => rw [hr] at hk; cases hk
  | some z =>
    rw [hr] at hk
    obtain ⟨h3, h4⟩ := List.getElem?_eq_some_iff.mp hr
    rw [List.getElem_range] at h4
    subst h4
    cases hk
    exact ⟨by simpa using h3, rfl⟩
theorem wo_of {D : va_G} {t6 : Nat → ClassId} {b n : Nat} {M : Mem} {H : Heap} (hn : n ≤ 133) (h : ∀ kd i, vv n kd i → va_at D classes (ad b kd i, cm_ t6 b kd i (M kd i)) H) : wo D t6 b n M H := by
  refine ⟨fun q => cm_ t6 b (iv_ (q - b)).1 (iv_ (q - b)).2 (M (iv_ (q - b)).1 (iv_ (q - b)).2), fun k q hk => ?_, fun kd i hv => ?_⟩
  · obtain ⟨h1, rfl⟩ := wl_get hk
    obtain ⟨s1, s2⟩ := iv_su k (by omega)
    have h2 := h (iv_ k).1 (iv_ k).2 ⟨s2, by omega⟩
    unfold ad at h2
    rw [s1] at h2
    rw [show b + k - b = k by omega]
    exact h2
  · have l1 : kd < 22 := by
      rcases Nat.lt_or_ge kd 22 with q | q
      · exact q
      · exact absurd hv.1 (by rw [nk_22 q]; omega)
    show cm_ t6 b (iv_ (ad b kd i - b)).1 (iv_ (ad b kd i - b)).2 (M (iv_ (ad b kd i - b)).1 (iv_ (ad b kd i - b)).2) = _
    rw [show ad b kd i - b = of_ kd i by unfold ad; omega, iv_ok kd l1 i hv.1]
theorem wo_at {D : va_G} {t6 : Nat → ClassId} {b n : Nat} {M : Mem} {H : Heap} (hw : wo D t6 b n M H) {kd i : Nat} (hv : vv n kd i) : va_at D classes (ad b kd i, cm_ t6 b kd i (M kd i)) H := by
  obtain ⟨f, hP, hF⟩ := hw
  obtain ⟨z, hz⟩ := va_pl_get (X := []) (f := f) (wl_in (b := b) hv)
  rw [hF kd i hv] at hz
  exact hP z _ hz
theorem va_qx {D : va_G} {t6 : Nat → ClassId} {a k n : Nat} {f g : Nat → Option Nat} {H : Heap} (h : ∀ j, j < n → f j = g j) (hA : va_at D classes (a, zq_ t6 k n f) H) : va_at D classes (a, zq_ t6 k n g) H := by
  have e : vp_cell (t6 k) (n, .inr (.inr (.inr (.inr f)))) = vp_cell (t6 k) (n, .inr (.inr (.inr (.inr g)))) := by
    rw [vp_cell_q, vp_cell_q]
    unfold arrV
    congr 2
    funext j
    show va_rf (f j.val) = va_rf (g j.val)
    rw [h j.val j.isLt]
  show H[a]? = some (vp_cell _ _)
  rw [← e]
  exact hA
abbrev M0 : Mem := fun _ _ _ => 0
theorem wB_get (t6 : Nat → ClassId) (b i1 i2 i3 : Nat) (r : List va_E) (q : Nat) : (wB t6 b i1 i2 i3 r)[4 + q]? = r[q]? := by
  rw [Nat.add_comm]
  rfl
theorem eB_lo (t6 : Nat → ClassId) (b : Nat) {q : Nat} (hq : q < 40) : (wB t6 b 2 4 60 (B3 t6 b 60))[4 + q]? = (B2 t6 b 4)[q]? := by
  rw [wB_get]
  exact bl_lo (by rw [B2_len]; omega) 60
theorem eB_le (t6 : Nat → ClassId) (b : Nat) {q : Nat} (hq : q < 8) : (wB t6 b 2 4 60 (B3 t6 b 60))[4 + q]? = (B1 t6 b 2)[q]? := by
  rw [eB_lo t6 b (by omega)]
  exact bl_lo (by rw [B1_len]; omega) 4
theorem eB_ch (t6 : Nat → ClassId) (b : Nat) {i r : Nat} (hi : i < 4) (hr : r < 8) : (wB t6 b 2 4 60 (B3 t6 b 60))[4 + (8 + 8 * i + r)]? = (wCh t6 (b + (12 + 8 * i)))[r]? := by
  rw [eB_lo t6 b (by omega)]
  have := bl_at (r0 := B1 t6 b 2) (f := fun j => wCh t6 (b + (12 + 8 * j))) (w := 8) (fun _ => rfl) (i := i) hr 4 hi
  rw [B1_len] at this
  exact this
theorem eB_me (t6 : Nat → ClassId) (b : Nat) {i : Nat} (hi : i < 60) : (wB t6 b 2 4 60 (B3 t6 b 60))[4 + (40 + i)]? = some oMe := by
  rw [wB_get]
  have := bl_at (r0 := B2 t6 b 4) (f := fun _ => [oMe]) (w := 1) (fun _ => rfl) (i := i) (r := 0) (by decide) 60 hi
  rw [B2_len] at this
  rw [show 40 + i = 8 + 8 * 4 + 1 * i + 0 by omega]
  exact this
theorem wo_B {D : va_G} {t6 : Nat → ClassId} {b : Nat} {H : Heap} (hP : va_P D classes (zw b (wB t6 b 2 4 60 (B3 t6 b 60))) H) : wo D t6 b 104 M0 H := by
  have h0 : ∀ k x, (wB t6 b 2 4 60 (B3 t6 b 60))[k]? = some x → va_at D classes (b + k, x) H := fun k x hx => hP k _ (zw_at hx)
  refine wo_of (by decide) (fun kd i hv => ?_)
  have l1 : kd < 22 := by
    rcases Nat.lt_or_ge kd 22 with q | q
    · exact q
    · exact absurd hv.1 (by rw [nk_22 q]; omega)
  obtain ⟨h1, h2⟩ := hv
  rcases (show kd = 0 ∨ kd = 1 ∨ kd = 2 ∨ kd = 3 ∨ kd = 4 ∨ kd = 5 ∨ kd = 6 ∨ kd = 7 ∨ kd = 8 ∨ kd = 9 ∨ kd = 10 ∨ kd = 11 ∨ kd = 12 ∨ kd = 13 ∨ kd = 20 ∨ kd = 21 ∨ (14 ≤ kd ∧ kd ≤ 19) by omega) with rfl | rfl | rfl | rfl | rfl | rfl | rfl | rfl | rfl | rfl | rfl | rfl | rfl | rfl | rfl | rfl | h3
  · have h1 : i < 1 := h1
    have : i = 0 := by omega
    subst this
    exact h0 0 _ rfl
  · have h1 : i < 2 := h1
    rcases (show i = 0 ∨ i = 1 by omega) with rfl | rfl
    · exact h0 _ _ ((eB_le t6 b (q := 0) (by decide)).trans rfl)
    · exact h0 _ _ ((eB_le t6 b (q := 4) (by decide)).trans rfl)
  · have h1 : i < 2 := h1
    rcases (show i = 0 ∨ i = 1 by omega) with rfl | rfl
    · exact h0 _ _ ((eB_le t6 b (q := 1) (by decide)).trans rfl)
    · exact h0 _ _ ((eB_le t6 b (q := 5) (by decide)).trans rfl)
  · have h1 : i < 2 := h1
    rcases (show i = 0 ∨ i = 1 by omega) with rfl | rfl
    · exact h0 _ _ ((eB_le t6 b (q := 2) (by decide)).trans rfl)
    · exact h0 _ _ ((eB_le t6 b (q := 6) (by decide)).trans rfl)
  · have h1 : i < 2 := h1
    rcases (show i = 0 ∨ i = 1 by omega) with rfl | rfl
    · exact h0 _ _ ((eB_le t6 b (q := 3) (by decide)).trans rfl)
    · exact h0 _ _ ((eB_le t6 b (q := 7) (by decide)).trans rfl)
  · have h1 : i < 4 := h1
    rcases (show i = 0 ∨ i = 1 ∨ i = 2 ∨ i = 3 by omega) with rfl | rfl | rfl | rfl
    · exact h0 _ _ ((eB_ch t6 b (i := 0) (r := 0) (by decide) (by decide)).trans rfl)
    · exact h0 _ _ ((eB_ch t6 b (i := 1) (r := 0) (by decide) (by decide)).trans rfl)
    · exact h0 _ _ ((eB_ch t6 b (i := 2) (r := 0) (by decide) (by decide)).trans rfl)
    · exact h0 _ _ ((eB_ch t6 b (i := 3) (r := 0) (by decide) (by decide)).trans rfl)
  · have h1 : i < 8 := h1
    rcases (show i = 0 ∨ i = 1 ∨ i = 2 ∨ i = 3 ∨ i = 4 ∨ i = 5 ∨ i = 6 ∨ i = 7 by omega) with rfl | rfl | rfl | rfl | rfl | rfl | rfl | rfl
    · exact h0 _ _ ((eB_ch t6 b (i := 0) (r := 2) (by decide) (by decide)).trans rfl)
    · exact h0 _ _ ((eB_ch t6 b (i := 0) (r := 5) (by decide) (by decide)).trans rfl)
    · exact h0 _ _ ((eB_ch t6 b (i := 1) (r := 2) (by decide) (by decide)).trans rfl)
    · exact h0 _ _ ((eB_ch t6 b (i := 1) (r := 5) (by decide) (by decide)).trans rfl)
    · exact h0 _ _ ((eB_ch t6 b (i := 2) (r := 2) (by decide) (by decide)).trans rfl)
    · exact h0 _ _ ((eB_ch t6 b (i := 2) (r := 5) (by decide) (by decide)).trans rfl)
    · exact h0 _ _ ((eB_ch t6 b (i := 3) (r := 2) (by decide) (by decide)).trans rfl)
    · exact h0 _ _ ((eB_ch t6 b (i := 3) (r := 5) (by decide) (by decide)).trans rfl)
  · have h1 : i < 8 := h1
    rcases (show i = 0 ∨ i = 1 ∨ i = 2 ∨ i = 3 ∨ i = 4 ∨ i = 5 ∨ i = 6 ∨ i = 7 by omega) with rfl | rfl | rfl | rfl | rfl | rfl | rfl | rfl
    · exact h0 _ _ ((eB_ch t6 b (i := 0) (r := 3) (by decide) (by decide)).trans rfl)
    · exact h0 _ _ ((eB_ch t6 b (i := 0) (r := 6) (by decide) (by decide)).trans rfl)
    · exact h0 _ _ ((eB_ch t6 b (i := 1) (r := 3) (by decide) (by decide)).trans rfl)
    · exact h0 _ _ ((eB_ch t6 b (i := 1) (r := 6) (by decide) (by decide)).trans rfl)
    · exact h0 _ _ ((eB_ch t6 b (i := 2) (r := 3) (by decide) (by decide)).trans rfl)
    · exact h0 _ _ ((eB_ch t6 b (i := 2) (r := 6) (by decide) (by decide)).trans rfl)
    · exact h0 _ _ ((eB_ch t6 b (i := 3) (r := 3) (by decide) (by decide)).trans rfl)
    · exact h0 _ _ ((eB_ch t6 b (i := 3) (r := 6) (by decide) (by decide)).trans rfl)
  · have h1 : i < 8 := h1
    rcases (show i = 0 ∨ i = 1 ∨ i = 2 ∨ i = 3 ∨ i = 4 ∨ i = 5 ∨ i = 6 ∨ i = 7 by omega) with rfl | rfl | rfl | rfl | rfl | rfl | rfl | rfl
    · exact h0 _ _ ((eB_ch t6 b (i := 0) (r := 4) (by decide) (by decide)).trans rfl)
    · exact h0 _ _ ((eB_ch t6 b (i := 0) (r := 7) (by decide) (by decide)).trans rfl)
    · exact h0 _ _ ((eB_ch t6 b (i := 1) (r := 4) (by decide) (by decide)).trans rfl)
    · exact h0 _ _ ((eB_ch t6 b (i := 1) (r := 7) (by decide) (by decide)).trans rfl)
    · exact h0 _ _ ((eB_ch t6 b (i := 2) (r := 4) (by decide) (by decide)).trans rfl)
    · exact h0 _ _ ((eB_ch t6 b (i := 2) (r := 7) (by decide) (by decide)).trans rfl)
    · exact h0 _ _ ((eB_ch t6 b (i := 3) (r := 4) (by decide) (by decide)).trans rfl)
    · exact h0 _ _ ((eB_ch t6 b (i := 3) (r := 7) (by decide) (by decide)).trans rfl)
  · have h1 : i < 60 := h1
    have := h0 _ _ (eB_me t6 b h1)
    rw [show b + (4 + (40 + i)) = ad b 9 i by show _ = b + (44 + i); omega] at this
    exact this
  · have h1 : i < 1 := h1
    have : i = 0 := by omega
    subst this
    refine va_qx (k := 2) (n := 2) (f := fq (fun j => b + (4 + 4 * j)) 2) (fun j hj => ?_) (h0 1 _ rfl)
    unfold fq
    rw [if_pos hj]
    rfl
  · have h1 : i < 1 := h1
    have : i = 0 := by omega
    subst this
    refine va_qx (k := 3) (n := 4) (f := fq (fun j => b + (12 + 8 * j)) 4) (fun j hj => ?_) (h0 2 _ rfl)
    unfold fq
    rw [if_pos hj]
    rfl
  · have h1 : i < 1 := h1
    have : i = 0 := by omega
    subst this
    refine va_qx (k := 4) (n := 60) (f := fq (fun j => b + (44 + j)) 60) (fun j hj => ?_) (h0 3 _ rfl)
    unfold fq
    rw [if_pos hj]
    rfl
  · have h1 : i < 4 := h1
    rcases (show i = 0 ∨ i = 1 ∨ i = 2 ∨ i = 3 by omega) with rfl | rfl | rfl | rfl
    · refine va_qx (k := 5) (n := 2) (f := va_up (va_up (fun _ => none) 0 (some (b + (12 + 8 * 0) + 2))) 1 (some (b + (12 + 8 * 0) + 5))) (fun j hj => ?_) (h0 _ _ ((eB_ch t6 b (i := 0) (r := 1) (by decide) (by decide)).trans rfl))
      rcases (show j = 0 ∨ j = 1 by omega) with rfl | rfl <;> rfl
    · refine va_qx (k := 5) (n := 2) (f := va_up (va_up (fun _ => none) 0 (some (b + (12 + 8 * 1) + 2))) 1 (some (b + (12 + 8 * 1) + 5))) (fun j hj => ?_) (h0 _ _ ((eB_ch t6 b (i := 1) (r := 1) (by decide) (by decide)).trans rfl))
      rcases (show j = 0 ∨ j = 1 by omega) with rfl | rfl <;> rfl
    · refine va_qx (k := 5) (n := 2) (f := va_up (va_up (fun _ => none) 0 (some (b + (12 + 8 * 2) + 2))) 1 (some (b + (12 + 8 * 2) + 5))) (fun j hj => ?_) (h0 _ _ ((eB_ch t6 b (i := 2) (r := 1) (by decide) (by decide)).trans rfl))
      rcases (show j = 0 ∨ j = 1 by omega) with rfl | rfl <;> rfl
    · refine va_qx (k := 5) (n := 2) (f := va_up (va_up (fun _ => none) 0 (some (b + (12 + 8 * 3) + 2))) 1 (some (b + (12 + 8 * 3) + 5))) (fun j hj => ?_) (h0 _ _ ((eB_ch t6 b (i := 3) (r := 1) (by decide) (by decide)).trans rfl))
      rcases (show j = 0 ∨ j = 1 by omega) with rfl | rfl <;> rfl
  · exact absurd h2 (by show ¬ 104 < 104; decide)
  · exact absurd h2 (by show ¬ 105 + i < 104; omega)
  · exact absurd h1 (by rcases (show kd = 14 ∨ kd = 15 ∨ kd = 16 ∨ kd = 17 ∨ kd = 18 ∨ kd = 19 by omega) with rfl | rfl | rfl | rfl | rfl | rfl <;> exact Nat.not_lt_zero i)
section
variable {p : Program} {l : Launch} {e : Env} {R : Room} {s : State} {m : MethodId} {args : Array Value} {below : List Frame} {meth : Method} {c : Code} {D : va_G} {t6 : Nat → ClassId} {b n nL : Nat} {Q : State → Prop} {M : Mem} {pc pc2 : Nat} {L : List (Option Value)} {st : List Value} {cc : ByteArray} {own : String} {ret : Option FieldType}
theorem w_cvv (G : cx p s m meth c cc nL own ret D t6) {H : Heap} {locs : List Loc} {ls : Array Slot} {cs sl : Nat} (hw : wo D t6 b n M H) (hS : va_S (fun q => b ≤ q) s.heap H locs) (hl : hs ls nL L) (hroom : cs ≤ R.cells ∧ sl ≤ R.slots) {y : MethodName} {cc2 : ByteArray} {nL2 k9 : Nat} {rm : Room} {As rest stk : List Value} {M2 : Mem} {kd i ci : Nat} {fs : List Value} {T : u_T} {N : Nat} (hv : vv n kd i) (hc : cm_ t6 b kd i (M kd i) = .inr (ci, fs)) (hq : classes[ci]? = some (y.cls, T, N)) (hin : Cond.instanceMethod y ∈ lw_tbl) (hse : Cond.selects y.cls y y ∈ lw_tbl) (hM : CV l D t6 b n y cc2 nL2 rm (.ref (ad b kd i) :: As) M M2) {index : Nat} (hco : Cond.code y cc2 nL2 none ∈ lw_tbl) (hlk : Cond.methodLink own index y ∈ lw_tbl) (hini : Cond.initialized y.cls ∈ lw_tbl) (hy : yy_ y k9) (hin1 : As.length = k9) (hrr : rr_ rm R nL2) (hrest : (rest.map fun v => v.category).sum ≤ 8) (hstk : stk = As.reverse ++ .ref (ad b kd i) :: rest) (hd : dc cc pc (.invokevirtual index) 3 pc2) (k : ∀ (H1 : Heap) (locs1 : List Loc), wo D t6 b n M2 H1 → va_S (fun q => b ≤ q) s.heap H1 locs1 → W p l e R s m args below meth c H1 locs1 cs sl Q (F0 m pc2 ls rest)) : W p l e R s m args below meth c H locs cs sl Q (F0 m pc ls stk) := by
  obtain ⟨hx, hb, hml, hown, hr, hlk9, hk⟩ := G
  obtain ⟨hd, rfl⟩ := hd
  subst hstk
  subst hin1
  have hts : ∀ w ∈ tb_, w.before args s = true := fun w h => hk.1 w h _
  refine va_callv (va_runV (As := As) (rest := rest) (g := F0 m pc ls _) ⟨hx, hb, hml, hown, hts⟩ hM (⟨callB_of As.length hts (gd_code hco) rfl hrr.1 hrr.2.1 (hts _ (tb_in hini rfl)) (hts _ (tb_in hlk rfl)) hy ⟨hrr.2.2.1, hrr.2.2.2⟩, hts _ (tb_in hin rfl), hts _ (tb_in hse rfl)⟩) ⟨pw_blind, wo_recv hk hw hv hc hq, fun U hU hW => ⟨rfl, kk_warm hW hk, by rw [hU]; exact hw⟩⟩ rfl rfl hl.1 rfl (lv_room hrest) hd hroom) hS (fun q _ h => h) (fun q h => h) (fun u t H1 locs1 ht _ hp hB _ _ hS1 => ?_)
  subst hp
  exact k H1 locs1 (by rw [← ht]; exact hB) hS1
end
theorem c_B_new {l : Launch} {D : va_G} {t6 : Nat → ClassId} {b : Nat} : CG l D t6 y_B_new cd_B_new 2 (rg 4 84 103 1486) b b (b + 1) (va_P D classes (zw b [oB .null .null .null])) (wo D t6 b 104 (f_B_beginAnew M0)) := by
  refine en_g (by decide) rfl (by decide) ?_
  intro p e s m below meth c ls G hn hz hA hl
  refine (?_ : Sg p l e (rg 4 84 103 1486) s m [Value.ref b].toArray below meth c D b 2 (MQ below (va_Qv (fun (_ : Unit) => True) (fun _ t => wo D t6 b 104 (f_B_beginAnew M0) t.heap) (fun q => b ≤ q)) [Value.ref b].toArray s 103 1486 (fun q => b ≤ q)) 0 0 [oB .null .null .null] 0 [some (.ref b), none] []) s.heap [] ls hA va_S.rf hl
  clear hA hl ls
  refine sg_aload_n G (i := 0) (x := b) rfl d_B_new_0 ?_
  refine sg_obj G km_B_3 (by decide) (by decide) d_B_new_1 ?_
  refine sg_aload_n G (i := 0) (x := b) rfl d_B_new_4 ?_
  refine sg_iconst G (v := 2) (by decide) d_B_new_5 ?_
  refine sg_newq G (by rw [hz]; rfl) (fun h => by cases h) (tx := 2) (C := R_Le) (N := 2) kl_B_9 ko_Le rfl (by decide) (by decide) (by decide) (by decide) (by decide) d_B_new_6 ?_
  refine sg_putF G hn (k0 := 0) (ci := 5) (C := R_B) (T := F_B) (N := 5) rfl ku_B t_B ty_B nm_B rfl 0 (by decide) kf_B_11 rfl rfl rfl (ty := .array (.object R_Le)) (ty_B 0 (by decide)) rfl rfl (Nat.le_of_ble_eq_true rfl) d_B_new_9 (x := b) rfl ?_
  refine sg_aload_n G (i := 0) (x := b) rfl d_B_new_12 ?_
  refine sg_iconst G (v := 4) (by decide) d_B_new_13 ?_
  refine sg_newq G (by rw [hz]; rfl) (fun h => by cases h) (tx := 3) (C := R_Ch) (N := 4) kl_B_15 ko_Ch rfl (by decide) (by decide) (by decide) (by decide) (by decide) d_B_new_14 ?_
  refine sg_putF G hn (k0 := 0) (ci := 5) (C := R_B) (T := F_B) (N := 5) rfl ku_B t_B ty_B nm_B rfl 1 (by decide) kf_B_17 rfl rfl rfl (ty := .array (.object R_Ch)) (ty_B 1 (by decide)) rfl rfl (Nat.le_of_ble_eq_true rfl) d_B_new_17 (x := b) rfl ?_
  refine sg_aload_n G (i := 0) (x := b) rfl d_B_new_20 ?_
  refine sg_bipush G (v := 60) (by decide) d_B_new_21 ?_
  refine sg_newq G (by rw [hz]; rfl) (fun h => by cases h) (tx := 4) (C := R_Me) (N := 60) kl_B_21 ko_Me rfl (by decide) (by decide) (by decide) (by decide) (by decide) d_B_new_23 ?_
  refine sg_putF G hn (k0 := 0) (ci := 5) (C := R_B) (T := F_B) (N := 5) rfl ku_B t_B ty_B nm_B rfl 2 (by decide) kf_B_23 rfl rfl rfl (ty := .array (.object R_Me)) (ty_B 2 (by decide)) rfl rfl (Nat.le_of_ble_eq_true rfl) d_B_new_26 (x := b) rfl ?_
  refine sg_iconst G (v := 0) (by decide) d_B_new_29 ?_
  refine sg_istore_n G (by decide) d_B_new_30 ?_
  have hq0 : ∀ g : Nat → Nat, fq g 0 = fun _ => none := fun g => rfl
  refine sg_eq (cs2 := 3 + 4 * 0) (sl2 := 66 + 212 * 0) (es2 := wB t6 b 0 0 0 (B1 t6 b 0)) (L2 := [some (.ref b), some (.int (nI 0))]) rfl rfl rfl rfl ?_
  refine lB1 G hz ?_ 2 0 (by decide)
  refine sg_iconst G (v := 0) (by decide) d_B_new_55 ?_
  refine sg_istore_n G (by decide) d_B_new_56 ?_
  refine sg_eq (cs2 := 11 + 8 * 0) (sl2 := 490 + 39 * 0) (es2 := wB t6 b 2 0 0 (B2 t6 b 0)) (L2 := [some (.ref b), some (.int (nI 0))]) rfl rfl rfl rfl ?_
  refine lB2 G hz ?_ 4 0 (by decide)
  refine sg_iconst G (v := 0) (by decide) d_B_new_81 ?_
  refine sg_istore_n G (by decide) d_B_new_82 ?_
  refine sg_eq (cs2 := 43 + 1 * 0) (sl2 := 646 + 14 * 0) (es2 := wB t6 b 2 4 0 (B3 t6 b 0)) (L2 := [some (.ref b), some (.int (nI 0))]) rfl rfl rfl rfl ?_
  refine lB3 G hz ?_ 60 0 (by decide)
  refine sg_aload_n G (i := 0) (x := b) rfl d_B_new_108 ?_
  intro H locs ls hP hS hl
  refine w_cvv G (wo_B hP) hS hl (by decide) (kd := 0) (i := 0) (ci := 5) (T := F_B) (N := 5) (As := []) (rest := []) ⟨by decide, by decide⟩ rfl rfl ki_B_beginAnew kx_B_beginAnew (c_B_beginAnew (by decide)) kc_B_beginAnew km_B_30 kn_B (by decide) rfl (by decide) (by decide) rfl d_B_new_109 (fun H1 locs1 hw1 hS1 => ?_)
  obtain ⟨hx, hb, hml, hown, hr, hlk, hk⟩ := G
  exact W.vret hx hb hr (fun t ht hW => ⟨⟨(), rfl, trivial, (show wo D t6 b 104 (f_B_beginAnew M0) t.heap by rw [ht]; exact hw1)⟩, hS1.F ht⟩) hS1.2.2 d_B_new_112.1 hlk
