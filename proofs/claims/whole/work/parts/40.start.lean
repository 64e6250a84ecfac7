/-! the law's start: the two objects -/
theorem df_B : ∀ j, j < 5 → defaultValue (t_B j) = vp_V ([.null, .null, .null, .int 0, .int 0]) j := by
  intro j hj
  rcases (show j = 0 ∨ j = 1 ∨ j = 2 ∨ j = 3 ∨ j = 4 by omega) with rfl | rfl | rfl | rfl | rfl <;> rfl
theorem df_R (b2 : Nat) : ∀ j, j < 30 → defaultValue (t_R j) = vp_V (fR b2 0) j := by
  intro j hj
  rcases (show j = 0 ∨ j = 1 ∨ j = 2 ∨ j = 3 ∨ j = 4 ∨ j = 5 ∨ j = 6 ∨ j = 7 ∨ j = 8 ∨ j = 9 ∨ j = 10 ∨ j = 11 ∨ j = 12 ∨ j = 13 ∨ j = 14 ∨ j = 15 ∨ j = 16 ∨ j = 17 ∨ j = 18 ∨ j = 19 ∨ j = 20 ∨ j = 21 ∨ j = 22 ∨ j = 23 ∨ j = 24 ∨ j = 25 ∨ j = 26 ∨ j = 27 ∨ j = 28 ∨ j = 29 by omega) with rfl | rfl | rfl | rfl | rfl | rfl | rfl | rfl | rfl | rfl | rfl | rfl | rfl | rfl | rfl | rfl | rfl | rfl | rfl | rfl | rfl | rfl | rfl | rfl | rfl | rfl | rfl | rfl | rfl | rfl <;> rfl
theorem wo_size {D : va_G} {t6 : Nat → ClassId} {b : Nat} {M : Mem} {H : Heap} (hw : wo D t6 b 104 M H) : b + 104 ≤ H.size := by
  have h := (wo_at hw (kd := 9) (i := 59) ⟨by decide, by decide⟩).lt
  have h2 : b + 103 < H.size := h
  omega
section
variable {p : Program} {l : Launch} {e : Env} {R : Room} {s : State} {m : MethodId} {args : Array Value} {below : List Frame} {meth : Method} {c : Code} {D : va_G} {t6 : Nat → ClassId} {b nL : Nat} {Q : State → Prop} {M : Mem} {pc pc2 : Nat} {L : List (Option Value)} {st : List Value} {cc : ByteArray} {own : String} {ret9 : Option FieldType}
theorem w_ci (G : cx p s m meth c cc nL own ret9 D t6) {H : Heap} {locs : List Loc} {ls : Array Slot} {cs sl : Nat} (hS : va_S (fun q => b ≤ q) s.heap H locs) (hl : hs ls nL L) {y : MethodName} {cc2 : ByteArray} {nL2 : Nat} {rm : Room} {x sz : Nat} {A0 B0 : Heap → Prop} (hroom : cs + rm.cells ≤ R.cells ∧ sl + rm.slots ≤ R.slots) (hM : CG l D t6 y cc2 nL2 rm b x sz A0 B0) (hsz : H.size = sz) (hA : A0 H) {index : Nat} (hco : Cond.code y cc2 nL2 none ∈ lw_tbl) (hlkk : Cond.methodLink own index y ∈ lw_tbl) (hini : Cond.initialized y.cls ∈ lw_tbl) (hinst : Cond.instanceMethod y ∈ lw_tbl) (hy1 : y.name = "<init>") (hy : yy_ y 0) (hfr : rm.frames + 1 ≤ R.frames ∧ 8 + (nL2 + 11) + rm.locals ≤ R.locals) (hrest : (st.map fun v => v.category).sum ≤ 8) (hd : dc cc pc (.invokespecial index) 3 pc2) (k : ∀ (H1 : Heap) (locs1 : List Loc), B0 H1 → va_S (fun q => b ≤ q) s.heap H1 locs1 → W p l e R s m args below meth c H1 locs1 (cs + rm.cells) (sl + rm.slots) Q (F0 m pc2 ls st)) : W p l e R s m args below meth c H locs cs sl Q (F0 m pc ls (.ref x :: st)) := by
  obtain ⟨hx, hb, hml, hown, hr, hlk9, hk⟩ := G
  obtain ⟨hd, rfl⟩ := hd
  have hts : ∀ w ∈ tb_, w.before args s = true := fun w h => hk.1 w h _
  refine va_callv (va_runI (As := []) (rest := st) (g := F0 m pc ls _) ⟨hx, hb, hml, hown, hts⟩ hM ⟨callB_of 0 hts (gd_code hco) rfl rfl rfl (hts _ (tb_in hini rfl)) (hts _ (tb_in hlkk rfl)) hy hfr, hy1, hts _ (tb_in hinst rfl)⟩ ⟨cg_blind, fun U hU hW => ⟨rfl, kk_warm hW hk, by rw [hU]; exact hsz, by rw [hU]; exact hA⟩⟩ rfl rfl hl.1 rfl (lv_room hrest) hd hroom) hS (fun q _ h => h) (fun q h => h) (fun u t H1 locs1 ht _ hp hB _ hk1 hS1 => ?_)
  rw [ht] at hB
  exact k H1 locs1 hB hS1
theorem w_newR (G : cx p s m meth c cc nL own ret9 D t6) {H : Heap} {locs : List Loc} {ls : Array Slot} {cs sl : Nat} (hw : wo D t6 b 104 M H) (hS : va_S (fun q => b ≤ q) s.heap H locs) (hsz : H.size = b + 104) {index : Nat} (hcl : Cond.classLink own index R_R ∈ lw_tbl) (hcells : cs + 1 ≤ R.cells) (hslots : sl + 30 ≤ R.slots) (hd : dc cc pc (.new index) 3 pc2) (k : ∀ H1 : Heap, wo D t6 b 104 M H1 → va_P D classes (zw (b + 104) (wR t6 (b + 104) 0)) H1 → H1.size = b + 105 → va_S (fun q => b ≤ q) s.heap H1 locs → W p l e R s m args below meth c H1 locs (cs + 1) (sl + 30) Q (F0 m pc2 ls (.ref (b + 104) :: st))) : W p l e R s m args below meth c H locs cs sl Q (F0 m pc ls st) := by
  obtain ⟨hx, hb, hml, hown, hr, hlk9, hk⟩ := G
  obtain ⟨hd, rfl⟩ := hd
  have hts : ∀ w ∈ tb_, w.before args s = true := fun w h => hk.1 w h _
  have hKn := hk.2.1 6 (R_R, F_R, 30) rfl
  refine W.newcK hx hb hown (hts _ (tb_in hcl rfl)) (hts _ (tb_in kt_R rfl)) (hts _ (tb_in kn_R rfl)) rfl hd hcells hslots hKn.2.1 hsz fun H1 kC hkC e1 z1 o1 => ?_
  refine k H1 ?_ ?_ (by omega) ⟨Nat.le_trans hS.1 (by omega), fun x h1 h2 => (o1 x (by have := hS.1; omega)).trans (hS.2.1 x h1 h2), hS.2.2⟩
  · refine wo_of (by decide) (fun kd i hv => ?_)
    have h0 := wo_at hw hv
    refine h0.kept (o1 _ ?_)
    have := h0.lt
    omega
  · intro k x hx
    have hz : k < 1 := (List.getElem?_eq_some_iff.mp hx).1
    rw [show k = 0 by omega] at hx
    cases hx
    exact ⟨_, rfl, (u_born t_R hts (tb_u ku_R) hKn hkC e1 ty_R).to (df_R _)⟩
end
