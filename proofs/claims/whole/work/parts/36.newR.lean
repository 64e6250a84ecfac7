/-! the reference's constructor -/
def fR (b2 k : Nat) : List Value := [(if 0 < k then .ref (b2 + 1) else .null), (if 1 < k then .ref (b2 + 2) else .null), (if 2 < k then .ref (b2 + 3) else .null), .int 0, (if 3 < k then .ref (b2 + 4) else .null), (if 4 < k then .ref (b2 + 5) else .null), (if 5 < k then .ref (b2 + 6) else .null), (if 6 < k then .ref (b2 + 7) else .null), (if 7 < k then .ref (b2 + 8) else .null), (if 8 < k then .ref (b2 + 9) else .null), (if 9 < k then .ref (b2 + 10) else .null), (if 10 < k then .ref (b2 + 11) else .null), (if 11 < k then .ref (b2 + 12) else .null), (if 12 < k then .ref (b2 + 13) else .null), (if 13 < k then .ref (b2 + 14) else .null), .int 0, (if 14 < k then .ref (b2 + 15) else .null), (if 15 < k then .ref (b2 + 16) else .null), (if 16 < k then .ref (b2 + 17) else .null), (if 17 < k then .ref (b2 + 18) else .null), (if 18 < k then .ref (b2 + 19) else .null), (if 19 < k then .ref (b2 + 20) else .null), (if 20 < k then .ref (b2 + 21) else .null), (if 21 < k then .ref (b2 + 22) else .null), (if 22 < k then .ref (b2 + 23) else .null), (if 23 < k then .ref (b2 + 24) else .null), (if 24 < k then .ref (b2 + 25) else .null), (if 25 < k then .ref (b2 + 26) else .null), (if 26 < k then .ref (b2 + 27) else .null), (if 27 < k then .ref (b2 + 28) else .null)]
def aR (t6 : Nat → ClassId) (k : Nat) : List va_E := (List.range k).map (fun a => .inl (t6 (ra_c a), ra_n a, .inl (fun _ => 0)))
def wR (t6 : Nat → ClassId) (b2 k : Nat) : List va_E := .inr (6, fR b2 k) :: aR t6 k
theorem of_hi {kd i : Nat} (h : vv 133 kd i) : vv 104 kd i ∨ (kd = 20 ∧ i = 0) ∨ (kd = 21 ∧ i < 28) := by
  obtain ⟨h1, h2⟩ := h
  have l1 : kd < 22 := by
    rcases Nat.lt_or_ge kd 22 with q | q
    · exact q
    · exact absurd h1 (by rw [nk_22 q]; omega)
  rcases (show kd = 0 ∨ kd = 1 ∨ kd = 2 ∨ kd = 3 ∨ kd = 4 ∨ kd = 5 ∨ kd = 6 ∨ kd = 7 ∨ kd = 8 ∨ kd = 9 ∨ kd = 10 ∨ kd = 11 ∨ kd = 12 ∨ kd = 13 ∨ kd = 20 ∨ kd = 21 ∨ (14 ≤ kd ∧ kd ≤ 19) by omega) with rfl | rfl | rfl | rfl | rfl | rfl | rfl | rfl | rfl | rfl | rfl | rfl | rfl | rfl | rfl | rfl | h3
  · exact Or.inl ⟨h1, by show 0 < 104; decide⟩
  · exact Or.inl ⟨h1, by have : i < 2 := h1; show 4 + 4 * i < 104; omega⟩
  · exact Or.inl ⟨h1, by have : i < 2 := h1; show 5 + 4 * i < 104; omega⟩
  · exact Or.inl ⟨h1, by have : i < 2 := h1; show 6 + 4 * i < 104; omega⟩
  · exact Or.inl ⟨h1, by have : i < 2 := h1; show 7 + 4 * i < 104; omega⟩
  · exact Or.inl ⟨h1, by have : i < 4 := h1; show 12 + 8 * i < 104; omega⟩
  · exact Or.inl ⟨h1, by have : i < 8 := h1; show 14 + 8 * (i / 2) + 3 * (i % 2) < 104; omega⟩
  · exact Or.inl ⟨h1, by have : i < 8 := h1; show 15 + 8 * (i / 2) + 3 * (i % 2) < 104; omega⟩
  · exact Or.inl ⟨h1, by have : i < 8 := h1; show 16 + 8 * (i / 2) + 3 * (i % 2) < 104; omega⟩
  · exact Or.inl ⟨h1, by have : i < 60 := h1; show 44 + i < 104; omega⟩
  · exact Or.inl ⟨h1, by show 1 < 104; decide⟩
  · exact Or.inl ⟨h1, by show 2 < 104; decide⟩
  · exact Or.inl ⟨h1, by show 3 < 104; decide⟩
  · exact Or.inl ⟨h1, by have : i < 4 := h1; show 13 + 8 * i < 104; omega⟩
  · exact Or.inr (Or.inl ⟨rfl, by have : i < 1 := h1; omega⟩)
  · exact Or.inr (Or.inr ⟨rfl, h1⟩)
  · exact absurd h1 (by rcases (show kd = 14 ∨ kd = 15 ∨ kd = 16 ∨ kd = 17 ∨ kd = 18 ∨ kd = 19 by omega) with rfl | rfl | rfl | rfl | rfl | rfl <;> exact Nat.not_lt_zero i)
theorem wo_R {D : va_G} {t6 : Nat → ClassId} {b : Nat} {M : Mem} {H0 H : Heap} {locs : List Loc} (hw : wo D t6 b 104 M H0) (hS : va_S (fun q => b + 104 ≤ q) H0 H locs) (hP : va_P D classes (zw (b + 104) (wR t6 (b + 104) 28)) H) (h3 : M 20 0 3 = 0) (h15 : M 20 0 15 = 0) (h21 : ∀ a, M 21 a = fun _ => 0) : wo D t6 b 133 M H := by
  refine wo_of (by decide) (fun kd i hv => ?_)
  rcases of_hi hv with h | ⟨rfl, rfl⟩ | ⟨rfl, hi⟩
  · have h0 := wo_at hw h
    refine h0.kept (hS.2.1 _ h0.lt ?_)
    have := h.2
    show ¬ b + 104 ≤ b + of_ kd i
    omega
  · have h0 := hP 0 _ (zw_at (es := wR t6 (b + 104) 28) (x := .inr (6, fR (b + 104) 28)) rfl)
    unfold cm_
    rw [h3, h15]
    exact h0
  · have hx : (wR t6 (b + 104) 28)[i + 1]? = some (.inl (t6 (ra_c i), ra_n i, .inl (fun _ => 0))) := by
      show (aR t6 28)[i]? = _
      unfold aR
      rw [List.getElem?_map, List.getElem?_range hi]
      rfl
    have h0 := hP _ _ (zw_at hx)
    rw [show b + 104 + (i + 1) = ad b 21 i by show _ = b + (105 + i); omega] at h0
    rw [h21]
    exact h0
theorem c_R_new {l : Launch} {D : va_G} {t6 : Nat → ClassId} {b : Nat} {M : Mem} (h3 : M 20 0 3 = 0) (h15 : M 20 0 15 = 0) (h21 : ∀ a, M 21 a = fun _ => 0) : CG l D t6 y_R_new cd_R_new 1 (rg 2 44 28 2950) b (b + 104) (b + 105) (fun H => wo D t6 b 104 M H ∧ va_P D classes (zw (b + 104) (wR t6 (b + 104) 0)) H) (wo D t6 b 133 (f_R_begin M)) := by
  refine en_g (by decide) rfl (by decide) ?_
  intro p e s m below meth c ls G hn hz hA hl
  have hw0 := hA.1
  refine (?_ : Sg p l e (rg 2 44 28 2950) s m [Value.ref (b + 104)].toArray below meth c D (b + 104) 1 (MQ below (va_Qv (fun (_ : Unit) => True) (fun _ t => wo D t6 b 133 (f_R_begin M) t.heap) (fun q => b ≤ q)) [Value.ref (b + 104)].toArray s 28 2950 (fun q => b ≤ q)) 0 0 (wR t6 (b + 104) 0) 0 [some (.ref (b + 104))] []) s.heap [] ls hA.2 va_S.rf hl
  clear hA hl ls
  refine sg_aload_n G (i := 0) (x := b + 104) rfl d_R_new_0 ?_
  refine sg_obj G km_R_1 (by decide) (by decide) d_R_new_1 ?_
  refine sg_aload_n G (i := 0) (x := b + 104) rfl d_R_new_4 ?_
  refine sg_iconst G (v := 2) (by decide) d_R_new_5 ?_
  refine sg_newi G (N := 2) (by rw [hz]; rfl) (fun h => by cases h) (by decide) (by decide) (by decide) (by decide) (by decide) d_R_new_6 ?_
  refine sg_putF G hn (k0 := 0) (ci := 6) (C := R_R) (T := F_R) (N := 30) (fs := fR (b + 104) 0) rfl ku_R t_R ty_R nm_R rfl 0 (by decide) kf_R_7 rfl rfl rfl (ty := .array .int) (ty_R 0 (by decide)) rfl rfl (Nat.le_of_ble_eq_true rfl) d_R_new_8 (x := b + 104) rfl ?_
  refine sg_eq (cs2 := 1) (sl2 := 2) (es2 := wR t6 (b + 104) 1) rfl rfl rfl rfl ?_
  refine sg_aload_n G (i := 0) (x := b + 104) rfl d_R_new_11 ?_
  refine sg_sipush G (v := 402) (by decide) d_R_new_12 ?_
  refine sg_newi G (N := 402) (by rw [hz]; rfl) (fun h => by cases h) (by decide) (by decide) (by decide) (by decide) (by decide) d_R_new_15 ?_
  refine sg_putF G hn (k0 := 0) (ci := 6) (C := R_R) (T := F_R) (N := 30) (fs := fR (b + 104) 1) rfl ku_R t_R ty_R nm_R rfl 1 (by decide) kf_R_13 rfl rfl rfl (ty := .array .int) (ty_R 1 (by decide)) rfl rfl (Nat.le_of_ble_eq_true rfl) d_R_new_17 (x := b + 104) rfl ?_
  refine sg_eq (cs2 := 2) (sl2 := 404) (es2 := wR t6 (b + 104) 2) rfl rfl rfl rfl ?_
  refine sg_aload_n G (i := 0) (x := b + 104) rfl d_R_new_20 ?_
  refine sg_iconst G (v := 2) (by decide) d_R_new_21 ?_
  refine sg_newz G (N := 2) (by rw [hz]; rfl) (fun h => by cases h) (by decide) (by decide) (by decide) (by decide) (by decide) d_R_new_22 ?_
  refine sg_putF G hn (k0 := 0) (ci := 6) (C := R_R) (T := F_R) (N := 30) (fs := fR (b + 104) 2) rfl ku_R t_R ty_R nm_R rfl 2 (by decide) kf_R_16 rfl rfl rfl (ty := .array .boolean) (ty_R 2 (by decide)) rfl rfl (Nat.le_of_ble_eq_true rfl) d_R_new_24 (x := b + 104) rfl ?_
  refine sg_eq (cs2 := 3) (sl2 := 406) (es2 := wR t6 (b + 104) 3) rfl rfl rfl rfl ?_
  refine sg_aload_n G (i := 0) (x := b + 104) rfl d_R_new_27 ?_
  refine sg_iconst G (v := 4) (by decide) d_R_new_28 ?_
  refine sg_newi G (N := 4) (by rw [hz]; rfl) (fun h => by cases h) (by decide) (by decide) (by decide) (by decide) (by decide) d_R_new_29 ?_
  refine sg_putF G hn (k0 := 0) (ci := 6) (C := R_R) (T := F_R) (N := 30) (fs := fR (b + 104) 3) rfl ku_R t_R ty_R nm_R rfl 4 (by decide) kf_R_20 rfl rfl rfl (ty := .array .int) (ty_R 4 (by decide)) rfl rfl (Nat.le_of_ble_eq_true rfl) d_R_new_31 (x := b + 104) rfl ?_
  refine sg_eq (cs2 := 4) (sl2 := 410) (es2 := wR t6 (b + 104) 4) rfl rfl rfl rfl ?_
  refine sg_aload_n G (i := 0) (x := b + 104) rfl d_R_new_34 ?_
  refine sg_iconst G (v := 4) (by decide) d_R_new_35 ?_
  refine sg_newz G (N := 4) (by rw [hz]; rfl) (fun h => by cases h) (by decide) (by decide) (by decide) (by decide) (by decide) d_R_new_36 ?_
  refine sg_putF G hn (k0 := 0) (ci := 6) (C := R_R) (T := F_R) (N := 30) (fs := fR (b + 104) 4) rfl ku_R t_R ty_R nm_R rfl 5 (by decide) kf_R_23 rfl rfl rfl (ty := .array .boolean) (ty_R 5 (by decide)) rfl rfl (Nat.le_of_ble_eq_true rfl) d_R_new_38 (x := b + 104) rfl ?_
  refine sg_eq (cs2 := 5) (sl2 := 414) (es2 := wR t6 (b + 104) 5) rfl rfl rfl rfl ?_
  refine sg_aload_n G (i := 0) (x := b + 104) rfl d_R_new_41 ?_
  refine sg_bipush G (v := 8) (by decide) d_R_new_42 ?_
  refine sg_newi G (N := 8) (by rw [hz]; rfl) (fun h => by cases h) (by decide) (by decide) (by decide) (by decide) (by decide) d_R_new_44 ?_
  refine sg_putF G hn (k0 := 0) (ci := 6) (C := R_R) (T := F_R) (N := 30) (fs := fR (b + 104) 5) rfl ku_R t_R ty_R nm_R rfl 6 (by decide) kf_R_26 rfl rfl rfl (ty := .array .int) (ty_R 6 (by decide)) rfl rfl (Nat.le_of_ble_eq_true rfl) d_R_new_46 (x := b + 104) rfl ?_
  refine sg_eq (cs2 := 6) (sl2 := 422) (es2 := wR t6 (b + 104) 6) rfl rfl rfl rfl ?_
  refine sg_aload_n G (i := 0) (x := b + 104) rfl d_R_new_49 ?_
  refine sg_bipush G (v := 8) (by decide) d_R_new_50 ?_
  refine sg_newi G (N := 8) (by rw [hz]; rfl) (fun h => by cases h) (by decide) (by decide) (by decide) (by decide) (by decide) d_R_new_52 ?_
  refine sg_putF G hn (k0 := 0) (ci := 6) (C := R_R) (T := F_R) (N := 30) (fs := fR (b + 104) 6) rfl ku_R t_R ty_R nm_R rfl 7 (by decide) kf_R_29 rfl rfl rfl (ty := .array .int) (ty_R 7 (by decide)) rfl rfl (Nat.le_of_ble_eq_true rfl) d_R_new_54 (x := b + 104) rfl ?_
  refine sg_eq (cs2 := 7) (sl2 := 430) (es2 := wR t6 (b + 104) 7) rfl rfl rfl rfl ?_
  refine sg_aload_n G (i := 0) (x := b + 104) rfl d_R_new_57 ?_
  refine sg_bipush G (v := 8) (by decide) d_R_new_58 ?_
  refine sg_newi G (N := 8) (by rw [hz]; rfl) (fun h => by cases h) (by decide) (by decide) (by decide) (by decide) (by decide) d_R_new_60 ?_
  refine sg_putF G hn (k0 := 0) (ci := 6) (C := R_R) (T := F_R) (N := 30) (fs := fR (b + 104) 7) rfl ku_R t_R ty_R nm_R rfl 8 (by decide) kf_R_32 rfl rfl rfl (ty := .array .int) (ty_R 8 (by decide)) rfl rfl (Nat.le_of_ble_eq_true rfl) d_R_new_62 (x := b + 104) rfl ?_
  refine sg_eq (cs2 := 8) (sl2 := 438) (es2 := wR t6 (b + 104) 8) rfl rfl rfl rfl ?_
  refine sg_aload_n G (i := 0) (x := b + 104) rfl d_R_new_65 ?_
  refine sg_bipush G (v := 8) (by decide) d_R_new_66 ?_
  refine sg_newi G (N := 8) (by rw [hz]; rfl) (fun h => by cases h) (by decide) (by decide) (by decide) (by decide) (by decide) d_R_new_68 ?_
  refine sg_putF G hn (k0 := 0) (ci := 6) (C := R_R) (T := F_R) (N := 30) (fs := fR (b + 104) 8) rfl ku_R t_R ty_R nm_R rfl 9 (by decide) kf_R_35 rfl rfl rfl (ty := .array .int) (ty_R 9 (by decide)) rfl rfl (Nat.le_of_ble_eq_true rfl) d_R_new_70 (x := b + 104) rfl ?_
  refine sg_eq (cs2 := 9) (sl2 := 446) (es2 := wR t6 (b + 104) 9) rfl rfl rfl rfl ?_
  refine sg_aload_n G (i := 0) (x := b + 104) rfl d_R_new_73 ?_
  refine sg_bipush G (v := 8) (by decide) d_R_new_74 ?_
  refine sg_newi G (N := 8) (by rw [hz]; rfl) (fun h => by cases h) (by decide) (by decide) (by decide) (by decide) (by decide) d_R_new_76 ?_
  refine sg_putF G hn (k0 := 0) (ci := 6) (C := R_R) (T := F_R) (N := 30) (fs := fR (b + 104) 9) rfl ku_R t_R ty_R nm_R rfl 10 (by decide) kf_R_38 rfl rfl rfl (ty := .array .int) (ty_R 10 (by decide)) rfl rfl (Nat.le_of_ble_eq_true rfl) d_R_new_78 (x := b + 104) rfl ?_
  refine sg_eq (cs2 := 10) (sl2 := 454) (es2 := wR t6 (b + 104) 10) rfl rfl rfl rfl ?_
  refine sg_aload_n G (i := 0) (x := b + 104) rfl d_R_new_81 ?_
  refine sg_bipush G (v := 8) (by decide) d_R_new_82 ?_
  refine sg_newi G (N := 8) (by rw [hz]; rfl) (fun h => by cases h) (by decide) (by decide) (by decide) (by decide) (by decide) d_R_new_84 ?_
  refine sg_putF G hn (k0 := 0) (ci := 6) (C := R_R) (T := F_R) (N := 30) (fs := fR (b + 104) 10) rfl ku_R t_R ty_R nm_R rfl 11 (by decide) kf_R_41 rfl rfl rfl (ty := .array .int) (ty_R 11 (by decide)) rfl rfl (Nat.le_of_ble_eq_true rfl) d_R_new_86 (x := b + 104) rfl ?_
  refine sg_eq (cs2 := 11) (sl2 := 462) (es2 := wR t6 (b + 104) 11) rfl rfl rfl rfl ?_
  refine sg_aload_n G (i := 0) (x := b + 104) rfl d_R_new_89 ?_
  refine sg_sipush G (v := 1608) (by decide) d_R_new_90 ?_
  refine sg_newi G (N := 1608) (by rw [hz]; rfl) (fun h => by cases h) (by decide) (by decide) (by decide) (by decide) (by decide) d_R_new_93 ?_
  refine sg_putF G hn (k0 := 0) (ci := 6) (C := R_R) (T := F_R) (N := 30) (fs := fR (b + 104) 11) rfl ku_R t_R ty_R nm_R rfl 12 (by decide) kf_R_44 rfl rfl rfl (ty := .array .int) (ty_R 12 (by decide)) rfl rfl (Nat.le_of_ble_eq_true rfl) d_R_new_95 (x := b + 104) rfl ?_
  refine sg_eq (cs2 := 12) (sl2 := 2070) (es2 := wR t6 (b + 104) 12) rfl rfl rfl rfl ?_
  refine sg_aload_n G (i := 0) (x := b + 104) rfl d_R_new_98 ?_
  refine sg_bipush G (v := 8) (by decide) d_R_new_99 ?_
  refine sg_newi G (N := 8) (by rw [hz]; rfl) (fun h => by cases h) (by decide) (by decide) (by decide) (by decide) (by decide) d_R_new_101 ?_
  refine sg_putF G hn (k0 := 0) (ci := 6) (C := R_R) (T := F_R) (N := 30) (fs := fR (b + 104) 12) rfl ku_R t_R ty_R nm_R rfl 13 (by decide) kf_R_47 rfl rfl rfl (ty := .array .int) (ty_R 13 (by decide)) rfl rfl (Nat.le_of_ble_eq_true rfl) d_R_new_103 (x := b + 104) rfl ?_
  refine sg_eq (cs2 := 13) (sl2 := 2078) (es2 := wR t6 (b + 104) 13) rfl rfl rfl rfl ?_
  refine sg_aload_n G (i := 0) (x := b + 104) rfl d_R_new_106 ?_
  refine sg_bipush G (v := 32) (by decide) d_R_new_107 ?_
  refine sg_newi G (N := 32) (by rw [hz]; rfl) (fun h => by cases h) (by decide) (by decide) (by decide) (by decide) (by decide) d_R_new_109 ?_
  refine sg_putF G hn (k0 := 0) (ci := 6) (C := R_R) (T := F_R) (N := 30) (fs := fR (b + 104) 13) rfl ku_R t_R ty_R nm_R rfl 14 (by decide) kf_R_50 rfl rfl rfl (ty := .array .int) (ty_R 14 (by decide)) rfl rfl (Nat.le_of_ble_eq_true rfl) d_R_new_111 (x := b + 104) rfl ?_
  refine sg_eq (cs2 := 14) (sl2 := 2110) (es2 := wR t6 (b + 104) 14) rfl rfl rfl rfl ?_
  refine sg_aload_n G (i := 0) (x := b + 104) rfl d_R_new_114 ?_
  refine sg_bipush G (v := 60) (by decide) d_R_new_115 ?_
  refine sg_newi G (N := 60) (by rw [hz]; rfl) (fun h => by cases h) (by decide) (by decide) (by decide) (by decide) (by decide) d_R_new_117 ?_
  refine sg_putF G hn (k0 := 0) (ci := 6) (C := R_R) (T := F_R) (N := 30) (fs := fR (b + 104) 14) rfl ku_R t_R ty_R nm_R rfl 16 (by decide) kf_R_53 rfl rfl rfl (ty := .array .int) (ty_R 16 (by decide)) rfl rfl (Nat.le_of_ble_eq_true rfl) d_R_new_119 (x := b + 104) rfl ?_
  refine sg_eq (cs2 := 15) (sl2 := 2170) (es2 := wR t6 (b + 104) 15) rfl rfl rfl rfl ?_
  refine sg_aload_n G (i := 0) (x := b + 104) rfl d_R_new_122 ?_
  refine sg_bipush G (v := 60) (by decide) d_R_new_123 ?_
  refine sg_newi G (N := 60) (by rw [hz]; rfl) (fun h => by cases h) (by decide) (by decide) (by decide) (by decide) (by decide) d_R_new_125 ?_
  refine sg_putF G hn (k0 := 0) (ci := 6) (C := R_R) (T := F_R) (N := 30) (fs := fR (b + 104) 15) rfl ku_R t_R ty_R nm_R rfl 17 (by decide) kf_R_56 rfl rfl rfl (ty := .array .int) (ty_R 17 (by decide)) rfl rfl (Nat.le_of_ble_eq_true rfl) d_R_new_127 (x := b + 104) rfl ?_
  refine sg_eq (cs2 := 16) (sl2 := 2230) (es2 := wR t6 (b + 104) 16) rfl rfl rfl rfl ?_
  refine sg_aload_n G (i := 0) (x := b + 104) rfl d_R_new_130 ?_
  refine sg_bipush G (v := 60) (by decide) d_R_new_131 ?_
  refine sg_newi G (N := 60) (by rw [hz]; rfl) (fun h => by cases h) (by decide) (by decide) (by decide) (by decide) (by decide) d_R_new_133 ?_
  refine sg_putF G hn (k0 := 0) (ci := 6) (C := R_R) (T := F_R) (N := 30) (fs := fR (b + 104) 16) rfl ku_R t_R ty_R nm_R rfl 18 (by decide) kf_R_59 rfl rfl rfl (ty := .array .int) (ty_R 18 (by decide)) rfl rfl (Nat.le_of_ble_eq_true rfl) d_R_new_135 (x := b + 104) rfl ?_
  refine sg_eq (cs2 := 17) (sl2 := 2290) (es2 := wR t6 (b + 104) 17) rfl rfl rfl rfl ?_
  refine sg_aload_n G (i := 0) (x := b + 104) rfl d_R_new_138 ?_
  refine sg_bipush G (v := 60) (by decide) d_R_new_139 ?_
  refine sg_newi G (N := 60) (by rw [hz]; rfl) (fun h => by cases h) (by decide) (by decide) (by decide) (by decide) (by decide) d_R_new_141 ?_
  refine sg_putF G hn (k0 := 0) (ci := 6) (C := R_R) (T := F_R) (N := 30) (fs := fR (b + 104) 17) rfl ku_R t_R ty_R nm_R rfl 19 (by decide) kf_R_62 rfl rfl rfl (ty := .array .int) (ty_R 19 (by decide)) rfl rfl (Nat.le_of_ble_eq_true rfl) d_R_new_143 (x := b + 104) rfl ?_
  refine sg_eq (cs2 := 18) (sl2 := 2350) (es2 := wR t6 (b + 104) 18) rfl rfl rfl rfl ?_
  refine sg_aload_n G (i := 0) (x := b + 104) rfl d_R_new_146 ?_
  refine sg_bipush G (v := 60) (by decide) d_R_new_147 ?_
  refine sg_newi G (N := 60) (by rw [hz]; rfl) (fun h => by cases h) (by decide) (by decide) (by decide) (by decide) (by decide) d_R_new_149 ?_
  refine sg_putF G hn (k0 := 0) (ci := 6) (C := R_R) (T := F_R) (N := 30) (fs := fR (b + 104) 18) rfl ku_R t_R ty_R nm_R rfl 20 (by decide) kf_R_65 rfl rfl rfl (ty := .array .int) (ty_R 20 (by decide)) rfl rfl (Nat.le_of_ble_eq_true rfl) d_R_new_151 (x := b + 104) rfl ?_
  refine sg_eq (cs2 := 19) (sl2 := 2410) (es2 := wR t6 (b + 104) 19) rfl rfl rfl rfl ?_
  refine sg_aload_n G (i := 0) (x := b + 104) rfl d_R_new_154 ?_
  refine sg_bipush G (v := 60) (by decide) d_R_new_155 ?_
  refine sg_newi G (N := 60) (by rw [hz]; rfl) (fun h => by cases h) (by decide) (by decide) (by decide) (by decide) (by decide) d_R_new_157 ?_
  refine sg_putF G hn (k0 := 0) (ci := 6) (C := R_R) (T := F_R) (N := 30) (fs := fR (b + 104) 19) rfl ku_R t_R ty_R nm_R rfl 21 (by decide) kf_R_68 rfl rfl rfl (ty := .array .int) (ty_R 21 (by decide)) rfl rfl (Nat.le_of_ble_eq_true rfl) d_R_new_159 (x := b + 104) rfl ?_
  refine sg_eq (cs2 := 20) (sl2 := 2470) (es2 := wR t6 (b + 104) 20) rfl rfl rfl rfl ?_
  refine sg_aload_n G (i := 0) (x := b + 104) rfl d_R_new_162 ?_
  refine sg_bipush G (v := 60) (by decide) d_R_new_163 ?_
  refine sg_newi G (N := 60) (by rw [hz]; rfl) (fun h => by cases h) (by decide) (by decide) (by decide) (by decide) (by decide) d_R_new_165 ?_
  refine sg_putF G hn (k0 := 0) (ci := 6) (C := R_R) (T := F_R) (N := 30) (fs := fR (b + 104) 20) rfl ku_R t_R ty_R nm_R rfl 22 (by decide) kf_R_71 rfl rfl rfl (ty := .array .int) (ty_R 22 (by decide)) rfl rfl (Nat.le_of_ble_eq_true rfl) d_R_new_167 (x := b + 104) rfl ?_
  refine sg_eq (cs2 := 21) (sl2 := 2530) (es2 := wR t6 (b + 104) 21) rfl rfl rfl rfl ?_
  refine sg_aload_n G (i := 0) (x := b + 104) rfl d_R_new_170 ?_
  refine sg_bipush G (v := 60) (by decide) d_R_new_171 ?_
  refine sg_newi G (N := 60) (by rw [hz]; rfl) (fun h => by cases h) (by decide) (by decide) (by decide) (by decide) (by decide) d_R_new_173 ?_
  refine sg_putF G hn (k0 := 0) (ci := 6) (C := R_R) (T := F_R) (N := 30) (fs := fR (b + 104) 21) rfl ku_R t_R ty_R nm_R rfl 23 (by decide) kf_R_74 rfl rfl rfl (ty := .array .int) (ty_R 23 (by decide)) rfl rfl (Nat.le_of_ble_eq_true rfl) d_R_new_175 (x := b + 104) rfl ?_
  refine sg_eq (cs2 := 22) (sl2 := 2590) (es2 := wR t6 (b + 104) 22) rfl rfl rfl rfl ?_
  refine sg_aload_n G (i := 0) (x := b + 104) rfl d_R_new_178 ?_
  refine sg_bipush G (v := 60) (by decide) d_R_new_179 ?_
  refine sg_newz G (N := 60) (by rw [hz]; rfl) (fun h => by cases h) (by decide) (by decide) (by decide) (by decide) (by decide) d_R_new_181 ?_
  refine sg_putF G hn (k0 := 0) (ci := 6) (C := R_R) (T := F_R) (N := 30) (fs := fR (b + 104) 22) rfl ku_R t_R ty_R nm_R rfl 24 (by decide) kf_R_77 rfl rfl rfl (ty := .array .boolean) (ty_R 24 (by decide)) rfl rfl (Nat.le_of_ble_eq_true rfl) d_R_new_183 (x := b + 104) rfl ?_
  refine sg_eq (cs2 := 23) (sl2 := 2650) (es2 := wR t6 (b + 104) 23) rfl rfl rfl rfl ?_
  refine sg_aload_n G (i := 0) (x := b + 104) rfl d_R_new_186 ?_
  refine sg_bipush G (v := 60) (by decide) d_R_new_187 ?_
  refine sg_newi G (N := 60) (by rw [hz]; rfl) (fun h => by cases h) (by decide) (by decide) (by decide) (by decide) (by decide) d_R_new_189 ?_
  refine sg_putF G hn (k0 := 0) (ci := 6) (C := R_R) (T := F_R) (N := 30) (fs := fR (b + 104) 23) rfl ku_R t_R ty_R nm_R rfl 25 (by decide) kf_R_80 rfl rfl rfl (ty := .array .int) (ty_R 25 (by decide)) rfl rfl (Nat.le_of_ble_eq_true rfl) d_R_new_191 (x := b + 104) rfl ?_
  refine sg_eq (cs2 := 24) (sl2 := 2710) (es2 := wR t6 (b + 104) 24) rfl rfl rfl rfl ?_
  refine sg_aload_n G (i := 0) (x := b + 104) rfl d_R_new_194 ?_
  refine sg_bipush G (v := 60) (by decide) d_R_new_195 ?_
  refine sg_newi G (N := 60) (by rw [hz]; rfl) (fun h => by cases h) (by decide) (by decide) (by decide) (by decide) (by decide) d_R_new_197 ?_
  refine sg_putF G hn (k0 := 0) (ci := 6) (C := R_R) (T := F_R) (N := 30) (fs := fR (b + 104) 24) rfl ku_R t_R ty_R nm_R rfl 26 (by decide) kf_R_83 rfl rfl rfl (ty := .array .int) (ty_R 26 (by decide)) rfl rfl (Nat.le_of_ble_eq_true rfl) d_R_new_199 (x := b + 104) rfl ?_
  refine sg_eq (cs2 := 25) (sl2 := 2770) (es2 := wR t6 (b + 104) 25) rfl rfl rfl rfl ?_
  refine sg_aload_n G (i := 0) (x := b + 104) rfl d_R_new_202 ?_
  refine sg_bipush G (v := 60) (by decide) d_R_new_203 ?_
  refine sg_newi G (N := 60) (by rw [hz]; rfl) (fun h => by cases h) (by decide) (by decide) (by decide) (by decide) (by decide) d_R_new_205 ?_
  refine sg_putF G hn (k0 := 0) (ci := 6) (C := R_R) (T := F_R) (N := 30) (fs := fR (b + 104) 25) rfl ku_R t_R ty_R nm_R rfl 27 (by decide) kf_R_86 rfl rfl rfl (ty := .array .int) (ty_R 27 (by decide)) rfl rfl (Nat.le_of_ble_eq_true rfl) d_R_new_207 (x := b + 104) rfl ?_
  refine sg_eq (cs2 := 26) (sl2 := 2830) (es2 := wR t6 (b + 104) 26) rfl rfl rfl rfl ?_
  refine sg_aload_n G (i := 0) (x := b + 104) rfl d_R_new_210 ?_
  refine sg_bipush G (v := 60) (by decide) d_R_new_211 ?_
  refine sg_newi G (N := 60) (by rw [hz]; rfl) (fun h => by cases h) (by decide) (by decide) (by decide) (by decide) (by decide) d_R_new_213 ?_
  refine sg_putF G hn (k0 := 0) (ci := 6) (C := R_R) (T := F_R) (N := 30) (fs := fR (b + 104) 26) rfl ku_R t_R ty_R nm_R rfl 28 (by decide) kf_R_89 rfl rfl rfl (ty := .array .int) (ty_R 28 (by decide)) rfl rfl (Nat.le_of_ble_eq_true rfl) d_R_new_215 (x := b + 104) rfl ?_
  refine sg_eq (cs2 := 27) (sl2 := 2890) (es2 := wR t6 (b + 104) 27) rfl rfl rfl rfl ?_
  refine sg_aload_n G (i := 0) (x := b + 104) rfl d_R_new_218 ?_
  refine sg_bipush G (v := 60) (by decide) d_R_new_219 ?_
  refine sg_newz G (N := 60) (by rw [hz]; rfl) (fun h => by cases h) (by decide) (by decide) (by decide) (by decide) (by decide) d_R_new_221 ?_
  refine sg_putF G hn (k0 := 0) (ci := 6) (C := R_R) (T := F_R) (N := 30) (fs := fR (b + 104) 27) rfl ku_R t_R ty_R nm_R rfl 29 (by decide) kf_R_92 rfl rfl rfl (ty := .array .boolean) (ty_R 29 (by decide)) rfl rfl (Nat.le_of_ble_eq_true rfl) d_R_new_223 (x := b + 104) rfl ?_
  refine sg_eq (cs2 := 28) (sl2 := 2950) (es2 := wR t6 (b + 104) 28) rfl rfl rfl rfl ?_
  refine sg_aload_n G (i := 0) (x := b + 104) rfl d_R_new_226 ?_
  intro H locs ls hP hS hl
  have hS2 : va_S (fun q => b ≤ q) s.heap H locs := by
    refine ⟨hS.1, fun q h1 h2 => hS.2.1 q h1 (fun h => h2 (Nat.le_trans (Nat.le_add_right _ _) h)), fun q hq => ?_⟩
    exact Nat.le_trans (Nat.le_add_right b 104) (hS.2.2 q hq)
  refine w_cvv G (wo_R hw0 hS hP h3 h15 h21) hS2 hl (by decide) (kd := 20) (i := 0) (ci := 6) (T := F_R) (N := 30) (As := []) (rest := []) ⟨by decide, by decide⟩ rfl rfl ki_R_begin kx_R_begin (c_R_begin (by decide)) kc_R_begin km_R_95 kn_R (by decide) rfl (by decide) (by decide) rfl d_R_new_227 (fun H1 locs1 hw1 hS1 => ?_)
  obtain ⟨hx, hb, hml, hown, hr, hlk, hk⟩ := G
  exact W.vret hx hb hr (fun t ht hW => ⟨⟨(), rfl, trivial, (show wo D t6 b 133 (f_R_begin M) t.heap by rw [ht]; exact hw1)⟩, hS1.F ht⟩) hS1.2.2 d_R_new_230.1 hlk
