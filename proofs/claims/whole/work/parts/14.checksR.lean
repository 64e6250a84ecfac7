def f_R_in (x1 : Int32) (x2 : Int32) (x3 : Int32) : Int32 := (if x1 < x2 then 0 else (if x3 < x1 then 0 else 1))
set_option maxHeartbeats 4000000 in
set_option maxRecDepth 100000 in
theorem c_R_in {l : Launch} {D : va_G} {t6 : Nat → ClassId} {b n : Nat} {M : Mem} {x1 : Int32} {x2 : Int32} {x3 : Int32} : CI l D t6 b n y_R_in cd_R_in 3 .boolean (rk 0 0) [.int x1, .int x2, .int x3] M (f_R_in x1 x2 x3) M := by
  refine en_i (by decide) (by simp [Value.category]) (Nat.le_of_ble_eq_true rfl) (fun p e s m below meth c G => ?_)
  refine sr_iload_n G rfl d_R_in_0 ?_
  refine sr_iload_n G rfl d_R_in_1 ?_
  refine sr_icmp_lt G 14 d_R_in_2 rfl (fun h2 => ?_) (fun h2 => ?_)
  · skip
    refine sr_iconst G (v := 0) (by decide) d_R_in_14 ?_
    refine sr_zret G (by decide) d_R_in_15 ?_
    unfold f_R_in
    rw [if_pos h2]
    exact ⟨rfl, rfl⟩
  · skip
    refine sr_iload_n G rfl d_R_in_5 ?_
    refine sr_iload_n G rfl d_R_in_6 ?_
    refine sr_icmp_gt G 14 d_R_in_7 rfl (fun h7 => ?_) (fun h7 => ?_)
    · skip
      refine sr_iconst G (v := 0) (by decide) d_R_in_14 ?_
      refine sr_zret G (by decide) d_R_in_15 ?_
      unfold f_R_in
      rw [if_neg h2, if_pos h7]
      exact ⟨rfl, rfl⟩
    · skip
      refine sr_iconst G (v := 1) (by decide) d_R_in_10 ?_
      refine sr_goto G 15 d_R_in_11 rfl ?_
      refine sr_zret G (by decide) d_R_in_15 ?_
      unfold f_R_in
      rw [if_neg h2, if_neg h7]
      exact ⟨rfl, rfl⟩
theorem nb_in (x1 x2 x3 : Int32) : narrow .boolean (.int (f_R_in x1 x2 x3)) = .int (f_R_in x1 x2 x3) := nb_isWithin x1 x2 x3
def f_R_noSide (x1 : Int32) : Int32 := (if x1 < 0 then 1 else (if x1 ≤ 1 then 0 else 1))
set_option maxHeartbeats 4000000 in
set_option maxRecDepth 100000 in
theorem c_R_noSide {l : Launch} {D : va_G} {t6 : Nat → ClassId} {b n : Nat} {M : Mem} {x1 : Int32} : CI l D t6 b n y_R_noSide cd_R_noSide 1 .boolean (rk 0 0) [.int x1] M (f_R_noSide x1) M := by
  refine en_i (by decide) (by simp [Value.category]) (Nat.le_of_ble_eq_true rfl) (fun p e s m below meth c G => ?_)
  refine sr_iload_n G rfl d_R_noSide_0 ?_
  refine sr_if_lt G 9 d_R_noSide_1 rfl (fun h1 => ?_) (fun h1 => ?_)
  · skip
    refine sr_iconst G (v := 1) (by decide) d_R_noSide_9 ?_
    refine sr_goto G 14 d_R_noSide_10 rfl ?_
    refine sr_zret G (by decide) d_R_noSide_14 ?_
    unfold f_R_noSide
    rw [if_pos h1]
    exact ⟨rfl, rfl⟩
  · skip
    refine sr_iload_n G rfl d_R_noSide_4 ?_
    refine sr_iconst G (v := 1) (by decide) d_R_noSide_5 ?_
    refine sr_icmp_le G 13 d_R_noSide_6 rfl (fun h6 => ?_) (fun h6 => ?_)
    · skip
      refine sr_iconst G (v := 0) (by decide) d_R_noSide_13 ?_
      refine sr_zret G (by decide) d_R_noSide_14 ?_
      unfold f_R_noSide
      rw [if_neg h1, if_pos h6]
      exact ⟨rfl, rfl⟩
    · skip
      refine sr_iconst G (v := 1) (by decide) d_R_noSide_9 ?_
      refine sr_goto G 14 d_R_noSide_10 rfl ?_
      refine sr_zret G (by decide) d_R_noSide_14 ?_
      unfold f_R_noSide
      rw [if_neg h1, if_neg h6]
      exact ⟨rfl, rfl⟩
def f_R_noChannel (M : Mem) (x1 : Int32) : Int32 := (if (f_R_in x1 0 ((M 20 0 3) - 1)) = 0 then 1 else 0)
set_option maxHeartbeats 4000000 in
set_option maxRecDepth 100000 in
theorem c_R_noChannel {l : Launch} {D : va_G} {t6 : Nat → ClassId} {b n : Nat} (hn : 133 ≤ n) {M : Mem} {x1 : Int32} : CI l D t6 b n y_R_noChannel cd_R_noChannel 2 .boolean (rk 1 22) [.ref (ad b 20 0), .int x1] M (f_R_noChannel M x1) M := by
  refine en_i (by decide) (by simp [Value.category]) (Nat.le_of_ble_eq_true rfl) (fun p e s m below meth c G => ?_)
  refine sr_iload_n G rfl d_R_noChannel_0 ?_
  refine sr_iconst G (v := 0) (by decide) d_R_noChannel_1 ?_
  refine sr_aload_n G rfl d_R_noChannel_2 ?_
  refine sr_get G (vv_20 hn) rfl ku_R rfl 3 (by decide) kf_R_98 rfl rfl d_R_noChannel_3 ?_
  refine sr_iconst G (v := 1) (by decide) d_R_noChannel_6 ?_
  refine sr_isub G d_R_noChannel_7 ?_
  refine sr_csi G ks_R_in (c_R_in) kc_R_in km_R_113 kn_R yy_R_in rfl ⟨rfl, rfl, by decide, by decide⟩ (Nat.le_of_ble_eq_true rfl) rfl d_R_noChannel_8 ?_
  refine sr_if_ne G 18 d_R_noChannel_11 rfl (fun h11 => ?_) (fun h11 => ?_)
  · skip
    refine sr_iconst G (v := 0) (by decide) d_R_noChannel_18 ?_
    refine sr_zret G (by decide) d_R_noChannel_19 ?_
    unfold f_R_noChannel
    rw [if_neg h11]
    exact ⟨rfl, rfl⟩
  · skip
    refine sr_iconst G (v := 1) (by decide) d_R_noChannel_14 ?_
    refine sr_goto G 19 d_R_noChannel_15 rfl ?_
    refine sr_zret G (by decide) d_R_noChannel_19 ?_
    unfold f_R_noChannel
    rw [if_pos h11]
    exact ⟨rfl, rfl⟩
def f_R_noMessage (M : Mem) (x1 : Int32) : Int32 := (if (f_R_in x1 0 ((M 20 0 15) - 1)) = 0 then 1 else 0)
set_option maxHeartbeats 4000000 in
set_option maxRecDepth 100000 in
theorem c_R_noMessage {l : Launch} {D : va_G} {t6 : Nat → ClassId} {b n : Nat} (hn : 133 ≤ n) {M : Mem} {x1 : Int32} : CI l D t6 b n y_R_noMessage cd_R_noMessage 2 .boolean (rk 1 22) [.ref (ad b 20 0), .int x1] M (f_R_noMessage M x1) M := by
  refine en_i (by decide) (by simp [Value.category]) (Nat.le_of_ble_eq_true rfl) (fun p e s m below meth c G => ?_)
  refine sr_iload_n G rfl d_R_noMessage_0 ?_
  refine sr_iconst G (v := 0) (by decide) d_R_noMessage_1 ?_
  refine sr_aload_n G rfl d_R_noMessage_2 ?_
  refine sr_get G (vv_20 hn) rfl ku_R rfl 15 (by decide) kf_R_102 rfl rfl d_R_noMessage_3 ?_
  refine sr_iconst G (v := 1) (by decide) d_R_noMessage_6 ?_
  refine sr_isub G d_R_noMessage_7 ?_
  refine sr_csi G ks_R_in (c_R_in) kc_R_in km_R_113 kn_R yy_R_in rfl ⟨rfl, rfl, by decide, by decide⟩ (Nat.le_of_ble_eq_true rfl) rfl d_R_noMessage_8 ?_
  refine sr_if_ne G 18 d_R_noMessage_11 rfl (fun h11 => ?_) (fun h11 => ?_)
  · skip
    refine sr_iconst G (v := 0) (by decide) d_R_noMessage_18 ?_
    refine sr_zret G (by decide) d_R_noMessage_19 ?_
    unfold f_R_noMessage
    rw [if_neg h11]
    exact ⟨rfl, rfl⟩
  · skip
    refine sr_iconst G (v := 1) (by decide) d_R_noMessage_14 ?_
    refine sr_goto G 19 d_R_noMessage_15 rfl ?_
    refine sr_zret G (by decide) d_R_noMessage_19 ?_
    unfold f_R_noMessage
    rw [if_pos h11]
    exact ⟨rfl, rfl⟩
theorem in_wiR {x lo hi : Int32} {k : Nat} (hlo : 0 ≤ lo.toInt) (hhi : hi.toInt < (k : Int)) (h : ¬ f_R_in x lo hi = 0) : vp_in x k := in_wi hlo hhi h
theorem in_nos {x : Int32} (h : f_R_noSide x = 0) : vp_in x 2 := by
  unfold f_R_noSide at h
  rw [vp_in_iff]
  have e0 : (0 : Int32).toInt = 0 := by decide
  have e1 : (1 : Int32).toInt = 1 := by decide
  by_cases h1 : x < 0
  · rw [if_pos h1] at h; exact absurd h (by decide)
  · by_cases h2 : x ≤ 1
    · rw [Int32.lt_iff_toInt_lt] at h1
      rw [Int32.le_iff_toInt_le] at h2
      omega
    · rw [if_neg h1, if_neg h2] at h; exact absurd h (by decide)
/-- what the reference keeps of its numbers that are used as indices -/
def ri_ (M : Mem) : Prop := (∃ k, k ≤ 4 ∧ M 20 0 3 = nI k) ∧ (∃ k, k ≤ 60 ∧ M 20 0 15 = nI k) ∧ (∀ c, c < 4 → vp_in (M 21 3 c) 2) ∧ (∀ i, i < 60 → vp_in (M 21 14 i) 4 ∧ vp_in (M 21 15 i) 2 ∧ vp_in (M 21 19 i) 4 ∧ vp_in (M 21 20 i) 8) ∧ ∀ s, s < 2 → vp_in (M 21 0 s) 201
theorem in_chR {M : Mem} {x : Int32} (hI : ri_ M) (h : f_R_noChannel M x = 0) : vp_in x 4 := by
  obtain ⟨⟨k, hk, e⟩, -⟩ := hI
  unfold f_R_noChannel at h
  by_cases h2 : f_R_in x 0 (M 20 0 3 - 1) = 0
  · rw [if_pos h2] at h; exact absurd h (by decide)
  · refine in_wiR (by decide) ?_ h2
    rw [e, show (1 : Int32) = nI 1 from rfl, pk_sub_toInt (by omega) (by omega)]
    omega
theorem in_msR {M : Mem} {x : Int32} (hI : ri_ M) (h : f_R_noMessage M x = 0) : vp_in x 60 := by
  obtain ⟨-, ⟨k, hk, e⟩, -⟩ := hI
  unfold f_R_noMessage at h
  by_cases h2 : f_R_in x 0 (M 20 0 15 - 1) = 0
  · rw [if_pos h2] at h; exact absurd h (by decide)
  · refine in_wiR (by decide) ?_ h2
    rw [e, show (1 : Int32) = nI 1 from rfl, pk_sub_toInt (by omega) (by omega)]
    omega
theorem ri_b {M : Mem} (h : ri_ M) {c : Nat} (hc : c < 4) : vp_in (M 21 3 c) 2 := h.2.2.1 c hc
theorem ri_mg {M : Mem} (h : ri_ M) {i : Nat} (hi : i < 60) : vp_in (M 21 14 i) 4 ∧ vp_in (M 21 15 i) 2 ∧ vp_in (M 21 19 i) 4 ∧ vp_in (M 21 20 i) 8 := h.2.2.2.1 i hi
theorem ri_h {M : Mem} (h : ri_ M) {s : Nat} (hs : s < 2) : vp_in (M 21 0 s) 201 := h.2.2.2.2 s hs
theorem ri_cl {M : Mem} (h : ri_ M) : M 20 0 3 = nI (Int32.toNatClampNeg (M 20 0 3)) ∧ Int32.toNatClampNeg (M 20 0 3) ≤ 4 := by
  obtain ⟨⟨k, hk, e⟩, -⟩ := h
  have : Int32.toNatClampNeg (M 20 0 3) = k := by rw [e]; exact nI_clamp (by omega)
  rw [this]
  exact ⟨e, hk⟩
theorem ri_ml {M : Mem} (h : ri_ M) : M 20 0 15 = nI (Int32.toNatClampNeg (M 20 0 15)) ∧ Int32.toNatClampNeg (M 20 0 15) ≤ 60 := by
  obtain ⟨-, ⟨k, hk, e⟩, -⟩ := h
  have : Int32.toNatClampNeg (M 20 0 15) = k := by rw [e]; exact nI_clamp (by omega)
  rw [this]
  exact ⟨e, hk⟩
theorem ri_u3 {M : Mem} (h : ri_ M) {kd i j : Nat} (v : Int32) (h0 : ¬ kd = 20) (h1 : ¬ (kd = 21 ∧ (i = 0 ∨ i = 3 ∨ i = 14 ∨ i = 15 ∨ i = 19 ∨ i = 20))) : ri_ (u3 M kd i j v) := by
  obtain ⟨a, b, c, d, g⟩ := h
  have e : ∀ {x y z : Nat}, ¬ (x = kd ∧ y = i) → u3 M kd i j v x y z = M x y z := fun q => if_neg (fun w => q ⟨w.1, w.2.1⟩)
  refine ⟨?_, ?_, fun k hk => ?_, fun k hk => ⟨?_, ?_, ?_, ?_⟩, fun k hk => ?_⟩
  · rw [e (fun q => h0 q.1.symm)]; exact a
  · rw [e (fun q => h0 q.1.symm)]; exact b
  · rw [e (by omega)]; exact c k hk
  · rw [e (by omega)]; exact (d k hk).1
  · rw [e (by omega)]; exact (d k hk).2.1
  · rw [e (by omega)]; exact (d k hk).2.2.1
  · rw [e (by omega)]; exact (d k hk).2.2.2
  · rw [e (by omega)]; exact g k hk
/-! indices of the reference -/
theorem ix_e {c s : Int32} (hc : vp_in c 4) (hs : vp_in s 2) : 2 * c + s = nI (2 * Int32.toNatClampNeg c + Int32.toNatClampNeg s) ∧ 2 * Int32.toNatClampNeg c + Int32.toNatClampNeg s < 8 := by
  obtain ⟨a, ha, rfl⟩ := vp_in_of hc (by decide)
  obtain ⟨d, hd, rfl⟩ := vp_in_of hs (by decide)
  rw [show Int32.toNatClampNeg (nI a) = a from nI_clamp (by omega), show Int32.toNatClampNeg (nI d) = d from nI_clamp (by omega), show (2 : Int32) = nI 2 from rfl, pk_mul, nI_add]
  exact ⟨rfl, by omega⟩
theorem ix_e2 {c s : Int32} (hc : vp_in c 4) (hs : vp_in s 2) : 2 * c + 1 - s = nI (2 * Int32.toNatClampNeg c + (1 - Int32.toNatClampNeg s)) ∧ 2 * Int32.toNatClampNeg c + (1 - Int32.toNatClampNeg s) < 8 := by
  obtain ⟨a, ha, rfl⟩ := vp_in_of hc (by decide)
  obtain ⟨d, hd, rfl⟩ := vp_in_of hs (by decide)
  rw [show Int32.toNatClampNeg (nI a) = a from nI_clamp (by omega), show Int32.toNatClampNeg (nI d) = d from nI_clamp (by omega), show (2 : Int32) = nI 2 from rfl, show (1 : Int32) = nI 1 from rfl, pk_mul, nI_add, pk_sub (by omega)]
  exact ⟨by congr 1; omega, by omega⟩
theorem ix_a {s a : Int32} (hs : vp_in s 2) (ha : vp_in a 4) : 4 * s + a = nI (4 * Int32.toNatClampNeg s + Int32.toNatClampNeg a) ∧ 4 * Int32.toNatClampNeg s + Int32.toNatClampNeg a < 8 := by
  obtain ⟨c, hc, rfl⟩ := vp_in_of hs (by decide)
  obtain ⟨d, hd, rfl⟩ := vp_in_of ha (by decide)
  rw [show Int32.toNatClampNeg (nI c) = c from nI_clamp (by omega), show Int32.toNatClampNeg (nI d) = d from nI_clamp (by omega), show (4 : Int32) = nI 4 from rfl, pk_mul, nI_add]
  exact ⟨rfl, by omega⟩
theorem ix_v {s a : Int32} (hs : vp_in s 8) (ha : vp_in a 4) : 4 * s + a = nI (4 * Int32.toNatClampNeg s + Int32.toNatClampNeg a) ∧ 4 * Int32.toNatClampNeg s + Int32.toNatClampNeg a < 32 := by
  obtain ⟨c, hc, rfl⟩ := vp_in_of hs (by decide)
  obtain ⟨d, hd, rfl⟩ := vp_in_of ha (by decide)
  rw [show Int32.toNatClampNeg (nI c) = c from nI_clamp (by omega), show Int32.toNatClampNeg (nI d) = d from nI_clamp (by omega), show (4 : Int32) = nI 4 from rfl, pk_mul, nI_add]
  exact ⟨rfl, by omega⟩
theorem ix_h {s a : Int32} (hs : vp_in s 2) (ha : vp_in a 201) : 201 * s + a = nI (201 * Int32.toNatClampNeg s + Int32.toNatClampNeg a) ∧ 201 * Int32.toNatClampNeg s + Int32.toNatClampNeg a < 402 := by
  obtain ⟨c, hc, rfl⟩ := vp_in_of hs (by decide)
  obtain ⟨d, hd, rfl⟩ := vp_in_of ha (by decide)
  rw [show Int32.toNatClampNeg (nI c) = c from nI_clamp (by omega), show Int32.toNatClampNeg (nI d) = d from nI_clamp (by omega), show (201 : Int32) = nI 201 from rfl, pk_mul, nI_add]
  exact ⟨rfl, by omega⟩
theorem ix_t {s a : Int32} (hs : vp_in s 8) (ha : vp_in a 201) : 201 * s + a = nI (201 * Int32.toNatClampNeg s + Int32.toNatClampNeg a) ∧ 201 * Int32.toNatClampNeg s + Int32.toNatClampNeg a < 1608 := by
  obtain ⟨c, hc, rfl⟩ := vp_in_of hs (by decide)
  obtain ⟨d, hd, rfl⟩ := vp_in_of ha (by decide)
  rw [show Int32.toNatClampNeg (nI c) = c from nI_clamp (by omega), show Int32.toNatClampNeg (nI d) = d from nI_clamp (by omega), show (201 : Int32) = nI 201 from rfl, pk_mul, nI_add]
  exact ⟨rfl, by omega⟩
theorem ix_r {x : Int32} (h : vp_in x 8) : x - x / 2 * 2 = nI (Int32.toNatClampNeg x % 2) ∧ Int32.toNatClampNeg x % 2 < 2 := by
  obtain ⟨c, hc, rfl⟩ := vp_in_of h (by decide)
  rw [show Int32.toNatClampNeg (nI c) = c from nI_clamp (by omega), show (2 : Int32) = nI 2 from rfl, pk_rem (by omega) (by decide) (by decide)]
  exact ⟨rfl, by omega⟩
theorem in_e {c s : Int32} (hc : vp_in c 4) (hs : vp_in s 2) : vp_in (2 * c + s) 8 := by rw [(ix_e hc hs).1]; exact vp_in_nI (ix_e hc hs).2 (by decide)
theorem in_e2 {c s : Int32} (hc : vp_in c 4) (hs : vp_in s 2) : vp_in (2 * c + 1 - s) 8 := by rw [(ix_e2 hc hs).1]; exact vp_in_nI (ix_e2 hc hs).2 (by decide)
theorem in_a {s a : Int32} (hs : vp_in s 2) (ha : vp_in a 4) : vp_in (4 * s + a) 8 := by rw [(ix_a hs ha).1]; exact vp_in_nI (ix_a hs ha).2 (by decide)
theorem in_v {s a : Int32} (hs : vp_in s 8) (ha : vp_in a 4) : vp_in (4 * s + a) 32 := by rw [(ix_v hs ha).1]; exact vp_in_nI (ix_v hs ha).2 (by decide)
theorem in_h {s a : Int32} (hs : vp_in s 2) (ha : vp_in a 201) : vp_in (201 * s + a) 402 := by rw [(ix_h hs ha).1]; exact vp_in_nI (ix_h hs ha).2 (by decide)
theorem in_t {s a : Int32} (hs : vp_in s 8) (ha : vp_in a 201) : vp_in (201 * s + a) 1608 := by rw [(ix_t hs ha).1]; exact vp_in_nI (ix_t hs ha).2 (by decide)
theorem in_r {x : Int32} (h : vp_in x 8) : vp_in (x - x / 2 * 2) 2 := by rw [(ix_r h).1]; exact vp_in_nI (ix_r h).2 (by decide)
/-- a part of a row of the reference is filled -/
def fo_ (M : Mem) (a lo k : Nat) (v : Int32) : Mem := fun x y z => if x = 21 ∧ y = a ∧ lo ≤ z ∧ z < lo + k then v else M x y z
theorem fo_0 (M : Mem) (a lo : Nat) (v : Int32) : M = fo_ M a lo 0 v := by
  funext x y z
  unfold fo_
  rw [if_neg (by omega)]
theorem fo_s (M : Mem) (a lo k : Nat) (v : Int32) : u3 (fo_ M a lo k v) 21 a (lo + k) v = fo_ M a lo (k + 1) v := by
  funext x y z
  unfold fo_ u3
  by_cases h : x = 21 ∧ y = a ∧ z = lo + k
  · rw [if_pos h, if_pos ⟨h.1, h.2.1, by omega⟩]
  · rw [if_neg h]
    show (if x = 21 ∧ y = a ∧ lo ≤ z ∧ z < lo + k then v else M x y z) = _
    by_cases h2 : x = 21 ∧ y = a ∧ lo ≤ z ∧ z < lo + k
    · rw [if_pos h2, if_pos ⟨h2.1, h2.2.1, by omega⟩]
    · rw [if_neg h2, if_neg (fun q => h2 ⟨q.1, q.2.1, by have : ¬ z = lo + k := fun w => h ⟨q.1, q.2.1, w⟩; omega⟩)]
/-- a loop's memory, step by step -/
def md_ (g : Nat → Mem → Mem) (M0 : Mem) : Nat → Mem
  | 0 => M0
  | k + 1 => g k (md_ g M0 k)
theorem md_keep {g : Nat → Mem → Mem} {a b c : Nat} (h : ∀ j N, g j N a b c = N a b c) (M0 : Mem) : ∀ k, md_ g M0 k a b c = M0 a b c
  | 0 => rfl
  | k + 1 => (h k _).trans (md_keep h M0 k)
