def f_Cl_isToldMark (M : Mem) (z : Nat) (x1 : Int32) (x2 : Int32) : Int32 := (if (f_B_isWithin x1 1 200) = 0 then 0 else (if (M 4 z (Int32.toNatClampNeg x1)) = (x2 + 1) then 1 else 0))
set_option maxHeartbeats 4000000 in
set_option maxRecDepth 100000 in
theorem c_Cl_isToldMark {l : Launch} {D : va_G} {t6 : Nat → ClassId} {b n : Nat} (hn : 104 ≤ n) {M : Mem} {z : Nat} {x1 : Int32} {x2 : Int32} (hz : z < 2) : CI l D t6 b n y_Cl_isToldMark cd_Cl_isToldMark 3 .boolean (rk 1 22) [.ref (ad b 3 z), .int x1, .int x2] M (f_Cl_isToldMark M z x1 x2) M := by
  refine en_i (by decide) (by simp [Value.category]) (Nat.le_of_ble_eq_true rfl) (fun p e s m below meth c G => ?_)
  refine sr_iload_n G rfl d_Cl_isToldMark_0 ?_
  refine sr_iconst G (v := 1) (by decide) d_Cl_isToldMark_1 ?_
  refine sr_sipush G (v := 200) (by decide) d_Cl_isToldMark_2 ?_
  refine sr_csNi G ks_B_isWithin (c_B_isWithin) kc_B_isWithin km_Cl_15 kn_B yy_B_isWithin rfl ⟨rfl, rfl, by decide, by decide⟩ (Nat.le_of_ble_eq_true rfl) rfl d_Cl_isToldMark_5 ?_
  refine sr_if_eq G 27 d_Cl_isToldMark_8 rfl (fun h8 => ?_) (fun h8 => ?_)
  · skip
    refine sr_iconst G (v := 0) (by decide) d_Cl_isToldMark_27 ?_
    refine sr_zret G (by decide) d_Cl_isToldMark_28 ?_
    unfold f_Cl_isToldMark
    rw [if_pos h8]
    exact ⟨rfl, rfl⟩
  · skip
    have v8 : vp_in x1 201 := in_wi (lo := 1) (hi := 200) (by decide) (by decide) h8
    have i8 := ix_lt v8
    refine sr_aload_n G rfl d_Cl_isToldMark_11 ?_
    refine sr_get G (vv_3 hn (by omega)) rfl ku_Cl rfl 0 (by decide) kf_Cl_9 rfl rfl d_Cl_isToldMark_12 ?_
    refine sr_iload_n G rfl d_Cl_isToldMark_15 ?_
    refine sr_iald G (vv_4 hn (by omega)) rfl (by assumption) d_Cl_isToldMark_16 ?_
    refine sr_iload_n G rfl d_Cl_isToldMark_17 ?_
    refine sr_iconst G (v := 1) (by decide) d_Cl_isToldMark_18 ?_
    refine sr_iadd G d_Cl_isToldMark_19 ?_
    refine sr_icmp_ne G 27 d_Cl_isToldMark_20 rfl (fun h20 => ?_) (fun h20 => ?_)
    · skip
      refine sr_iconst G (v := 0) (by decide) d_Cl_isToldMark_27 ?_
      refine sr_zret G (by decide) d_Cl_isToldMark_28 ?_
      unfold f_Cl_isToldMark
      rw [if_neg h8, if_neg h20]
      exact ⟨rfl, rfl⟩
    · skip
      refine sr_iconst G (v := 1) (by decide) d_Cl_isToldMark_23 ?_
      refine sr_goto G 28 d_Cl_isToldMark_24 rfl ?_
      refine sr_zret G (by decide) d_Cl_isToldMark_28 ?_
      unfold f_Cl_isToldMark
      rw [if_neg h8, if_pos h20]
      exact ⟨rfl, rfl⟩
def f_Cl_howFollowed (M : Mem) (z : Nat) (x1 : Int32) : Int32 := (if (f_B_isWithin x1 1 200) = 0 then 0 else (if (M 4 z (Int32.toNatClampNeg x1)) = 0 then 0 else (if (f_Cl_isToldMark M z x1 0) = 0 then 2 else 1)))
set_option maxHeartbeats 4000000 in
set_option maxRecDepth 100000 in
theorem c_Cl_howFollowed {l : Launch} {D : va_G} {t6 : Nat → ClassId} {b n : Nat} (hn : 104 ≤ n) {M : Mem} {z : Nat} {x1 : Int32} (hz : z < 2) : CI l D t6 b n y_Cl_howFollowed cd_Cl_howFollowed 2 .int (rk 2 44) [.ref (ad b 3 z), .int x1] M (f_Cl_howFollowed M z x1) M := by
  refine en_i (by decide) (by simp [Value.category]) (Nat.le_of_ble_eq_true rfl) (fun p e s m below meth c G => ?_)
  refine sr_iload_n G rfl d_Cl_howFollowed_0 ?_
  refine sr_iconst G (v := 1) (by decide) d_Cl_howFollowed_1 ?_
  refine sr_sipush G (v := 200) (by decide) d_Cl_howFollowed_2 ?_
  refine sr_csNi G ks_B_isWithin (c_B_isWithin) kc_B_isWithin km_Cl_15 kn_B yy_B_isWithin rfl ⟨rfl, rfl, by decide, by decide⟩ (Nat.le_of_ble_eq_true rfl) rfl d_Cl_howFollowed_5 ?_
  refine sr_if_eq G 20 d_Cl_howFollowed_8 rfl (fun h8 => ?_) (fun h8 => ?_)
  · skip
    refine sr_iconst G (v := 0) (by decide) d_Cl_howFollowed_20 ?_
    refine sr_iret G d_Cl_howFollowed_21 ?_
    unfold f_Cl_howFollowed
    rw [if_pos h8]
    exact ⟨rfl, rfl⟩
  · skip
    have v8 : vp_in x1 201 := in_wi (lo := 1) (hi := 200) (by decide) (by decide) h8
    have i8 := ix_lt v8
    refine sr_aload_n G rfl d_Cl_howFollowed_11 ?_
    refine sr_get G (vv_3 hn (by omega)) rfl ku_Cl rfl 0 (by decide) kf_Cl_9 rfl rfl d_Cl_howFollowed_12 ?_
    refine sr_iload_n G rfl d_Cl_howFollowed_15 ?_
    refine sr_iald G (vv_4 hn (by omega)) rfl (by assumption) d_Cl_howFollowed_16 ?_
    refine sr_if_ne G 22 d_Cl_howFollowed_17 rfl (fun h17 => ?_) (fun h17 => ?_)
    · skip
      refine sr_aload_n G rfl d_Cl_howFollowed_22 ?_
      refine sr_iload_n G rfl d_Cl_howFollowed_23 ?_
      refine sr_iconst G (v := 0) (by decide) d_Cl_howFollowed_24 ?_
      refine sr_cvi G (vv_3 hn (by omega)) rfl rfl ki_Cl_isToldMark kx_Cl_isToldMark (c_Cl_isToldMark hn (by first | assumption | omega | decide | (unfold vp_in; decide))) kc_Cl_isToldMark km_Cl_19 kn_Cl yy_Cl_isToldMark rfl ⟨rfl, rfl, by decide, by decide⟩ (Nat.le_of_ble_eq_true rfl) rfl d_Cl_howFollowed_25 ?_
      refine sr_if_eq G 35 d_Cl_howFollowed_28 rfl (fun h28 => ?_) (fun h28 => ?_)
      · skip
        refine sr_iconst G (v := 2) (by decide) d_Cl_howFollowed_35 ?_
        refine sr_iret G d_Cl_howFollowed_36 ?_
        unfold f_Cl_howFollowed
        rw [if_neg h8, if_neg h17, if_pos h28]
        exact ⟨rfl, rfl⟩
      · skip
        refine sr_iconst G (v := 1) (by decide) d_Cl_howFollowed_31 ?_
        refine sr_goto G 36 d_Cl_howFollowed_32 rfl ?_
        refine sr_iret G d_Cl_howFollowed_36 ?_
        unfold f_Cl_howFollowed
        rw [if_neg h8, if_neg h17, if_neg h28]
        exact ⟨rfl, rfl⟩
    · skip
      refine sr_iconst G (v := 0) (by decide) d_Cl_howFollowed_20 ?_
      refine sr_iret G d_Cl_howFollowed_21 ?_
      unfold f_Cl_howFollowed
      rw [if_neg h8, if_pos h17]
      exact ⟨rfl, rfl⟩
def f_Cl_add (M : Mem) (z : Nat) (x1 : Int32) (x2 : Int32) : Mem := (if (f_B_isWithin x1 1 200) = 0 then M else (u3 (u3 (u3 M 4 z (Int32.toNatClampNeg x1) (x2 + 1)) 3 z 2 (f_Ma_max ((u3 M 4 z (Int32.toNatClampNeg x1) (x2 + 1)) 3 z 2) x1)) 3 z 3 (((u3 (u3 M 4 z (Int32.toNatClampNeg x1) (x2 + 1)) 3 z 2 (f_Ma_max ((u3 M 4 z (Int32.toNatClampNeg x1) (x2 + 1)) 3 z 2) x1)) 3 z 3) + 1)))
set_option maxHeartbeats 4000000 in
set_option maxRecDepth 100000 in
theorem c_Cl_add {l : Launch} {D : va_G} {t6 : Nat → ClassId} {b n : Nat} (hn : 104 ≤ n) {M : Mem} {z : Nat} {x1 : Int32} {x2 : Int32} (hz : z < 2) : CV l D t6 b n y_Cl_add cd_Cl_add 3  (rk 1 22) [.ref (ad b 3 z), .int x1, .int x2] M (f_Cl_add M z x1 x2) := by
  refine en_v (by decide) (by simp [Value.category]) (Nat.le_of_ble_eq_true rfl) (fun p e s m below meth c G => ?_)
  refine sr_iload_n G rfl d_Cl_add_0 ?_
  refine sr_iconst G (v := 1) (by decide) d_Cl_add_1 ?_
  refine sr_sipush G (v := 200) (by decide) d_Cl_add_2 ?_
  refine sr_csNi G ks_B_isWithin (c_B_isWithin) kc_B_isWithin km_Cl_15 kn_B yy_B_isWithin rfl ⟨rfl, rfl, by decide, by decide⟩ (Nat.le_of_ble_eq_true rfl) rfl d_Cl_add_5 ?_
  refine sr_if_eq G 42 d_Cl_add_8 rfl (fun h8 => ?_) (fun h8 => ?_)
  · skip
    refine sr_vret G d_Cl_add_42 ?_
    unfold f_Cl_add
    rw [if_pos h8]
    try rfl
  · skip
    have v8 : vp_in x1 201 := in_wi (lo := 1) (hi := 200) (by decide) (by decide) h8
    have i8 := ix_lt v8
    refine sr_aload_n G rfl d_Cl_add_11 ?_
    refine sr_get G (vv_3 hn (by omega)) rfl ku_Cl rfl 0 (by decide) kf_Cl_9 rfl rfl d_Cl_add_12 ?_
    refine sr_iload_n G rfl d_Cl_add_15 ?_
    refine sr_iload_n G rfl d_Cl_add_16 ?_
    refine sr_iconst G (v := 1) (by decide) d_Cl_add_17 ?_
    refine sr_iadd G d_Cl_add_18 ?_
    refine sr_iast G (vv_4 hn (by omega)) (fun _ => rfl) (by assumption) d_Cl_add_19 ?_
    refine sr_aload_n G rfl d_Cl_add_20 ?_
    refine sr_aload_n G rfl d_Cl_add_21 ?_
    refine sr_get G (vv_3 hn (by omega)) rfl ku_Cl rfl 2 (by decide) kf_Cl_23 rfl rfl d_Cl_add_22 ?_
    refine sr_iload_n G rfl d_Cl_add_25 ?_
    refine sr_max G km_Cl_27 (by decide) (Nat.le_of_ble_eq_true rfl) d_Cl_add_26 ?_
    refine sr_put G (vv_3 hn (by omega)) rfl ku_Cl rfl 2 (by decide) t_Cl ty_Cl nm_Cl kf_Cl_23 rfl rfl (ty := .int) (by decide +kernel) rfl rfl (Nat.le_of_ble_eq_true rfl) rfl d_Cl_add_29 ?_
    refine sr_aload_n G rfl d_Cl_add_32 ?_
    refine sr_dup G rfl d_Cl_add_33 ?_
    refine sr_get G (vv_3 hn (by omega)) rfl ku_Cl rfl 3 (by decide) kf_Cl_33 rfl rfl d_Cl_add_34 ?_
    refine sr_iconst G (v := 1) (by decide) d_Cl_add_37 ?_
    refine sr_iadd G d_Cl_add_38 ?_
    refine sr_put G (vv_3 hn (by omega)) rfl ku_Cl rfl 3 (by decide) t_Cl ty_Cl nm_Cl kf_Cl_33 rfl rfl (ty := .int) (by decide +kernel) rfl rfl (Nat.le_of_ble_eq_true rfl) rfl d_Cl_add_39 ?_
    refine sr_vret G d_Cl_add_42 ?_
    unfold f_Cl_add
    rw [if_neg h8]
    try rfl
def f_Cl_refusal (M : Mem) (z : Nat) (x1 : Int32) : Int32 := (if (M 3 z 1) = 0 then (if (f_Cl_howFollowed M z x1) = 1 then 0 else (-5)) else (-4))
set_option maxHeartbeats 4000000 in
set_option maxRecDepth 100000 in
theorem c_Cl_refusal {l : Launch} {D : va_G} {t6 : Nat → ClassId} {b n : Nat} (hn : 104 ≤ n) {M : Mem} {z : Nat} {x1 : Int32} (hz : z < 2) : CI l D t6 b n y_Cl_refusal cd_Cl_refusal 2 .int (rk 3 65) [.ref (ad b 3 z), .int x1] M (f_Cl_refusal M z x1) M := by
  refine en_i (by decide) (by simp [Value.category]) (Nat.le_of_ble_eq_true rfl) (fun p e s m below meth c G => ?_)
  refine sr_aload_n G rfl d_Cl_refusal_0 ?_
  refine sr_get G (vv_3 hn (by omega)) rfl ku_Cl rfl 1 (by decide) kf_Cl_36 rfl rfl d_Cl_refusal_1 ?_
  refine sr_if_eq G 10 d_Cl_refusal_4 rfl (fun h4 => ?_) (fun h4 => ?_)
  · skip
    refine sr_aload_n G rfl d_Cl_refusal_10 ?_
    refine sr_iload_n G rfl d_Cl_refusal_11 ?_
    refine sr_cvi G (vv_3 hn (by omega)) rfl rfl ki_Cl_howFollowed kx_Cl_howFollowed (c_Cl_howFollowed hn (by first | assumption | omega | decide | (unfold vp_in; decide))) kc_Cl_howFollowed km_Cl_40 kn_Cl yy_Cl_howFollowed rfl ⟨rfl, rfl, by decide, by decide⟩ (Nat.le_of_ble_eq_true rfl) rfl d_Cl_refusal_12 ?_
    refine sr_iconst G (v := 1) (by decide) d_Cl_refusal_15 ?_
    refine sr_icmp_ne G 23 d_Cl_refusal_16 rfl (fun h16 => ?_) (fun h16 => ?_)
    · skip
      refine sr_bipush G (v := (-5)) (by decide) d_Cl_refusal_23 ?_
      refine sr_iret G d_Cl_refusal_25 ?_
      unfold f_Cl_refusal
      rw [if_pos h4, if_neg h16]
      exact ⟨rfl, rfl⟩
    · skip
      refine sr_iconst G (v := 0) (by decide) d_Cl_refusal_19 ?_
      refine sr_goto G 25 d_Cl_refusal_20 rfl ?_
      refine sr_iret G d_Cl_refusal_25 ?_
      unfold f_Cl_refusal
      rw [if_pos h4, if_pos h16]
      exact ⟨rfl, rfl⟩
  · skip
    refine sr_bipush G (v := (-4)) (by decide) d_Cl_refusal_7 ?_
    refine sr_iret G d_Cl_refusal_9 ?_
    unfold f_Cl_refusal
    rw [if_neg h4]
    exact ⟨rfl, rfl⟩
def f_Cl_forgetAll (M : Mem) (z : Nat) : Mem := (u3 (u3 (u3 (fl_ M 4 z 201 0) 3 z 1 0) 3 z 2 0) 3 z 3 0)
set_option maxHeartbeats 4000000 in
set_option maxRecDepth 100000 in
theorem c_Cl_forgetAll {l : Launch} {D : va_G} {t6 : Nat → ClassId} {b n : Nat} (hn : 104 ≤ n) {M : Mem} {z : Nat} (hz : z < 2) : CV l D t6 b n y_Cl_forgetAll cd_Cl_forgetAll 1  (rk 1 23) [.ref (ad b 3 z)] M (f_Cl_forgetAll M z) := by
  refine en_v (by decide) (by simp [Value.category]) (Nat.le_of_ble_eq_true rfl) (fun p e s m below meth c G => ?_)
  refine sr_aload_n G rfl d_Cl_forgetAll_0 ?_
  refine sr_get G (vv_3 hn (by omega)) rfl ku_Cl rfl 0 (by decide) kf_Cl_9 rfl rfl d_Cl_forgetAll_1 ?_
  refine sr_iconst G (v := 0) (by decide) d_Cl_forgetAll_4 ?_
  refine sr_csv G ks_Ar_fill (c_Ar_fill (kd := 4) (len := 201) (vv_4 hn (by omega)) (fun _ => rfl) (by decide)) kc_Ar_fill km_Cl_44 kn_Ar yy_Ar_fill rfl ⟨rfl, rfl, by decide, by decide⟩ (Nat.le_of_ble_eq_true rfl) rfl d_Cl_forgetAll_5 ?_
  refine sr_aload_n G rfl d_Cl_forgetAll_8 ?_
  refine sr_iconst G (v := 0) (by decide) d_Cl_forgetAll_9 ?_
  refine sr_put G (vv_3 hn (by omega)) rfl ku_Cl rfl 1 (by decide) t_Cl ty_Cl nm_Cl kf_Cl_36 rfl rfl (ty := .boolean) (by decide +kernel) (by decide) rfl (Nat.le_of_ble_eq_true rfl) rfl d_Cl_forgetAll_10 ?_
  refine sr_aload_n G rfl d_Cl_forgetAll_13 ?_
  refine sr_iconst G (v := 0) (by decide) d_Cl_forgetAll_14 ?_
  refine sr_put G (vv_3 hn (by omega)) rfl ku_Cl rfl 2 (by decide) t_Cl ty_Cl nm_Cl kf_Cl_23 rfl rfl (ty := .int) (by decide +kernel) rfl rfl (Nat.le_of_ble_eq_true rfl) rfl d_Cl_forgetAll_15 ?_
  refine sr_aload_n G rfl d_Cl_forgetAll_18 ?_
  refine sr_iconst G (v := 0) (by decide) d_Cl_forgetAll_19 ?_
  refine sr_put G (vv_3 hn (by omega)) rfl ku_Cl rfl 3 (by decide) t_Cl ty_Cl nm_Cl kf_Cl_33 rfl rfl (ty := .int) (by decide +kernel) rfl rfl (Nat.le_of_ble_eq_true rfl) rfl d_Cl_forgetAll_20 ?_
  refine sr_vret G d_Cl_forgetAll_23 ?_
  unfold f_Cl_forgetAll
  rfl
def f_Le_beginAnew (M : Mem) (z : Nat) : Mem := (u3 (f_Cl_forgetAll (fl_ M 2 z 4 1000) z) 1 z 2 0)
set_option maxHeartbeats 4000000 in
set_option maxRecDepth 100000 in
theorem c_Le_beginAnew {l : Launch} {D : va_G} {t6 : Nat → ClassId} {b n : Nat} (hn : 104 ≤ n) {M : Mem} {z : Nat} (hz : z < 2) : CV l D t6 b n y_Le_beginAnew cd_Le_beginAnew 1  (rk 2 43) [.ref (ad b 1 z)] M (f_Le_beginAnew M z) := by
  refine en_v (by decide) (by simp [Value.category]) (Nat.le_of_ble_eq_true rfl) (fun p e s m below meth c G => ?_)
  refine sr_aload_n G rfl d_Le_beginAnew_0 ?_
  refine sr_get G (vv_1 hn (by omega)) rfl ku_Le rfl 0 (by decide) kf_Le_9 rfl rfl d_Le_beginAnew_1 ?_
  refine sr_sipush G (v := 1000) (by decide) d_Le_beginAnew_4 ?_
  refine sr_csv G ks_Ar_fill (c_Ar_fill (kd := 2) (len := 4) (vv_2 hn (by omega)) (fun _ => rfl) (by decide)) kc_Ar_fill km_Le_22 kn_Ar yy_Ar_fill rfl ⟨rfl, rfl, by decide, by decide⟩ (Nat.le_of_ble_eq_true rfl) rfl d_Le_beginAnew_7 ?_
  refine sr_aload_n G rfl d_Le_beginAnew_10 ?_
  refine sr_get G (vv_1 hn (by omega)) rfl ku_Le rfl 1 (by decide) kf_Le_18 rfl rfl d_Le_beginAnew_11 ?_
  refine sr_cvNv G (vv_3 hn (by omega)) rfl rfl ki_Cl_forgetAll kx_Cl_forgetAll (c_Cl_forgetAll hn (by first | assumption | omega | decide | (unfold vp_in; decide))) kc_Cl_forgetAll km_Le_28 kn_Cl yy_Cl_forgetAll rfl ⟨rfl, rfl, by decide, by decide⟩ (Nat.le_of_ble_eq_true rfl) rfl d_Le_beginAnew_14 ?_
  refine sr_aload_n G rfl d_Le_beginAnew_17 ?_
  refine sr_iconst G (v := 0) (by decide) d_Le_beginAnew_18 ?_
  refine sr_put G (vv_1 hn (by omega)) rfl ku_Le rfl 2 (by decide) t_Le ty_Le nm_Le kf_Le_31 rfl rfl (ty := .int) (by decide +kernel) rfl rfl (Nat.le_of_ble_eq_true rfl) rfl d_Le_beginAnew_19 ?_
  refine sr_vret G d_Le_beginAnew_22 ?_
  unfold f_Le_beginAnew
  rfl
def f_En_comeTo (M : Mem) (z : Nat) (x1 : Int32) (x2 : Int32) : Mem := (if (f_B_isWithin x1 1 4) = 0 then M else (u3 (u3 M 6 z 2 x1) 7 z (Int32.toNatClampNeg x1) x2))
set_option maxHeartbeats 4000000 in
set_option maxRecDepth 100000 in
theorem c_En_comeTo {l : Launch} {D : va_G} {t6 : Nat → ClassId} {b n : Nat} (hn : 104 ≤ n) {M : Mem} {z : Nat} {x1 : Int32} {x2 : Int32} (hz : z < 8) : CV l D t6 b n y_En_comeTo cd_En_comeTo 3  (rk 1 22) [.ref (ad b 6 z), .int x1, .int x2] M (f_En_comeTo M z x1 x2) := by
  refine en_v (by decide) (by simp [Value.category]) (Nat.le_of_ble_eq_true rfl) (fun p e s m below meth c G => ?_)
  refine sr_iload_n G rfl d_En_comeTo_0 ?_
  refine sr_iconst G (v := 1) (by decide) d_En_comeTo_1 ?_
  refine sr_iconst G (v := 4) (by decide) d_En_comeTo_2 ?_
  refine sr_csNi G ks_B_isWithin (c_B_isWithin) kc_B_isWithin km_En_18 kn_B yy_B_isWithin rfl ⟨rfl, rfl, by decide, by decide⟩ (Nat.le_of_ble_eq_true rfl) rfl d_En_comeTo_3 ?_
  refine sr_if_eq G 21 d_En_comeTo_6 rfl (fun h6 => ?_) (fun h6 => ?_)
  · skip
    refine sr_vret G d_En_comeTo_21 ?_
    unfold f_En_comeTo
    rw [if_pos h6]
    try rfl
  · skip
    have v6 : vp_in x1 5 := in_wi (lo := 1) (hi := 4) (by decide) (by decide) h6
    have i6 := ix_lt v6
    refine sr_aload_n G rfl d_En_comeTo_9 ?_
    refine sr_iload_n G rfl d_En_comeTo_10 ?_
    refine sr_put G (vv_6 hn (by omega)) rfl ku_En rfl 2 (by decide) t_En ty_En nm_En kf_En_22 rfl rfl (ty := .int) (by decide +kernel) rfl rfl (Nat.le_of_ble_eq_true rfl) rfl d_En_comeTo_11 ?_
    refine sr_aload_n G rfl d_En_comeTo_14 ?_
    refine sr_get G (vv_6 hn (by omega)) rfl ku_En rfl 0 (by decide) kf_En_9 rfl rfl d_En_comeTo_15 ?_
    refine sr_iload_n G rfl d_En_comeTo_18 ?_
    refine sr_iload_n G rfl d_En_comeTo_19 ?_
    refine sr_iast G (vv_7 hn (by omega)) (fun _ => rfl) (by assumption) d_En_comeTo_20 ?_
    refine sr_vret G d_En_comeTo_21 ?_
    unfold f_En_comeTo
    rw [if_neg h6]
    try rfl
def f_En_stepIn (M : Mem) (z : Nat) (x1 : Int32) : Int32 := (if x1 ≤ (M 7 z (Int32.toNatClampNeg 4)) then (if x1 ≤ (M 7 z (Int32.toNatClampNeg 3)) then (if x1 ≤ (M 7 z (Int32.toNatClampNeg 2)) then (if x1 ≤ (M 7 z (Int32.toNatClampNeg 1)) then 0 else 1) else 2) else 3) else 4)
set_option maxHeartbeats 4000000 in
set_option maxRecDepth 100000 in
theorem c_En_stepIn {l : Launch} {D : va_G} {t6 : Nat → ClassId} {b n : Nat} (hn : 104 ≤ n) {M : Mem} {z : Nat} {x1 : Int32} (hz : z < 8) : CI l D t6 b n y_En_stepIn cd_En_stepIn 3 .int (rk 0 0) [.ref (ad b 6 z), .int x1] M (f_En_stepIn M z x1) M := by
  refine en_i (by decide) (by simp [Value.category]) (Nat.le_of_ble_eq_true rfl) (fun p e s m below meth c G => ?_)
  refine sr_iconst G (v := 4) (by decide) d_En_stepIn_0 ?_
  refine sr_istore_n G (by decide) d_En_stepIn_1 ?_
  refine sr_iload_n G rfl d_En_stepIn_2 ?_
  refine sr_if_le G 24 d_En_stepIn_3 rfl (fun h => absurd h (by decide)) (fun _ => ?_)
  refine sr_aload_n G rfl d_En_stepIn_6 ?_
  refine sr_get G (vv_6 hn (by omega)) rfl ku_En rfl 0 (by decide) kf_En_9 rfl rfl d_En_stepIn_7 ?_
  refine sr_iload_n G rfl d_En_stepIn_10 ?_
  refine sr_iald G (vv_7 hn (by omega)) rfl (by unfold vp_in; decide) d_En_stepIn_11 ?_
  refine sr_iload_n G rfl d_En_stepIn_12 ?_
  refine sr_icmp_ge G 18 d_En_stepIn_13 rfl (fun h13 => ?_) (fun h13 => ?_)
  · skip
    refine sr_iinc G (v := 3) rfl (by decide) (by decide) d_En_stepIn_18 ?_
    refine sr_goto G 2 d_En_stepIn_21 rfl ?_
    refine sr_iload_n G rfl d_En_stepIn_2 ?_
    refine sr_if_le G 24 d_En_stepIn_3 rfl (fun h => absurd h (by decide)) (fun _ => ?_)
    refine sr_aload_n G rfl d_En_stepIn_6 ?_
    refine sr_get G (vv_6 hn (by omega)) rfl ku_En rfl 0 (by decide) kf_En_9 rfl rfl d_En_stepIn_7 ?_
    refine sr_iload_n G rfl d_En_stepIn_10 ?_
    refine sr_iald G (vv_7 hn (by omega)) rfl (by unfold vp_in; decide) d_En_stepIn_11 ?_
    refine sr_iload_n G rfl d_En_stepIn_12 ?_
    refine sr_icmp_ge G 18 d_En_stepIn_13 rfl (fun h13_2 => ?_) (fun h13_2 => ?_)
    · skip
      refine sr_iinc G (v := 2) rfl (by decide) (by decide) d_En_stepIn_18 ?_
      refine sr_goto G 2 d_En_stepIn_21 rfl ?_
      refine sr_iload_n G rfl d_En_stepIn_2 ?_
      refine sr_if_le G 24 d_En_stepIn_3 rfl (fun h => absurd h (by decide)) (fun _ => ?_)
      refine sr_aload_n G rfl d_En_stepIn_6 ?_
      refine sr_get G (vv_6 hn (by omega)) rfl ku_En rfl 0 (by decide) kf_En_9 rfl rfl d_En_stepIn_7 ?_
      refine sr_iload_n G rfl d_En_stepIn_10 ?_
      refine sr_iald G (vv_7 hn (by omega)) rfl (by unfold vp_in; decide) d_En_stepIn_11 ?_
      refine sr_iload_n G rfl d_En_stepIn_12 ?_
      refine sr_icmp_ge G 18 d_En_stepIn_13 rfl (fun h13_3 => ?_) (fun h13_3 => ?_)
      · skip
        refine sr_iinc G (v := 1) rfl (by decide) (by decide) d_En_stepIn_18 ?_
        refine sr_goto G 2 d_En_stepIn_21 rfl ?_
        refine sr_iload_n G rfl d_En_stepIn_2 ?_
        refine sr_if_le G 24 d_En_stepIn_3 rfl (fun h => absurd h (by decide)) (fun _ => ?_)
        refine sr_aload_n G rfl d_En_stepIn_6 ?_
        refine sr_get G (vv_6 hn (by omega)) rfl ku_En rfl 0 (by decide) kf_En_9 rfl rfl d_En_stepIn_7 ?_
        refine sr_iload_n G rfl d_En_stepIn_10 ?_
        refine sr_iald G (vv_7 hn (by omega)) rfl (by unfold vp_in; decide) d_En_stepIn_11 ?_
        refine sr_iload_n G rfl d_En_stepIn_12 ?_
        refine sr_icmp_ge G 18 d_En_stepIn_13 rfl (fun h13_4 => ?_) (fun h13_4 => ?_)
        · skip
          refine sr_iinc G (v := 0) rfl (by decide) (by decide) d_En_stepIn_18 ?_
          refine sr_goto G 2 d_En_stepIn_21 rfl ?_
          refine sr_iload_n G rfl d_En_stepIn_2 ?_
          refine sr_if_le G 24 d_En_stepIn_3 rfl (fun _ => ?_) (fun h => absurd (by decide) h)
          refine sr_iconst G (v := 0) (by decide) d_En_stepIn_24 ?_
          refine sr_iret G d_En_stepIn_25 ?_
          unfold f_En_stepIn
          rw [if_pos h13, if_pos h13_2, if_pos h13_3, if_pos h13_4]
          exact ⟨rfl, rfl⟩
        · skip
          refine sr_iload_n G rfl d_En_stepIn_16 ?_
          refine sr_iret G d_En_stepIn_17 ?_
          unfold f_En_stepIn
          rw [if_pos h13, if_pos h13_2, if_pos h13_3, if_neg h13_4]
          exact ⟨rfl, rfl⟩
      · skip
        refine sr_iload_n G rfl d_En_stepIn_16 ?_
        refine sr_iret G d_En_stepIn_17 ?_
        unfold f_En_stepIn
        rw [if_pos h13, if_pos h13_2, if_neg h13_3]
        exact ⟨rfl, rfl⟩
    · skip
      refine sr_iload_n G rfl d_En_stepIn_16 ?_
      refine sr_iret G d_En_stepIn_17 ?_
      unfold f_En_stepIn
      rw [if_pos h13, if_neg h13_2]
      exact ⟨rfl, rfl⟩
  · skip
    refine sr_iload_n G rfl d_En_stepIn_16 ?_
    refine sr_iret G d_En_stepIn_17 ?_
    unfold f_En_stepIn
    rw [if_neg h13]
    exact ⟨rfl, rfl⟩
def f_En_beginAnew (M : Mem) (z : Nat) : Mem := (u3 (u3 (u3 (u3 (u3 (u3 (fl_ (fl_ M 7 z 5 201) 8 z 4 0) 6 z 2 0) 6 z 3 0) 6 z 4 0) 6 z 5 0) 6 z 6 0) 6 z 7 0)
set_option maxHeartbeats 4000000 in
set_option maxRecDepth 100000 in
theorem c_En_beginAnew {l : Launch} {D : va_G} {t6 : Nat → ClassId} {b n : Nat} (hn : 104 ≤ n) {M : Mem} {z : Nat} (hz : z < 8) : CV l D t6 b n y_En_beginAnew cd_En_beginAnew 1  (rk 1 23) [.ref (ad b 6 z)] M (f_En_beginAnew M z) := by
  refine en_v (by decide) (by simp [Value.category]) (Nat.le_of_ble_eq_true rfl) (fun p e s m below meth c G => ?_)
  refine sr_aload_n G rfl d_En_beginAnew_0 ?_
  refine sr_get G (vv_6 hn (by omega)) rfl ku_En rfl 0 (by decide) kf_En_9 rfl rfl d_En_beginAnew_1 ?_
  refine sr_sipush G (v := 201) (by decide) d_En_beginAnew_4 ?_
  refine sr_csv G ks_Ar_fill (c_Ar_fill (kd := 7) (len := 5) (vv_7 hn (by omega)) (fun _ => rfl) (by decide)) kc_Ar_fill km_En_26 kn_Ar yy_Ar_fill rfl ⟨rfl, rfl, by decide, by decide⟩ (Nat.le_of_ble_eq_true rfl) rfl d_En_beginAnew_7 ?_
  refine sr_aload_n G rfl d_En_beginAnew_10 ?_
  refine sr_get G (vv_6 hn (by omega)) rfl ku_En rfl 1 (by decide) kf_En_15 rfl rfl d_En_beginAnew_11 ?_
  refine sr_iconst G (v := 0) (by decide) d_En_beginAnew_14 ?_
  refine sr_csv G ks_Ar_fill (c_Ar_fill (kd := 8) (len := 4) (vv_8 hn (by omega)) (fun _ => rfl) (by decide)) kc_Ar_fill km_En_26 kn_Ar yy_Ar_fill rfl ⟨rfl, rfl, by decide, by decide⟩ (Nat.le_of_ble_eq_true rfl) rfl d_En_beginAnew_15 ?_
  refine sr_aload_n G rfl d_En_beginAnew_18 ?_
  refine sr_iconst G (v := 0) (by decide) d_En_beginAnew_19 ?_
  refine sr_put G (vv_6 hn (by omega)) rfl ku_En rfl 2 (by decide) t_En ty_En nm_En kf_En_22 rfl rfl (ty := .int) (by decide +kernel) rfl rfl (Nat.le_of_ble_eq_true rfl) rfl d_En_beginAnew_20 ?_
  refine sr_aload_n G rfl d_En_beginAnew_23 ?_
  refine sr_iconst G (v := 0) (by decide) d_En_beginAnew_24 ?_
  refine sr_put G (vv_6 hn (by omega)) rfl ku_En rfl 3 (by decide) t_En ty_En nm_En kf_En_32 rfl rfl (ty := .int) (by decide +kernel) rfl rfl (Nat.le_of_ble_eq_true rfl) rfl d_En_beginAnew_25 ?_
  refine sr_aload_n G rfl d_En_beginAnew_28 ?_
  refine sr_iconst G (v := 0) (by decide) d_En_beginAnew_29 ?_
  refine sr_put G (vv_6 hn (by omega)) rfl ku_En rfl 4 (by decide) t_En ty_En nm_En kf_En_35 rfl rfl (ty := .int) (by decide +kernel) rfl rfl (Nat.le_of_ble_eq_true rfl) rfl d_En_beginAnew_30 ?_
  refine sr_aload_n G rfl d_En_beginAnew_33 ?_
  refine sr_iconst G (v := 0) (by decide) d_En_beginAnew_34 ?_
  refine sr_put G (vv_6 hn (by omega)) rfl ku_En rfl 5 (by decide) t_En ty_En nm_En kf_En_38 rfl rfl (ty := .int) (by decide +kernel) rfl rfl (Nat.le_of_ble_eq_true rfl) rfl d_En_beginAnew_35 ?_
  refine sr_aload_n G rfl d_En_beginAnew_38 ?_
  refine sr_iconst G (v := 0) (by decide) d_En_beginAnew_39 ?_
  refine sr_put G (vv_6 hn (by omega)) rfl ku_En rfl 6 (by decide) t_En ty_En nm_En kf_En_41 rfl rfl (ty := .int) (by decide +kernel) rfl rfl (Nat.le_of_ble_eq_true rfl) rfl d_En_beginAnew_40 ?_
  refine sr_aload_n G rfl d_En_beginAnew_43 ?_
  refine sr_iconst G (v := 0) (by decide) d_En_beginAnew_44 ?_
  refine sr_put G (vv_6 hn (by omega)) rfl ku_En rfl 7 (by decide) t_En ty_En nm_En kf_En_44 rfl rfl (ty := .int) (by decide +kernel) rfl rfl (Nat.le_of_ble_eq_true rfl) rfl d_En_beginAnew_45 ?_
  refine sr_vret G d_En_beginAnew_48 ?_
  unfold f_En_beginAnew
  rfl
def f_Me_beginToStand (M : Mem) (z : Nat) (x1 : Int32) : Mem := (u3 (u3 (u3 (u3 (u3 (u3 M 9 z 8 1) 9 z 9 0) 9 z 10 0) 9 z 11 x1) 9 z 12 201) 9 z 13 201)
set_option maxHeartbeats 4000000 in
set_option maxRecDepth 100000 in
theorem c_Me_beginToStand {l : Launch} {D : va_G} {t6 : Nat → ClassId} {b n : Nat} (hn : 104 ≤ n) {M : Mem} {z : Nat} {x1 : Int32} (hz : z < 60) : CV l D t6 b n y_Me_beginToStand cd_Me_beginToStand 2  (rk 0 0) [.ref (ad b 9 z), .int x1] M (f_Me_beginToStand M z x1) := by
  refine en_v (by decide) (by simp [Value.category]) (Nat.le_of_ble_eq_true rfl) (fun p e s m below meth c G => ?_)
  refine sr_aload_n G rfl d_Me_beginToStand_0 ?_
  refine sr_iconst G (v := 1) (by decide) d_Me_beginToStand_1 ?_
  refine sr_put G (vv_9 hn (by omega)) rfl ku_Me rfl 8 (by decide) t_Me ty_Me nm_Me kf_Me_9 rfl rfl (ty := .boolean) (by decide +kernel) (by decide) rfl (Nat.le_of_ble_eq_true rfl) rfl d_Me_beginToStand_2 ?_
  refine sr_aload_n G rfl d_Me_beginToStand_5 ?_
  refine sr_iconst G (v := 0) (by decide) d_Me_beginToStand_6 ?_
  refine sr_put G (vv_9 hn (by omega)) rfl ku_Me rfl 9 (by decide) t_Me ty_Me nm_Me kf_Me_15 rfl rfl (ty := .boolean) (by decide +kernel) (by decide) rfl (Nat.le_of_ble_eq_true rfl) rfl d_Me_beginToStand_7 ?_
  refine sr_aload_n G rfl d_Me_beginToStand_10 ?_
  refine sr_iconst G (v := 0) (by decide) d_Me_beginToStand_11 ?_
  refine sr_put G (vv_9 hn (by omega)) rfl ku_Me rfl 10 (by decide) t_Me ty_Me nm_Me kf_Me_18 rfl rfl (ty := .int) (by decide +kernel) rfl rfl (Nat.le_of_ble_eq_true rfl) rfl d_Me_beginToStand_12 ?_
  refine sr_aload_n G rfl d_Me_beginToStand_15 ?_
  refine sr_iload_n G rfl d_Me_beginToStand_16 ?_
  refine sr_put G (vv_9 hn (by omega)) rfl ku_Me rfl 11 (by decide) t_Me ty_Me nm_Me kf_Me_22 rfl rfl (ty := .int) (by decide +kernel) rfl rfl (Nat.le_of_ble_eq_true rfl) rfl d_Me_beginToStand_17 ?_
  refine sr_aload_n G rfl d_Me_beginToStand_20 ?_
  refine sr_sipush G (v := 201) (by decide) d_Me_beginToStand_21 ?_
  refine sr_put G (vv_9 hn (by omega)) rfl ku_Me rfl 12 (by decide) t_Me ty_Me nm_Me kf_Me_25 rfl rfl (ty := .int) (by decide +kernel) rfl rfl (Nat.le_of_ble_eq_true rfl) rfl d_Me_beginToStand_24 ?_
  refine sr_aload_n G rfl d_Me_beginToStand_27 ?_
  refine sr_sipush G (v := 201) (by decide) d_Me_beginToStand_28 ?_
  refine sr_put G (vv_9 hn (by omega)) rfl ku_Me rfl 13 (by decide) t_Me ty_Me nm_Me kf_Me_28 rfl rfl (ty := .int) (by decide +kernel) rfl rfl (Nat.le_of_ble_eq_true rfl) rfl d_Me_beginToStand_31 ?_
  refine sr_vret G d_Me_beginToStand_34 ?_
  unfold f_Me_beginToStand
  rfl
def f_Me_isOfSameEnd (M : Mem) (z : Nat) (x1 : Nat) : Int32 := (if (M 9 z 0) = (M 9 x1 0) then (if (M 9 z 1) = (M 9 x1 1) then 1 else 0) else 0)
set_option maxHeartbeats 4000000 in
set_option maxRecDepth 100000 in
theorem c_Me_isOfSameEnd {l : Launch} {D : va_G} {t6 : Nat → ClassId} {b n : Nat} (hn : 104 ≤ n) {M : Mem} {z : Nat} {x1 : Nat} (hz : z < 60) (hy : x1 < 60) : CI l D t6 b n y_Me_isOfSameEnd cd_Me_isOfSameEnd 2 .boolean (rk 0 0) [.ref (ad b 9 z), .ref (ad b 9 x1)] M (f_Me_isOfSameEnd M z x1) M := by
  refine en_i (by decide) (by simp [Value.category]) (Nat.le_of_ble_eq_true rfl) (fun p e s m below meth c G => ?_)
  refine sr_aload_n G rfl d_Me_isOfSameEnd_0 ?_
  refine sr_get G (vv_9 hn (by omega)) rfl ku_Me rfl 0 (by decide) kf_Me_31 rfl rfl d_Me_isOfSameEnd_1 ?_
  refine sr_aload_n G rfl d_Me_isOfSameEnd_4 ?_
  refine sr_get G (vv_9 hn (by omega)) rfl ku_Me rfl 0 (by decide) kf_Me_31 rfl rfl d_Me_isOfSameEnd_5 ?_
  refine sr_icmp_ne G 26 d_Me_isOfSameEnd_8 rfl (fun h8 => ?_) (fun h8 => ?_)
  · skip
    refine sr_iconst G (v := 0) (by decide) d_Me_isOfSameEnd_26 ?_
    refine sr_zret G (by decide) d_Me_isOfSameEnd_27 ?_
    unfold f_Me_isOfSameEnd
    rw [if_neg h8]
    exact ⟨rfl, rfl⟩
  · skip
    refine sr_aload_n G rfl d_Me_isOfSameEnd_11 ?_
    refine sr_get G (vv_9 hn (by omega)) rfl ku_Me rfl 1 (by decide) kf_Me_34 rfl rfl d_Me_isOfSameEnd_12 ?_
    refine sr_aload_n G rfl d_Me_isOfSameEnd_15 ?_
    refine sr_get G (vv_9 hn (by omega)) rfl ku_Me rfl 1 (by decide) kf_Me_34 rfl rfl d_Me_isOfSameEnd_16 ?_
    refine sr_icmp_ne G 26 d_Me_isOfSameEnd_19 rfl (fun h19 => ?_) (fun h19 => ?_)
    · skip
      refine sr_iconst G (v := 0) (by decide) d_Me_isOfSameEnd_26 ?_
      refine sr_zret G (by decide) d_Me_isOfSameEnd_27 ?_
      unfold f_Me_isOfSameEnd
      rw [if_pos h8, if_neg h19]
      exact ⟨rfl, rfl⟩
    · skip
      refine sr_iconst G (v := 1) (by decide) d_Me_isOfSameEnd_22 ?_
      refine sr_goto G 27 d_Me_isOfSameEnd_23 rfl ?_
      refine sr_zret G (by decide) d_Me_isOfSameEnd_27 ?_
      unfold f_Me_isOfSameEnd
      rw [if_pos h8, if_pos h19]
      exact ⟨rfl, rfl⟩
def f_Me_standsIn (M : Mem) (z : Nat) (x1 : Int32) : Int32 := (if x1 ≤ (M 9 z 11) then 0 else (if (M 9 z 12) < x1 then 0 else 1))
set_option maxHeartbeats 4000000 in
set_option maxRecDepth 100000 in
theorem c_Me_standsIn {l : Launch} {D : va_G} {t6 : Nat → ClassId} {b n : Nat} (hn : 104 ≤ n) {M : Mem} {z : Nat} {x1 : Int32} (hz : z < 60) : CI l D t6 b n y_Me_standsIn cd_Me_standsIn 2 .boolean (rk 0 0) [.ref (ad b 9 z), .int x1] M (f_Me_standsIn M z x1) M := by
  refine en_i (by decide) (by simp [Value.category]) (Nat.le_of_ble_eq_true rfl) (fun p e s m below meth c G => ?_)
  refine sr_aload_n G rfl d_Me_standsIn_0 ?_
  refine sr_get G (vv_9 hn (by omega)) rfl ku_Me rfl 11 (by decide) kf_Me_22 rfl rfl d_Me_standsIn_1 ?_
  refine sr_iload_n G rfl d_Me_standsIn_4 ?_
  refine sr_icmp_ge G 20 d_Me_standsIn_5 rfl (fun h5 => ?_) (fun h5 => ?_)
  · skip
    refine sr_iconst G (v := 0) (by decide) d_Me_standsIn_20 ?_
    refine sr_zret G (by decide) d_Me_standsIn_21 ?_
    unfold f_Me_standsIn
    rw [if_pos h5]
    exact ⟨rfl, rfl⟩
  · skip
    refine sr_iload_n G rfl d_Me_standsIn_8 ?_
    refine sr_aload_n G rfl d_Me_standsIn_9 ?_
    refine sr_get G (vv_9 hn (by omega)) rfl ku_Me rfl 12 (by decide) kf_Me_25 rfl rfl d_Me_standsIn_10 ?_
    refine sr_icmp_gt G 20 d_Me_standsIn_13 rfl (fun h13 => ?_) (fun h13 => ?_)
    · skip
      refine sr_iconst G (v := 0) (by decide) d_Me_standsIn_20 ?_
      refine sr_zret G (by decide) d_Me_standsIn_21 ?_
      unfold f_Me_standsIn
      rw [if_neg h5, if_pos h13]
      exact ⟨rfl, rfl⟩
    · skip
      refine sr_iconst G (v := 1) (by decide) d_Me_standsIn_16 ?_
      refine sr_goto G 21 d_Me_standsIn_17 rfl ?_
      refine sr_zret G (by decide) d_Me_standsIn_21 ?_
      unfold f_Me_standsIn
      rw [if_neg h5, if_neg h13]
      exact ⟨rfl, rfl⟩
def f_Me_isReceivedIn (M : Mem) (z : Nat) (x1 : Int32) : Int32 := (if x1 ≤ (M 9 z 13) then 0 else 1)
set_option maxHeartbeats 4000000 in
set_option maxRecDepth 100000 in
theorem c_Me_isReceivedIn {l : Launch} {D : va_G} {t6 : Nat → ClassId} {b n : Nat} (hn : 104 ≤ n) {M : Mem} {z : Nat} {x1 : Int32} (hz : z < 60) : CI l D t6 b n y_Me_isReceivedIn cd_Me_isReceivedIn 2 .boolean (rk 0 0) [.ref (ad b 9 z), .int x1] M (f_Me_isReceivedIn M z x1) M := by
  refine en_i (by decide) (by simp [Value.category]) (Nat.le_of_ble_eq_true rfl) (fun p e s m below meth c G => ?_)
  refine sr_aload_n G rfl d_Me_isReceivedIn_0 ?_
  refine sr_get G (vv_9 hn (by omega)) rfl ku_Me rfl 13 (by decide) kf_Me_28 rfl rfl d_Me_isReceivedIn_1 ?_
  refine sr_iload_n G rfl d_Me_isReceivedIn_4 ?_
  refine sr_icmp_ge G 12 d_Me_isReceivedIn_5 rfl (fun h5 => ?_) (fun h5 => ?_)
  · skip
    refine sr_iconst G (v := 0) (by decide) d_Me_isReceivedIn_12 ?_
    refine sr_zret G (by decide) d_Me_isReceivedIn_13 ?_
    unfold f_Me_isReceivedIn
    rw [if_pos h5]
    exact ⟨rfl, rfl⟩
  · skip
    refine sr_iconst G (v := 1) (by decide) d_Me_isReceivedIn_8 ?_
    refine sr_goto G 13 d_Me_isReceivedIn_9 rfl ?_
    refine sr_zret G (by decide) d_Me_isReceivedIn_13 ?_
    unfold f_Me_isReceivedIn
    rw [if_neg h5]
    exact ⟨rfl, rfl⟩
