theorem ci_fin {M : Mem} {i : Nat} (h : ci_ M) : ci_ (f_B_finish M i) := by
  unfold f_B_finish
  exact ci_u3 (ci_u3 h _ (by decide) (by decide) (by decide)) _ (by decide) (by decide) (by decide)
theorem ci_go {M : Mem} {a b c d e : Int32} (h : ci_ M) : ci_ (f_B_giveOut M a b c d e) := by
  unfold f_B_giveOut
  split
  · exact ci_u3 (ci_u3 h _ (by omega) (by omega) (by omega)) _ (by omega) (by omega) (by omega)
  · exact ci_u3 h _ (by omega) (by omega) (by omega)
theorem ci_gb {M : Mem} {i : Nat} (h : ci_ M) : ci_ (f_B_giveBack M i) := by
  unfold f_B_giveBack
  exact ci_u3 (ci_go h) _ (by decide) (by decide) (by decide)
theorem tk_mc (M : Mem) (a b c d e : Int32) : f_B_takeIn M a b c d e 0 0 4 = M 0 0 4 := by
  unfold f_B_takeIn
  split <;> simp [u3]
theorem in_l60 {M : Mem} (hI : ci_ M) (h : M 0 0 4 < 60) : vp_in (M 0 0 4) 60 := by
  obtain ⟨e, hk⟩ := ci_ml hI
  rw [e] at h ⊢
  have h2 := (nI_ltI (by omega) (show 60 < 2 ^ 31 by decide)).mp h
  exact vp_in_nI h2 (by decide)
theorem in_l4 {M : Mem} (hI : ci_ M) (h : M 0 0 3 < 4) : vp_in (M 0 0 3) 4 := by
  obtain ⟨e, hk⟩ := ci_cl hI
  rw [e] at h ⊢
  have h2 := (nI_ltI (by omega) (show 4 < 2 ^ 31 by decide)).mp h
  exact vp_in_nI h2 (by decide)
def f_B_tick (M : Mem) (x1 : Int32) : Int32 × Mem := (if (f_B_isSide x1) = 0 then ((-1), M) else (if (M 1 (Int32.toNatClampNeg x1) 2) < 200 then (((u3 M 1 (Int32.toNatClampNeg x1) 2 ((M 1 (Int32.toNatClampNeg x1) 2) + 1)) 1 (Int32.toNatClampNeg x1) 2), (u3 M 1 (Int32.toNatClampNeg x1) 2 ((M 1 (Int32.toNatClampNeg x1) 2) + 1))) else ((-10), M)))
set_option maxHeartbeats 4000000 in
set_option maxRecDepth 100000 in
theorem c_B_tick {l : Launch} {D : va_G} {t6 : Nat → ClassId} {b n : Nat} (hn : 104 ≤ n) {M : Mem} {x1 : Int32} : CI l D t6 b n y_B_tick cd_B_tick 3 .int (rk 2 42) [.ref (ad b 0 0), .int x1] M (f_B_tick M x1).1 (f_B_tick M x1).2 := by
  refine en_i (by decide) (by simp [Value.category]) (Nat.le_of_ble_eq_true rfl) (fun p e s m below meth c G => ?_)
  refine sr_iload_n G rfl d_B_tick_0 ?_
  refine sr_csi G ks_B_isSide (c_B_isSide) kc_B_isSide km_B_33 kn_B yy_B_isSide rfl ⟨rfl, rfl, by decide, by decide⟩ (Nat.le_of_ble_eq_true rfl) rfl d_B_tick_1 ?_
  refine sr_if_ne G 9 d_B_tick_4 rfl (fun h4 => ?_) (fun h4 => ?_)
  · skip
    have v4 : vp_in x1 2 := in_wi (lo := 0) (hi := 1) (by decide) (by decide) h4
    have i4 := ix_lt v4
    have w4 := in_1 v4
    have j4 := ix_lt w4
    refine sr_aload_n G rfl d_B_tick_9 ?_
    refine sr_get G (vv_0 hn) rfl ku_B rfl 0 (by decide) kf_B_11 rfl rfl d_B_tick_10 ?_
    refine sr_iload_n G rfl d_B_tick_13 ?_
    refine sr_aald G (vv_10 hn) rfl rfl (by assumption) d_B_tick_14 ?_
    refine sr_astore_n G (by decide) d_B_tick_15 ?_
    refine sr_aload_n G rfl d_B_tick_16 ?_
    refine sr_getN G (vv_1 hn (by omega)) rfl ku_Le rfl 2 (by decide) kf_B_37 rfl rfl d_B_tick_17 ?_
    refine sr_sipush G (v := 200) (by decide) d_B_tick_20 ?_
    refine sr_icmp_lt G 29 d_B_tick_23 rfl (fun h23 => ?_) (fun h23 => ?_)
    · skip
      refine sr_aload_n G rfl d_B_tick_29 ?_
      refine sr_dup G rfl d_B_tick_30 ?_
      refine sr_getN G (vv_1 hn (by omega)) rfl ku_Le rfl 2 (by decide) kf_B_37 rfl rfl d_B_tick_31 ?_
      refine sr_iconst G (v := 1) (by decide) d_B_tick_34 ?_
      refine sr_iadd G d_B_tick_35 ?_
      refine sr_putN G (vv_1 hn (by omega)) rfl ku_Le rfl 2 (by decide) t_Le ty_Le nm_Le kf_B_37 rfl rfl (ty := .int) (by decide +kernel) rfl rfl (Nat.le_of_ble_eq_true rfl) rfl d_B_tick_36 ?_
      refine sr_aload_n G rfl d_B_tick_39 ?_
      refine sr_getN G (vv_1 hn (by omega)) rfl ku_Le rfl 2 (by decide) kf_B_37 rfl rfl d_B_tick_40 ?_
      refine sr_iret G d_B_tick_43 ?_
      unfold f_B_tick
      rw [if_neg h4, if_pos h23]
      exact ⟨rfl, rfl⟩
    · skip
      refine sr_bipush G (v := (-10)) (by decide) d_B_tick_26 ?_
      refine sr_iret G d_B_tick_28 ?_
      unfold f_B_tick
      rw [if_neg h4, if_neg h23]
      exact ⟨rfl, rfl⟩
  · skip
    refine sr_iconst G (v := (-1)) (by decide) d_B_tick_7 ?_
    refine sr_iret G d_B_tick_8 ?_
    unfold f_B_tick
    rw [if_pos h4]
    exact ⟨rfl, rfl⟩
def f_B_follow (M : Mem) (x1 : Int32) (x2 : Int32) (x3 : Int32) : Int32 × Mem := (if (f_B_isSide x1) = 0 then ((-1), M) else (if (f_B_isWithin x2 1 (M 1 (Int32.toNatClampNeg (1 - x1)) 2)) = 0 then ((-2), M) else (if (f_B_isWithin x3 0 9) = 0 then ((-2), M) else (if (f_Cl_howFollowed M (Int32.toNatClampNeg x1) x2) = 0 then (if (M 3 (Int32.toNatClampNeg x1) 1) = 0 then (1, (f_Cl_add M (Int32.toNatClampNeg x1) x2 x3)) else ((-4), M)) else (if (f_Cl_isToldMark M (Int32.toNatClampNeg x1) x2 x3) = 0 then (if (M 3 (Int32.toNatClampNeg x1) 1) = 0 then (2, (u3 M 3 (Int32.toNatClampNeg x1) 1 1)) else ((-4), M)) else ((-3), M))))))
set_option maxHeartbeats 4000000 in
set_option maxRecDepth 100000 in
theorem c_B_follow {l : Launch} {D : va_G} {t6 : Nat → ClassId} {b n : Nat} (hn : 104 ≤ n) {M : Mem} {x1 : Int32} {x2 : Int32} {x3 : Int32} : CI l D t6 b n y_B_follow cd_B_follow 6 .int (rk 3 65) [.ref (ad b 0 0), .int x1, .int x2, .int x3] M (f_B_follow M x1 x2 x3).1 (f_B_follow M x1 x2 x3).2 := by
  refine en_i (by decide) (by simp [Value.category]) (Nat.le_of_ble_eq_true rfl) (fun p e s m below meth c G => ?_)
  refine sr_iload_n G rfl d_B_follow_0 ?_
  refine sr_csi G ks_B_isSide (c_B_isSide) kc_B_isSide km_B_33 kn_B yy_B_isSide rfl ⟨rfl, rfl, by decide, by decide⟩ (Nat.le_of_ble_eq_true rfl) rfl d_B_follow_1 ?_
  refine sr_if_ne G 9 d_B_follow_4 rfl (fun h4 => ?_) (fun h4 => ?_)
  · skip
    have v4 : vp_in x1 2 := in_wi (lo := 0) (hi := 1) (by decide) (by decide) h4
    have i4 := ix_lt v4
    have w4 := in_1 v4
    have j4 := ix_lt w4
    refine sr_iload_n G rfl d_B_follow_9 ?_
    refine sr_iconst G (v := 1) (by decide) d_B_follow_10 ?_
    refine sr_aload_n G rfl d_B_follow_11 ?_
    refine sr_get G (vv_0 hn) rfl ku_B rfl 0 (by decide) kf_B_11 rfl rfl d_B_follow_12 ?_
    refine sr_iconst G (v := 1) (by decide) d_B_follow_15 ?_
    refine sr_iload_n G rfl d_B_follow_16 ?_
    refine sr_isub G d_B_follow_17 ?_
    refine sr_aald G (vv_10 hn) rfl rfl (by assumption) d_B_follow_18 ?_
    refine sr_getN G (vv_1 hn (by omega)) rfl ku_Le rfl 2 (by decide) kf_B_37 rfl rfl d_B_follow_19 ?_
    refine sr_csi G ks_B_isWithin (c_B_isWithin) kc_B_isWithin km_B_41 kn_B yy_B_isWithin rfl ⟨rfl, rfl, by decide, by decide⟩ (Nat.le_of_ble_eq_true rfl) rfl d_B_follow_22 ?_
    refine sr_if_eq G 38 d_B_follow_25 rfl (fun h25 => ?_) (fun h25 => ?_)
    · skip
      refine sr_bipush G (v := (-2)) (by decide) d_B_follow_38 ?_
      refine sr_iret G d_B_follow_40 ?_
      unfold f_B_follow
      rw [if_neg h4, if_pos h25]
      exact ⟨rfl, rfl⟩
    · skip
      refine sr_iload_n G rfl d_B_follow_28 ?_
      refine sr_iconst G (v := 0) (by decide) d_B_follow_29 ?_
      refine sr_bipush G (v := 9) (by decide) d_B_follow_30 ?_
      refine sr_csi G ks_B_isWithin (c_B_isWithin) kc_B_isWithin km_B_41 kn_B yy_B_isWithin rfl ⟨rfl, rfl, by decide, by decide⟩ (Nat.le_of_ble_eq_true rfl) rfl d_B_follow_32 ?_
      refine sr_if_ne G 41 d_B_follow_35 rfl (fun h35 => ?_) (fun h35 => ?_)
      · skip
        have v35 : vp_in x3 10 := in_wi (lo := 0) (hi := 9) (by decide) (by decide) h35
        have i35 := ix_lt v35
        refine sr_aload_n G rfl d_B_follow_41 ?_
        refine sr_get G (vv_0 hn) rfl ku_B rfl 0 (by decide) kf_B_11 rfl rfl d_B_follow_42 ?_
        refine sr_iload_n G rfl d_B_follow_45 ?_
        refine sr_aald G (vv_10 hn) rfl rfl (by assumption) d_B_follow_46 ?_
        refine sr_getN G (vv_1 hn (by omega)) rfl ku_Le rfl 1 (by decide) kf_B_45 rfl rfl d_B_follow_47 ?_
        refine sr_astore G (by decide) d_B_follow_50 ?_
        refine sr_aload G rfl d_B_follow_52 ?_
        refine sr_iload_n G rfl d_B_follow_54 ?_
        refine sr_cvNi G (vv_3 hn (by omega)) rfl rfl ki_Cl_howFollowed kx_Cl_howFollowed (c_Cl_howFollowed hn (by first | assumption | omega | decide | (unfold vp_in; decide))) kc_Cl_howFollowed km_B_49 kn_Cl yy_Cl_howFollowed rfl ⟨rfl, rfl, by decide, by decide⟩ (Nat.le_of_ble_eq_true rfl) rfl d_B_follow_55 ?_
        refine sr_if_eq G 65 d_B_follow_58 rfl (fun h58 => ?_) (fun h58 => ?_)
        · skip
          refine sr_iconst G (v := 0) (by decide) d_B_follow_65 ?_
          refine sr_istore G (by decide) d_B_follow_66 ?_
          refine sr_iload G rfl d_B_follow_68 ?_
          refine sr_if_eq G 86 d_B_follow_70 rfl (fun _ => ?_) (fun h => absurd (by decide) h)
          refine sr_aload G rfl d_B_follow_86 ?_
          refine sr_getN G (vv_3 hn (by omega)) rfl ku_Cl rfl 1 (by decide) kf_B_59 rfl rfl d_B_follow_88 ?_
          refine sr_if_eq G 97 d_B_follow_91 rfl (fun h91 => ?_) (fun h91 => ?_)
          · skip
            refine sr_iload G rfl d_B_follow_97 ?_
            refine sr_if_eq G 110 d_B_follow_99 rfl (fun _ => ?_) (fun h => absurd (by decide) h)
            refine sr_aload G rfl d_B_follow_110 ?_
            refine sr_iload_n G rfl d_B_follow_112 ?_
            refine sr_iload_n G rfl d_B_follow_113 ?_
            refine sr_cvNv G (vv_3 hn (by omega)) rfl rfl ki_Cl_add kx_Cl_add (c_Cl_add hn (by first | assumption | omega | decide | (unfold vp_in; decide))) kc_Cl_add km_B_63 kn_Cl yy_Cl_add rfl ⟨rfl, rfl, by decide, by decide⟩ (Nat.le_of_ble_eq_true rfl) rfl d_B_follow_114 ?_
            refine sr_iconst G (v := 1) (by decide) d_B_follow_117 ?_
            refine sr_iret G d_B_follow_118 ?_
            unfold f_B_follow
            rw [if_neg h4, if_neg h25, if_neg h35, if_pos h58, if_pos h91]
            exact ⟨rfl, rfl⟩
          · skip
            refine sr_bipush G (v := (-4)) (by decide) d_B_follow_94 ?_
            refine sr_iret G d_B_follow_96 ?_
            unfold f_B_follow
            rw [if_neg h4, if_neg h25, if_neg h35, if_pos h58, if_neg h91]
            exact ⟨rfl, rfl⟩
        · skip
          refine sr_iconst G (v := 1) (by decide) d_B_follow_61 ?_
          refine sr_goto G 66 d_B_follow_62 rfl ?_
          refine sr_istore G (by decide) d_B_follow_66 ?_
          refine sr_iload G rfl d_B_follow_68 ?_
          refine sr_if_eq G 86 d_B_follow_70 rfl (fun h => absurd h (by decide)) (fun _ => ?_)
          refine sr_aload G rfl d_B_follow_73 ?_
          refine sr_iload_n G rfl d_B_follow_75 ?_
          refine sr_iload_n G rfl d_B_follow_76 ?_
          refine sr_cvNi G (vv_3 hn (by omega)) rfl rfl ki_Cl_isToldMark kx_Cl_isToldMark (c_Cl_isToldMark hn (by first | assumption | omega | decide | (unfold vp_in; decide))) kc_Cl_isToldMark km_B_55 kn_Cl yy_Cl_isToldMark rfl ⟨rfl, rfl, by decide, by decide⟩ (Nat.le_of_ble_eq_true rfl) rfl d_B_follow_77 ?_
          refine sr_if_eq G 86 d_B_follow_80 rfl (fun h80 => ?_) (fun h80 => ?_)
          · skip
            refine sr_aload G rfl d_B_follow_86 ?_
            refine sr_getN G (vv_3 hn (by omega)) rfl ku_Cl rfl 1 (by decide) kf_B_59 rfl rfl d_B_follow_88 ?_
            refine sr_if_eq G 97 d_B_follow_91 rfl (fun h91 => ?_) (fun h91 => ?_)
            · skip
              refine sr_iload G rfl d_B_follow_97 ?_
              refine sr_if_eq G 110 d_B_follow_99 rfl (fun h => absurd h (by decide)) (fun _ => ?_)
              refine sr_aload G rfl d_B_follow_102 ?_
              refine sr_iconst G (v := 1) (by decide) d_B_follow_104 ?_
              refine sr_putN G (vv_3 hn (by omega)) rfl ku_Cl rfl 1 (by decide) t_Cl ty_Cl nm_Cl kf_B_59 rfl rfl (ty := .boolean) (by decide +kernel) (by decide) rfl (Nat.le_of_ble_eq_true rfl) rfl d_B_follow_105 ?_
              refine sr_iconst G (v := 2) (by decide) d_B_follow_108 ?_
              refine sr_iret G d_B_follow_109 ?_
              unfold f_B_follow
              rw [if_neg h4, if_neg h25, if_neg h35, if_neg h58, if_pos h80, if_pos h91]
              exact ⟨rfl, rfl⟩
            · skip
              refine sr_bipush G (v := (-4)) (by decide) d_B_follow_94 ?_
              refine sr_iret G d_B_follow_96 ?_
              unfold f_B_follow
              rw [if_neg h4, if_neg h25, if_neg h35, if_neg h58, if_pos h80, if_neg h91]
              exact ⟨rfl, rfl⟩
          · skip
            refine sr_bipush G (v := (-3)) (by decide) d_B_follow_83 ?_
            refine sr_iret G d_B_follow_85 ?_
            unfold f_B_follow
            rw [if_neg h4, if_neg h25, if_neg h35, if_neg h58, if_neg h80]
            exact ⟨rfl, rfl⟩
      · skip
        refine sr_bipush G (v := (-2)) (by decide) d_B_follow_38 ?_
        refine sr_iret G d_B_follow_40 ?_
        unfold f_B_follow
        rw [if_neg h4, if_neg h25, if_pos h35]
        exact ⟨rfl, rfl⟩
  · skip
    refine sr_iconst G (v := (-1)) (by decide) d_B_follow_7 ?_
    refine sr_iret G d_B_follow_8 ?_
    unfold f_B_follow
    rw [if_pos h4]
    exact ⟨rfl, rfl⟩
def f_B_renew (M : Mem) (x1 : Int32) : Int32 × Mem := (if (f_B_isSide x1) = 0 then ((-1), M) else (if (M 3 (Int32.toNatClampNeg x1) 1) = 0 then ((-3), M) else ((M 3 (Int32.toNatClampNeg x1) 3), (f_Cl_forgetAll M (Int32.toNatClampNeg x1)))))
set_option maxHeartbeats 4000000 in
set_option maxRecDepth 100000 in
theorem c_B_renew {l : Launch} {D : va_G} {t6 : Nat → ClassId} {b n : Nat} (hn : 104 ≤ n) {M : Mem} {x1 : Int32} : CI l D t6 b n y_B_renew cd_B_renew 4 .int (rk 2 43) [.ref (ad b 0 0), .int x1] M (f_B_renew M x1).1 (f_B_renew M x1).2 := by
  refine en_i (by decide) (by simp [Value.category]) (Nat.le_of_ble_eq_true rfl) (fun p e s m below meth c G => ?_)
  refine sr_iload_n G rfl d_B_renew_0 ?_
  refine sr_csi G ks_B_isSide (c_B_isSide) kc_B_isSide km_B_33 kn_B yy_B_isSide rfl ⟨rfl, rfl, by decide, by decide⟩ (Nat.le_of_ble_eq_true rfl) rfl d_B_renew_1 ?_
  refine sr_if_ne G 9 d_B_renew_4 rfl (fun h4 => ?_) (fun h4 => ?_)
  · skip
    have v4 : vp_in x1 2 := in_wi (lo := 0) (hi := 1) (by decide) (by decide) h4
    have i4 := ix_lt v4
    have w4 := in_1 v4
    have j4 := ix_lt w4
    refine sr_aload_n G rfl d_B_renew_9 ?_
    refine sr_get G (vv_0 hn) rfl ku_B rfl 0 (by decide) kf_B_11 rfl rfl d_B_renew_10 ?_
    refine sr_iload_n G rfl d_B_renew_13 ?_
    refine sr_aald G (vv_10 hn) rfl rfl (by assumption) d_B_renew_14 ?_
    refine sr_getN G (vv_1 hn (by omega)) rfl ku_Le rfl 1 (by decide) kf_B_45 rfl rfl d_B_renew_15 ?_
    refine sr_astore_n G (by decide) d_B_renew_18 ?_
    refine sr_aload_n G rfl d_B_renew_19 ?_
    refine sr_getN G (vv_3 hn (by omega)) rfl ku_Cl rfl 1 (by decide) kf_B_59 rfl rfl d_B_renew_20 ?_
    refine sr_if_ne G 29 d_B_renew_23 rfl (fun h23 => ?_) (fun h23 => ?_)
    · skip
      refine sr_aload_n G rfl d_B_renew_29 ?_
      refine sr_getN G (vv_3 hn (by omega)) rfl ku_Cl rfl 3 (by decide) kf_B_67 rfl rfl d_B_renew_30 ?_
      refine sr_istore_n G (by decide) d_B_renew_33 ?_
      refine sr_aload_n G rfl d_B_renew_34 ?_
      refine sr_cvNv G (vv_3 hn (by omega)) rfl rfl ki_Cl_forgetAll kx_Cl_forgetAll (c_Cl_forgetAll hn (by first | assumption | omega | decide | (unfold vp_in; decide))) kc_Cl_forgetAll km_B_70 kn_Cl yy_Cl_forgetAll rfl ⟨rfl, rfl, by decide, by decide⟩ (Nat.le_of_ble_eq_true rfl) rfl d_B_renew_35 ?_
      refine sr_iload_n G rfl d_B_renew_38 ?_
      refine sr_iret G d_B_renew_39 ?_
      unfold f_B_renew
      rw [if_neg h4, if_neg h23]
      exact ⟨rfl, rfl⟩
    · skip
      refine sr_bipush G (v := (-3)) (by decide) d_B_renew_26 ?_
      refine sr_iret G d_B_renew_28 ?_
      unfold f_B_renew
      rw [if_neg h4, if_pos h23]
      exact ⟨rfl, rfl⟩
  · skip
    refine sr_iconst G (v := (-1)) (by decide) d_B_renew_7 ?_
    refine sr_iret G d_B_renew_8 ?_
    unfold f_B_renew
    rw [if_pos h4]
    exact ⟨rfl, rfl⟩
def f_B_client (M : Mem) (x1 : Int32) (x2 : Int32) : Int32 := (if (f_B_isSide x1) = 0 then (-1) else (if x2 = 0 then (f_B_oneIf (M 3 (Int32.toNatClampNeg x1) 1)) else (if x2 = 1 then (M 3 (Int32.toNatClampNeg x1) 2) else (if x2 = 2 then (M 3 (Int32.toNatClampNeg x1) 3) else (-2)))))
set_option maxHeartbeats 4000000 in
set_option maxRecDepth 100000 in
theorem c_B_client {l : Launch} {D : va_G} {t6 : Nat → ClassId} {b n : Nat} (hn : 104 ≤ n) {M : Mem} {x1 : Int32} {x2 : Int32} : CI l D t6 b n y_B_client cd_B_client 4 .int (rk 2 42) [.ref (ad b 0 0), .int x1, .int x2] M (f_B_client M x1 x2) M := by
  refine en_i (by decide) (by simp [Value.category]) (Nat.le_of_ble_eq_true rfl) (fun p e s m below meth c G => ?_)
  refine sr_iload_n G rfl d_B_client_0 ?_
  refine sr_csi G ks_B_isSide (c_B_isSide) kc_B_isSide km_B_33 kn_B yy_B_isSide rfl ⟨rfl, rfl, by decide, by decide⟩ (Nat.le_of_ble_eq_true rfl) rfl d_B_client_1 ?_
  refine sr_if_ne G 9 d_B_client_4 rfl (fun h4 => ?_) (fun h4 => ?_)
  · skip
    have v4 : vp_in x1 2 := in_wi (lo := 0) (hi := 1) (by decide) (by decide) h4
    have i4 := ix_lt v4
    have w4 := in_1 v4
    have j4 := ix_lt w4
    refine sr_aload_n G rfl d_B_client_9 ?_
    refine sr_get G (vv_0 hn) rfl ku_B rfl 0 (by decide) kf_B_11 rfl rfl d_B_client_10 ?_
    refine sr_iload_n G rfl d_B_client_13 ?_
    refine sr_aald G (vv_10 hn) rfl rfl (by assumption) d_B_client_14 ?_
    refine sr_getN G (vv_1 hn (by omega)) rfl ku_Le rfl 1 (by decide) kf_B_45 rfl rfl d_B_client_15 ?_
    refine sr_astore_n G (by decide) d_B_client_18 ?_
    refine sr_iload_n G rfl d_B_client_19 ?_
    by_cases h20_0 : x2 = 0
    · skip
      refine sr_tabIn G 48 d_B_client_20 (by rw [h20_0]; decide) (by rw [h20_0]; decide) (by rw [h20_0]; rfl) rfl ?_
      refine sr_aload_n G rfl d_B_client_48 ?_
      refine sr_getN G (vv_3 hn (by omega)) rfl ku_Cl rfl 1 (by decide) kf_B_59 rfl rfl d_B_client_49 ?_
      refine sr_csi G ks_B_oneIf (c_B_oneIf) kc_B_oneIf km_B_73 kn_B yy_B_oneIf rfl ⟨rfl, rfl, by decide, by decide⟩ (Nat.le_of_ble_eq_true rfl) rfl d_B_client_52 ?_
      refine sr_iret G d_B_client_55 ?_
      unfold f_B_client
      rw [if_neg h4, if_pos h20_0]
      exact ⟨rfl, rfl⟩
    · skip
      by_cases h20_1 : x2 = 1
      · skip
        refine sr_tabIn G 56 d_B_client_20 (by rw [h20_1]; decide) (by rw [h20_1]; decide) (by rw [h20_1]; rfl) rfl ?_
        refine sr_aload_n G rfl d_B_client_56 ?_
        refine sr_getN G (vv_3 hn (by omega)) rfl ku_Cl rfl 2 (by decide) kf_B_77 rfl rfl d_B_client_57 ?_
        refine sr_iret G d_B_client_60 ?_
        unfold f_B_client
        rw [if_neg h4, if_neg h20_0, if_pos h20_1]
        exact ⟨rfl, rfl⟩
      · skip
        by_cases h20_2 : x2 = 2
        · skip
          refine sr_tabIn G 61 d_B_client_20 (by rw [h20_2]; decide) (by rw [h20_2]; decide) (by rw [h20_2]; rfl) rfl ?_
          refine sr_aload_n G rfl d_B_client_61 ?_
          refine sr_getN G (vv_3 hn (by omega)) rfl ku_Cl rfl 3 (by decide) kf_B_67 rfl rfl d_B_client_62 ?_
          refine sr_iret G d_B_client_65 ?_
          unfold f_B_client
          rw [if_neg h4, if_neg h20_0, if_neg h20_1, if_pos h20_2]
          exact ⟨rfl, rfl⟩
        · skip
          refine sr_tabOut G 66 d_B_client_20 (by have := lv_neT h20_0 (show (0 : Int32).toInt = 0 by decide); have := lv_neT h20_1 (show (1 : Int32).toInt = 1 by decide); have := lv_neT h20_2 (show (2 : Int32).toInt = 2 by decide); omega) rfl ?_
          refine sr_bipush G (v := (-2)) (by decide) d_B_client_66 ?_
          refine sr_iret G d_B_client_68 ?_
          unfold f_B_client
          rw [if_neg h4, if_neg h20_0, if_neg h20_1, if_neg h20_2]
          exact ⟨rfl, rfl⟩
  · skip
    refine sr_iconst G (v := (-1)) (by decide) d_B_client_7 ?_
    refine sr_iret G d_B_client_8 ?_
    unfold f_B_client
    rw [if_pos h4]
    exact ⟨rfl, rfl⟩
def f_B_follows (M : Mem) (x1 : Int32) (x2 : Int32) : Int32 := (if (f_B_isSide x1) = 0 then (-1) else (if (f_B_isWithin x2 1 200) = 0 then (-2) else (f_Cl_howFollowed M (Int32.toNatClampNeg x1) x2)))
set_option maxHeartbeats 4000000 in
set_option maxRecDepth 100000 in
theorem c_B_follows {l : Launch} {D : va_G} {t6 : Nat → ClassId} {b n : Nat} (hn : 104 ≤ n) {M : Mem} {x1 : Int32} {x2 : Int32} : CI l D t6 b n y_B_follows cd_B_follows 3 .int (rk 3 65) [.ref (ad b 0 0), .int x1, .int x2] M (f_B_follows M x1 x2) M := by
  refine en_i (by decide) (by simp [Value.category]) (Nat.le_of_ble_eq_true rfl) (fun p e s m below meth c G => ?_)
  refine sr_iload_n G rfl d_B_follows_0 ?_
  refine sr_csi G ks_B_isSide (c_B_isSide) kc_B_isSide km_B_33 kn_B yy_B_isSide rfl ⟨rfl, rfl, by decide, by decide⟩ (Nat.le_of_ble_eq_true rfl) rfl d_B_follows_1 ?_
  refine sr_if_ne G 9 d_B_follows_4 rfl (fun h4 => ?_) (fun h4 => ?_)
  · skip
    have v4 : vp_in x1 2 := in_wi (lo := 0) (hi := 1) (by decide) (by decide) h4
    have i4 := ix_lt v4
    have w4 := in_1 v4
    have j4 := ix_lt w4
    refine sr_iload_n G rfl d_B_follows_9 ?_
    refine sr_iconst G (v := 1) (by decide) d_B_follows_10 ?_
    refine sr_sipush G (v := 200) (by decide) d_B_follows_11 ?_
    refine sr_csi G ks_B_isWithin (c_B_isWithin) kc_B_isWithin km_B_41 kn_B yy_B_isWithin rfl ⟨rfl, rfl, by decide, by decide⟩ (Nat.le_of_ble_eq_true rfl) rfl d_B_follows_14 ?_
    refine sr_if_ne G 23 d_B_follows_17 rfl (fun h17 => ?_) (fun h17 => ?_)
    · skip
      have v17 : vp_in x2 201 := in_wi (lo := 1) (hi := 200) (by decide) (by decide) h17
      have i17 := ix_lt v17
      refine sr_aload_n G rfl d_B_follows_23 ?_
      refine sr_get G (vv_0 hn) rfl ku_B rfl 0 (by decide) kf_B_11 rfl rfl d_B_follows_24 ?_
      refine sr_iload_n G rfl d_B_follows_27 ?_
      refine sr_aald G (vv_10 hn) rfl rfl (by assumption) d_B_follows_28 ?_
      refine sr_getN G (vv_1 hn (by omega)) rfl ku_Le rfl 1 (by decide) kf_B_45 rfl rfl d_B_follows_29 ?_
      refine sr_iload_n G rfl d_B_follows_32 ?_
      refine sr_cvNi G (vv_3 hn (by omega)) rfl rfl ki_Cl_howFollowed kx_Cl_howFollowed (c_Cl_howFollowed hn (by first | assumption | omega | decide | (unfold vp_in; decide))) kc_Cl_howFollowed km_B_49 kn_Cl yy_Cl_howFollowed rfl ⟨rfl, rfl, by decide, by decide⟩ (Nat.le_of_ble_eq_true rfl) rfl d_B_follows_33 ?_
      refine sr_iret G d_B_follows_36 ?_
      unfold f_B_follows
      rw [if_neg h4, if_neg h17]
      exact ⟨rfl, rfl⟩
    · skip
      refine sr_bipush G (v := (-2)) (by decide) d_B_follows_20 ?_
      refine sr_iret G d_B_follows_22 ?_
      unfold f_B_follows
      rw [if_neg h4, if_pos h17]
      exact ⟨rfl, rfl⟩
  · skip
    refine sr_iconst G (v := (-1)) (by decide) d_B_follows_7 ?_
    refine sr_iret G d_B_follows_8 ?_
    unfold f_B_follows
    rw [if_pos h4]
    exact ⟨rfl, rfl⟩
def f_B_init (M : Mem) (x1 : Int32) (x2 : Int32) (x3 : Int32) : Int32 × Mem := (if (f_B_isSide x1) = 0 then ((-1), M) else (if (f_B_isWithin x3 1 7) = 0 then ((-2), M) else (if (M 0 0 3) < 4 then ((((u3 (f_En_comeTo (u3 (u3 (u3 M 5 (Int32.toNatClampNeg (M 0 0 3)) 2 x1) 5 (Int32.toNatClampNeg (M 0 0 3)) 1 x2) 6 (2 * (Int32.toNatClampNeg (M 0 0 3)) + Int32.toNatClampNeg x1) 3 x3) (2 * (Int32.toNatClampNeg (M 0 0 3)) + Int32.toNatClampNeg x1) 1 ((u3 (u3 (u3 M 5 (Int32.toNatClampNeg (M 0 0 3)) 2 x1) 5 (Int32.toNatClampNeg (M 0 0 3)) 1 x2) 6 (2 * (Int32.toNatClampNeg (M 0 0 3)) + Int32.toNatClampNeg x1) 3 x3) 1 (Int32.toNatClampNeg x1) 2)) 0 0 3 (((f_En_comeTo (u3 (u3 (u3 M 5 (Int32.toNatClampNeg (M 0 0 3)) 2 x1) 5 (Int32.toNatClampNeg (M 0 0 3)) 1 x2) 6 (2 * (Int32.toNatClampNeg (M 0 0 3)) + Int32.toNatClampNeg x1) 3 x3) (2 * (Int32.toNatClampNeg (M 0 0 3)) + Int32.toNatClampNeg x1) 1 ((u3 (u3 (u3 M 5 (Int32.toNatClampNeg (M 0 0 3)) 2 x1) 5 (Int32.toNatClampNeg (M 0 0 3)) 1 x2) 6 (2 * (Int32.toNatClampNeg (M 0 0 3)) + Int32.toNatClampNeg x1) 3 x3) 1 (Int32.toNatClampNeg x1) 2)) 0 0 3) + 1)) 0 0 3) - 1), (u3 (f_En_comeTo (u3 (u3 (u3 M 5 (Int32.toNatClampNeg (M 0 0 3)) 2 x1) 5 (Int32.toNatClampNeg (M 0 0 3)) 1 x2) 6 (2 * (Int32.toNatClampNeg (M 0 0 3)) + Int32.toNatClampNeg x1) 3 x3) (2 * (Int32.toNatClampNeg (M 0 0 3)) + Int32.toNatClampNeg x1) 1 ((u3 (u3 (u3 M 5 (Int32.toNatClampNeg (M 0 0 3)) 2 x1) 5 (Int32.toNatClampNeg (M 0 0 3)) 1 x2) 6 (2 * (Int32.toNatClampNeg (M 0 0 3)) + Int32.toNatClampNeg x1) 3 x3) 1 (Int32.toNatClampNeg x1) 2)) 0 0 3 (((f_En_comeTo (u3 (u3 (u3 M 5 (Int32.toNatClampNeg (M 0 0 3)) 2 x1) 5 (Int32.toNatClampNeg (M 0 0 3)) 1 x2) 6 (2 * (Int32.toNatClampNeg (M 0 0 3)) + Int32.toNatClampNeg x1) 3 x3) (2 * (Int32.toNatClampNeg (M 0 0 3)) + Int32.toNatClampNeg x1) 1 ((u3 (u3 (u3 M 5 (Int32.toNatClampNeg (M 0 0 3)) 2 x1) 5 (Int32.toNatClampNeg (M 0 0 3)) 1 x2) 6 (2 * (Int32.toNatClampNeg (M 0 0 3)) + Int32.toNatClampNeg x1) 3 x3) 1 (Int32.toNatClampNeg x1) 2)) 0 0 3) + 1))) else ((-10), M))))
set_option maxHeartbeats 4000000 in
set_option maxRecDepth 100000 in
theorem c_B_init {l : Launch} {D : va_G} {t6 : Nat → ClassId} {b n : Nat} (hn : 104 ≤ n) {M : Mem} {x1 : Int32} {x2 : Int32} {x3 : Int32} (hI : ci_ M) (hb2 : x2 = 0 ∨ x2 = 1) : CI l D t6 b n y_B_init cd_B_init 5 .int (rk 2 44) [.ref (ad b 0 0), .int x1, .int x2, .int x3] M (f_B_init M x1 x2 x3).1 (f_B_init M x1 x2 x3).2 := by
  refine en_i (by decide) (by simp [Value.category]) (Nat.le_of_ble_eq_true rfl) (fun p e s m below meth c G => ?_)
  refine sr_iload_n G rfl d_B_init_0 ?_
  refine sr_csi G ks_B_isSide (c_B_isSide) kc_B_isSide km_B_33 kn_B yy_B_isSide rfl ⟨rfl, rfl, by decide, by decide⟩ (Nat.le_of_ble_eq_true rfl) rfl d_B_init_1 ?_
  refine sr_if_ne G 9 d_B_init_4 rfl (fun h4 => ?_) (fun h4 => ?_)
  · skip
    have v4 : vp_in x1 2 := in_wi (lo := 0) (hi := 1) (by decide) (by decide) h4
    have i4 := ix_lt v4
    have w4 := in_1 v4
    have j4 := ix_lt w4
    refine sr_iload_n G rfl d_B_init_9 ?_
    refine sr_iconst G (v := 1) (by decide) d_B_init_10 ?_
    refine sr_bipush G (v := 7) (by decide) d_B_init_11 ?_
    refine sr_csi G ks_B_isWithin (c_B_isWithin) kc_B_isWithin km_B_41 kn_B yy_B_isWithin rfl ⟨rfl, rfl, by decide, by decide⟩ (Nat.le_of_ble_eq_true rfl) rfl d_B_init_13 ?_
    refine sr_if_ne G 22 d_B_init_16 rfl (fun h16 => ?_) (fun h16 => ?_)
    · skip
      have v16 : vp_in x3 8 := in_wi (lo := 1) (hi := 7) (by decide) (by decide) h16
      have i16 := ix_lt v16
      refine sr_aload_n G rfl d_B_init_22 ?_
      refine sr_get G (vv_0 hn) rfl ku_B rfl 3 (by decide) kf_B_80 rfl rfl d_B_init_23 ?_
      refine sr_iconst G (v := 4) (by decide) d_B_init_26 ?_
      refine sr_icmp_lt G 33 d_B_init_27 rfl (fun h27 => ?_) (fun h27 => ?_)
      · skip
        refine sr_aload_n G rfl d_B_init_33 ?_
        refine sr_get G (vv_0 hn) rfl ku_B rfl 1 (by decide) kf_B_17 rfl rfl d_B_init_34 ?_
        refine sr_aload_n G rfl d_B_init_37 ?_
        refine sr_get G (vv_0 hn) rfl ku_B rfl 3 (by decide) kf_B_80 rfl rfl d_B_init_38 ?_
        have v9 := in_l4 hI h27
        have i9 := ix_lt v9
        refine sr_aald G (vv_11 hn) rfl rfl (by assumption) d_B_init_41 ?_
        refine sr_astore G (by decide) d_B_init_42 ?_
        refine sr_aload G rfl d_B_init_44 ?_
        refine sr_iload_n G rfl d_B_init_46 ?_
        refine sr_putN G (vv_5 hn (by omega)) rfl ku_Ch rfl 2 (by decide) t_Ch ty_Ch nm_Ch kf_B_83 rfl rfl (ty := .int) (by decide +kernel) rfl rfl (Nat.le_of_ble_eq_true rfl) rfl d_B_init_47 ?_
        refine sr_aload G rfl d_B_init_50 ?_
        refine sr_iload_n G rfl d_B_init_52 ?_
        refine sr_putN G (vv_5 hn (by omega)) rfl ku_Ch rfl 1 (by decide) t_Ch ty_Ch nm_Ch kf_B_86 rfl rfl (ty := .boolean) (by decide +kernel) (by rcases hb2 with rfl | rfl <;> decide) (by rcases hb2 with rfl | rfl <;> decide) (Nat.le_of_ble_eq_true rfl) rfl d_B_init_53 ?_
        refine sr_aload G rfl d_B_init_56 ?_
        refine sr_getN G (vv_5 hn (by omega)) rfl ku_Ch rfl 0 (by decide) kf_B_89 rfl rfl d_B_init_58 ?_
        refine sr_iload_n G rfl d_B_init_61 ?_
        refine sr_aald G (vv_13 hn (by omega)) rfl rfl (by assumption) d_B_init_62 ?_
        refine sr_iload_n G rfl d_B_init_63 ?_
        refine sr_putN G (vv_6 hn (by omega)) rfl ku_En rfl 3 (by decide) t_En ty_En nm_En kf_B_93 rfl rfl (ty := .int) (by decide +kernel) rfl rfl (Nat.le_of_ble_eq_true rfl) rfl d_B_init_64 ?_
        refine sr_aload G rfl d_B_init_67 ?_
        refine sr_getN G (vv_5 hn (by omega)) rfl ku_Ch rfl 0 (by decide) kf_B_89 rfl rfl d_B_init_69 ?_
        refine sr_iload_n G rfl d_B_init_72 ?_
        refine sr_aald G (vv_13 hn (by omega)) rfl rfl (by assumption) d_B_init_73 ?_
        refine sr_iconst G (v := 1) (by decide) d_B_init_74 ?_
        refine sr_aload_n G rfl d_B_init_75 ?_
        refine sr_get G (vv_0 hn) rfl ku_B rfl 0 (by decide) kf_B_11 rfl rfl d_B_init_76 ?_
        refine sr_iload_n G rfl d_B_init_79 ?_
        refine sr_aald G (vv_10 hn) rfl rfl (by assumption) d_B_init_80 ?_
        refine sr_getN G (vv_1 hn (by omega)) rfl ku_Le rfl 2 (by decide) kf_B_37 rfl rfl d_B_init_81 ?_
        refine sr_cvNv G (vv_6 hn (by omega)) rfl rfl ki_En_comeTo kx_En_comeTo (c_En_comeTo hn (by first | assumption | omega | decide | (unfold vp_in; decide))) kc_En_comeTo km_B_98 kn_En yy_En_comeTo rfl ⟨rfl, rfl, by decide, by decide⟩ (Nat.le_of_ble_eq_true rfl) rfl d_B_init_84 ?_
        refine sr_aload_n G rfl d_B_init_87 ?_
        refine sr_dup G rfl d_B_init_88 ?_
        refine sr_get G (vv_0 hn) rfl ku_B rfl 3 (by decide) kf_B_80 rfl rfl d_B_init_89 ?_
        refine sr_iconst G (v := 1) (by decide) d_B_init_92 ?_
        refine sr_iadd G d_B_init_93 ?_
        refine sr_put G (vv_0 hn) rfl ku_B rfl 3 (by decide) t_B ty_B nm_B kf_B_80 rfl rfl (ty := .int) (by decide +kernel) rfl rfl (Nat.le_of_ble_eq_true rfl) rfl d_B_init_94 ?_
        refine sr_aload_n G rfl d_B_init_97 ?_
        refine sr_get G (vv_0 hn) rfl ku_B rfl 3 (by decide) kf_B_80 rfl rfl d_B_init_98 ?_
        refine sr_iconst G (v := 1) (by decide) d_B_init_101 ?_
        refine sr_isub G d_B_init_102 ?_
        refine sr_iret G d_B_init_103 ?_
        unfold f_B_init
        rw [if_neg h4, if_neg h16, if_pos h27]
        exact ⟨rfl, rfl⟩
      · skip
        refine sr_bipush G (v := (-10)) (by decide) d_B_init_30 ?_
        refine sr_iret G d_B_init_32 ?_
        unfold f_B_init
        rw [if_neg h4, if_neg h16, if_neg h27]
        exact ⟨rfl, rfl⟩
    · skip
      refine sr_bipush G (v := (-2)) (by decide) d_B_init_19 ?_
      refine sr_iret G d_B_init_21 ?_
      unfold f_B_init
      rw [if_neg h4, if_pos h16]
      exact ⟨rfl, rfl⟩
  · skip
    refine sr_iconst G (v := (-1)) (by decide) d_B_init_7 ?_
    refine sr_iret G d_B_init_8 ?_
    unfold f_B_init
    rw [if_pos h4]
    exact ⟨rfl, rfl⟩
def f_B_meet (M : Mem) (x1 : Int32) (x2 : Int32) (x3 : Int32) : Int32 × Mem := (if (f_B_isChannel M x1) = 0 then ((-1), M) else (if (f_B_isWithin x2 1 7) = 0 then ((-2), M) else (if (f_B_refusalOfStep M x1 (1 - (M 5 (Int32.toNatClampNeg x1) 2)) 0 1 x3) = 0 then (if (f_B_greatestVersion (x2 &&& (M 6 (2 * (Int32.toNatClampNeg x1) + Int32.toNatClampNeg (1 - (1 - (M 5 (Int32.toNatClampNeg x1) 2)))) 3))) = 0 then ((-9), M) else ((f_B_greatestVersion (x2 &&& (M 6 (2 * (Int32.toNatClampNeg x1) + Int32.toNatClampNeg (1 - (1 - (M 5 (Int32.toNatClampNeg x1) 2)))) 3))), (f_En_comeTo (u3 (u3 M 6 (2 * (Int32.toNatClampNeg x1) + Int32.toNatClampNeg (1 - (M 5 (Int32.toNatClampNeg x1) 2))) 3 x2) 6 (2 * (Int32.toNatClampNeg x1) + Int32.toNatClampNeg (1 - (M 5 (Int32.toNatClampNeg x1) 2))) 4 (f_B_greatestVersion (x2 &&& (M 6 (2 * (Int32.toNatClampNeg x1) + Int32.toNatClampNeg (1 - (1 - (M 5 (Int32.toNatClampNeg x1) 2)))) 3)))) (2 * (Int32.toNatClampNeg x1) + Int32.toNatClampNeg (1 - (M 5 (Int32.toNatClampNeg x1) 2))) 2 ((u3 (u3 M 6 (2 * (Int32.toNatClampNeg x1) + Int32.toNatClampNeg (1 - (M 5 (Int32.toNatClampNeg x1) 2))) 3 x2) 6 (2 * (Int32.toNatClampNeg x1) + Int32.toNatClampNeg (1 - (M 5 (Int32.toNatClampNeg x1) 2))) 4 (f_B_greatestVersion (x2 &&& (M 6 (2 * (Int32.toNatClampNeg x1) + Int32.toNatClampNeg (1 - (1 - (M 5 (Int32.toNatClampNeg x1) 2)))) 3)))) 1 (Int32.toNatClampNeg (1 - (M 5 (Int32.toNatClampNeg x1) 2))) 2)))) else ((f_B_refusalOfStep M x1 (1 - (M 5 (Int32.toNatClampNeg x1) 2)) 0 1 x3), M))))
set_option maxHeartbeats 4000000 in
set_option maxRecDepth 100000 in
theorem c_B_meet {l : Launch} {D : va_G} {t6 : Nat → ClassId} {b n : Nat} (hn : 104 ≤ n) {M : Mem} {x1 : Int32} {x2 : Int32} {x3 : Int32} (hI : ci_ M) : CI l D t6 b n y_B_meet cd_B_meet 9 .int (rk 5 113) [.ref (ad b 0 0), .int x1, .int x2, .int x3] M (f_B_meet M x1 x2 x3).1 (f_B_meet M x1 x2 x3).2 := by
  refine en_i (by decide) (by simp [Value.category]) (Nat.le_of_ble_eq_true rfl) (fun p e s m below meth c G => ?_)
  refine sr_aload_n G rfl d_B_meet_0 ?_
  refine sr_iload_n G rfl d_B_meet_1 ?_
  refine sr_cvi G (vv_0 hn) rfl rfl ki_B_isChannel kx_B_isChannel (c_B_isChannel hn) kc_B_isChannel km_B_101 kn_B yy_B_isChannel rfl ⟨rfl, rfl, by decide, by decide⟩ (Nat.le_of_ble_eq_true rfl) rfl d_B_meet_2 ?_
  refine sr_if_ne G 10 d_B_meet_5 rfl (fun h5 => ?_) (fun h5 => ?_)
  · skip
    have v5 : vp_in x1 4 := in_ch hI h5
    have i5 := ix_lt v5
    have f5 := hI.2.2.1 _ i5
    have f5a := ix_lt f5
    have f5b := in_1 f5
    have f5c := ix_lt f5b
    have f5d := in_1 f5b
    have f5e := ix_lt f5d
    refine sr_iload_n G rfl d_B_meet_10 ?_
    refine sr_iconst G (v := 1) (by decide) d_B_meet_11 ?_
    refine sr_bipush G (v := 7) (by decide) d_B_meet_12 ?_
    refine sr_csi G ks_B_isWithin (c_B_isWithin) kc_B_isWithin km_B_41 kn_B yy_B_isWithin rfl ⟨rfl, rfl, by decide, by decide⟩ (Nat.le_of_ble_eq_true rfl) rfl d_B_meet_14 ?_
    refine sr_if_ne G 23 d_B_meet_17 rfl (fun h17 => ?_) (fun h17 => ?_)
    · skip
      have v17 : vp_in x2 8 := in_wi (lo := 1) (hi := 7) (by decide) (by decide) h17
      have i17 := ix_lt v17
      refine sr_iconst G (v := 1) (by decide) d_B_meet_23 ?_
      refine sr_aload_n G rfl d_B_meet_24 ?_
      refine sr_get G (vv_0 hn) rfl ku_B rfl 1 (by decide) kf_B_17 rfl rfl d_B_meet_25 ?_
      refine sr_iload_n G rfl d_B_meet_28 ?_
      refine sr_aald G (vv_11 hn) rfl rfl (by assumption) d_B_meet_29 ?_
      refine sr_getN G (vv_5 hn (by omega)) rfl ku_Ch rfl 2 (by decide) kf_B_83 rfl rfl d_B_meet_30 ?_
      refine sr_isub G d_B_meet_33 ?_
      refine sr_istore G (by decide) d_B_meet_34 ?_
      refine sr_aload_n G rfl d_B_meet_36 ?_
      refine sr_get G (vv_0 hn) rfl ku_B rfl 1 (by decide) kf_B_17 rfl rfl d_B_meet_37 ?_
      refine sr_iload_n G rfl d_B_meet_40 ?_
      refine sr_aald G (vv_11 hn) rfl rfl (by assumption) d_B_meet_41 ?_
      refine sr_getN G (vv_5 hn (by omega)) rfl ku_Ch rfl 0 (by decide) kf_B_89 rfl rfl d_B_meet_42 ?_
      refine sr_iload G rfl d_B_meet_45 ?_
      refine sr_aald G (vv_13 hn (by omega)) rfl rfl (by assumption) d_B_meet_47 ?_
      refine sr_astore G (by decide) d_B_meet_48 ?_
      refine sr_aload_n G rfl d_B_meet_50 ?_
      refine sr_get G (vv_0 hn) rfl ku_B rfl 1 (by decide) kf_B_17 rfl rfl d_B_meet_51 ?_
      refine sr_iload_n G rfl d_B_meet_54 ?_
      refine sr_aald G (vv_11 hn) rfl rfl (by assumption) d_B_meet_55 ?_
      refine sr_getN G (vv_5 hn (by omega)) rfl ku_Ch rfl 0 (by decide) kf_B_89 rfl rfl d_B_meet_56 ?_
      refine sr_iconst G (v := 1) (by decide) d_B_meet_59 ?_
      refine sr_iload G rfl d_B_meet_60 ?_
      refine sr_isub G d_B_meet_62 ?_
      refine sr_aald G (vv_13 hn (by omega)) rfl rfl (by assumption) d_B_meet_63 ?_
      refine sr_astore G (by decide) d_B_meet_64 ?_
      refine sr_aload_n G rfl d_B_meet_66 ?_
      refine sr_iload_n G rfl d_B_meet_67 ?_
      refine sr_iload G rfl d_B_meet_68 ?_
      refine sr_iconst G (v := 0) (by decide) d_B_meet_70 ?_
      refine sr_iconst G (v := 1) (by decide) d_B_meet_71 ?_
      refine sr_iload_n G rfl d_B_meet_72 ?_
      refine sr_cvi G (vv_0 hn) rfl rfl ki_B_refusalOfStep kx_B_refusalOfStep (c_B_refusalOfStep hn (by first | assumption | omega | decide | (unfold vp_in; decide)) (by first | assumption | omega | decide | (unfold vp_in; decide))) kc_B_refusalOfStep km_B_104 kn_B yy_B_refusalOfStep rfl ⟨rfl, rfl, by decide, by decide⟩ (Nat.le_of_ble_eq_true rfl) rfl d_B_meet_73 ?_
      refine sr_istore G (by decide) d_B_meet_76 ?_
      refine sr_iload G rfl d_B_meet_78 ?_
      refine sr_if_eq G 86 d_B_meet_80 rfl (fun h80 => ?_) (fun h80 => ?_)
      · skip
        refine sr_iload_n G rfl d_B_meet_86 ?_
        refine sr_aload G rfl d_B_meet_87 ?_
        refine sr_getN G (vv_6 hn (by omega)) rfl ku_En rfl 3 (by decide) kf_B_93 rfl rfl d_B_meet_89 ?_
        refine sr_iand G d_B_meet_92 ?_
        refine sr_csi G ks_B_greatestVersion (c_B_greatestVersion) kc_B_greatestVersion km_B_108 kn_B yy_B_greatestVersion rfl ⟨rfl, rfl, by decide, by decide⟩ (Nat.le_of_ble_eq_true rfl) rfl d_B_meet_93 ?_
        refine sr_istore G (by decide) d_B_meet_96 ?_
        refine sr_iload G rfl d_B_meet_98 ?_
        refine sr_if_ne G 106 d_B_meet_100 rfl (fun h100 => ?_) (fun h100 => ?_)
        · skip
          refine sr_aload G rfl d_B_meet_106 ?_
          refine sr_iload_n G rfl d_B_meet_108 ?_
          refine sr_putN G (vv_6 hn (by omega)) rfl ku_En rfl 3 (by decide) t_En ty_En nm_En kf_B_93 rfl rfl (ty := .int) (by decide +kernel) rfl rfl (Nat.le_of_ble_eq_true rfl) rfl d_B_meet_109 ?_
          refine sr_aload G rfl d_B_meet_112 ?_
          refine sr_iload G rfl d_B_meet_114 ?_
          refine sr_putN G (vv_6 hn (by omega)) rfl ku_En rfl 4 (by decide) t_En ty_En nm_En kf_B_111 rfl rfl (ty := .int) (by decide +kernel) rfl rfl (Nat.le_of_ble_eq_true rfl) rfl d_B_meet_116 ?_
          refine sr_aload G rfl d_B_meet_119 ?_
          refine sr_iconst G (v := 2) (by decide) d_B_meet_121 ?_
          refine sr_aload_n G rfl d_B_meet_122 ?_
          refine sr_get G (vv_0 hn) rfl ku_B rfl 0 (by decide) kf_B_11 rfl rfl d_B_meet_123 ?_
          refine sr_iload G rfl d_B_meet_126 ?_
          refine sr_aald G (vv_10 hn) rfl rfl (by assumption) d_B_meet_128 ?_
          refine sr_getN G (vv_1 hn (by omega)) rfl ku_Le rfl 2 (by decide) kf_B_37 rfl rfl d_B_meet_129 ?_
          refine sr_cvNv G (vv_6 hn (by omega)) rfl rfl ki_En_comeTo kx_En_comeTo (c_En_comeTo hn (by first | assumption | omega | decide | (unfold vp_in; decide))) kc_En_comeTo km_B_98 kn_En yy_En_comeTo rfl ⟨rfl, rfl, by decide, by decide⟩ (Nat.le_of_ble_eq_true rfl) rfl d_B_meet_132 ?_
          refine sr_iload G rfl d_B_meet_135 ?_
          refine sr_iret G d_B_meet_137 ?_
          unfold f_B_meet
          rw [if_neg h5, if_neg h17, if_pos h80, if_neg h100]
          exact ⟨rfl, rfl⟩
        · skip
          refine sr_bipush G (v := (-9)) (by decide) d_B_meet_103 ?_
          refine sr_iret G d_B_meet_105 ?_
          unfold f_B_meet
          rw [if_neg h5, if_neg h17, if_pos h80, if_pos h100]
          exact ⟨rfl, rfl⟩
      · skip
        refine sr_iload G rfl d_B_meet_83 ?_
        refine sr_iret G d_B_meet_85 ?_
        unfold f_B_meet
        rw [if_neg h5, if_neg h17, if_neg h80]
        exact ⟨rfl, rfl⟩
    · skip
      refine sr_bipush G (v := (-2)) (by decide) d_B_meet_20 ?_
      refine sr_iret G d_B_meet_22 ?_
      unfold f_B_meet
      rw [if_neg h5, if_pos h17]
      exact ⟨rfl, rfl⟩
  · skip
    refine sr_iconst G (v := (-1)) (by decide) d_B_meet_8 ?_
    refine sr_iret G d_B_meet_9 ?_
    unfold f_B_meet
    rw [if_pos h5]
    exact ⟨rfl, rfl⟩
def f_B_agree (M : Mem) (x1 : Int32) (x2 : Int32) : Int32 × Mem := (if (f_B_isChannel M x1) = 0 then ((-1), M) else (if (f_B_refusalOfStep M x1 (M 5 (Int32.toNatClampNeg x1) 2) 1 2 x2) = 0 then (((f_En_comeTo (u3 M 6 (2 * (Int32.toNatClampNeg x1) + Int32.toNatClampNeg (M 5 (Int32.toNatClampNeg x1) 2)) 4 (M 6 (2 * (Int32.toNatClampNeg x1) + Int32.toNatClampNeg (1 - (M 5 (Int32.toNatClampNeg x1) 2))) 4)) (2 * (Int32.toNatClampNeg x1) + Int32.toNatClampNeg (M 5 (Int32.toNatClampNeg x1) 2)) 3 ((u3 M 6 (2 * (Int32.toNatClampNeg x1) + Int32.toNatClampNeg (M 5 (Int32.toNatClampNeg x1) 2)) 4 (M 6 (2 * (Int32.toNatClampNeg x1) + Int32.toNatClampNeg (1 - (M 5 (Int32.toNatClampNeg x1) 2))) 4)) 1 (Int32.toNatClampNeg (M 5 (Int32.toNatClampNeg x1) 2)) 2)) 6 (2 * (Int32.toNatClampNeg x1) + Int32.toNatClampNeg (M 5 (Int32.toNatClampNeg x1) 2)) 4), (f_En_comeTo (u3 M 6 (2 * (Int32.toNatClampNeg x1) + Int32.toNatClampNeg (M 5 (Int32.toNatClampNeg x1) 2)) 4 (M 6 (2 * (Int32.toNatClampNeg x1) + Int32.toNatClampNeg (1 - (M 5 (Int32.toNatClampNeg x1) 2))) 4)) (2 * (Int32.toNatClampNeg x1) + Int32.toNatClampNeg (M 5 (Int32.toNatClampNeg x1) 2)) 3 ((u3 M 6 (2 * (Int32.toNatClampNeg x1) + Int32.toNatClampNeg (M 5 (Int32.toNatClampNeg x1) 2)) 4 (M 6 (2 * (Int32.toNatClampNeg x1) + Int32.toNatClampNeg (1 - (M 5 (Int32.toNatClampNeg x1) 2))) 4)) 1 (Int32.toNatClampNeg (M 5 (Int32.toNatClampNeg x1) 2)) 2))) else ((f_B_refusalOfStep M x1 (M 5 (Int32.toNatClampNeg x1) 2) 1 2 x2), M)))
set_option maxHeartbeats 4000000 in
set_option maxRecDepth 100000 in
theorem c_B_agree {l : Launch} {D : va_G} {t6 : Nat → ClassId} {b n : Nat} (hn : 104 ≤ n) {M : Mem} {x1 : Int32} {x2 : Int32} (hI : ci_ M) : CI l D t6 b n y_B_agree cd_B_agree 7 .int (rk 5 113) [.ref (ad b 0 0), .int x1, .int x2] M (f_B_agree M x1 x2).1 (f_B_agree M x1 x2).2 := by
  refine en_i (by decide) (by simp [Value.category]) (Nat.le_of_ble_eq_true rfl) (fun p e s m below meth c G => ?_)
  refine sr_aload_n G rfl d_B_agree_0 ?_
  refine sr_iload_n G rfl d_B_agree_1 ?_
  refine sr_cvi G (vv_0 hn) rfl rfl ki_B_isChannel kx_B_isChannel (c_B_isChannel hn) kc_B_isChannel km_B_101 kn_B yy_B_isChannel rfl ⟨rfl, rfl, by decide, by decide⟩ (Nat.le_of_ble_eq_true rfl) rfl d_B_agree_2 ?_
  refine sr_if_ne G 10 d_B_agree_5 rfl (fun h5 => ?_) (fun h5 => ?_)
  · skip
    have v5 : vp_in x1 4 := in_ch hI h5
    have i5 := ix_lt v5
    have f5 := hI.2.2.1 _ i5
    have f5a := ix_lt f5
    have f5b := in_1 f5
    have f5c := ix_lt f5b
    have f5d := in_1 f5b
    have f5e := ix_lt f5d
    refine sr_aload_n G rfl d_B_agree_10 ?_
    refine sr_get G (vv_0 hn) rfl ku_B rfl 1 (by decide) kf_B_17 rfl rfl d_B_agree_11 ?_
    refine sr_iload_n G rfl d_B_agree_14 ?_
    refine sr_aald G (vv_11 hn) rfl rfl (by assumption) d_B_agree_15 ?_
    refine sr_getN G (vv_5 hn (by omega)) rfl ku_Ch rfl 2 (by decide) kf_B_83 rfl rfl d_B_agree_16 ?_
    refine sr_istore_n G (by decide) d_B_agree_19 ?_
    refine sr_aload_n G rfl d_B_agree_20 ?_
    refine sr_get G (vv_0 hn) rfl ku_B rfl 1 (by decide) kf_B_17 rfl rfl d_B_agree_21 ?_
    refine sr_iload_n G rfl d_B_agree_24 ?_
    refine sr_aald G (vv_11 hn) rfl rfl (by assumption) d_B_agree_25 ?_
    refine sr_getN G (vv_5 hn (by omega)) rfl ku_Ch rfl 0 (by decide) kf_B_89 rfl rfl d_B_agree_26 ?_
    refine sr_iload_n G rfl d_B_agree_29 ?_
    refine sr_aald G (vv_13 hn (by omega)) rfl rfl (by assumption) d_B_agree_30 ?_
    refine sr_astore G (by decide) d_B_agree_31 ?_
    refine sr_aload_n G rfl d_B_agree_33 ?_
    refine sr_get G (vv_0 hn) rfl ku_B rfl 1 (by decide) kf_B_17 rfl rfl d_B_agree_34 ?_
    refine sr_iload_n G rfl d_B_agree_37 ?_
    refine sr_aald G (vv_11 hn) rfl rfl (by assumption) d_B_agree_38 ?_
    refine sr_getN G (vv_5 hn (by omega)) rfl ku_Ch rfl 0 (by decide) kf_B_89 rfl rfl d_B_agree_39 ?_
    refine sr_iconst G (v := 1) (by decide) d_B_agree_42 ?_
    refine sr_iload_n G rfl d_B_agree_43 ?_
    refine sr_isub G d_B_agree_44 ?_
    refine sr_aald G (vv_13 hn (by omega)) rfl rfl (by assumption) d_B_agree_45 ?_
    refine sr_astore G (by decide) d_B_agree_46 ?_
    refine sr_aload_n G rfl d_B_agree_48 ?_
    refine sr_iload_n G rfl d_B_agree_49 ?_
    refine sr_iload_n G rfl d_B_agree_50 ?_
    refine sr_iconst G (v := 1) (by decide) d_B_agree_51 ?_
    refine sr_iconst G (v := 2) (by decide) d_B_agree_52 ?_
    refine sr_iload_n G rfl d_B_agree_53 ?_
    refine sr_cvi G (vv_0 hn) rfl rfl ki_B_refusalOfStep kx_B_refusalOfStep (c_B_refusalOfStep hn (by first | assumption | omega | decide | (unfold vp_in; decide)) (by first | assumption | omega | decide | (unfold vp_in; decide))) kc_B_refusalOfStep km_B_104 kn_B yy_B_refusalOfStep rfl ⟨rfl, rfl, by decide, by decide⟩ (Nat.le_of_ble_eq_true rfl) rfl d_B_agree_54 ?_
    refine sr_istore G (by decide) d_B_agree_57 ?_
    refine sr_iload G rfl d_B_agree_59 ?_
    refine sr_if_eq G 67 d_B_agree_61 rfl (fun h61 => ?_) (fun h61 => ?_)
    · skip
      refine sr_aload G rfl d_B_agree_67 ?_
      refine sr_aload G rfl d_B_agree_69 ?_
      refine sr_getN G (vv_6 hn (by omega)) rfl ku_En rfl 4 (by decide) kf_B_111 rfl rfl d_B_agree_71 ?_
      refine sr_putN G (vv_6 hn (by omega)) rfl ku_En rfl 4 (by decide) t_En ty_En nm_En kf_B_111 rfl rfl (ty := .int) (by decide +kernel) rfl rfl (Nat.le_of_ble_eq_true rfl) rfl d_B_agree_74 ?_
      refine sr_aload G rfl d_B_agree_77 ?_
      refine sr_iconst G (v := 3) (by decide) d_B_agree_79 ?_
      refine sr_aload_n G rfl d_B_agree_80 ?_
      refine sr_get G (vv_0 hn) rfl ku_B rfl 0 (by decide) kf_B_11 rfl rfl d_B_agree_81 ?_
      refine sr_iload_n G rfl d_B_agree_84 ?_
      refine sr_aald G (vv_10 hn) rfl rfl (by assumption) d_B_agree_85 ?_
      refine sr_getN G (vv_1 hn (by omega)) rfl ku_Le rfl 2 (by decide) kf_B_37 rfl rfl d_B_agree_86 ?_
      refine sr_cvNv G (vv_6 hn (by omega)) rfl rfl ki_En_comeTo kx_En_comeTo (c_En_comeTo hn (by first | assumption | omega | decide | (unfold vp_in; decide))) kc_En_comeTo km_B_98 kn_En yy_En_comeTo rfl ⟨rfl, rfl, by decide, by decide⟩ (Nat.le_of_ble_eq_true rfl) rfl d_B_agree_89 ?_
      refine sr_aload G rfl d_B_agree_92 ?_
      refine sr_getN G (vv_6 hn (by omega)) rfl ku_En rfl 4 (by decide) kf_B_111 rfl rfl d_B_agree_94 ?_
      refine sr_iret G d_B_agree_97 ?_
      unfold f_B_agree
      rw [if_neg h5, if_pos h61]
      exact ⟨rfl, rfl⟩
    · skip
      refine sr_iload G rfl d_B_agree_64 ?_
      refine sr_iret G d_B_agree_66 ?_
      unfold f_B_agree
      rw [if_neg h5, if_neg h61]
      exact ⟨rfl, rfl⟩
  · skip
    refine sr_iconst G (v := (-1)) (by decide) d_B_agree_8 ?_
    refine sr_iret G d_B_agree_9 ?_
    unfold f_B_agree
    rw [if_pos h5]
    exact ⟨rfl, rfl⟩
def f_B_confirm (M : Mem) (x1 : Int32) (x2 : Int32) : Int32 × Mem := (if (f_B_isChannel M x1) = 0 then ((-1), M) else (if (f_B_refusalOfStep M x1 (1 - (M 5 (Int32.toNatClampNeg x1) 2)) 2 3 x2) = 0 then (((f_En_comeTo M (2 * (Int32.toNatClampNeg x1) + Int32.toNatClampNeg (1 - (M 5 (Int32.toNatClampNeg x1) 2))) 3 (M 1 (Int32.toNatClampNeg (1 - (M 5 (Int32.toNatClampNeg x1) 2))) 2)) 6 (2 * (Int32.toNatClampNeg x1) + Int32.toNatClampNeg (1 - (M 5 (Int32.toNatClampNeg x1) 2))) 4), (f_En_comeTo M (2 * (Int32.toNatClampNeg x1) + Int32.toNatClampNeg (1 - (M 5 (Int32.toNatClampNeg x1) 2))) 3 (M 1 (Int32.toNatClampNeg (1 - (M 5 (Int32.toNatClampNeg x1) 2))) 2))) else ((f_B_refusalOfStep M x1 (1 - (M 5 (Int32.toNatClampNeg x1) 2)) 2 3 x2), M)))
set_option maxHeartbeats 4000000 in
set_option maxRecDepth 100000 in
theorem c_B_confirm {l : Launch} {D : va_G} {t6 : Nat → ClassId} {b n : Nat} (hn : 104 ≤ n) {M : Mem} {x1 : Int32} {x2 : Int32} (hI : ci_ M) : CI l D t6 b n y_B_confirm cd_B_confirm 6 .int (rk 5 113) [.ref (ad b 0 0), .int x1, .int x2] M (f_B_confirm M x1 x2).1 (f_B_confirm M x1 x2).2 := by
  refine en_i (by decide) (by simp [Value.category]) (Nat.le_of_ble_eq_true rfl) (fun p e s m below meth c G => ?_)
  refine sr_aload_n G rfl d_B_confirm_0 ?_
  refine sr_iload_n G rfl d_B_confirm_1 ?_
  refine sr_cvi G (vv_0 hn) rfl rfl ki_B_isChannel kx_B_isChannel (c_B_isChannel hn) kc_B_isChannel km_B_101 kn_B yy_B_isChannel rfl ⟨rfl, rfl, by decide, by decide⟩ (Nat.le_of_ble_eq_true rfl) rfl d_B_confirm_2 ?_
  refine sr_if_ne G 10 d_B_confirm_5 rfl (fun h5 => ?_) (fun h5 => ?_)
  · skip
    have v5 : vp_in x1 4 := in_ch hI h5
    have i5 := ix_lt v5
    have f5 := hI.2.2.1 _ i5
    have f5a := ix_lt f5
    have f5b := in_1 f5
    have f5c := ix_lt f5b
    have f5d := in_1 f5b
    have f5e := ix_lt f5d
    refine sr_iconst G (v := 1) (by decide) d_B_confirm_10 ?_
    refine sr_aload_n G rfl d_B_confirm_11 ?_
    refine sr_get G (vv_0 hn) rfl ku_B rfl 1 (by decide) kf_B_17 rfl rfl d_B_confirm_12 ?_
    refine sr_iload_n G rfl d_B_confirm_15 ?_
    refine sr_aald G (vv_11 hn) rfl rfl (by assumption) d_B_confirm_16 ?_
    refine sr_getN G (vv_5 hn (by omega)) rfl ku_Ch rfl 2 (by decide) kf_B_83 rfl rfl d_B_confirm_17 ?_
    refine sr_isub G d_B_confirm_20 ?_
    refine sr_istore_n G (by decide) d_B_confirm_21 ?_
    refine sr_aload_n G rfl d_B_confirm_22 ?_
    refine sr_get G (vv_0 hn) rfl ku_B rfl 1 (by decide) kf_B_17 rfl rfl d_B_confirm_23 ?_
    refine sr_iload_n G rfl d_B_confirm_26 ?_
    refine sr_aald G (vv_11 hn) rfl rfl (by assumption) d_B_confirm_27 ?_
    refine sr_getN G (vv_5 hn (by omega)) rfl ku_Ch rfl 0 (by decide) kf_B_89 rfl rfl d_B_confirm_28 ?_
    refine sr_iload_n G rfl d_B_confirm_31 ?_
    refine sr_aald G (vv_13 hn (by omega)) rfl rfl (by assumption) d_B_confirm_32 ?_
    refine sr_astore G (by decide) d_B_confirm_33 ?_
    refine sr_aload_n G rfl d_B_confirm_35 ?_
    refine sr_iload_n G rfl d_B_confirm_36 ?_
    refine sr_iload_n G rfl d_B_confirm_37 ?_
    refine sr_iconst G (v := 2) (by decide) d_B_confirm_38 ?_
    refine sr_iconst G (v := 3) (by decide) d_B_confirm_39 ?_
    refine sr_iload_n G rfl d_B_confirm_40 ?_
    refine sr_cvi G (vv_0 hn) rfl rfl ki_B_refusalOfStep kx_B_refusalOfStep (c_B_refusalOfStep hn (by first | assumption | omega | decide | (unfold vp_in; decide)) (by first | assumption | omega | decide | (unfold vp_in; decide))) kc_B_refusalOfStep km_B_104 kn_B yy_B_refusalOfStep rfl ⟨rfl, rfl, by decide, by decide⟩ (Nat.le_of_ble_eq_true rfl) rfl d_B_confirm_41 ?_
    refine sr_istore G (by decide) d_B_confirm_44 ?_
    refine sr_iload G rfl d_B_confirm_46 ?_
    refine sr_if_eq G 54 d_B_confirm_48 rfl (fun h48 => ?_) (fun h48 => ?_)
    · skip
      refine sr_aload G rfl d_B_confirm_54 ?_
      refine sr_iconst G (v := 3) (by decide) d_B_confirm_56 ?_
      refine sr_aload_n G rfl d_B_confirm_57 ?_
      refine sr_get G (vv_0 hn) rfl ku_B rfl 0 (by decide) kf_B_11 rfl rfl d_B_confirm_58 ?_
      refine sr_iload_n G rfl d_B_confirm_61 ?_
      refine sr_aald G (vv_10 hn) rfl rfl (by assumption) d_B_confirm_62 ?_
      refine sr_getN G (vv_1 hn (by omega)) rfl ku_Le rfl 2 (by decide) kf_B_37 rfl rfl d_B_confirm_63 ?_
      refine sr_cvNv G (vv_6 hn (by omega)) rfl rfl ki_En_comeTo kx_En_comeTo (c_En_comeTo hn (by first | assumption | omega | decide | (unfold vp_in; decide))) kc_En_comeTo km_B_98 kn_En yy_En_comeTo rfl ⟨rfl, rfl, by decide, by decide⟩ (Nat.le_of_ble_eq_true rfl) rfl d_B_confirm_66 ?_
      refine sr_aload G rfl d_B_confirm_69 ?_
      refine sr_getN G (vv_6 hn (by omega)) rfl ku_En rfl 4 (by decide) kf_B_111 rfl rfl d_B_confirm_71 ?_
      refine sr_iret G d_B_confirm_74 ?_
      unfold f_B_confirm
      rw [if_neg h5, if_pos h48]
      exact ⟨rfl, rfl⟩
    · skip
      refine sr_iload G rfl d_B_confirm_51 ?_
      refine sr_iret G d_B_confirm_53 ?_
      unfold f_B_confirm
      rw [if_neg h5, if_neg h48]
      exact ⟨rfl, rfl⟩
  · skip
    refine sr_iconst G (v := (-1)) (by decide) d_B_confirm_8 ?_
    refine sr_iret G d_B_confirm_9 ?_
    unfold f_B_confirm
    rw [if_pos h5]
    exact ⟨rfl, rfl⟩
def f_B_close (M : Mem) (x1 : Int32) (x2 : Int32) : Int32 × Mem := (if (f_B_isChannel M x1) = 0 then ((-1), M) else (if (f_B_isSide x2) = 0 then ((-1), M) else (if (M 6 (2 * (Int32.toNatClampNeg x1) + Int32.toNatClampNeg x2) 2) = 3 then (1, (f_En_comeTo M (2 * (Int32.toNatClampNeg x1) + Int32.toNatClampNeg x2) 4 (M 1 (Int32.toNatClampNeg x2) 2))) else ((-3), M))))
set_option maxHeartbeats 4000000 in
set_option maxRecDepth 100000 in
theorem c_B_close {l : Launch} {D : va_G} {t6 : Nat → ClassId} {b n : Nat} (hn : 104 ≤ n) {M : Mem} {x1 : Int32} {x2 : Int32} (hI : ci_ M) : CI l D t6 b n y_B_close cd_B_close 4 .int (rk 2 44) [.ref (ad b 0 0), .int x1, .int x2] M (f_B_close M x1 x2).1 (f_B_close M x1 x2).2 := by
  refine en_i (by decide) (by simp [Value.category]) (Nat.le_of_ble_eq_true rfl) (fun p e s m below meth c G => ?_)
  refine sr_aload_n G rfl d_B_close_0 ?_
  refine sr_iload_n G rfl d_B_close_1 ?_
  refine sr_cvi G (vv_0 hn) rfl rfl ki_B_isChannel kx_B_isChannel (c_B_isChannel hn) kc_B_isChannel km_B_101 kn_B yy_B_isChannel rfl ⟨rfl, rfl, by decide, by decide⟩ (Nat.le_of_ble_eq_true rfl) rfl d_B_close_2 ?_
  refine sr_if_eq G 15 d_B_close_5 rfl (fun h5 => ?_) (fun h5 => ?_)
  · skip
    refine sr_iconst G (v := (-1)) (by decide) d_B_close_15 ?_
    refine sr_iret G d_B_close_16 ?_
    unfold f_B_close
    rw [if_pos h5]
    exact ⟨rfl, rfl⟩
  · skip
    have v5 : vp_in x1 4 := in_ch hI h5
    have i5 := ix_lt v5
    have f5 := hI.2.2.1 _ i5
    have f5a := ix_lt f5
    have f5b := in_1 f5
    have f5c := ix_lt f5b
    have f5d := in_1 f5b
    have f5e := ix_lt f5d
    refine sr_iload_n G rfl d_B_close_8 ?_
    refine sr_csi G ks_B_isSide (c_B_isSide) kc_B_isSide km_B_33 kn_B yy_B_isSide rfl ⟨rfl, rfl, by decide, by decide⟩ (Nat.le_of_ble_eq_true rfl) rfl d_B_close_9 ?_
    refine sr_if_ne G 17 d_B_close_12 rfl (fun h12 => ?_) (fun h12 => ?_)
    · skip
      have v12 : vp_in x2 2 := in_wi (lo := 0) (hi := 1) (by decide) (by decide) h12
      have i12 := ix_lt v12
      have w12 := in_1 v12
      have j12 := ix_lt w12
      refine sr_aload_n G rfl d_B_close_17 ?_
      refine sr_get G (vv_0 hn) rfl ku_B rfl 1 (by decide) kf_B_17 rfl rfl d_B_close_18 ?_
      refine sr_iload_n G rfl d_B_close_21 ?_
      refine sr_aald G (vv_11 hn) rfl rfl (by assumption) d_B_close_22 ?_
      refine sr_getN G (vv_5 hn (by omega)) rfl ku_Ch rfl 0 (by decide) kf_B_89 rfl rfl d_B_close_23 ?_
      refine sr_iload_n G rfl d_B_close_26 ?_
      refine sr_aald G (vv_13 hn (by omega)) rfl rfl (by assumption) d_B_close_27 ?_
      refine sr_astore_n G (by decide) d_B_close_28 ?_
      refine sr_aload_n G rfl d_B_close_29 ?_
      refine sr_getN G (vv_6 hn (by omega)) rfl ku_En rfl 2 (by decide) kf_B_114 rfl rfl d_B_close_30 ?_
      refine sr_iconst G (v := 3) (by decide) d_B_close_33 ?_
      refine sr_icmp_eq G 40 d_B_close_34 rfl (fun h34 => ?_) (fun h34 => ?_)
      · skip
        refine sr_aload_n G rfl d_B_close_40 ?_
        refine sr_iconst G (v := 4) (by decide) d_B_close_41 ?_
        refine sr_aload_n G rfl d_B_close_42 ?_
        refine sr_get G (vv_0 hn) rfl ku_B rfl 0 (by decide) kf_B_11 rfl rfl d_B_close_43 ?_
        refine sr_iload_n G rfl d_B_close_46 ?_
        refine sr_aald G (vv_10 hn) rfl rfl (by assumption) d_B_close_47 ?_
        refine sr_getN G (vv_1 hn (by omega)) rfl ku_Le rfl 2 (by decide) kf_B_37 rfl rfl d_B_close_48 ?_
        refine sr_cvNv G (vv_6 hn (by omega)) rfl rfl ki_En_comeTo kx_En_comeTo (c_En_comeTo hn (by first | assumption | omega | decide | (unfold vp_in; decide))) kc_En_comeTo km_B_98 kn_En yy_En_comeTo rfl ⟨rfl, rfl, by decide, by decide⟩ (Nat.le_of_ble_eq_true rfl) rfl d_B_close_51 ?_
        refine sr_iconst G (v := 1) (by decide) d_B_close_54 ?_
        refine sr_iret G d_B_close_55 ?_
        unfold f_B_close
        rw [if_neg h5, if_neg h12, if_pos h34]
        exact ⟨rfl, rfl⟩
      · skip
        refine sr_bipush G (v := (-3)) (by decide) d_B_close_37 ?_
        refine sr_iret G d_B_close_39 ?_
        unfold f_B_close
        rw [if_neg h5, if_neg h12, if_neg h34]
        exact ⟨rfl, rfl⟩
    · skip
      refine sr_iconst G (v := (-1)) (by decide) d_B_close_15 ?_
      refine sr_iret G d_B_close_16 ?_
      unfold f_B_close
      rw [if_neg h5, if_pos h12]
      exact ⟨rfl, rfl⟩
def f_B_shut (M : Mem) (x1 : Int32) (x2 : Int32) (x3 : Int32) : Int32 × Mem := (if (f_B_isChannel M x1) = 0 then ((-1), M) else (if (f_B_isSide x2) = 0 then ((-1), M) else (if (f_B_refusalOfStep M x1 x2 3 4 x3) = 0 then (1, (f_En_comeTo M (2 * (Int32.toNatClampNeg x1) + Int32.toNatClampNeg x2) 4 (M 1 (Int32.toNatClampNeg x2) 2))) else ((f_B_refusalOfStep M x1 x2 3 4 x3), M))))
set_option maxHeartbeats 4000000 in
set_option maxRecDepth 100000 in
theorem c_B_shut {l : Launch} {D : va_G} {t6 : Nat → ClassId} {b n : Nat} (hn : 104 ≤ n) {M : Mem} {x1 : Int32} {x2 : Int32} {x3 : Int32} (hI : ci_ M) : CI l D t6 b n y_B_shut cd_B_shut 5 .int (rk 5 113) [.ref (ad b 0 0), .int x1, .int x2, .int x3] M (f_B_shut M x1 x2 x3).1 (f_B_shut M x1 x2 x3).2 := by
  refine en_i (by decide) (by simp [Value.category]) (Nat.le_of_ble_eq_true rfl) (fun p e s m below meth c G => ?_)
  refine sr_aload_n G rfl d_B_shut_0 ?_
  refine sr_iload_n G rfl d_B_shut_1 ?_
  refine sr_cvi G (vv_0 hn) rfl rfl ki_B_isChannel kx_B_isChannel (c_B_isChannel hn) kc_B_isChannel km_B_101 kn_B yy_B_isChannel rfl ⟨rfl, rfl, by decide, by decide⟩ (Nat.le_of_ble_eq_true rfl) rfl d_B_shut_2 ?_
  refine sr_if_eq G 15 d_B_shut_5 rfl (fun h5 => ?_) (fun h5 => ?_)
  · skip
    refine sr_iconst G (v := (-1)) (by decide) d_B_shut_15 ?_
    refine sr_iret G d_B_shut_16 ?_
    unfold f_B_shut
    rw [if_pos h5]
    exact ⟨rfl, rfl⟩
  · skip
    have v5 : vp_in x1 4 := in_ch hI h5
    have i5 := ix_lt v5
    have f5 := hI.2.2.1 _ i5
    have f5a := ix_lt f5
    have f5b := in_1 f5
    have f5c := ix_lt f5b
    have f5d := in_1 f5b
    have f5e := ix_lt f5d
    refine sr_iload_n G rfl d_B_shut_8 ?_
    refine sr_csi G ks_B_isSide (c_B_isSide) kc_B_isSide km_B_33 kn_B yy_B_isSide rfl ⟨rfl, rfl, by decide, by decide⟩ (Nat.le_of_ble_eq_true rfl) rfl d_B_shut_9 ?_
    refine sr_if_ne G 17 d_B_shut_12 rfl (fun h12 => ?_) (fun h12 => ?_)
    · skip
      have v12 : vp_in x2 2 := in_wi (lo := 0) (hi := 1) (by decide) (by decide) h12
      have i12 := ix_lt v12
      have w12 := in_1 v12
      have j12 := ix_lt w12
      refine sr_aload_n G rfl d_B_shut_17 ?_
      refine sr_iload_n G rfl d_B_shut_18 ?_
      refine sr_iload_n G rfl d_B_shut_19 ?_
      refine sr_iconst G (v := 3) (by decide) d_B_shut_20 ?_
      refine sr_iconst G (v := 4) (by decide) d_B_shut_21 ?_
      refine sr_iload_n G rfl d_B_shut_22 ?_
      refine sr_cvi G (vv_0 hn) rfl rfl ki_B_refusalOfStep kx_B_refusalOfStep (c_B_refusalOfStep hn (by first | assumption | omega | decide | (unfold vp_in; decide)) (by first | assumption | omega | decide | (unfold vp_in; decide))) kc_B_refusalOfStep km_B_104 kn_B yy_B_refusalOfStep rfl ⟨rfl, rfl, by decide, by decide⟩ (Nat.le_of_ble_eq_true rfl) rfl d_B_shut_23 ?_
      refine sr_istore G (by decide) d_B_shut_26 ?_
      refine sr_iload G rfl d_B_shut_28 ?_
      refine sr_if_eq G 36 d_B_shut_30 rfl (fun h30 => ?_) (fun h30 => ?_)
      · skip
        refine sr_aload_n G rfl d_B_shut_36 ?_
        refine sr_get G (vv_0 hn) rfl ku_B rfl 1 (by decide) kf_B_17 rfl rfl d_B_shut_37 ?_
        refine sr_iload_n G rfl d_B_shut_40 ?_
        refine sr_aald G (vv_11 hn) rfl rfl (by assumption) d_B_shut_41 ?_
        refine sr_getN G (vv_5 hn (by omega)) rfl ku_Ch rfl 0 (by decide) kf_B_89 rfl rfl d_B_shut_42 ?_
        refine sr_iload_n G rfl d_B_shut_45 ?_
        refine sr_aald G (vv_13 hn (by omega)) rfl rfl (by assumption) d_B_shut_46 ?_
        refine sr_iconst G (v := 4) (by decide) d_B_shut_47 ?_
        refine sr_aload_n G rfl d_B_shut_48 ?_
        refine sr_get G (vv_0 hn) rfl ku_B rfl 0 (by decide) kf_B_11 rfl rfl d_B_shut_49 ?_
        refine sr_iload_n G rfl d_B_shut_52 ?_
        refine sr_aald G (vv_10 hn) rfl rfl (by assumption) d_B_shut_53 ?_
        refine sr_getN G (vv_1 hn (by omega)) rfl ku_Le rfl 2 (by decide) kf_B_37 rfl rfl d_B_shut_54 ?_
        refine sr_cvNv G (vv_6 hn (by omega)) rfl rfl ki_En_comeTo kx_En_comeTo (c_En_comeTo hn (by first | assumption | omega | decide | (unfold vp_in; decide))) kc_En_comeTo km_B_98 kn_En yy_En_comeTo rfl ⟨rfl, rfl, by decide, by decide⟩ (Nat.le_of_ble_eq_true rfl) rfl d_B_shut_57 ?_
        refine sr_iconst G (v := 1) (by decide) d_B_shut_60 ?_
        refine sr_iret G d_B_shut_61 ?_
        unfold f_B_shut
        rw [if_neg h5, if_neg h12, if_pos h30]
        exact ⟨rfl, rfl⟩
      · skip
        refine sr_iload G rfl d_B_shut_33 ?_
        refine sr_iret G d_B_shut_35 ?_
        unfold f_B_shut
        rw [if_neg h5, if_neg h12, if_neg h30]
        exact ⟨rfl, rfl⟩
    · skip
      refine sr_iconst G (v := (-1)) (by decide) d_B_shut_15 ?_
      refine sr_iret G d_B_shut_16 ?_
      unfold f_B_shut
      rw [if_neg h5, if_pos h12]
      exact ⟨rfl, rfl⟩
