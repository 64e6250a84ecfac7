def f_B_total_2 (M : Mem) (z : Nat) : Int32 := 0 + M 2 z (Int32.toNatClampNeg 0) + M 2 z (Int32.toNatClampNeg 1) + M 2 z (Int32.toNatClampNeg 2) + M 2 z (Int32.toNatClampNeg 3)
set_option maxHeartbeats 4000000 in
set_option maxRecDepth 100000 in
theorem c_B_total_2 {l : Launch} {D : va_G} {t6 : Nat → ClassId} {b n : Nat} (hn : 104 ≤ n) {M : Mem} {z : Nat} (hz : z < 2) : CI l D t6 b n y_B_total cd_B_total 3 .int (rk 0 0) [.ref (ad b 2 z)] M (f_B_total_2 M z) M := by
  refine en_i (by decide) (by simp [Value.category]) (Nat.le_of_ble_eq_true rfl) (fun p e s m below meth c G => ?_)
  refine sr_iconst G (v := 0) (by decide) d_B_total_0 ?_
  refine sr_istore_n G (by decide) d_B_total_1 ?_
  refine sr_iconst G (v := 0) (by decide) d_B_total_2 ?_
  refine sr_istore_n G (by decide) d_B_total_3 ?_
  refine sr_iload_n G rfl d_B_total_4 ?_
  refine sr_aload_n G rfl d_B_total_5 ?_
  refine sr_alen G (vv_2 hn (by omega)) rfl rfl (v := 4) (by decide) d_B_total_6 ?_
  refine sr_icmp_ge G 22 d_B_total_7 rfl (fun h => absurd h (by decide)) (fun _ => ?_)
  refine sr_iload_n G rfl d_B_total_10 ?_
  refine sr_aload_n G rfl d_B_total_11 ?_
  refine sr_iload_n G rfl d_B_total_12 ?_
  refine sr_iald G (vv_2 hn (by omega)) rfl (by unfold vp_in; decide) d_B_total_13 ?_
  refine sr_iadd G d_B_total_14 ?_
  refine sr_istore_n G (by decide) d_B_total_15 ?_
  refine sr_iinc G (v := 1) rfl (by decide) (by decide) d_B_total_16 ?_
  refine sr_goto G 4 d_B_total_19 rfl ?_
  refine sr_iload_n G rfl d_B_total_4 ?_
  refine sr_aload_n G rfl d_B_total_5 ?_
  refine sr_alen G (vv_2 hn (by omega)) rfl rfl (v := 4) (by decide) d_B_total_6 ?_
  refine sr_icmp_ge G 22 d_B_total_7 rfl (fun h => absurd h (by decide)) (fun _ => ?_)
  refine sr_iload_n G rfl d_B_total_10 ?_
  refine sr_aload_n G rfl d_B_total_11 ?_
  refine sr_iload_n G rfl d_B_total_12 ?_
  refine sr_iald G (vv_2 hn (by omega)) rfl (by unfold vp_in; decide) d_B_total_13 ?_
  refine sr_iadd G d_B_total_14 ?_
  refine sr_istore_n G (by decide) d_B_total_15 ?_
  refine sr_iinc G (v := 2) rfl (by decide) (by decide) d_B_total_16 ?_
  refine sr_goto G 4 d_B_total_19 rfl ?_
  refine sr_iload_n G rfl d_B_total_4 ?_
  refine sr_aload_n G rfl d_B_total_5 ?_
  refine sr_alen G (vv_2 hn (by omega)) rfl rfl (v := 4) (by decide) d_B_total_6 ?_
  refine sr_icmp_ge G 22 d_B_total_7 rfl (fun h => absurd h (by decide)) (fun _ => ?_)
  refine sr_iload_n G rfl d_B_total_10 ?_
  refine sr_aload_n G rfl d_B_total_11 ?_
  refine sr_iload_n G rfl d_B_total_12 ?_
  refine sr_iald G (vv_2 hn (by omega)) rfl (by unfold vp_in; decide) d_B_total_13 ?_
  refine sr_iadd G d_B_total_14 ?_
  refine sr_istore_n G (by decide) d_B_total_15 ?_
  refine sr_iinc G (v := 3) rfl (by decide) (by decide) d_B_total_16 ?_
  refine sr_goto G 4 d_B_total_19 rfl ?_
  refine sr_iload_n G rfl d_B_total_4 ?_
  refine sr_aload_n G rfl d_B_total_5 ?_
  refine sr_alen G (vv_2 hn (by omega)) rfl rfl (v := 4) (by decide) d_B_total_6 ?_
  refine sr_icmp_ge G 22 d_B_total_7 rfl (fun h => absurd h (by decide)) (fun _ => ?_)
  refine sr_iload_n G rfl d_B_total_10 ?_
  refine sr_aload_n G rfl d_B_total_11 ?_
  refine sr_iload_n G rfl d_B_total_12 ?_
  refine sr_iald G (vv_2 hn (by omega)) rfl (by unfold vp_in; decide) d_B_total_13 ?_
  refine sr_iadd G d_B_total_14 ?_
  refine sr_istore_n G (by decide) d_B_total_15 ?_
  refine sr_iinc G (v := 4) rfl (by decide) (by decide) d_B_total_16 ?_
  refine sr_goto G 4 d_B_total_19 rfl ?_
  refine sr_iload_n G rfl d_B_total_4 ?_
  refine sr_aload_n G rfl d_B_total_5 ?_
  refine sr_alen G (vv_2 hn (by omega)) rfl rfl (v := 4) (by decide) d_B_total_6 ?_
  refine sr_icmp_ge G 22 d_B_total_7 rfl (fun _ => ?_) (fun h => absurd (by decide) h)
  refine sr_iload_n G rfl d_B_total_22 ?_
  refine sr_iret G d_B_total_23 ?_
  unfold f_B_total_2
  exact ⟨rfl, rfl⟩
def f_B_total_8 (M : Mem) (z : Nat) : Int32 := 0 + M 8 z (Int32.toNatClampNeg 0) + M 8 z (Int32.toNatClampNeg 1) + M 8 z (Int32.toNatClampNeg 2) + M 8 z (Int32.toNatClampNeg 3)
set_option maxHeartbeats 4000000 in
set_option maxRecDepth 100000 in
theorem c_B_total_8 {l : Launch} {D : va_G} {t6 : Nat → ClassId} {b n : Nat} (hn : 104 ≤ n) {M : Mem} {z : Nat} (hz : z < 8) : CI l D t6 b n y_B_total cd_B_total 3 .int (rk 0 0) [.ref (ad b 8 z)] M (f_B_total_8 M z) M := by
  refine en_i (by decide) (by simp [Value.category]) (Nat.le_of_ble_eq_true rfl) (fun p e s m below meth c G => ?_)
  refine sr_iconst G (v := 0) (by decide) d_B_total_0 ?_
  refine sr_istore_n G (by decide) d_B_total_1 ?_
  refine sr_iconst G (v := 0) (by decide) d_B_total_2 ?_
  refine sr_istore_n G (by decide) d_B_total_3 ?_
  refine sr_iload_n G rfl d_B_total_4 ?_
  refine sr_aload_n G rfl d_B_total_5 ?_
  refine sr_alen G (vv_8 hn (by omega)) rfl rfl (v := 4) (by decide) d_B_total_6 ?_
  refine sr_icmp_ge G 22 d_B_total_7 rfl (fun h => absurd h (by decide)) (fun _ => ?_)
  refine sr_iload_n G rfl d_B_total_10 ?_
  refine sr_aload_n G rfl d_B_total_11 ?_
  refine sr_iload_n G rfl d_B_total_12 ?_
  refine sr_iald G (vv_8 hn (by omega)) rfl (by unfold vp_in; decide) d_B_total_13 ?_
  refine sr_iadd G d_B_total_14 ?_
  refine sr_istore_n G (by decide) d_B_total_15 ?_
  refine sr_iinc G (v := 1) rfl (by decide) (by decide) d_B_total_16 ?_
  refine sr_goto G 4 d_B_total_19 rfl ?_
  refine sr_iload_n G rfl d_B_total_4 ?_
  refine sr_aload_n G rfl d_B_total_5 ?_
  refine sr_alen G (vv_8 hn (by omega)) rfl rfl (v := 4) (by decide) d_B_total_6 ?_
  refine sr_icmp_ge G 22 d_B_total_7 rfl (fun h => absurd h (by decide)) (fun _ => ?_)
  refine sr_iload_n G rfl d_B_total_10 ?_
  refine sr_aload_n G rfl d_B_total_11 ?_
  refine sr_iload_n G rfl d_B_total_12 ?_
  refine sr_iald G (vv_8 hn (by omega)) rfl (by unfold vp_in; decide) d_B_total_13 ?_
  refine sr_iadd G d_B_total_14 ?_
  refine sr_istore_n G (by decide) d_B_total_15 ?_
  refine sr_iinc G (v := 2) rfl (by decide) (by decide) d_B_total_16 ?_
  refine sr_goto G 4 d_B_total_19 rfl ?_
  refine sr_iload_n G rfl d_B_total_4 ?_
  refine sr_aload_n G rfl d_B_total_5 ?_
  refine sr_alen G (vv_8 hn (by omega)) rfl rfl (v := 4) (by decide) d_B_total_6 ?_
  refine sr_icmp_ge G 22 d_B_total_7 rfl (fun h => absurd h (by decide)) (fun _ => ?_)
  refine sr_iload_n G rfl d_B_total_10 ?_
  refine sr_aload_n G rfl d_B_total_11 ?_
  refine sr_iload_n G rfl d_B_total_12 ?_
  refine sr_iald G (vv_8 hn (by omega)) rfl (by unfold vp_in; decide) d_B_total_13 ?_
  refine sr_iadd G d_B_total_14 ?_
  refine sr_istore_n G (by decide) d_B_total_15 ?_
  refine sr_iinc G (v := 3) rfl (by decide) (by decide) d_B_total_16 ?_
  refine sr_goto G 4 d_B_total_19 rfl ?_
  refine sr_iload_n G rfl d_B_total_4 ?_
  refine sr_aload_n G rfl d_B_total_5 ?_
  refine sr_alen G (vv_8 hn (by omega)) rfl rfl (v := 4) (by decide) d_B_total_6 ?_
  refine sr_icmp_ge G 22 d_B_total_7 rfl (fun h => absurd h (by decide)) (fun _ => ?_)
  refine sr_iload_n G rfl d_B_total_10 ?_
  refine sr_aload_n G rfl d_B_total_11 ?_
  refine sr_iload_n G rfl d_B_total_12 ?_
  refine sr_iald G (vv_8 hn (by omega)) rfl (by unfold vp_in; decide) d_B_total_13 ?_
  refine sr_iadd G d_B_total_14 ?_
  refine sr_istore_n G (by decide) d_B_total_15 ?_
  refine sr_iinc G (v := 4) rfl (by decide) (by decide) d_B_total_16 ?_
  refine sr_goto G 4 d_B_total_19 rfl ?_
  refine sr_iload_n G rfl d_B_total_4 ?_
  refine sr_aload_n G rfl d_B_total_5 ?_
  refine sr_alen G (vv_8 hn (by omega)) rfl rfl (v := 4) (by decide) d_B_total_6 ?_
  refine sr_icmp_ge G 22 d_B_total_7 rfl (fun _ => ?_) (fun h => absurd (by decide) h)
  refine sr_iload_n G rfl d_B_total_22 ?_
  refine sr_iret G d_B_total_23 ?_
  unfold f_B_total_8
  exact ⟨rfl, rfl⟩
def f_B_refusalOfStep (M : Mem) (x1 : Int32) (x2 : Int32) (x3 : Int32) (x4 : Int32) (x5 : Int32) : Int32 := (if (M 6 (2 * (Int32.toNatClampNeg x1) + Int32.toNatClampNeg x2) 2) = x3 then (if (f_Cl_refusal M (Int32.toNatClampNeg x2) x5) = 0 then (if (f_En_stepIn M (2 * (Int32.toNatClampNeg x1) + Int32.toNatClampNeg (1 - x2)) x5) = x4 then 0 else (-6)) else (f_Cl_refusal M (Int32.toNatClampNeg x2) x5)) else (-3))
set_option maxHeartbeats 4000000 in
set_option maxRecDepth 100000 in
theorem c_B_refusalOfStep {l : Launch} {D : va_G} {t6 : Nat → ClassId} {b n : Nat} (hn : 104 ≤ n) {M : Mem} {x1 : Int32} {x2 : Int32} {x3 : Int32} {x4 : Int32} {x5 : Int32} (v1 : vp_in x1 4) (v2 : vp_in x2 2) : CI l D t6 b n y_B_refusalOfStep cd_B_refusalOfStep 8 .int (rk 4 86) [.ref (ad b 0 0), .int x1, .int x2, .int x3, .int x4, .int x5] M (f_B_refusalOfStep M x1 x2 x3 x4 x5) M := by
  refine en_i (by decide) (by simp [Value.category]) (Nat.le_of_ble_eq_true rfl) (fun p e s m below meth c G => ?_)
  have i1 := ix_lt v1
  have i2 := ix_lt v2
  have w2 := in_1 v2
  have j2 := ix_lt w2
  refine sr_aload_n G rfl d_B_refusalOfStep_0 ?_
  refine sr_get G (vv_0 hn) rfl ku_B rfl 1 (by decide) kf_B_17 rfl rfl d_B_refusalOfStep_1 ?_
  refine sr_iload_n G rfl d_B_refusalOfStep_4 ?_
  refine sr_aald G (vv_11 hn) rfl rfl (by assumption) d_B_refusalOfStep_5 ?_
  refine sr_getN G (vv_5 hn (by omega)) rfl ku_Ch rfl 0 (by decide) kf_B_89 rfl rfl d_B_refusalOfStep_6 ?_
  refine sr_astore G (by decide) d_B_refusalOfStep_9 ?_
  refine sr_aload G rfl d_B_refusalOfStep_11 ?_
  refine sr_iload_n G rfl d_B_refusalOfStep_13 ?_
  refine sr_aald G (vv_13 hn (by omega)) rfl rfl (by assumption) d_B_refusalOfStep_14 ?_
  refine sr_getN G (vv_6 hn (by omega)) rfl ku_En rfl 2 (by decide) kf_B_114 rfl rfl d_B_refusalOfStep_15 ?_
  refine sr_iload_n G rfl d_B_refusalOfStep_18 ?_
  refine sr_icmp_eq G 25 d_B_refusalOfStep_19 rfl (fun h19 => ?_) (fun h19 => ?_)
  · skip
    refine sr_aload_n G rfl d_B_refusalOfStep_25 ?_
    refine sr_get G (vv_0 hn) rfl ku_B rfl 0 (by decide) kf_B_11 rfl rfl d_B_refusalOfStep_26 ?_
    refine sr_iload_n G rfl d_B_refusalOfStep_29 ?_
    refine sr_aald G (vv_10 hn) rfl rfl (by assumption) d_B_refusalOfStep_30 ?_
    refine sr_getN G (vv_1 hn (by omega)) rfl ku_Le rfl 1 (by decide) kf_B_45 rfl rfl d_B_refusalOfStep_31 ?_
    refine sr_iload G rfl d_B_refusalOfStep_34 ?_
    refine sr_cvNi G (vv_3 hn (by omega)) rfl rfl ki_Cl_refusal kx_Cl_refusal (c_Cl_refusal hn (by first | assumption | omega | decide | (unfold vp_in; decide))) kc_Cl_refusal km_B_150 kn_Cl yy_Cl_refusal rfl ⟨rfl, rfl, by decide, by decide⟩ (Nat.le_of_ble_eq_true rfl) rfl d_B_refusalOfStep_36 ?_
    refine sr_istore G (by decide) d_B_refusalOfStep_39 ?_
    refine sr_iload G rfl d_B_refusalOfStep_41 ?_
    refine sr_if_eq G 49 d_B_refusalOfStep_43 rfl (fun h43 => ?_) (fun h43 => ?_)
    · skip
      refine sr_aload G rfl d_B_refusalOfStep_49 ?_
      refine sr_iconst G (v := 1) (by decide) d_B_refusalOfStep_51 ?_
      refine sr_iload_n G rfl d_B_refusalOfStep_52 ?_
      refine sr_isub G d_B_refusalOfStep_53 ?_
      refine sr_aald G (vv_13 hn (by omega)) rfl rfl (by assumption) d_B_refusalOfStep_54 ?_
      refine sr_iload G rfl d_B_refusalOfStep_55 ?_
      refine sr_cvNi G (vv_6 hn (by omega)) rfl rfl ki_En_stepIn kx_En_stepIn (c_En_stepIn hn (by first | assumption | omega | decide | (unfold vp_in; decide))) kc_En_stepIn km_B_203 kn_En yy_En_stepIn rfl ⟨rfl, rfl, by decide, by decide⟩ (Nat.le_of_ble_eq_true rfl) rfl d_B_refusalOfStep_57 ?_
      refine sr_iload G rfl d_B_refusalOfStep_60 ?_
      refine sr_icmp_ne G 69 d_B_refusalOfStep_62 rfl (fun h62 => ?_) (fun h62 => ?_)
      · skip
        refine sr_bipush G (v := (-6)) (by decide) d_B_refusalOfStep_69 ?_
        refine sr_iret G d_B_refusalOfStep_71 ?_
        unfold f_B_refusalOfStep
        rw [if_pos h19, if_pos h43, if_neg h62]
        exact ⟨rfl, rfl⟩
      · skip
        refine sr_iconst G (v := 0) (by decide) d_B_refusalOfStep_65 ?_
        refine sr_goto G 71 d_B_refusalOfStep_66 rfl ?_
        refine sr_iret G d_B_refusalOfStep_71 ?_
        unfold f_B_refusalOfStep
        rw [if_pos h19, if_pos h43, if_pos h62]
        exact ⟨rfl, rfl⟩
    · skip
      refine sr_iload G rfl d_B_refusalOfStep_46 ?_
      refine sr_iret G d_B_refusalOfStep_48 ?_
      unfold f_B_refusalOfStep
      rw [if_pos h19, if_neg h43]
      exact ⟨rfl, rfl⟩
  · skip
    refine sr_bipush G (v := (-3)) (by decide) d_B_refusalOfStep_22 ?_
    refine sr_iret G d_B_refusalOfStep_24 ?_
    unfold f_B_refusalOfStep
    rw [if_neg h19]
    exact ⟨rfl, rfl⟩
theorem ci_mg {M : Mem} (h : ci_ M) {i : Nat} (hi : i < 60) : vp_in (M 9 i 0) 4 ∧ vp_in (M 9 i 1) 2 ∧ vp_in (M 9 i 3) 4 := h.2.2.2 i hi
def f_B_refusalAtSender (M : Mem) (x1 : Nat) (x2 : Int32) : Int32 := (if (M 9 x1 8) = 0 then (-3) else (f_Cl_refusal M (Int32.toNatClampNeg (M 9 x1 1)) x2))
set_option maxHeartbeats 4000000 in
set_option maxRecDepth 100000 in
theorem c_B_refusalAtSender {l : Launch} {D : va_G} {t6 : Nat → ClassId} {b n : Nat} (hn : 104 ≤ n) {M : Mem} {x1 : Nat} {x2 : Int32} (hz : x1 < 60) (hI : ci_ M) : CI l D t6 b n y_B_refusalAtSender cd_B_refusalAtSender 3 .int (rk 4 86) [.ref (ad b 0 0), .ref (ad b 9 x1), .int x2] M (f_B_refusalAtSender M x1 x2) M := by
  refine en_i (by decide) (by simp [Value.category]) (Nat.le_of_ble_eq_true rfl) (fun p e s m below meth c G => ?_)
  obtain ⟨m0, m1, m3⟩ := ci_mg hI hz
  have n0 := ix_lt m0
  have n1 := ix_lt m1
  have n3 := ix_lt m3
  have o1 := in_1 m1
  have q1 := ix_lt o1
  refine sr_aload_n G rfl d_B_refusalAtSender_0 ?_
  refine sr_getN G (vv_9 hn (by omega)) rfl ku_Me rfl 8 (by decide) kf_B_212 rfl rfl d_B_refusalAtSender_1 ?_
  refine sr_if_ne G 10 d_B_refusalAtSender_4 rfl (fun h4 => ?_) (fun h4 => ?_)
  · skip
    refine sr_aload_n G rfl d_B_refusalAtSender_10 ?_
    refine sr_get G (vv_0 hn) rfl ku_B rfl 0 (by decide) kf_B_11 rfl rfl d_B_refusalAtSender_11 ?_
    refine sr_aload_n G rfl d_B_refusalAtSender_14 ?_
    refine sr_getN G (vv_9 hn (by omega)) rfl ku_Me rfl 1 (by decide) kf_B_141 rfl rfl d_B_refusalAtSender_15 ?_
    refine sr_aald G (vv_10 hn) rfl rfl (by assumption) d_B_refusalAtSender_18 ?_
    refine sr_getN G (vv_1 hn (by omega)) rfl ku_Le rfl 1 (by decide) kf_B_45 rfl rfl d_B_refusalAtSender_19 ?_
    refine sr_iload_n G rfl d_B_refusalAtSender_22 ?_
    refine sr_cvNi G (vv_3 hn (by omega)) rfl rfl ki_Cl_refusal kx_Cl_refusal (c_Cl_refusal hn (by first | assumption | omega | decide | (unfold vp_in; decide))) kc_Cl_refusal km_B_150 kn_Cl yy_Cl_refusal rfl ⟨rfl, rfl, by decide, by decide⟩ (Nat.le_of_ble_eq_true rfl) rfl d_B_refusalAtSender_23 ?_
    refine sr_iret G d_B_refusalAtSender_26 ?_
    unfold f_B_refusalAtSender
    rw [if_neg h4]
    exact ⟨rfl, rfl⟩
  · skip
    refine sr_bipush G (v := (-3)) (by decide) d_B_refusalAtSender_7 ?_
    refine sr_iret G d_B_refusalAtSender_9 ?_
    unfold f_B_refusalAtSender
    rw [if_pos h4]
    exact ⟨rfl, rfl⟩
set_option maxHeartbeats 4000000 in
set_option maxRecDepth 100000 in
theorem c_B_purse_h {l : Launch} {D : va_G} {t6 : Nat → ClassId} {b n : Nat} (hn : 104 ≤ n) {M : Mem} {x1 x2 x3 : Int32} (v1 : vp_in x1 4) (v2 : vp_in x2 2) (h0 : x3 = x2) : CA l D t6 b n y_B_purse cd_B_purse 4 (.array .int) (rk 0 0) [.ref (ad b 0 0), .int x1, .int x2, .int x3] M (ad b 2 (Int32.toNatClampNeg x2)) M := by
  refine en_a (by decide) (by simp [Value.category]) (Nat.le_of_ble_eq_true rfl) (fun p e s m below meth c G => ?_)
  have i1 := ix_lt v1
  have i2 := ix_lt v2
  have w2 := in_1 v2
  have j2 := ix_lt w2
  refine sr_iload_n G rfl d_B_purse_0 ?_
  refine sr_iload_n G rfl d_B_purse_1 ?_
  refine sr_icmp_ne G 17 d_B_purse_2 rfl (fun h => absurd h0 h) (fun _ => ?_)
  refine sr_aload_n G rfl d_B_purse_5 ?_
  refine sr_get G (vv_0 hn) rfl ku_B rfl 0 (by decide) kf_B_11 rfl rfl d_B_purse_6 ?_
  refine sr_iload_n G rfl d_B_purse_9 ?_
  refine sr_aald G (vv_10 hn) rfl rfl (by assumption) d_B_purse_10 ?_
  refine sr_getN G (vv_1 hn (by omega)) rfl ku_Le rfl 0 (by decide) kf_B_218 rfl rfl d_B_purse_11 ?_
  refine sr_goto G 31 d_B_purse_14 rfl ?_
  refine sr_aret G d_B_purse_31 ?_
  exact ⟨rfl, rfl⟩
set_option maxHeartbeats 4000000 in
set_option maxRecDepth 100000 in
theorem c_B_purse_o {l : Launch} {D : va_G} {t6 : Nat → ClassId} {b n : Nat} (hn : 104 ≤ n) {M : Mem} {x1 x2 x3 : Int32} (v1 : vp_in x1 4) (v2 : vp_in x2 2) (h0 : ¬ x3 = x2) : CA l D t6 b n y_B_purse cd_B_purse 4 (.array .int) (rk 0 0) [.ref (ad b 0 0), .int x1, .int x2, .int x3] M (ad b 8 (2 * Int32.toNatClampNeg x1 + Int32.toNatClampNeg x2)) M := by
  refine en_a (by decide) (by simp [Value.category]) (Nat.le_of_ble_eq_true rfl) (fun p e s m below meth c G => ?_)
  have i1 := ix_lt v1
  have i2 := ix_lt v2
  have w2 := in_1 v2
  have j2 := ix_lt w2
  refine sr_iload_n G rfl d_B_purse_0 ?_
  refine sr_iload_n G rfl d_B_purse_1 ?_
  refine sr_icmp_ne G 17 d_B_purse_2 rfl (fun _ => ?_) (fun h => absurd h h0)
  refine sr_aload_n G rfl d_B_purse_17 ?_
  refine sr_get G (vv_0 hn) rfl ku_B rfl 1 (by decide) kf_B_17 rfl rfl d_B_purse_18 ?_
  refine sr_iload_n G rfl d_B_purse_21 ?_
  refine sr_aald G (vv_11 hn) rfl rfl (by assumption) d_B_purse_22 ?_
  refine sr_getN G (vv_5 hn (by omega)) rfl ku_Ch rfl 0 (by decide) kf_B_89 rfl rfl d_B_purse_23 ?_
  refine sr_iload_n G rfl d_B_purse_26 ?_
  refine sr_aald G (vv_13 hn (by omega)) rfl rfl (by assumption) d_B_purse_27 ?_
  refine sr_getN G (vv_6 hn (by omega)) rfl ku_En rfl 1 (by decide) kf_B_222 rfl rfl d_B_purse_28 ?_
  refine sr_aret G d_B_purse_31 ?_
  exact ⟨rfl, rfl⟩
def f_B_takeIn (M : Mem) (x1 : Int32) (x2 : Int32) (x3 : Int32) (x4 : Int32) (x5 : Int32) : Mem := (if x4 = x2 then (u3 (u3 M 2 (Int32.toNatClampNeg x2) (Int32.toNatClampNeg x3) ((M 2 (Int32.toNatClampNeg x2) (Int32.toNatClampNeg x3)) - x5)) 6 (2 * (Int32.toNatClampNeg x1) + Int32.toNatClampNeg x2) 5 (((u3 M 2 (Int32.toNatClampNeg x2) (Int32.toNatClampNeg x3) ((M 2 (Int32.toNatClampNeg x2) (Int32.toNatClampNeg x3)) - x5)) 6 (2 * (Int32.toNatClampNeg x1) + Int32.toNatClampNeg x2) 5) + x5)) else (u3 M 8 (2 * Int32.toNatClampNeg x1 + Int32.toNatClampNeg x2) (Int32.toNatClampNeg x3) ((M 8 (2 * Int32.toNatClampNeg x1 + Int32.toNatClampNeg x2) (Int32.toNatClampNeg x3)) - x5)))
set_option maxHeartbeats 4000000 in
set_option maxRecDepth 100000 in
theorem c_B_takeIn {l : Launch} {D : va_G} {t6 : Nat → ClassId} {b n : Nat} (hn : 104 ≤ n) {M : Mem} {x1 : Int32} {x2 : Int32} {x3 : Int32} {x4 : Int32} {x5 : Int32} (v1 : vp_in x1 4) (v2 : vp_in x2 2) (v3 : vp_in x3 4) : CV l D t6 b n y_B_takeIn cd_B_takeIn 6  (rk 1 23) [.ref (ad b 0 0), .int x1, .int x2, .int x3, .int x4, .int x5] M (f_B_takeIn M x1 x2 x3 x4 x5) := by
  refine en_v (by decide) (by simp [Value.category]) (Nat.le_of_ble_eq_true rfl) (fun p e s m below meth c G => ?_)
  have i1 := ix_lt v1
  have i2 := ix_lt v2
  have w2 := in_1 v2
  have j2 := ix_lt w2
  have i3 := ix_lt v3
  refine sr_aload_n G rfl d_B_takeIn_0 ?_
  refine sr_iload_n G rfl d_B_takeIn_1 ?_
  refine sr_iload_n G rfl d_B_takeIn_2 ?_
  refine sr_iload G rfl d_B_takeIn_3 ?_
  by_cases h5 : x4 = x2
  · skip
    refine sr_cva G (vv_0 hn) rfl rfl ki_B_purse kx_B_purse (c_B_purse_h hn (by assumption) (by assumption) h5) kc_B_purse km_B_123 kn_B yy_B_purse rfl ⟨rfl, rfl, by decide, by decide⟩ (Nat.le_of_ble_eq_true rfl) rfl d_B_takeIn_5 ?_
    refine sr_iload_n G rfl d_B_takeIn_8 ?_
    refine sr_dup2 G rfl rfl d_B_takeIn_9 ?_
    refine sr_iald G (vv_2 hn (by omega)) rfl (by assumption) d_B_takeIn_10 ?_
    refine sr_iload G rfl d_B_takeIn_11 ?_
    refine sr_isub G d_B_takeIn_13 ?_
    refine sr_iast G (vv_2 hn (by omega)) (fun _ => rfl) (by assumption) d_B_takeIn_14 ?_
    refine sr_iload G rfl d_B_takeIn_15 ?_
    refine sr_iload_n G rfl d_B_takeIn_17 ?_
    refine sr_icmp_ne G 42 d_B_takeIn_18 rfl (fun h => absurd h5 h) (fun _ => ?_)
    refine sr_aload_n G rfl d_B_takeIn_21 ?_
    refine sr_get G (vv_0 hn) rfl ku_B rfl 1 (by decide) kf_B_17 rfl rfl d_B_takeIn_22 ?_
    refine sr_iload_n G rfl d_B_takeIn_25 ?_
    refine sr_aald G (vv_11 hn) rfl rfl (by assumption) d_B_takeIn_26 ?_
    refine sr_getN G (vv_5 hn (by omega)) rfl ku_Ch rfl 0 (by decide) kf_B_89 rfl rfl d_B_takeIn_27 ?_
    refine sr_iload_n G rfl d_B_takeIn_30 ?_
    refine sr_aald G (vv_13 hn (by omega)) rfl rfl (by assumption) d_B_takeIn_31 ?_
    refine sr_dup G rfl d_B_takeIn_32 ?_
    refine sr_getN G (vv_6 hn (by omega)) rfl ku_En rfl 5 (by decide) kf_B_197 rfl rfl d_B_takeIn_33 ?_
    refine sr_iload G rfl d_B_takeIn_36 ?_
    refine sr_iadd G d_B_takeIn_38 ?_
    refine sr_putN G (vv_6 hn (by omega)) rfl ku_En rfl 5 (by decide) t_En ty_En nm_En kf_B_197 rfl rfl (ty := .int) (by decide +kernel) rfl rfl (Nat.le_of_ble_eq_true rfl) rfl d_B_takeIn_39 ?_
    refine sr_vret G d_B_takeIn_42 ?_
    unfold f_B_takeIn
    rw [if_pos h5]
    try rfl
  · skip
    refine sr_cva G (vv_0 hn) rfl rfl ki_B_purse kx_B_purse (c_B_purse_o hn (by assumption) (by assumption) h5) kc_B_purse km_B_123 kn_B yy_B_purse rfl ⟨rfl, rfl, by decide, by decide⟩ (Nat.le_of_ble_eq_true rfl) rfl d_B_takeIn_5 ?_
    refine sr_iload_n G rfl d_B_takeIn_8 ?_
    refine sr_dup2 G rfl rfl d_B_takeIn_9 ?_
    refine sr_iald G (vv_8 hn (by omega)) rfl (by assumption) d_B_takeIn_10 ?_
    refine sr_iload G rfl d_B_takeIn_11 ?_
    refine sr_isub G d_B_takeIn_13 ?_
    refine sr_iast G (vv_8 hn (by omega)) (fun _ => rfl) (by assumption) d_B_takeIn_14 ?_
    refine sr_iload G rfl d_B_takeIn_15 ?_
    refine sr_iload_n G rfl d_B_takeIn_17 ?_
    refine sr_icmp_ne G 42 d_B_takeIn_18 rfl (fun _ => ?_) (fun h => absurd h h5)
    refine sr_vret G d_B_takeIn_42 ?_
    unfold f_B_takeIn
    rw [if_neg h5]
    try rfl
def f_B_giveOut (M : Mem) (x1 : Int32) (x2 : Int32) (x3 : Int32) (x4 : Int32) (x5 : Int32) : Mem := (if x4 = x2 then (u3 (u3 M 2 (Int32.toNatClampNeg x2) (Int32.toNatClampNeg x3) ((M 2 (Int32.toNatClampNeg x2) (Int32.toNatClampNeg x3)) + x5)) 6 (2 * (Int32.toNatClampNeg x1) + Int32.toNatClampNeg x2) 5 (((u3 M 2 (Int32.toNatClampNeg x2) (Int32.toNatClampNeg x3) ((M 2 (Int32.toNatClampNeg x2) (Int32.toNatClampNeg x3)) + x5)) 6 (2 * (Int32.toNatClampNeg x1) + Int32.toNatClampNeg x2) 5) - x5)) else (u3 M 8 (2 * Int32.toNatClampNeg x1 + Int32.toNatClampNeg x2) (Int32.toNatClampNeg x3) ((M 8 (2 * Int32.toNatClampNeg x1 + Int32.toNatClampNeg x2) (Int32.toNatClampNeg x3)) + x5)))
set_option maxHeartbeats 4000000 in
set_option maxRecDepth 100000 in
theorem c_B_giveOut {l : Launch} {D : va_G} {t6 : Nat → ClassId} {b n : Nat} (hn : 104 ≤ n) {M : Mem} {x1 : Int32} {x2 : Int32} {x3 : Int32} {x4 : Int32} {x5 : Int32} (v1 : vp_in x1 4) (v2 : vp_in x2 2) (v3 : vp_in x3 4) : CV l D t6 b n y_B_giveOut cd_B_giveOut 6  (rk 1 23) [.ref (ad b 0 0), .int x1, .int x2, .int x3, .int x4, .int x5] M (f_B_giveOut M x1 x2 x3 x4 x5) := by
  refine en_v (by decide) (by simp [Value.category]) (Nat.le_of_ble_eq_true rfl) (fun p e s m below meth c G => ?_)
  have i1 := ix_lt v1
  have i2 := ix_lt v2
  have w2 := in_1 v2
  have j2 := ix_lt w2
  have i3 := ix_lt v3
  refine sr_aload_n G rfl d_B_giveOut_0 ?_
  refine sr_iload_n G rfl d_B_giveOut_1 ?_
  refine sr_iload_n G rfl d_B_giveOut_2 ?_
  refine sr_iload G rfl d_B_giveOut_3 ?_
  by_cases h5 : x4 = x2
  · skip
    refine sr_cva G (vv_0 hn) rfl rfl ki_B_purse kx_B_purse (c_B_purse_h hn (by assumption) (by assumption) h5) kc_B_purse km_B_123 kn_B yy_B_purse rfl ⟨rfl, rfl, by decide, by decide⟩ (Nat.le_of_ble_eq_true rfl) rfl d_B_giveOut_5 ?_
    refine sr_iload_n G rfl d_B_giveOut_8 ?_
    refine sr_dup2 G rfl rfl d_B_giveOut_9 ?_
    refine sr_iald G (vv_2 hn (by omega)) rfl (by assumption) d_B_giveOut_10 ?_
    refine sr_iload G rfl d_B_giveOut_11 ?_
    refine sr_iadd G d_B_giveOut_13 ?_
    refine sr_iast G (vv_2 hn (by omega)) (fun _ => rfl) (by assumption) d_B_giveOut_14 ?_
    refine sr_iload G rfl d_B_giveOut_15 ?_
    refine sr_iload_n G rfl d_B_giveOut_17 ?_
    refine sr_icmp_ne G 42 d_B_giveOut_18 rfl (fun h => absurd h5 h) (fun _ => ?_)
    refine sr_aload_n G rfl d_B_giveOut_21 ?_
    refine sr_get G (vv_0 hn) rfl ku_B rfl 1 (by decide) kf_B_17 rfl rfl d_B_giveOut_22 ?_
    refine sr_iload_n G rfl d_B_giveOut_25 ?_
    refine sr_aald G (vv_11 hn) rfl rfl (by assumption) d_B_giveOut_26 ?_
    refine sr_getN G (vv_5 hn (by omega)) rfl ku_Ch rfl 0 (by decide) kf_B_89 rfl rfl d_B_giveOut_27 ?_
    refine sr_iload_n G rfl d_B_giveOut_30 ?_
    refine sr_aald G (vv_13 hn (by omega)) rfl rfl (by assumption) d_B_giveOut_31 ?_
    refine sr_dup G rfl d_B_giveOut_32 ?_
    refine sr_getN G (vv_6 hn (by omega)) rfl ku_En rfl 5 (by decide) kf_B_197 rfl rfl d_B_giveOut_33 ?_
    refine sr_iload G rfl d_B_giveOut_36 ?_
    refine sr_isub G d_B_giveOut_38 ?_
    refine sr_putN G (vv_6 hn (by omega)) rfl ku_En rfl 5 (by decide) t_En ty_En nm_En kf_B_197 rfl rfl (ty := .int) (by decide +kernel) rfl rfl (Nat.le_of_ble_eq_true rfl) rfl d_B_giveOut_39 ?_
    refine sr_vret G d_B_giveOut_42 ?_
    unfold f_B_giveOut
    rw [if_pos h5]
    try rfl
  · skip
    refine sr_cva G (vv_0 hn) rfl rfl ki_B_purse kx_B_purse (c_B_purse_o hn (by assumption) (by assumption) h5) kc_B_purse km_B_123 kn_B yy_B_purse rfl ⟨rfl, rfl, by decide, by decide⟩ (Nat.le_of_ble_eq_true rfl) rfl d_B_giveOut_5 ?_
    refine sr_iload_n G rfl d_B_giveOut_8 ?_
    refine sr_dup2 G rfl rfl d_B_giveOut_9 ?_
    refine sr_iald G (vv_8 hn (by omega)) rfl (by assumption) d_B_giveOut_10 ?_
    refine sr_iload G rfl d_B_giveOut_11 ?_
    refine sr_iadd G d_B_giveOut_13 ?_
    refine sr_iast G (vv_8 hn (by omega)) (fun _ => rfl) (by assumption) d_B_giveOut_14 ?_
    refine sr_iload G rfl d_B_giveOut_15 ?_
    refine sr_iload_n G rfl d_B_giveOut_17 ?_
    refine sr_icmp_ne G 42 d_B_giveOut_18 rfl (fun _ => ?_) (fun h => absurd h h5)
    refine sr_vret G d_B_giveOut_42 ?_
    unfold f_B_giveOut
    rw [if_neg h5]
    try rfl
def f_B_write (M : Mem) (x1 : Int32) (x2 : Int32) (x3 : Int32) (x4 : Int32) (x5 : Int32) (x6 : Int32) (x7 : Int32) : Mem := (u3 (u3 (f_Me_beginToStand (u3 (u3 (u3 (u3 (u3 (u3 (u3 (u3 M 9 (Int32.toNatClampNeg (M 0 0 4)) 0 x1) 9 (Int32.toNatClampNeg (M 0 0 4)) 1 x2) 9 (Int32.toNatClampNeg (M 0 0 4)) 2 ((u3 (u3 M 9 (Int32.toNatClampNeg (M 0 0 4)) 0 x1) 9 (Int32.toNatClampNeg (M 0 0 4)) 1 x2) 6 (2 * (Int32.toNatClampNeg x1) + Int32.toNatClampNeg x2) 6)) 9 (Int32.toNatClampNeg (M 0 0 4)) 3 x3) 9 (Int32.toNatClampNeg (M 0 0 4)) 4 x4) 9 (Int32.toNatClampNeg (M 0 0 4)) 5 x5) 9 (Int32.toNatClampNeg (M 0 0 4)) 6 x6) 9 (Int32.toNatClampNeg (M 0 0 4)) 7 x7) (Int32.toNatClampNeg (M 0 0 4)) ((u3 (u3 (u3 (u3 (u3 (u3 (u3 (u3 M 9 (Int32.toNatClampNeg (M 0 0 4)) 0 x1) 9 (Int32.toNatClampNeg (M 0 0 4)) 1 x2) 9 (Int32.toNatClampNeg (M 0 0 4)) 2 ((u3 (u3 M 9 (Int32.toNatClampNeg (M 0 0 4)) 0 x1) 9 (Int32.toNatClampNeg (M 0 0 4)) 1 x2) 6 (2 * (Int32.toNatClampNeg x1) + Int32.toNatClampNeg x2) 6)) 9 (Int32.toNatClampNeg (M 0 0 4)) 3 x3) 9 (Int32.toNatClampNeg (M 0 0 4)) 4 x4) 9 (Int32.toNatClampNeg (M 0 0 4)) 5 x5) 9 (Int32.toNatClampNeg (M 0 0 4)) 6 x6) 9 (Int32.toNatClampNeg (M 0 0 4)) 7 x7) 1 (Int32.toNatClampNeg x2) 2)) 6 (2 * (Int32.toNatClampNeg x1) + Int32.toNatClampNeg x2) 6 (((f_Me_beginToStand (u3 (u3 (u3 (u3 (u3 (u3 (u3 (u3 M 9 (Int32.toNatClampNeg (M 0 0 4)) 0 x1) 9 (Int32.toNatClampNeg (M 0 0 4)) 1 x2) 9 (Int32.toNatClampNeg (M 0 0 4)) 2 ((u3 (u3 M 9 (Int32.toNatClampNeg (M 0 0 4)) 0 x1) 9 (Int32.toNatClampNeg (M 0 0 4)) 1 x2) 6 (2 * (Int32.toNatClampNeg x1) + Int32.toNatClampNeg x2) 6)) 9 (Int32.toNatClampNeg (M 0 0 4)) 3 x3) 9 (Int32.toNatClampNeg (M 0 0 4)) 4 x4) 9 (Int32.toNatClampNeg (M 0 0 4)) 5 x5) 9 (Int32.toNatClampNeg (M 0 0 4)) 6 x6) 9 (Int32.toNatClampNeg (M 0 0 4)) 7 x7) (Int32.toNatClampNeg (M 0 0 4)) ((u3 (u3 (u3 (u3 (u3 (u3 (u3 (u3 M 9 (Int32.toNatClampNeg (M 0 0 4)) 0 x1) 9 (Int32.toNatClampNeg (M 0 0 4)) 1 x2) 9 (Int32.toNatClampNeg (M 0 0 4)) 2 ((u3 (u3 M 9 (Int32.toNatClampNeg (M 0 0 4)) 0 x1) 9 (Int32.toNatClampNeg (M 0 0 4)) 1 x2) 6 (2 * (Int32.toNatClampNeg x1) + Int32.toNatClampNeg x2) 6)) 9 (Int32.toNatClampNeg (M 0 0 4)) 3 x3) 9 (Int32.toNatClampNeg (M 0 0 4)) 4 x4) 9 (Int32.toNatClampNeg (M 0 0 4)) 5 x5) 9 (Int32.toNatClampNeg (M 0 0 4)) 6 x6) 9 (Int32.toNatClampNeg (M 0 0 4)) 7 x7) 1 (Int32.toNatClampNeg x2) 2)) 6 (2 * (Int32.toNatClampNeg x1) + Int32.toNatClampNeg x2) 6) + 1)) 0 0 4 (((u3 (f_Me_beginToStand (u3 (u3 (u3 (u3 (u3 (u3 (u3 (u3 M 9 (Int32.toNatClampNeg (M 0 0 4)) 0 x1) 9 (Int32.toNatClampNeg (M 0 0 4)) 1 x2) 9 (Int32.toNatClampNeg (M 0 0 4)) 2 ((u3 (u3 M 9 (Int32.toNatClampNeg (M 0 0 4)) 0 x1) 9 (Int32.toNatClampNeg (M 0 0 4)) 1 x2) 6 (2 * (Int32.toNatClampNeg x1) + Int32.toNatClampNeg x2) 6)) 9 (Int32.toNatClampNeg (M 0 0 4)) 3 x3) 9 (Int32.toNatClampNeg (M 0 0 4)) 4 x4) 9 (Int32.toNatClampNeg (M 0 0 4)) 5 x5) 9 (Int32.toNatClampNeg (M 0 0 4)) 6 x6) 9 (Int32.toNatClampNeg (M 0 0 4)) 7 x7) (Int32.toNatClampNeg (M 0 0 4)) ((u3 (u3 (u3 (u3 (u3 (u3 (u3 (u3 M 9 (Int32.toNatClampNeg (M 0 0 4)) 0 x1) 9 (Int32.toNatClampNeg (M 0 0 4)) 1 x2) 9 (Int32.toNatClampNeg (M 0 0 4)) 2 ((u3 (u3 M 9 (Int32.toNatClampNeg (M 0 0 4)) 0 x1) 9 (Int32.toNatClampNeg (M 0 0 4)) 1 x2) 6 (2 * (Int32.toNatClampNeg x1) + Int32.toNatClampNeg x2) 6)) 9 (Int32.toNatClampNeg (M 0 0 4)) 3 x3) 9 (Int32.toNatClampNeg (M 0 0 4)) 4 x4) 9 (Int32.toNatClampNeg (M 0 0 4)) 5 x5) 9 (Int32.toNatClampNeg (M 0 0 4)) 6 x6) 9 (Int32.toNatClampNeg (M 0 0 4)) 7 x7) 1 (Int32.toNatClampNeg x2) 2)) 6 (2 * (Int32.toNatClampNeg x1) + Int32.toNatClampNeg x2) 6 (((f_Me_beginToStand (u3 (u3 (u3 (u3 (u3 (u3 (u3 (u3 M 9 (Int32.toNatClampNeg (M 0 0 4)) 0 x1) 9 (Int32.toNatClampNeg (M 0 0 4)) 1 x2) 9 (Int32.toNatClampNeg (M 0 0 4)) 2 ((u3 (u3 M 9 (Int32.toNatClampNeg (M 0 0 4)) 0 x1) 9 (Int32.toNatClampNeg (M 0 0 4)) 1 x2) 6 (2 * (Int32.toNatClampNeg x1) + Int32.toNatClampNeg x2) 6)) 9 (Int32.toNatClampNeg (M 0 0 4)) 3 x3) 9 (Int32.toNatClampNeg (M 0 0 4)) 4 x4) 9 (Int32.toNatClampNeg (M 0 0 4)) 5 x5) 9 (Int32.toNatClampNeg (M 0 0 4)) 6 x6) 9 (Int32.toNatClampNeg (M 0 0 4)) 7 x7) (Int32.toNatClampNeg (M 0 0 4)) ((u3 (u3 (u3 (u3 (u3 (u3 (u3 (u3 M 9 (Int32.toNatClampNeg (M 0 0 4)) 0 x1) 9 (Int32.toNatClampNeg (M 0 0 4)) 1 x2) 9 (Int32.toNatClampNeg (M 0 0 4)) 2 ((u3 (u3 M 9 (Int32.toNatClampNeg (M 0 0 4)) 0 x1) 9 (Int32.toNatClampNeg (M 0 0 4)) 1 x2) 6 (2 * (Int32.toNatClampNeg x1) + Int32.toNatClampNeg x2) 6)) 9 (Int32.toNatClampNeg (M 0 0 4)) 3 x3) 9 (Int32.toNatClampNeg (M 0 0 4)) 4 x4) 9 (Int32.toNatClampNeg (M 0 0 4)) 5 x5) 9 (Int32.toNatClampNeg (M 0 0 4)) 6 x6) 9 (Int32.toNatClampNeg (M 0 0 4)) 7 x7) 1 (Int32.toNatClampNeg x2) 2)) 6 (2 * (Int32.toNatClampNeg x1) + Int32.toNatClampNeg x2) 6) + 1)) 0 0 4) + 1))
set_option maxHeartbeats 4000000 in
set_option maxRecDepth 100000 in
theorem c_B_write {l : Launch} {D : va_G} {t6 : Nat → ClassId} {b n : Nat} (hn : 104 ≤ n) {M : Mem} {x1 : Int32} {x2 : Int32} {x3 : Int32} {x4 : Int32} {x5 : Int32} {x6 : Int32} {x7 : Int32} (v1 : vp_in x1 4) (v2 : vp_in x2 2) (v9 : vp_in (M 0 0 4) 60) : CV l D t6 b n y_B_write cd_B_write 10  (rk 1 21) [.ref (ad b 0 0), .int x1, .int x2, .int x3, .int x4, .int x5, .int x6, .int x7] M (f_B_write M x1 x2 x3 x4 x5 x6 x7) := by
  refine en_v (by decide) (by simp [Value.category]) (Nat.le_of_ble_eq_true rfl) (fun p e s m below meth c G => ?_)
  have i1 := ix_lt v1
  have i2 := ix_lt v2
  have w2 := in_1 v2
  have j2 := ix_lt w2
  have i9 := ix_lt v9
  refine sr_aload_n G rfl d_B_write_0 ?_
  refine sr_get G (vv_0 hn) rfl ku_B rfl 1 (by decide) kf_B_17 rfl rfl d_B_write_1 ?_
  refine sr_iload_n G rfl d_B_write_4 ?_
  refine sr_aald G (vv_11 hn) rfl rfl (by assumption) d_B_write_5 ?_
  refine sr_getN G (vv_5 hn (by omega)) rfl ku_Ch rfl 0 (by decide) kf_B_89 rfl rfl d_B_write_6 ?_
  refine sr_iload_n G rfl d_B_write_9 ?_
  refine sr_aald G (vv_13 hn (by omega)) rfl rfl (by assumption) d_B_write_10 ?_
  refine sr_astore G (by decide) d_B_write_11 ?_
  refine sr_aload_n G rfl d_B_write_13 ?_
  refine sr_get G (vv_0 hn) rfl ku_B rfl 2 (by decide) kf_B_23 rfl rfl d_B_write_14 ?_
  refine sr_aload_n G rfl d_B_write_17 ?_
  refine sr_get G (vv_0 hn) rfl ku_B rfl 4 (by decide) kf_B_127 rfl rfl d_B_write_18 ?_
  refine sr_aald G (vv_12 hn) rfl rfl (by assumption) d_B_write_21 ?_
  refine sr_astore G (by decide) d_B_write_22 ?_
  refine sr_aload G rfl d_B_write_24 ?_
  refine sr_iload_n G rfl d_B_write_26 ?_
  refine sr_putN G (vv_9 hn (by omega)) rfl ku_Me rfl 0 (by decide) t_Me ty_Me nm_Me kf_B_144 rfl rfl (ty := .int) (by decide +kernel) rfl rfl (Nat.le_of_ble_eq_true rfl) rfl d_B_write_27 ?_
  refine sr_aload G rfl d_B_write_30 ?_
  refine sr_iload_n G rfl d_B_write_32 ?_
  refine sr_putN G (vv_9 hn (by omega)) rfl ku_Me rfl 1 (by decide) t_Me ty_Me nm_Me kf_B_141 rfl rfl (ty := .int) (by decide +kernel) rfl rfl (Nat.le_of_ble_eq_true rfl) rfl d_B_write_33 ?_
  refine sr_aload G rfl d_B_write_36 ?_
  refine sr_aload G rfl d_B_write_38 ?_
  refine sr_getN G (vv_6 hn (by omega)) rfl ku_En rfl 6 (by decide) kf_B_200 rfl rfl d_B_write_40 ?_
  refine sr_putN G (vv_9 hn (by omega)) rfl ku_Me rfl 2 (by decide) t_Me ty_Me nm_Me kf_B_206 rfl rfl (ty := .int) (by decide +kernel) rfl rfl (Nat.le_of_ble_eq_true rfl) rfl d_B_write_43 ?_
  refine sr_aload G rfl d_B_write_46 ?_
  refine sr_iload_n G rfl d_B_write_48 ?_
  refine sr_putN G (vv_9 hn (by omega)) rfl ku_Me rfl 3 (by decide) t_Me ty_Me nm_Me kf_B_209 rfl rfl (ty := .int) (by decide +kernel) rfl rfl (Nat.le_of_ble_eq_true rfl) rfl d_B_write_49 ?_
  refine sr_aload G rfl d_B_write_52 ?_
  refine sr_iload G rfl d_B_write_54 ?_
  refine sr_putN G (vv_9 hn (by omega)) rfl ku_Me rfl 4 (by decide) t_Me ty_Me nm_Me kf_B_162 rfl rfl (ty := .int) (by decide +kernel) rfl rfl (Nat.le_of_ble_eq_true rfl) rfl d_B_write_56 ?_
  refine sr_aload G rfl d_B_write_59 ?_
  refine sr_iload G rfl d_B_write_61 ?_
  refine sr_putN G (vv_9 hn (by omega)) rfl ku_Me rfl 5 (by decide) t_Me ty_Me nm_Me kf_B_165 rfl rfl (ty := .int) (by decide +kernel) rfl rfl (Nat.le_of_ble_eq_true rfl) rfl d_B_write_63 ?_
  refine sr_aload G rfl d_B_write_66 ?_
  refine sr_iload G rfl d_B_write_68 ?_
  refine sr_putN G (vv_9 hn (by omega)) rfl ku_Me rfl 6 (by decide) t_Me ty_Me nm_Me kf_B_168 rfl rfl (ty := .int) (by decide +kernel) rfl rfl (Nat.le_of_ble_eq_true rfl) rfl d_B_write_70 ?_
  refine sr_aload G rfl d_B_write_73 ?_
  refine sr_iload G rfl d_B_write_75 ?_
  refine sr_putN G (vv_9 hn (by omega)) rfl ku_Me rfl 7 (by decide) t_Me ty_Me nm_Me kf_B_156 rfl rfl (ty := .int) (by decide +kernel) rfl rfl (Nat.le_of_ble_eq_true rfl) rfl d_B_write_77 ?_
  refine sr_aload G rfl d_B_write_80 ?_
  refine sr_aload_n G rfl d_B_write_82 ?_
  refine sr_get G (vv_0 hn) rfl ku_B rfl 0 (by decide) kf_B_11 rfl rfl d_B_write_83 ?_
  refine sr_iload_n G rfl d_B_write_86 ?_
  refine sr_aald G (vv_10 hn) rfl rfl (by assumption) d_B_write_87 ?_
  refine sr_getN G (vv_1 hn (by omega)) rfl ku_Le rfl 2 (by decide) kf_B_37 rfl rfl d_B_write_88 ?_
  refine sr_cvNv G (vv_9 hn (by omega)) rfl rfl ki_Me_beginToStand kx_Me_beginToStand (c_Me_beginToStand hn (by first | assumption | omega | decide | (unfold vp_in; decide))) kc_Me_beginToStand km_B_246 kn_Me yy_Me_beginToStand rfl ⟨rfl, rfl, by decide, by decide⟩ (Nat.le_of_ble_eq_true rfl) rfl d_B_write_91 ?_
  refine sr_aload G rfl d_B_write_94 ?_
  refine sr_dup G rfl d_B_write_96 ?_
  refine sr_getN G (vv_6 hn (by omega)) rfl ku_En rfl 6 (by decide) kf_B_200 rfl rfl d_B_write_97 ?_
  refine sr_iconst G (v := 1) (by decide) d_B_write_100 ?_
  refine sr_iadd G d_B_write_101 ?_
  refine sr_putN G (vv_6 hn (by omega)) rfl ku_En rfl 6 (by decide) t_En ty_En nm_En kf_B_200 rfl rfl (ty := .int) (by decide +kernel) rfl rfl (Nat.le_of_ble_eq_true rfl) rfl d_B_write_102 ?_
  refine sr_aload_n G rfl d_B_write_105 ?_
  refine sr_dup G rfl d_B_write_106 ?_
  refine sr_get G (vv_0 hn) rfl ku_B rfl 4 (by decide) kf_B_127 rfl rfl d_B_write_107 ?_
  refine sr_iconst G (v := 1) (by decide) d_B_write_110 ?_
  refine sr_iadd G d_B_write_111 ?_
  refine sr_put G (vv_0 hn) rfl ku_B rfl 4 (by decide) t_B ty_B nm_B kf_B_127 rfl rfl (ty := .int) (by decide +kernel) rfl rfl (Nat.le_of_ble_eq_true rfl) rfl d_B_write_112 ?_
  refine sr_vret G d_B_write_115 ?_
  unfold f_B_write
  rfl
def f_B_finish (M : Mem) (x1 : Nat) : Mem := (u3 (u3 M 9 x1 8 0) 9 x1 12 ((u3 M 9 x1 8 0) 1 (Int32.toNatClampNeg ((u3 M 9 x1 8 0) 9 x1 1)) 2))
set_option maxHeartbeats 4000000 in
set_option maxRecDepth 100000 in
theorem c_B_finish {l : Launch} {D : va_G} {t6 : Nat → ClassId} {b n : Nat} (hn : 104 ≤ n) {M : Mem} {x1 : Nat} (hz : x1 < 60) (hI : ci_ M) : CV l D t6 b n y_B_finish cd_B_finish 2  (rk 0 0) [.ref (ad b 0 0), .ref (ad b 9 x1)] M (f_B_finish M x1) := by
  refine en_v (by decide) (by simp [Value.category]) (Nat.le_of_ble_eq_true rfl) (fun p e s m below meth c G => ?_)
  obtain ⟨m0, m1, m3⟩ := ci_mg hI hz
  have n0 := ix_lt m0
  have n1 := ix_lt m1
  have n3 := ix_lt m3
  have o1 := in_1 m1
  have q1 := ix_lt o1
  refine sr_aload_n G rfl d_B_finish_0 ?_
  refine sr_iconst G (v := 0) (by decide) d_B_finish_1 ?_
  refine sr_putN G (vv_9 hn (by omega)) rfl ku_Me rfl 8 (by decide) t_Me ty_Me nm_Me kf_B_212 rfl rfl (ty := .boolean) (by decide +kernel) (by decide) rfl (Nat.le_of_ble_eq_true rfl) rfl d_B_finish_2 ?_
  refine sr_aload_n G rfl d_B_finish_5 ?_
  refine sr_aload_n G rfl d_B_finish_6 ?_
  refine sr_get G (vv_0 hn) rfl ku_B rfl 0 (by decide) kf_B_11 rfl rfl d_B_finish_7 ?_
  refine sr_aload_n G rfl d_B_finish_10 ?_
  refine sr_getN G (vv_9 hn (by omega)) rfl ku_Me rfl 1 (by decide) kf_B_141 rfl rfl d_B_finish_11 ?_
  have hI2 := ci_u3 (i := x1) (kd := 9) (j := 8) hI 0 (by decide) (by decide) (by decide)
  obtain ⟨_, m4, _⟩ := ci_mg hI2 hz
  have n4 := ix_lt m4
  refine sr_aald G (vv_10 hn) rfl rfl (by assumption) d_B_finish_14 ?_
  refine sr_getN G (vv_1 hn (by omega)) rfl ku_Le rfl 2 (by decide) kf_B_37 rfl rfl d_B_finish_15 ?_
  refine sr_putN G (vv_9 hn (by omega)) rfl ku_Me rfl 12 (by decide) t_Me ty_Me nm_Me kf_B_250 rfl rfl (ty := .int) (by decide +kernel) rfl rfl (Nat.le_of_ble_eq_true rfl) rfl d_B_finish_18 ?_
  refine sr_vret G d_B_finish_21 ?_
  unfold f_B_finish
  rfl
def f_B_giveBack (M : Mem) (x1 : Nat) : Mem := (u3 (f_B_giveOut M (M 9 x1 0) (M 9 x1 1) (M 9 x1 3) (M 9 x1 5) (M 9 x1 6)) 9 x1 9 1)
set_option maxHeartbeats 4000000 in
set_option maxRecDepth 100000 in
theorem c_B_giveBack {l : Launch} {D : va_G} {t6 : Nat → ClassId} {b n : Nat} (hn : 104 ≤ n) {M : Mem} {x1 : Nat} (hz : x1 < 60) (hI : ci_ M) : CV l D t6 b n y_B_giveBack cd_B_giveBack 2  (rk 2 48) [.ref (ad b 0 0), .ref (ad b 9 x1)] M (f_B_giveBack M x1) := by
  refine en_v (by decide) (by simp [Value.category]) (Nat.le_of_ble_eq_true rfl) (fun p e s m below meth c G => ?_)
  obtain ⟨m0, m1, m3⟩ := ci_mg hI hz
  have n0 := ix_lt m0
  have n1 := ix_lt m1
  have n3 := ix_lt m3
  have o1 := in_1 m1
  have q1 := ix_lt o1
  refine sr_aload_n G rfl d_B_giveBack_0 ?_
  refine sr_aload_n G rfl d_B_giveBack_1 ?_
  refine sr_getN G (vv_9 hn (by omega)) rfl ku_Me rfl 0 (by decide) kf_B_144 rfl rfl d_B_giveBack_2 ?_
  refine sr_aload_n G rfl d_B_giveBack_5 ?_
  refine sr_getN G (vv_9 hn (by omega)) rfl ku_Me rfl 1 (by decide) kf_B_141 rfl rfl d_B_giveBack_6 ?_
  refine sr_aload_n G rfl d_B_giveBack_9 ?_
  refine sr_getN G (vv_9 hn (by omega)) rfl ku_Me rfl 3 (by decide) kf_B_209 rfl rfl d_B_giveBack_10 ?_
  refine sr_aload_n G rfl d_B_giveBack_13 ?_
  refine sr_getN G (vv_9 hn (by omega)) rfl ku_Me rfl 5 (by decide) kf_B_165 rfl rfl d_B_giveBack_14 ?_
  refine sr_aload_n G rfl d_B_giveBack_17 ?_
  refine sr_getN G (vv_9 hn (by omega)) rfl ku_Me rfl 6 (by decide) kf_B_168 rfl rfl d_B_giveBack_18 ?_
  refine sr_cvv G (vv_0 hn) rfl rfl ki_B_giveOut kx_B_giveOut (c_B_giveOut hn (by first | assumption | omega | decide | (unfold vp_in; decide)) (by first | assumption | omega | decide | (unfold vp_in; decide)) (by first | assumption | omega | decide | (unfold vp_in; decide))) kc_B_giveOut km_B_171 kn_B yy_B_giveOut rfl ⟨rfl, rfl, by decide, by decide⟩ (Nat.le_of_ble_eq_true rfl) rfl d_B_giveBack_21 ?_
  refine sr_aload_n G rfl d_B_giveBack_24 ?_
  refine sr_iconst G (v := 1) (by decide) d_B_giveBack_25 ?_
  refine sr_putN G (vv_9 hn (by omega)) rfl ku_Me rfl 9 (by decide) t_Me ty_Me nm_Me kf_B_215 rfl rfl (ty := .boolean) (by decide +kernel) (by decide) rfl (Nat.le_of_ble_eq_true rfl) rfl d_B_giveBack_26 ?_
  refine sr_vret G d_B_giveBack_29 ?_
  unfold f_B_giveBack
  rfl
def f_B_greatestVersion (x1 : Int32) : Int32 := (if (x1 &&& 4) = 0 then (if (x1 &&& 2) = 0 then (x1 &&& 1) else 2) else 3)
set_option maxHeartbeats 4000000 in
set_option maxRecDepth 100000 in
theorem c_B_greatestVersion {l : Launch} {D : va_G} {t6 : Nat → ClassId} {b n : Nat} {M : Mem} {x1 : Int32} : CI l D t6 b n y_B_greatestVersion cd_B_greatestVersion 1 .int (rk 0 0) [.int x1] M (f_B_greatestVersion x1) M := by
  refine en_i (by decide) (by simp [Value.category]) (Nat.le_of_ble_eq_true rfl) (fun p e s m below meth c G => ?_)
  refine sr_iload_n G rfl d_B_greatestVersion_0 ?_
  refine sr_iconst G (v := 4) (by decide) d_B_greatestVersion_1 ?_
  refine sr_iand G d_B_greatestVersion_2 ?_
  refine sr_if_eq G 8 d_B_greatestVersion_3 rfl (fun h3 => ?_) (fun h3 => ?_)
  · skip
    refine sr_iload_n G rfl d_B_greatestVersion_8 ?_
    refine sr_iconst G (v := 2) (by decide) d_B_greatestVersion_9 ?_
    refine sr_iand G d_B_greatestVersion_10 ?_
    refine sr_if_eq G 16 d_B_greatestVersion_11 rfl (fun h11 => ?_) (fun h11 => ?_)
    · skip
      refine sr_iload_n G rfl d_B_greatestVersion_16 ?_
      refine sr_iconst G (v := 1) (by decide) d_B_greatestVersion_17 ?_
      refine sr_iand G d_B_greatestVersion_18 ?_
      refine sr_iret G d_B_greatestVersion_19 ?_
      unfold f_B_greatestVersion
      rw [if_pos h3, if_pos h11]
      exact ⟨rfl, rfl⟩
    · skip
      refine sr_iconst G (v := 2) (by decide) d_B_greatestVersion_14 ?_
      refine sr_iret G d_B_greatestVersion_15 ?_
      unfold f_B_greatestVersion
      rw [if_pos h3, if_neg h11]
      exact ⟨rfl, rfl⟩
  · skip
    refine sr_iconst G (v := 3) (by decide) d_B_greatestVersion_6 ?_
    refine sr_iret G d_B_greatestVersion_7 ?_
    unfold f_B_greatestVersion
    rw [if_neg h3]
    exact ⟨rfl, rfl⟩
