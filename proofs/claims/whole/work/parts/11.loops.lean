def g_B_areAllBeforeReceived (M : Mem) (x1 : Int32) (j : Nat) : Int32 := (if (f_Me_isOfSameEnd M (Int32.toNatClampNeg (nI j)) (Int32.toNatClampNeg x1)) = 0 then 0 else (if (M 9 (Int32.toNatClampNeg (nI j)) 10) = 0 then 1 else 0))
theorem eg_B_areAllBeforeReceived (M : Mem) (x1 : Int32) (j : Nat) : g_B_areAllBeforeReceived M x1 j = (if (f_Me_isOfSameEnd M (Int32.toNatClampNeg (nI j)) (Int32.toNatClampNeg x1)) = 0 then 0 else (if (M 9 (Int32.toNatClampNeg (nI j)) 10) = 0 then 1 else 0)) := rfl
def f_B_areAllBeforeReceived (M : Mem) (x1 : Int32) : Int32 := (if ∀ j, j < (Int32.toNatClampNeg x1) → g_B_areAllBeforeReceived M x1 j = 0 then 1 else 0)
set_option maxHeartbeats 4000000 in
set_option maxRecDepth 100000 in
theorem c_B_areAllBeforeReceived {l : Launch} {D : va_G} {t6 : Nat → ClassId} {b n : Nat} (hn : 104 ≤ n) {M : Mem} {x1 : Int32} (v1 : vp_in x1 60) : CI l D t6 b n y_B_areAllBeforeReceived cd_B_areAllBeforeReceived 3 .boolean (rk 1 21) [.ref (ad b 0 0), .int x1] M (f_B_areAllBeforeReceived M x1) M := by
  refine en_i (by decide) (by simp [Value.category]) (Nat.le_of_ble_eq_true rfl) (fun p e s m below meth c G => ?_)
  have i1 := ix_lt v1
  obtain ⟨eL, hL⟩ := in_nI v1 (by decide)
  refine sr_iconst G (v := (nI 0)) (by decide) d_B_areAllBeforeReceived_0 ?_
  refine sr_istore_n G (by decide) d_B_areAllBeforeReceived_1 ?_
  refine sr_loop (Int32.toNatClampNeg x1) (fun j => M) (fun j => [some (.ref (ad b 0 0)), some (.int x1), some (.int (nI j))]) (fun j => ∀ i, i < j → g_B_areAllBeforeReceived M x1 i = 0) 0 (Nat.zero_le _) lt_0 rfl rfl (fun j hj0 hj hi ih => ?_) (fun hi => ?_)
  · skip
    have ij : (nI j).toNatClampNeg = j := nI_clamp (by omega)
    refine sr_iload_n G rfl d_B_areAllBeforeReceived_2 ?_
    refine sr_iload_n G rfl d_B_areAllBeforeReceived_3 ?_
    refine sr_icmp_ge G 45 d_B_areAllBeforeReceived_4 rfl (fun h => absurd h (by rw [eL]; exact nI_ge hj (by omega))) (fun _ => ?_)
    refine sr_aload_n G rfl d_B_areAllBeforeReceived_7 ?_
    refine sr_get G (vv_0 hn) rfl ku_B rfl 2 (by decide) kf_B_23 rfl rfl d_B_areAllBeforeReceived_8 ?_
    refine sr_iload_n G rfl d_B_areAllBeforeReceived_11 ?_
    refine sr_aald G (vv_12 hn) rfl rfl (vp_in_nI (by omega) (by decide)) d_B_areAllBeforeReceived_12 ?_
    refine sr_aload_n G rfl d_B_areAllBeforeReceived_13 ?_
    refine sr_get G (vv_0 hn) rfl ku_B rfl 2 (by decide) kf_B_23 rfl rfl d_B_areAllBeforeReceived_14 ?_
    refine sr_iload_n G rfl d_B_areAllBeforeReceived_17 ?_
    refine sr_aald G (vv_12 hn) rfl rfl (by assumption) d_B_areAllBeforeReceived_18 ?_
    refine sr_cvNi G (vv_9 hn (by omega)) rfl rfl ki_Me_isOfSameEnd kx_Me_isOfSameEnd (c_Me_isOfSameEnd hn (by first | assumption | omega | decide | (unfold vp_in; decide)) (by first | assumption | omega | decide | (unfold vp_in; decide))) kc_Me_isOfSameEnd km_B_242 kn_Me yy_Me_isOfSameEnd rfl ⟨rfl, rfl, by decide, by decide⟩ (Nat.le_of_ble_eq_true rfl) rfl d_B_areAllBeforeReceived_19 ?_
    refine sr_if_eq G 39 d_B_areAllBeforeReceived_22 rfl (fun h22 => ?_) (fun h22 => ?_)
    · skip
      refine sr_iinc G (v := nI (j + 1)) rfl (nI_1 j) (by decide) d_B_areAllBeforeReceived_39 ?_
      refine sr_goto G 2 d_B_areAllBeforeReceived_42 rfl ?_
      refine ih (lt_s hi ?_)
      unfold g_B_areAllBeforeReceived
      rw [if_pos h22]
    · skip
      refine sr_aload_n G rfl d_B_areAllBeforeReceived_25 ?_
      refine sr_get G (vv_0 hn) rfl ku_B rfl 2 (by decide) kf_B_23 rfl rfl d_B_areAllBeforeReceived_26 ?_
      refine sr_iload_n G rfl d_B_areAllBeforeReceived_29 ?_
      refine sr_aald G (vv_12 hn) rfl rfl (vp_in_nI (by omega) (by decide)) d_B_areAllBeforeReceived_30 ?_
      refine sr_getN G (vv_9 hn (by omega)) rfl ku_Me rfl 10 (by decide) kf_B_147 rfl rfl d_B_areAllBeforeReceived_31 ?_
      refine sr_if_ne G 39 d_B_areAllBeforeReceived_34 rfl (fun h34 => ?_) (fun h34 => ?_)
      · skip
        refine sr_iinc G (v := nI (j + 1)) rfl (nI_1 j) (by decide) d_B_areAllBeforeReceived_39 ?_
        refine sr_goto G 2 d_B_areAllBeforeReceived_42 rfl ?_
        refine ih (lt_s hi ?_)
        unfold g_B_areAllBeforeReceived
        rw [if_neg h22, if_neg h34]
      · skip
        refine sr_iconst G (v := 0) (by decide) d_B_areAllBeforeReceived_37 ?_
        refine sr_zret G (by decide) d_B_areAllBeforeReceived_38 ?_
        unfold f_B_areAllBeforeReceived
        rw [if_neg (fun h9 => absurd (h9 j hj) (by unfold g_B_areAllBeforeReceived; rw [if_neg h22, if_pos h34]; decide))]
        exact ⟨rfl, rfl⟩
  · skip
    refine sr_iload_n G rfl d_B_areAllBeforeReceived_2 ?_
    refine sr_iload_n G rfl d_B_areAllBeforeReceived_3 ?_
    refine sr_icmp_ge G 45 d_B_areAllBeforeReceived_4 rfl (fun _ => ?_) (fun h => absurd (by rw [eL, nI_clamp (by omega)]; exact nI_le (Nat.le_refl _) (by omega)) h)
    refine sr_iconst G (v := 1) (by decide) d_B_areAllBeforeReceived_45 ?_
    refine sr_zret G (by decide) d_B_areAllBeforeReceived_46 ?_
    unfold f_B_areAllBeforeReceived
    rw [if_pos hi]
    exact ⟨rfl, rfl⟩
def g_B_standsOneBefore (M : Mem) (x1 : Int32) (j : Nat) : Int32 := (if (f_Me_isOfSameEnd M (Int32.toNatClampNeg (nI j)) (Int32.toNatClampNeg x1)) = 0 then 0 else (if (M 9 (Int32.toNatClampNeg (nI j)) 8) = 0 then 0 else 1))
theorem eg_B_standsOneBefore (M : Mem) (x1 : Int32) (j : Nat) : g_B_standsOneBefore M x1 j = (if (f_Me_isOfSameEnd M (Int32.toNatClampNeg (nI j)) (Int32.toNatClampNeg x1)) = 0 then 0 else (if (M 9 (Int32.toNatClampNeg (nI j)) 8) = 0 then 0 else 1)) := rfl
def f_B_standsOneBefore (M : Mem) (x1 : Int32) : Int32 := (if ∀ j, j < (Int32.toNatClampNeg x1) → g_B_standsOneBefore M x1 j = 0 then 0 else 1)
set_option maxHeartbeats 4000000 in
set_option maxRecDepth 100000 in
theorem c_B_standsOneBefore {l : Launch} {D : va_G} {t6 : Nat → ClassId} {b n : Nat} (hn : 104 ≤ n) {M : Mem} {x1 : Int32} (v1 : vp_in x1 60) : CI l D t6 b n y_B_standsOneBefore cd_B_standsOneBefore 3 .boolean (rk 1 21) [.ref (ad b 0 0), .int x1] M (f_B_standsOneBefore M x1) M := by
  refine en_i (by decide) (by simp [Value.category]) (Nat.le_of_ble_eq_true rfl) (fun p e s m below meth c G => ?_)
  have i1 := ix_lt v1
  obtain ⟨eL, hL⟩ := in_nI v1 (by decide)
  refine sr_iconst G (v := (nI 0)) (by decide) d_B_standsOneBefore_0 ?_
  refine sr_istore_n G (by decide) d_B_standsOneBefore_1 ?_
  refine sr_loop (Int32.toNatClampNeg x1) (fun j => M) (fun j => [some (.ref (ad b 0 0)), some (.int x1), some (.int (nI j))]) (fun j => ∀ i, i < j → g_B_standsOneBefore M x1 i = 0) 0 (Nat.zero_le _) lt_0 rfl rfl (fun j hj0 hj hi ih => ?_) (fun hi => ?_)
  · skip
    have ij : (nI j).toNatClampNeg = j := nI_clamp (by omega)
    refine sr_iload_n G rfl d_B_standsOneBefore_2 ?_
    refine sr_iload_n G rfl d_B_standsOneBefore_3 ?_
    refine sr_icmp_ge G 45 d_B_standsOneBefore_4 rfl (fun h => absurd h (by rw [eL]; exact nI_ge hj (by omega))) (fun _ => ?_)
    refine sr_aload_n G rfl d_B_standsOneBefore_7 ?_
    refine sr_get G (vv_0 hn) rfl ku_B rfl 2 (by decide) kf_B_23 rfl rfl d_B_standsOneBefore_8 ?_
    refine sr_iload_n G rfl d_B_standsOneBefore_11 ?_
    refine sr_aald G (vv_12 hn) rfl rfl (vp_in_nI (by omega) (by decide)) d_B_standsOneBefore_12 ?_
    refine sr_aload_n G rfl d_B_standsOneBefore_13 ?_
    refine sr_get G (vv_0 hn) rfl ku_B rfl 2 (by decide) kf_B_23 rfl rfl d_B_standsOneBefore_14 ?_
    refine sr_iload_n G rfl d_B_standsOneBefore_17 ?_
    refine sr_aald G (vv_12 hn) rfl rfl (by assumption) d_B_standsOneBefore_18 ?_
    refine sr_cvNi G (vv_9 hn (by omega)) rfl rfl ki_Me_isOfSameEnd kx_Me_isOfSameEnd (c_Me_isOfSameEnd hn (by first | assumption | omega | decide | (unfold vp_in; decide)) (by first | assumption | omega | decide | (unfold vp_in; decide))) kc_Me_isOfSameEnd km_B_242 kn_Me yy_Me_isOfSameEnd rfl ⟨rfl, rfl, by decide, by decide⟩ (Nat.le_of_ble_eq_true rfl) rfl d_B_standsOneBefore_19 ?_
    refine sr_if_eq G 39 d_B_standsOneBefore_22 rfl (fun h22 => ?_) (fun h22 => ?_)
    · skip
      refine sr_iinc G (v := nI (j + 1)) rfl (nI_1 j) (by decide) d_B_standsOneBefore_39 ?_
      refine sr_goto G 2 d_B_standsOneBefore_42 rfl ?_
      refine ih (lt_s hi ?_)
      unfold g_B_standsOneBefore
      rw [if_pos h22]
    · skip
      refine sr_aload_n G rfl d_B_standsOneBefore_25 ?_
      refine sr_get G (vv_0 hn) rfl ku_B rfl 2 (by decide) kf_B_23 rfl rfl d_B_standsOneBefore_26 ?_
      refine sr_iload_n G rfl d_B_standsOneBefore_29 ?_
      refine sr_aald G (vv_12 hn) rfl rfl (vp_in_nI (by omega) (by decide)) d_B_standsOneBefore_30 ?_
      refine sr_getN G (vv_9 hn (by omega)) rfl ku_Me rfl 8 (by decide) kf_B_212 rfl rfl d_B_standsOneBefore_31 ?_
      refine sr_if_eq G 39 d_B_standsOneBefore_34 rfl (fun h34 => ?_) (fun h34 => ?_)
      · skip
        refine sr_iinc G (v := nI (j + 1)) rfl (nI_1 j) (by decide) d_B_standsOneBefore_39 ?_
        refine sr_goto G 2 d_B_standsOneBefore_42 rfl ?_
        refine ih (lt_s hi ?_)
        unfold g_B_standsOneBefore
        rw [if_neg h22, if_pos h34]
      · skip
        refine sr_iconst G (v := 1) (by decide) d_B_standsOneBefore_37 ?_
        refine sr_zret G (by decide) d_B_standsOneBefore_38 ?_
        unfold f_B_standsOneBefore
        rw [if_neg (fun h9 => absurd (h9 j hj) (by unfold g_B_standsOneBefore; rw [if_neg h22, if_neg h34]; decide))]
        exact ⟨rfl, rfl⟩
  · skip
    refine sr_iload_n G rfl d_B_standsOneBefore_2 ?_
    refine sr_iload_n G rfl d_B_standsOneBefore_3 ?_
    refine sr_icmp_ge G 45 d_B_standsOneBefore_4 rfl (fun _ => ?_) (fun h => absurd (by rw [eL, nI_clamp (by omega)]; exact nI_le (Nat.le_refl _) (by omega)) h)
    refine sr_iconst G (v := 0) (by decide) d_B_standsOneBefore_45 ?_
    refine sr_zret G (by decide) d_B_standsOneBefore_46 ?_
    unfold f_B_standsOneBefore
    rw [if_pos hi]
    exact ⟨rfl, rfl⟩
def g_B_allEscrows (M : Mem) (x1 : Int32) (j : Nat) (ACC : Int32) : Int32 := (ACC + (M 6 (2 * (Int32.toNatClampNeg (nI j)) + Int32.toNatClampNeg x1) 5))
theorem eg_B_allEscrows (M : Mem) (x1 : Int32) (j : Nat) (ACC : Int32) : g_B_allEscrows M x1 j ACC = (ACC + (M 6 (2 * (Int32.toNatClampNeg (nI j)) + Int32.toNatClampNeg x1) 5)) := rfl
def f_B_allEscrows (M : Mem) (x1 : Int32) : Int32 := (fd_ (g_B_allEscrows M x1) 0 (Int32.toNatClampNeg (M 0 0 3)))
set_option maxHeartbeats 4000000 in
set_option maxRecDepth 100000 in
theorem c_B_allEscrows {l : Launch} {D : va_G} {t6 : Nat → ClassId} {b n : Nat} (hn : 104 ≤ n) {M : Mem} {x1 : Int32} (v1 : vp_in x1 2) (hI : ci_ M) : CI l D t6 b n y_B_allEscrows cd_B_allEscrows 4 .int (rk 0 0) [.ref (ad b 0 0), .int x1] M (f_B_allEscrows M x1) M := by
  refine en_i (by decide) (by simp [Value.category]) (Nat.le_of_ble_eq_true rfl) (fun p e s m below meth c G => ?_)
  have i1 := ix_lt v1
  refine sr_iconst G (v := 0) (by decide) d_B_allEscrows_0 ?_
  refine sr_istore_n G (by decide) d_B_allEscrows_1 ?_
  refine sr_iconst G (v := (nI 0)) (by decide) d_B_allEscrows_2 ?_
  refine sr_istore_n G (by decide) d_B_allEscrows_3 ?_
  obtain ⟨eL, hL⟩ := ci_cl hI
  refine sr_loop (Int32.toNatClampNeg (M 0 0 3)) (fun j => M) (fun j => [some (.ref (ad b 0 0)), some (.int x1), some (.int (fd_ (g_B_allEscrows M x1) 0 j)), some (.int (nI j))]) (fun _ => True) 0 (Nat.zero_le _) trivial rfl rfl (fun j hj0 hj hi ih => ?_) (fun hi => ?_)
  · skip
    have ij : (nI j).toNatClampNeg = j := nI_clamp (by omega)
    refine sr_iload_n G rfl d_B_allEscrows_4 ?_
    refine sr_aload_n G rfl d_B_allEscrows_5 ?_
    refine sr_get G (vv_0 hn) rfl ku_B rfl 3 (by decide) kf_B_80 rfl rfl d_B_allEscrows_6 ?_
    refine sr_icmp_ge G 35 d_B_allEscrows_9 rfl (fun h => absurd h (by rw [eL]; exact nI_ge hj (by omega))) (fun _ => ?_)
    refine sr_iload_n G rfl d_B_allEscrows_12 ?_
    refine sr_aload_n G rfl d_B_allEscrows_13 ?_
    refine sr_get G (vv_0 hn) rfl ku_B rfl 1 (by decide) kf_B_17 rfl rfl d_B_allEscrows_14 ?_
    refine sr_iload_n G rfl d_B_allEscrows_17 ?_
    refine sr_aald G (vv_11 hn) rfl rfl (vp_in_nI (by omega) (by decide)) d_B_allEscrows_18 ?_
    refine sr_getN G (vv_5 hn (by omega)) rfl ku_Ch rfl 0 (by decide) kf_B_89 rfl rfl d_B_allEscrows_19 ?_
    refine sr_iload_n G rfl d_B_allEscrows_22 ?_
    refine sr_aald G (vv_13 hn (by omega)) rfl rfl (by assumption) d_B_allEscrows_23 ?_
    refine sr_getN G (vv_6 hn (by omega)) rfl ku_En rfl 5 (by decide) kf_B_197 rfl rfl d_B_allEscrows_24 ?_
    refine sr_iadd G d_B_allEscrows_27 ?_
    refine sr_istore_n G (by decide) d_B_allEscrows_28 ?_
    refine sr_iinc G (v := nI (j + 1)) rfl (nI_1 j) (by decide) d_B_allEscrows_29 ?_
    refine sr_goto G 4 d_B_allEscrows_32 rfl ?_
    have e9 : fd_ (g_B_allEscrows M x1) 0 (j + 1) = ((fd_ (g_B_allEscrows M x1) 0 j) + (M 6 (2 * (Int32.toNatClampNeg (nI j)) + Int32.toNatClampNeg x1) 5)) := by
      show g_B_allEscrows M x1 j (fd_ (g_B_allEscrows M x1) 0 j) = _
      rw [eg_B_allEscrows]
    have ih9 := ih trivial
    try dsimp only at ih9
    rw [e9] at ih9
    exact ih9
  · skip
    refine sr_iload_n G rfl d_B_allEscrows_4 ?_
    refine sr_aload_n G rfl d_B_allEscrows_5 ?_
    refine sr_get G (vv_0 hn) rfl ku_B rfl 3 (by decide) kf_B_80 rfl rfl d_B_allEscrows_6 ?_
    refine sr_icmp_ge G 35 d_B_allEscrows_9 rfl (fun _ => ?_) (fun h => absurd (by rw [eL, nI_clamp (by omega)]; exact nI_le (Nat.le_refl _) (by omega)) h)
    refine sr_iload_n G rfl d_B_allEscrows_35 ?_
    refine sr_iret G d_B_allEscrows_36 ?_
    unfold f_B_allEscrows
    exact ⟨rfl, rfl⟩
def g_B_allVouchers (M : Mem) (x1 : Int32) (j : Nat) (ACC : Int32) : Int32 := (ACC + (f_B_total_8 M (2 * (Int32.toNatClampNeg (nI j)) + Int32.toNatClampNeg x1)))
theorem eg_B_allVouchers (M : Mem) (x1 : Int32) (j : Nat) (ACC : Int32) : g_B_allVouchers M x1 j ACC = (ACC + (f_B_total_8 M (2 * (Int32.toNatClampNeg (nI j)) + Int32.toNatClampNeg x1))) := rfl
def f_B_allVouchers (M : Mem) (x1 : Int32) : Int32 := (fd_ (g_B_allVouchers M x1) 0 (Int32.toNatClampNeg (M 0 0 3)))
set_option maxHeartbeats 4000000 in
set_option maxRecDepth 100000 in
theorem c_B_allVouchers {l : Launch} {D : va_G} {t6 : Nat → ClassId} {b n : Nat} (hn : 104 ≤ n) {M : Mem} {x1 : Int32} (v1 : vp_in x1 2) (hI : ci_ M) : CI l D t6 b n y_B_allVouchers cd_B_allVouchers 4 .int (rk 1 22) [.ref (ad b 0 0), .int x1] M (f_B_allVouchers M x1) M := by
  refine en_i (by decide) (by simp [Value.category]) (Nat.le_of_ble_eq_true rfl) (fun p e s m below meth c G => ?_)
  have i1 := ix_lt v1
  refine sr_iconst G (v := 0) (by decide) d_B_allVouchers_0 ?_
  refine sr_istore_n G (by decide) d_B_allVouchers_1 ?_
  refine sr_iconst G (v := (nI 0)) (by decide) d_B_allVouchers_2 ?_
  refine sr_istore_n G (by decide) d_B_allVouchers_3 ?_
  obtain ⟨eL, hL⟩ := ci_cl hI
  refine sr_loop (Int32.toNatClampNeg (M 0 0 3)) (fun j => M) (fun j => [some (.ref (ad b 0 0)), some (.int x1), some (.int (fd_ (g_B_allVouchers M x1) 0 j)), some (.int (nI j))]) (fun _ => True) 0 (Nat.zero_le _) trivial rfl rfl (fun j hj0 hj hi ih => ?_) (fun hi => ?_)
  · skip
    have ij : (nI j).toNatClampNeg = j := nI_clamp (by omega)
    refine sr_iload_n G rfl d_B_allVouchers_4 ?_
    refine sr_aload_n G rfl d_B_allVouchers_5 ?_
    refine sr_get G (vv_0 hn) rfl ku_B rfl 3 (by decide) kf_B_80 rfl rfl d_B_allVouchers_6 ?_
    refine sr_icmp_ge G 38 d_B_allVouchers_9 rfl (fun h => absurd h (by rw [eL]; exact nI_ge hj (by omega))) (fun _ => ?_)
    refine sr_iload_n G rfl d_B_allVouchers_12 ?_
    refine sr_aload_n G rfl d_B_allVouchers_13 ?_
    refine sr_get G (vv_0 hn) rfl ku_B rfl 1 (by decide) kf_B_17 rfl rfl d_B_allVouchers_14 ?_
    refine sr_iload_n G rfl d_B_allVouchers_17 ?_
    refine sr_aald G (vv_11 hn) rfl rfl (vp_in_nI (by omega) (by decide)) d_B_allVouchers_18 ?_
    refine sr_getN G (vv_5 hn (by omega)) rfl ku_Ch rfl 0 (by decide) kf_B_89 rfl rfl d_B_allVouchers_19 ?_
    refine sr_iload_n G rfl d_B_allVouchers_22 ?_
    refine sr_aald G (vv_13 hn (by omega)) rfl rfl (by assumption) d_B_allVouchers_23 ?_
    refine sr_getN G (vv_6 hn (by omega)) rfl ku_En rfl 1 (by decide) kf_B_222 rfl rfl d_B_allVouchers_24 ?_
    refine sr_csi G ks_B_total (c_B_total_8 hn (by omega)) kc_B_total km_B_225 kn_B yy_B_total rfl ⟨rfl, rfl, by decide, by decide⟩ (Nat.le_of_ble_eq_true rfl) rfl d_B_allVouchers_27 ?_
    refine sr_iadd G d_B_allVouchers_30 ?_
    refine sr_istore_n G (by decide) d_B_allVouchers_31 ?_
    refine sr_iinc G (v := nI (j + 1)) rfl (nI_1 j) (by decide) d_B_allVouchers_32 ?_
    refine sr_goto G 4 d_B_allVouchers_35 rfl ?_
    have e9 : fd_ (g_B_allVouchers M x1) 0 (j + 1) = ((fd_ (g_B_allVouchers M x1) 0 j) + (f_B_total_8 M (2 * (Int32.toNatClampNeg (nI j)) + Int32.toNatClampNeg x1))) := by
      show g_B_allVouchers M x1 j (fd_ (g_B_allVouchers M x1) 0 j) = _
      rw [eg_B_allVouchers]
    have ih9 := ih trivial
    try dsimp only at ih9
    rw [e9] at ih9
    exact ih9
  · skip
    refine sr_iload_n G rfl d_B_allVouchers_4 ?_
    refine sr_aload_n G rfl d_B_allVouchers_5 ?_
    refine sr_get G (vv_0 hn) rfl ku_B rfl 3 (by decide) kf_B_80 rfl rfl d_B_allVouchers_6 ?_
    refine sr_icmp_ge G 38 d_B_allVouchers_9 rfl (fun _ => ?_) (fun h => absurd (by rw [eL, nI_clamp (by omega)]; exact nI_le (Nat.le_refl _) (by omega)) h)
    refine sr_iload_n G rfl d_B_allVouchers_38 ?_
    refine sr_iret G d_B_allVouchers_39 ?_
    unfold f_B_allVouchers
    exact ⟨rfl, rfl⟩
def g_B_onTheWay (M : Mem) (x1 : Int32) (j : Nat) (ACC : Int32) : Int32 := (if (M 9 (Int32.toNatClampNeg (nI j)) 5) = x1 then (if (M 9 (Int32.toNatClampNeg (nI j)) 10) = 1 then ACC else (if (M 9 (Int32.toNatClampNeg (nI j)) 9) = 0 then (ACC + (M 9 (Int32.toNatClampNeg (nI j)) 6)) else ACC)) else ACC)
theorem eg_B_onTheWay (M : Mem) (x1 : Int32) (j : Nat) (ACC : Int32) : g_B_onTheWay M x1 j ACC = (if (M 9 (Int32.toNatClampNeg (nI j)) 5) = x1 then (if (M 9 (Int32.toNatClampNeg (nI j)) 10) = 1 then ACC else (if (M 9 (Int32.toNatClampNeg (nI j)) 9) = 0 then (ACC + (M 9 (Int32.toNatClampNeg (nI j)) 6)) else ACC)) else ACC) := rfl
def f_B_onTheWay (M : Mem) (x1 : Int32) : Int32 := (fd_ (g_B_onTheWay M x1) 0 (Int32.toNatClampNeg (M 0 0 4)))
set_option maxHeartbeats 4000000 in
set_option maxRecDepth 100000 in
theorem c_B_onTheWay {l : Launch} {D : va_G} {t6 : Nat → ClassId} {b n : Nat} (hn : 104 ≤ n) {M : Mem} {x1 : Int32} (hI : ci_ M) : CI l D t6 b n y_B_onTheWay cd_B_onTheWay 5 .int (rk 0 0) [.ref (ad b 0 0), .int x1] M (f_B_onTheWay M x1) M := by
  refine en_i (by decide) (by simp [Value.category]) (Nat.le_of_ble_eq_true rfl) (fun p e s m below meth c G => ?_)
  refine sr_iconst G (v := 0) (by decide) d_B_onTheWay_0 ?_
  refine sr_istore_n G (by decide) d_B_onTheWay_1 ?_
  refine sr_iconst G (v := (nI 0)) (by decide) d_B_onTheWay_2 ?_
  refine sr_istore_n G (by decide) d_B_onTheWay_3 ?_
  obtain ⟨eL, hL⟩ := ci_ml hI
  refine sr_loop (Int32.toNatClampNeg (M 0 0 4)) (fun j => M) (fun j => [some (.ref (ad b 0 0)), some (.int x1), some (.int (fd_ (g_B_onTheWay M x1) 0 j)), some (.int (nI j)), none]) (fun _ => True) 0 (Nat.zero_le _) trivial rfl rfl (fun j hj0 hj hi ih => ?_) (fun hi => ?_)
  · skip
    have ij : (nI j).toNatClampNeg = j := nI_clamp (by omega)
    refine sr_iload_n G rfl d_B_onTheWay_4 ?_
    refine sr_aload_n G rfl d_B_onTheWay_5 ?_
    refine sr_get G (vv_0 hn) rfl ku_B rfl 4 (by decide) kf_B_127 rfl rfl d_B_onTheWay_6 ?_
    refine sr_icmp_ge G 60 d_B_onTheWay_9 rfl (fun h => absurd h (by rw [eL]; exact nI_ge hj (by omega))) (fun _ => ?_)
    refine sr_aload_n G rfl d_B_onTheWay_12 ?_
    refine sr_get G (vv_0 hn) rfl ku_B rfl 2 (by decide) kf_B_23 rfl rfl d_B_onTheWay_13 ?_
    refine sr_iload_n G rfl d_B_onTheWay_16 ?_
    refine sr_aald G (vv_12 hn) rfl rfl (vp_in_nI (by omega) (by decide)) d_B_onTheWay_17 ?_
    refine sr_astore G (by decide) d_B_onTheWay_18 ?_
    refine sr_aload G rfl d_B_onTheWay_20 ?_
    refine sr_getN G (vv_9 hn (by omega)) rfl ku_Me rfl 5 (by decide) kf_B_165 rfl rfl d_B_onTheWay_22 ?_
    refine sr_iload_n G rfl d_B_onTheWay_25 ?_
    refine sr_icmp_ne G 54 d_B_onTheWay_26 rfl (fun h26 => ?_) (fun h26 => ?_)
    · skip
      refine sr_iinc G (v := nI (j + 1)) rfl (nI_1 j) (by decide) d_B_onTheWay_54 ?_
      refine sr_goto G 4 d_B_onTheWay_57 rfl ?_
      refine sr_dropL 4 ?_
      have e9 : fd_ (g_B_onTheWay M x1) 0 (j + 1) = (fd_ (g_B_onTheWay M x1) 0 j) := by
        show g_B_onTheWay M x1 j (fd_ (g_B_onTheWay M x1) 0 j) = _
        rw [eg_B_onTheWay, if_neg h26]
      have ih9 := ih trivial
      try dsimp only at ih9
      rw [e9] at ih9
      exact ih9
    · skip
      refine sr_aload G rfl d_B_onTheWay_29 ?_
      refine sr_getN G (vv_9 hn (by omega)) rfl ku_Me rfl 10 (by decide) kf_B_147 rfl rfl d_B_onTheWay_31 ?_
      refine sr_iconst G (v := 1) (by decide) d_B_onTheWay_34 ?_
      refine sr_icmp_eq G 54 d_B_onTheWay_35 rfl (fun h35 => ?_) (fun h35 => ?_)
      · skip
        refine sr_iinc G (v := nI (j + 1)) rfl (nI_1 j) (by decide) d_B_onTheWay_54 ?_
        refine sr_goto G 4 d_B_onTheWay_57 rfl ?_
        refine sr_dropL 4 ?_
        have e9 : fd_ (g_B_onTheWay M x1) 0 (j + 1) = (fd_ (g_B_onTheWay M x1) 0 j) := by
          show g_B_onTheWay M x1 j (fd_ (g_B_onTheWay M x1) 0 j) = _
          rw [eg_B_onTheWay, if_pos h26, if_pos h35]
        have ih9 := ih trivial
        try dsimp only at ih9
        rw [e9] at ih9
        exact ih9
      · skip
        refine sr_aload G rfl d_B_onTheWay_38 ?_
        refine sr_getN G (vv_9 hn (by omega)) rfl ku_Me rfl 9 (by decide) kf_B_215 rfl rfl d_B_onTheWay_40 ?_
        refine sr_if_ne G 54 d_B_onTheWay_43 rfl (fun h43 => ?_) (fun h43 => ?_)
        · skip
          refine sr_iinc G (v := nI (j + 1)) rfl (nI_1 j) (by decide) d_B_onTheWay_54 ?_
          refine sr_goto G 4 d_B_onTheWay_57 rfl ?_
          refine sr_dropL 4 ?_
          have e9 : fd_ (g_B_onTheWay M x1) 0 (j + 1) = (fd_ (g_B_onTheWay M x1) 0 j) := by
            show g_B_onTheWay M x1 j (fd_ (g_B_onTheWay M x1) 0 j) = _
            rw [eg_B_onTheWay, if_pos h26, if_neg h35, if_neg h43]
          have ih9 := ih trivial
          try dsimp only at ih9
          rw [e9] at ih9
          exact ih9
        · skip
          refine sr_iload_n G rfl d_B_onTheWay_46 ?_
          refine sr_aload G rfl d_B_onTheWay_47 ?_
          refine sr_getN G (vv_9 hn (by omega)) rfl ku_Me rfl 6 (by decide) kf_B_168 rfl rfl d_B_onTheWay_49 ?_
          refine sr_iadd G d_B_onTheWay_52 ?_
          refine sr_istore_n G (by decide) d_B_onTheWay_53 ?_
          refine sr_iinc G (v := nI (j + 1)) rfl (nI_1 j) (by decide) d_B_onTheWay_54 ?_
          refine sr_goto G 4 d_B_onTheWay_57 rfl ?_
          refine sr_dropL 4 ?_
          have e9 : fd_ (g_B_onTheWay M x1) 0 (j + 1) = ((fd_ (g_B_onTheWay M x1) 0 j) + (M 9 (Int32.toNatClampNeg (nI j)) 6)) := by
            show g_B_onTheWay M x1 j (fd_ (g_B_onTheWay M x1) 0 j) = _
            rw [eg_B_onTheWay, if_pos h26, if_neg h35, if_pos h43]
          have ih9 := ih trivial
          try dsimp only at ih9
          rw [e9] at ih9
          exact ih9
  · skip
    refine sr_iload_n G rfl d_B_onTheWay_4 ?_
    refine sr_aload_n G rfl d_B_onTheWay_5 ?_
    refine sr_get G (vv_0 hn) rfl ku_B rfl 4 (by decide) kf_B_127 rfl rfl d_B_onTheWay_6 ?_
    refine sr_icmp_ge G 60 d_B_onTheWay_9 rfl (fun _ => ?_) (fun h => absurd (by rw [eL, nI_clamp (by omega)]; exact nI_le (Nat.le_refl _) (by omega)) h)
    refine sr_iload_n G rfl d_B_onTheWay_60 ?_
    refine sr_iret G d_B_onTheWay_61 ?_
    unfold f_B_onTheWay
    exact ⟨rfl, rfl⟩
def g_B_howManyStand (M : Mem) (j : Nat) (ACC : Int32) : Int32 := (ACC + (f_B_oneIf (M 9 (Int32.toNatClampNeg (nI j)) 8)))
theorem eg_B_howManyStand (M : Mem) (j : Nat) (ACC : Int32) : g_B_howManyStand M j ACC = (ACC + (f_B_oneIf (M 9 (Int32.toNatClampNeg (nI j)) 8))) := rfl
def f_B_howManyStand (M : Mem)  : Int32 := (fd_ (g_B_howManyStand M) 0 (Int32.toNatClampNeg (M 0 0 4)))
set_option maxHeartbeats 4000000 in
set_option maxRecDepth 100000 in
theorem c_B_howManyStand {l : Launch} {D : va_G} {t6 : Nat → ClassId} {b n : Nat} (hn : 104 ≤ n) {M : Mem} (hI : ci_ M) : CI l D t6 b n y_B_howManyStand cd_B_howManyStand 3 .int (rk 1 20) [.ref (ad b 0 0)] M (f_B_howManyStand M) M := by
  refine en_i (by decide) (by simp [Value.category]) (Nat.le_of_ble_eq_true rfl) (fun p e s m below meth c G => ?_)
  refine sr_iconst G (v := 0) (by decide) d_B_howManyStand_0 ?_
  refine sr_istore_n G (by decide) d_B_howManyStand_1 ?_
  refine sr_iconst G (v := (nI 0)) (by decide) d_B_howManyStand_2 ?_
  refine sr_istore_n G (by decide) d_B_howManyStand_3 ?_
  obtain ⟨eL, hL⟩ := ci_ml hI
  refine sr_loop (Int32.toNatClampNeg (M 0 0 4)) (fun j => M) (fun j => [some (.ref (ad b 0 0)), some (.int (fd_ (g_B_howManyStand M) 0 j)), some (.int (nI j))]) (fun _ => True) 0 (Nat.zero_le _) trivial rfl rfl (fun j hj0 hj hi ih => ?_) (fun hi => ?_)
  · skip
    have ij : (nI j).toNatClampNeg = j := nI_clamp (by omega)
    refine sr_iload_n G rfl d_B_howManyStand_4 ?_
    refine sr_aload_n G rfl d_B_howManyStand_5 ?_
    refine sr_get G (vv_0 hn) rfl ku_B rfl 4 (by decide) kf_B_127 rfl rfl d_B_howManyStand_6 ?_
    refine sr_icmp_ge G 33 d_B_howManyStand_9 rfl (fun h => absurd h (by rw [eL]; exact nI_ge hj (by omega))) (fun _ => ?_)
    refine sr_iload_n G rfl d_B_howManyStand_12 ?_
    refine sr_aload_n G rfl d_B_howManyStand_13 ?_
    refine sr_get G (vv_0 hn) rfl ku_B rfl 2 (by decide) kf_B_23 rfl rfl d_B_howManyStand_14 ?_
    refine sr_iload_n G rfl d_B_howManyStand_17 ?_
    refine sr_aald G (vv_12 hn) rfl rfl (vp_in_nI (by omega) (by decide)) d_B_howManyStand_18 ?_
    refine sr_getN G (vv_9 hn (by omega)) rfl ku_Me rfl 8 (by decide) kf_B_212 rfl rfl d_B_howManyStand_19 ?_
    refine sr_csi G ks_B_oneIf (c_B_oneIf) kc_B_oneIf km_B_73 kn_B yy_B_oneIf rfl ⟨rfl, rfl, by decide, by decide⟩ (Nat.le_of_ble_eq_true rfl) rfl d_B_howManyStand_22 ?_
    refine sr_iadd G d_B_howManyStand_25 ?_
    refine sr_istore_n G (by decide) d_B_howManyStand_26 ?_
    refine sr_iinc G (v := nI (j + 1)) rfl (nI_1 j) (by decide) d_B_howManyStand_27 ?_
    refine sr_goto G 4 d_B_howManyStand_30 rfl ?_
    have e9 : fd_ (g_B_howManyStand M) 0 (j + 1) = ((fd_ (g_B_howManyStand M) 0 j) + (f_B_oneIf (M 9 (Int32.toNatClampNeg (nI j)) 8))) := by
      show g_B_howManyStand M j (fd_ (g_B_howManyStand M) 0 j) = _
      rw [eg_B_howManyStand]
    have ih9 := ih trivial
    try dsimp only at ih9
    rw [e9] at ih9
    exact ih9
  · skip
    refine sr_iload_n G rfl d_B_howManyStand_4 ?_
    refine sr_aload_n G rfl d_B_howManyStand_5 ?_
    refine sr_get G (vv_0 hn) rfl ku_B rfl 4 (by decide) kf_B_127 rfl rfl d_B_howManyStand_6 ?_
    refine sr_icmp_ge G 33 d_B_howManyStand_9 rfl (fun _ => ?_) (fun h => absurd (by rw [eL, nI_clamp (by omega)]; exact nI_le (Nat.le_refl _) (by omega)) h)
    refine sr_iload_n G rfl d_B_howManyStand_33 ?_
    refine sr_iret G d_B_howManyStand_34 ?_
    unfold f_B_howManyStand
    exact ⟨rfl, rfl⟩
def f_B_beginAnew (M : Mem)  : Mem := (u3 (u3 (f_En_beginAnew (f_En_beginAnew (f_En_beginAnew (f_En_beginAnew (f_En_beginAnew (f_En_beginAnew (f_En_beginAnew (f_En_beginAnew (f_Le_beginAnew (f_Le_beginAnew M (Int32.toNatClampNeg 0)) (Int32.toNatClampNeg 1)) (2 * (Int32.toNatClampNeg 0) + Int32.toNatClampNeg 0)) (2 * (Int32.toNatClampNeg 0) + Int32.toNatClampNeg 1)) (2 * (Int32.toNatClampNeg 1) + Int32.toNatClampNeg 0)) (2 * (Int32.toNatClampNeg 1) + Int32.toNatClampNeg 1)) (2 * (Int32.toNatClampNeg 2) + Int32.toNatClampNeg 0)) (2 * (Int32.toNatClampNeg 2) + Int32.toNatClampNeg 1)) (2 * (Int32.toNatClampNeg 3) + Int32.toNatClampNeg 0)) (2 * (Int32.toNatClampNeg 3) + Int32.toNatClampNeg 1)) 0 0 3 0) 0 0 4 0)
set_option maxHeartbeats 4000000 in
set_option maxRecDepth 100000 in
theorem c_B_beginAnew {l : Launch} {D : va_G} {t6 : Nat → ClassId} {b n : Nat} (hn : 104 ≤ n) {M : Mem} : CV l D t6 b n y_B_beginAnew cd_B_beginAnew 2  (rk 3 63) [.ref (ad b 0 0)] M (f_B_beginAnew M) := by
  refine en_v (by decide) (by simp [Value.category]) (Nat.le_of_ble_eq_true rfl) (fun p e s m below meth c G => ?_)
  refine sr_iconst G (v := 0) (by decide) d_B_beginAnew_0 ?_
  refine sr_istore_n G (by decide) d_B_beginAnew_1 ?_
  refine sr_iload_n G rfl d_B_beginAnew_2 ?_
  refine sr_iconst G (v := 2) (by decide) d_B_beginAnew_3 ?_
  refine sr_icmp_ge G 22 d_B_beginAnew_4 rfl (fun h => absurd h (by decide)) (fun _ => ?_)
  refine sr_aload_n G rfl d_B_beginAnew_7 ?_
  refine sr_get G (vv_0 hn) rfl ku_B rfl 0 (by decide) kf_B_11 rfl rfl d_B_beginAnew_8 ?_
  refine sr_iload_n G rfl d_B_beginAnew_11 ?_
  refine sr_aald G (vv_10 hn) rfl rfl (by unfold vp_in; decide) d_B_beginAnew_12 ?_
  refine sr_cvNv G (vv_1 hn (by decide)) rfl rfl ki_Le_beginAnew kx_Le_beginAnew (c_Le_beginAnew hn (by first | assumption | omega | decide | (unfold vp_in; decide))) kc_Le_beginAnew km_B_253 kn_Le yy_Le_beginAnew rfl ⟨rfl, rfl, by decide, by decide⟩ (Nat.le_of_ble_eq_true rfl) rfl d_B_beginAnew_13 ?_
  refine sr_iinc G (v := 1) rfl (by decide) (by decide) d_B_beginAnew_16 ?_
  refine sr_goto G 2 d_B_beginAnew_19 rfl ?_
  refine sr_iload_n G rfl d_B_beginAnew_2 ?_
  refine sr_iconst G (v := 2) (by decide) d_B_beginAnew_3 ?_
  refine sr_icmp_ge G 22 d_B_beginAnew_4 rfl (fun h => absurd h (by decide)) (fun _ => ?_)
  refine sr_aload_n G rfl d_B_beginAnew_7 ?_
  refine sr_get G (vv_0 hn) rfl ku_B rfl 0 (by decide) kf_B_11 rfl rfl d_B_beginAnew_8 ?_
  refine sr_iload_n G rfl d_B_beginAnew_11 ?_
  refine sr_aald G (vv_10 hn) rfl rfl (by unfold vp_in; decide) d_B_beginAnew_12 ?_
  refine sr_cvNv G (vv_1 hn (by decide)) rfl rfl ki_Le_beginAnew kx_Le_beginAnew (c_Le_beginAnew hn (by first | assumption | omega | decide | (unfold vp_in; decide))) kc_Le_beginAnew km_B_253 kn_Le yy_Le_beginAnew rfl ⟨rfl, rfl, by decide, by decide⟩ (Nat.le_of_ble_eq_true rfl) rfl d_B_beginAnew_13 ?_
  refine sr_iinc G (v := 2) rfl (by decide) (by decide) d_B_beginAnew_16 ?_
  refine sr_goto G 2 d_B_beginAnew_19 rfl ?_
  refine sr_iload_n G rfl d_B_beginAnew_2 ?_
  refine sr_iconst G (v := 2) (by decide) d_B_beginAnew_3 ?_
  refine sr_icmp_ge G 22 d_B_beginAnew_4 rfl (fun _ => ?_) (fun h => absurd (by decide) h)
  refine sr_iconst G (v := 0) (by decide) d_B_beginAnew_22 ?_
  refine sr_istore_n G (by decide) d_B_beginAnew_23 ?_
  refine sr_iload_n G rfl d_B_beginAnew_24 ?_
  refine sr_iconst G (v := 4) (by decide) d_B_beginAnew_25 ?_
  refine sr_icmp_ge G 63 d_B_beginAnew_26 rfl (fun h => absurd h (by decide)) (fun _ => ?_)
  refine sr_aload_n G rfl d_B_beginAnew_29 ?_
  refine sr_get G (vv_0 hn) rfl ku_B rfl 1 (by decide) kf_B_17 rfl rfl d_B_beginAnew_30 ?_
  refine sr_iload_n G rfl d_B_beginAnew_33 ?_
  refine sr_aald G (vv_11 hn) rfl rfl (by unfold vp_in; decide) d_B_beginAnew_34 ?_
  refine sr_getN G (vv_5 hn (by decide)) rfl ku_Ch rfl 0 (by decide) kf_B_89 rfl rfl d_B_beginAnew_35 ?_
  refine sr_iconst G (v := 0) (by decide) d_B_beginAnew_38 ?_
  refine sr_aald G (vv_13 hn (by decide)) rfl rfl (by unfold vp_in; decide) d_B_beginAnew_39 ?_
  refine sr_cvNv G (vv_6 hn (by decide)) rfl rfl ki_En_beginAnew kx_En_beginAnew (c_En_beginAnew hn (by first | assumption | omega | decide | (unfold vp_in; decide))) kc_En_beginAnew km_B_254 kn_En yy_En_beginAnew rfl ⟨rfl, rfl, by decide, by decide⟩ (Nat.le_of_ble_eq_true rfl) rfl d_B_beginAnew_40 ?_
  refine sr_aload_n G rfl d_B_beginAnew_43 ?_
  refine sr_get G (vv_0 hn) rfl ku_B rfl 1 (by decide) kf_B_17 rfl rfl d_B_beginAnew_44 ?_
  refine sr_iload_n G rfl d_B_beginAnew_47 ?_
  refine sr_aald G (vv_11 hn) rfl rfl (by unfold vp_in; decide) d_B_beginAnew_48 ?_
  refine sr_getN G (vv_5 hn (by decide)) rfl ku_Ch rfl 0 (by decide) kf_B_89 rfl rfl d_B_beginAnew_49 ?_
  refine sr_iconst G (v := 1) (by decide) d_B_beginAnew_52 ?_
  refine sr_aald G (vv_13 hn (by decide)) rfl rfl (by unfold vp_in; decide) d_B_beginAnew_53 ?_
  refine sr_cvNv G (vv_6 hn (by decide)) rfl rfl ki_En_beginAnew kx_En_beginAnew (c_En_beginAnew hn (by first | assumption | omega | decide | (unfold vp_in; decide))) kc_En_beginAnew km_B_254 kn_En yy_En_beginAnew rfl ⟨rfl, rfl, by decide, by decide⟩ (Nat.le_of_ble_eq_true rfl) rfl d_B_beginAnew_54 ?_
  refine sr_iinc G (v := 1) rfl (by decide) (by decide) d_B_beginAnew_57 ?_
  refine sr_goto G 24 d_B_beginAnew_60 rfl ?_
  refine sr_iload_n G rfl d_B_beginAnew_24 ?_
  refine sr_iconst G (v := 4) (by decide) d_B_beginAnew_25 ?_
  refine sr_icmp_ge G 63 d_B_beginAnew_26 rfl (fun h => absurd h (by decide)) (fun _ => ?_)
  refine sr_aload_n G rfl d_B_beginAnew_29 ?_
  refine sr_get G (vv_0 hn) rfl ku_B rfl 1 (by decide) kf_B_17 rfl rfl d_B_beginAnew_30 ?_
  refine sr_iload_n G rfl d_B_beginAnew_33 ?_
  refine sr_aald G (vv_11 hn) rfl rfl (by unfold vp_in; decide) d_B_beginAnew_34 ?_
  refine sr_getN G (vv_5 hn (by decide)) rfl ku_Ch rfl 0 (by decide) kf_B_89 rfl rfl d_B_beginAnew_35 ?_
  refine sr_iconst G (v := 0) (by decide) d_B_beginAnew_38 ?_
  refine sr_aald G (vv_13 hn (by decide)) rfl rfl (by unfold vp_in; decide) d_B_beginAnew_39 ?_
  refine sr_cvNv G (vv_6 hn (by decide)) rfl rfl ki_En_beginAnew kx_En_beginAnew (c_En_beginAnew hn (by first | assumption | omega | decide | (unfold vp_in; decide))) kc_En_beginAnew km_B_254 kn_En yy_En_beginAnew rfl ⟨rfl, rfl, by decide, by decide⟩ (Nat.le_of_ble_eq_true rfl) rfl d_B_beginAnew_40 ?_
  refine sr_aload_n G rfl d_B_beginAnew_43 ?_
  refine sr_get G (vv_0 hn) rfl ku_B rfl 1 (by decide) kf_B_17 rfl rfl d_B_beginAnew_44 ?_
  refine sr_iload_n G rfl d_B_beginAnew_47 ?_
  refine sr_aald G (vv_11 hn) rfl rfl (by unfold vp_in; decide) d_B_beginAnew_48 ?_
  refine sr_getN G (vv_5 hn (by decide)) rfl ku_Ch rfl 0 (by decide) kf_B_89 rfl rfl d_B_beginAnew_49 ?_
  refine sr_iconst G (v := 1) (by decide) d_B_beginAnew_52 ?_
  refine sr_aald G (vv_13 hn (by decide)) rfl rfl (by unfold vp_in; decide) d_B_beginAnew_53 ?_
  refine sr_cvNv G (vv_6 hn (by decide)) rfl rfl ki_En_beginAnew kx_En_beginAnew (c_En_beginAnew hn (by first | assumption | omega | decide | (unfold vp_in; decide))) kc_En_beginAnew km_B_254 kn_En yy_En_beginAnew rfl ⟨rfl, rfl, by decide, by decide⟩ (Nat.le_of_ble_eq_true rfl) rfl d_B_beginAnew_54 ?_
  refine sr_iinc G (v := 2) rfl (by decide) (by decide) d_B_beginAnew_57 ?_
  refine sr_goto G 24 d_B_beginAnew_60 rfl ?_
  refine sr_iload_n G rfl d_B_beginAnew_24 ?_
  refine sr_iconst G (v := 4) (by decide) d_B_beginAnew_25 ?_
  refine sr_icmp_ge G 63 d_B_beginAnew_26 rfl (fun h => absurd h (by decide)) (fun _ => ?_)
  refine sr_aload_n G rfl d_B_beginAnew_29 ?_
  refine sr_get G (vv_0 hn) rfl ku_B rfl 1 (by decide) kf_B_17 rfl rfl d_B_beginAnew_30 ?_
  refine sr_iload_n G rfl d_B_beginAnew_33 ?_
  refine sr_aald G (vv_11 hn) rfl rfl (by unfold vp_in; decide) d_B_beginAnew_34 ?_
  refine sr_getN G (vv_5 hn (by decide)) rfl ku_Ch rfl 0 (by decide) kf_B_89 rfl rfl d_B_beginAnew_35 ?_
  refine sr_iconst G (v := 0) (by decide) d_B_beginAnew_38 ?_
  refine sr_aald G (vv_13 hn (by decide)) rfl rfl (by unfold vp_in; decide) d_B_beginAnew_39 ?_
  refine sr_cvNv G (vv_6 hn (by decide)) rfl rfl ki_En_beginAnew kx_En_beginAnew (c_En_beginAnew hn (by first | assumption | omega | decide | (unfold vp_in; decide))) kc_En_beginAnew km_B_254 kn_En yy_En_beginAnew rfl ⟨rfl, rfl, by decide, by decide⟩ (Nat.le_of_ble_eq_true rfl) rfl d_B_beginAnew_40 ?_
  refine sr_aload_n G rfl d_B_beginAnew_43 ?_
  refine sr_get G (vv_0 hn) rfl ku_B rfl 1 (by decide) kf_B_17 rfl rfl d_B_beginAnew_44 ?_
  refine sr_iload_n G rfl d_B_beginAnew_47 ?_
  refine sr_aald G (vv_11 hn) rfl rfl (by unfold vp_in; decide) d_B_beginAnew_48 ?_
  refine sr_getN G (vv_5 hn (by decide)) rfl ku_Ch rfl 0 (by decide) kf_B_89 rfl rfl d_B_beginAnew_49 ?_
  refine sr_iconst G (v := 1) (by decide) d_B_beginAnew_52 ?_
  refine sr_aald G (vv_13 hn (by decide)) rfl rfl (by unfold vp_in; decide) d_B_beginAnew_53 ?_
  refine sr_cvNv G (vv_6 hn (by decide)) rfl rfl ki_En_beginAnew kx_En_beginAnew (c_En_beginAnew hn (by first | assumption | omega | decide | (unfold vp_in; decide))) kc_En_beginAnew km_B_254 kn_En yy_En_beginAnew rfl ⟨rfl, rfl, by decide, by decide⟩ (Nat.le_of_ble_eq_true rfl) rfl d_B_beginAnew_54 ?_
  refine sr_iinc G (v := 3) rfl (by decide) (by decide) d_B_beginAnew_57 ?_
  refine sr_goto G 24 d_B_beginAnew_60 rfl ?_
  refine sr_iload_n G rfl d_B_beginAnew_24 ?_
  refine sr_iconst G (v := 4) (by decide) d_B_beginAnew_25 ?_
  refine sr_icmp_ge G 63 d_B_beginAnew_26 rfl (fun h => absurd h (by decide)) (fun _ => ?_)
  refine sr_aload_n G rfl d_B_beginAnew_29 ?_
  refine sr_get G (vv_0 hn) rfl ku_B rfl 1 (by decide) kf_B_17 rfl rfl d_B_beginAnew_30 ?_
  refine sr_iload_n G rfl d_B_beginAnew_33 ?_
  refine sr_aald G (vv_11 hn) rfl rfl (by unfold vp_in; decide) d_B_beginAnew_34 ?_
  refine sr_getN G (vv_5 hn (by decide)) rfl ku_Ch rfl 0 (by decide) kf_B_89 rfl rfl d_B_beginAnew_35 ?_
  refine sr_iconst G (v := 0) (by decide) d_B_beginAnew_38 ?_
  refine sr_aald G (vv_13 hn (by decide)) rfl rfl (by unfold vp_in; decide) d_B_beginAnew_39 ?_
  refine sr_cvNv G (vv_6 hn (by decide)) rfl rfl ki_En_beginAnew kx_En_beginAnew (c_En_beginAnew hn (by first | assumption | omega | decide | (unfold vp_in; decide))) kc_En_beginAnew km_B_254 kn_En yy_En_beginAnew rfl ⟨rfl, rfl, by decide, by decide⟩ (Nat.le_of_ble_eq_true rfl) rfl d_B_beginAnew_40 ?_
  refine sr_aload_n G rfl d_B_beginAnew_43 ?_
  refine sr_get G (vv_0 hn) rfl ku_B rfl 1 (by decide) kf_B_17 rfl rfl d_B_beginAnew_44 ?_
  refine sr_iload_n G rfl d_B_beginAnew_47 ?_
  refine sr_aald G (vv_11 hn) rfl rfl (by unfold vp_in; decide) d_B_beginAnew_48 ?_
  refine sr_getN G (vv_5 hn (by decide)) rfl ku_Ch rfl 0 (by decide) kf_B_89 rfl rfl d_B_beginAnew_49 ?_
  refine sr_iconst G (v := 1) (by decide) d_B_beginAnew_52 ?_
  refine sr_aald G (vv_13 hn (by decide)) rfl rfl (by unfold vp_in; decide) d_B_beginAnew_53 ?_
  refine sr_cvNv G (vv_6 hn (by decide)) rfl rfl ki_En_beginAnew kx_En_beginAnew (c_En_beginAnew hn (by first | assumption | omega | decide | (unfold vp_in; decide))) kc_En_beginAnew km_B_254 kn_En yy_En_beginAnew rfl ⟨rfl, rfl, by decide, by decide⟩ (Nat.le_of_ble_eq_true rfl) rfl d_B_beginAnew_54 ?_
  refine sr_iinc G (v := 4) rfl (by decide) (by decide) d_B_beginAnew_57 ?_
  refine sr_goto G 24 d_B_beginAnew_60 rfl ?_
  refine sr_iload_n G rfl d_B_beginAnew_24 ?_
  refine sr_iconst G (v := 4) (by decide) d_B_beginAnew_25 ?_
  refine sr_icmp_ge G 63 d_B_beginAnew_26 rfl (fun _ => ?_) (fun h => absurd (by decide) h)
  refine sr_aload_n G rfl d_B_beginAnew_63 ?_
  refine sr_iconst G (v := 0) (by decide) d_B_beginAnew_64 ?_
  refine sr_put G (vv_0 hn) rfl ku_B rfl 3 (by decide) t_B ty_B nm_B kf_B_80 rfl rfl (ty := .int) (by decide +kernel) rfl rfl (Nat.le_of_ble_eq_true rfl) rfl d_B_beginAnew_65 ?_
  refine sr_aload_n G rfl d_B_beginAnew_68 ?_
  refine sr_iconst G (v := 0) (by decide) d_B_beginAnew_69 ?_
  refine sr_put G (vv_0 hn) rfl ku_B rfl 4 (by decide) t_B ty_B nm_B kf_B_127 rfl rfl (ty := .int) (by decide +kernel) rfl rfl (Nat.le_of_ble_eq_true rfl) rfl d_B_beginAnew_70 ?_
  refine sr_vret G d_B_beginAnew_73 ?_
  unfold f_B_beginAnew
  rfl
