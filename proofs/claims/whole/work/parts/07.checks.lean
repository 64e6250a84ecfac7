def f_B_isWithin (x1 : Int32) (x2 : Int32) (x3 : Int32) : Int32 := (if x1 < x2 then 0 else (if x3 < x1 then 0 else 1))
set_option maxHeartbeats 4000000 in
set_option maxRecDepth 100000 in
theorem c_B_isWithin {l : Launch} {D : va_G} {t6 : Nat → ClassId} {b n : Nat} {M : Mem} {x1 : Int32} {x2 : Int32} {x3 : Int32} : CI l D t6 b n y_B_isWithin cd_B_isWithin 3 .boolean (rk 0 0) [.int x1, .int x2, .int x3] M (f_B_isWithin x1 x2 x3) M := by
  refine en_i (by decide) (by simp [Value.category]) (Nat.le_of_ble_eq_true rfl) (fun p e s m below meth c G => ?_)
  refine sr_iload_n G rfl d_B_isWithin_0 ?_
  refine sr_iload_n G rfl d_B_isWithin_1 ?_
  refine sr_icmp_lt G 14 d_B_isWithin_2 rfl (fun h2 => ?_) (fun h2 => ?_)
  · skip
    refine sr_iconst G (v := 0) (by decide) d_B_isWithin_14 ?_
    refine sr_zret G (by decide) d_B_isWithin_15 ?_
    unfold f_B_isWithin
    rw [if_pos h2]
    exact ⟨rfl, rfl⟩
  · skip
    refine sr_iload_n G rfl d_B_isWithin_5 ?_
    refine sr_iload_n G rfl d_B_isWithin_6 ?_
    refine sr_icmp_gt G 14 d_B_isWithin_7 rfl (fun h7 => ?_) (fun h7 => ?_)
    · skip
      refine sr_iconst G (v := 0) (by decide) d_B_isWithin_14 ?_
      refine sr_zret G (by decide) d_B_isWithin_15 ?_
      unfold f_B_isWithin
      rw [if_neg h2, if_pos h7]
      exact ⟨rfl, rfl⟩
    · skip
      refine sr_iconst G (v := 1) (by decide) d_B_isWithin_10 ?_
      refine sr_goto G 15 d_B_isWithin_11 rfl ?_
      refine sr_zret G (by decide) d_B_isWithin_15 ?_
      unfold f_B_isWithin
      rw [if_neg h2, if_neg h7]
      exact ⟨rfl, rfl⟩
theorem nb_isWithin (x1 x2 x3 : Int32) : narrow .boolean (.int (f_B_isWithin x1 x2 x3)) = .int (f_B_isWithin x1 x2 x3) := by
  unfold f_B_isWithin
  split
  · decide
  · split <;> decide
def f_B_isSide (x1 : Int32) : Int32 := (f_B_isWithin x1 0 1)
set_option maxHeartbeats 4000000 in
set_option maxRecDepth 100000 in
theorem c_B_isSide {l : Launch} {D : va_G} {t6 : Nat → ClassId} {b n : Nat} {M : Mem} {x1 : Int32} : CI l D t6 b n y_B_isSide cd_B_isSide 1 .boolean (rk 1 22) [.int x1] M (f_B_isSide x1) M := by
  refine en_i (by decide) (by simp [Value.category]) (Nat.le_of_ble_eq_true rfl) (fun p e s m below meth c G => ?_)
  refine sr_iload_n G rfl d_B_isSide_0 ?_
  refine sr_iconst G (v := 0) (by decide) d_B_isSide_1 ?_
  refine sr_iconst G (v := 1) (by decide) d_B_isSide_2 ?_
  refine sr_csi G ks_B_isWithin (c_B_isWithin) kc_B_isWithin km_B_41 kn_B yy_B_isWithin rfl ⟨rfl, rfl, by decide, by decide⟩ (Nat.le_of_ble_eq_true rfl) rfl d_B_isSide_3 ?_
  refine sr_zret G (nb_isWithin _ _ _) d_B_isSide_6 ?_
  unfold f_B_isSide
  exact ⟨rfl, rfl⟩
def f_B_isCoin (x1 : Int32) : Int32 := (f_B_isWithin x1 0 1)
set_option maxHeartbeats 4000000 in
set_option maxRecDepth 100000 in
theorem c_B_isCoin {l : Launch} {D : va_G} {t6 : Nat → ClassId} {b n : Nat} {M : Mem} {x1 : Int32} : CI l D t6 b n y_B_isCoin cd_B_isCoin 1 .boolean (rk 1 22) [.int x1] M (f_B_isCoin x1) M := by
  refine en_i (by decide) (by simp [Value.category]) (Nat.le_of_ble_eq_true rfl) (fun p e s m below meth c G => ?_)
  refine sr_iload_n G rfl d_B_isCoin_0 ?_
  refine sr_iconst G (v := 0) (by decide) d_B_isCoin_1 ?_
  refine sr_iconst G (v := 1) (by decide) d_B_isCoin_2 ?_
  refine sr_csi G ks_B_isWithin (c_B_isWithin) kc_B_isWithin km_B_41 kn_B yy_B_isWithin rfl ⟨rfl, rfl, by decide, by decide⟩ (Nat.le_of_ble_eq_true rfl) rfl d_B_isCoin_3 ?_
  refine sr_zret G (nb_isWithin _ _ _) d_B_isCoin_6 ?_
  unfold f_B_isCoin
  exact ⟨rfl, rfl⟩
def f_B_isAccount (x1 : Int32) : Int32 := (f_B_isWithin x1 0 3)
set_option maxHeartbeats 4000000 in
set_option maxRecDepth 100000 in
theorem c_B_isAccount {l : Launch} {D : va_G} {t6 : Nat → ClassId} {b n : Nat} {M : Mem} {x1 : Int32} : CI l D t6 b n y_B_isAccount cd_B_isAccount 1 .boolean (rk 1 22) [.int x1] M (f_B_isAccount x1) M := by
  refine en_i (by decide) (by simp [Value.category]) (Nat.le_of_ble_eq_true rfl) (fun p e s m below meth c G => ?_)
  refine sr_iload_n G rfl d_B_isAccount_0 ?_
  refine sr_iconst G (v := 0) (by decide) d_B_isAccount_1 ?_
  refine sr_iconst G (v := 3) (by decide) d_B_isAccount_2 ?_
  refine sr_csi G ks_B_isWithin (c_B_isWithin) kc_B_isWithin km_B_41 kn_B yy_B_isWithin rfl ⟨rfl, rfl, by decide, by decide⟩ (Nat.le_of_ble_eq_true rfl) rfl d_B_isAccount_3 ?_
  refine sr_zret G (nb_isWithin _ _ _) d_B_isAccount_6 ?_
  unfold f_B_isAccount
  exact ⟨rfl, rfl⟩
def f_B_isChannel (M : Mem) (x1 : Int32) : Int32 := (f_B_isWithin x1 0 ((M 0 0 3) - 1))
set_option maxHeartbeats 4000000 in
set_option maxRecDepth 100000 in
theorem c_B_isChannel {l : Launch} {D : va_G} {t6 : Nat → ClassId} {b n : Nat} (hn : 104 ≤ n) {M : Mem} {x1 : Int32} : CI l D t6 b n y_B_isChannel cd_B_isChannel 2 .boolean (rk 1 22) [.ref (ad b 0 0), .int x1] M (f_B_isChannel M x1) M := by
  refine en_i (by decide) (by simp [Value.category]) (Nat.le_of_ble_eq_true rfl) (fun p e s m below meth c G => ?_)
  refine sr_iload_n G rfl d_B_isChannel_0 ?_
  refine sr_iconst G (v := 0) (by decide) d_B_isChannel_1 ?_
  refine sr_aload_n G rfl d_B_isChannel_2 ?_
  refine sr_get G (vv_0 hn) rfl ku_B rfl 3 (by decide) kf_B_80 rfl rfl d_B_isChannel_3 ?_
  refine sr_iconst G (v := 1) (by decide) d_B_isChannel_6 ?_
  refine sr_isub G d_B_isChannel_7 ?_
  refine sr_csi G ks_B_isWithin (c_B_isWithin) kc_B_isWithin km_B_41 kn_B yy_B_isWithin rfl ⟨rfl, rfl, by decide, by decide⟩ (Nat.le_of_ble_eq_true rfl) rfl d_B_isChannel_8 ?_
  refine sr_zret G (nb_isWithin _ _ _) d_B_isChannel_11 ?_
  unfold f_B_isChannel
  exact ⟨rfl, rfl⟩
def f_B_isMessage (M : Mem) (x1 : Int32) : Int32 := (f_B_isWithin x1 0 ((M 0 0 4) - 1))
set_option maxHeartbeats 4000000 in
set_option maxRecDepth 100000 in
theorem c_B_isMessage {l : Launch} {D : va_G} {t6 : Nat → ClassId} {b n : Nat} (hn : 104 ≤ n) {M : Mem} {x1 : Int32} : CI l D t6 b n y_B_isMessage cd_B_isMessage 2 .boolean (rk 1 22) [.ref (ad b 0 0), .int x1] M (f_B_isMessage M x1) M := by
  refine en_i (by decide) (by simp [Value.category]) (Nat.le_of_ble_eq_true rfl) (fun p e s m below meth c G => ?_)
  refine sr_iload_n G rfl d_B_isMessage_0 ?_
  refine sr_iconst G (v := 0) (by decide) d_B_isMessage_1 ?_
  refine sr_aload_n G rfl d_B_isMessage_2 ?_
  refine sr_get G (vv_0 hn) rfl ku_B rfl 4 (by decide) kf_B_127 rfl rfl d_B_isMessage_3 ?_
  refine sr_iconst G (v := 1) (by decide) d_B_isMessage_6 ?_
  refine sr_isub G d_B_isMessage_7 ?_
  refine sr_csi G ks_B_isWithin (c_B_isWithin) kc_B_isWithin km_B_41 kn_B yy_B_isWithin rfl ⟨rfl, rfl, by decide, by decide⟩ (Nat.le_of_ble_eq_true rfl) rfl d_B_isMessage_8 ?_
  refine sr_zret G (nb_isWithin _ _ _) d_B_isMessage_11 ?_
  unfold f_B_isMessage
  exact ⟨rfl, rfl⟩
def f_B_oneIf (x1 : Int32) : Int32 := (if x1 = 0 then 0 else 1)
set_option maxHeartbeats 4000000 in
set_option maxRecDepth 100000 in
theorem c_B_oneIf {l : Launch} {D : va_G} {t6 : Nat → ClassId} {b n : Nat} {M : Mem} {x1 : Int32} : CI l D t6 b n y_B_oneIf cd_B_oneIf 1 .int (rk 0 0) [.int x1] M (f_B_oneIf x1) M := by
  refine en_i (by decide) (by simp [Value.category]) (Nat.le_of_ble_eq_true rfl) (fun p e s m below meth c G => ?_)
  refine sr_iload_n G rfl d_B_oneIf_0 ?_
  refine sr_if_eq G 8 d_B_oneIf_1 rfl (fun h1 => ?_) (fun h1 => ?_)
  · skip
    refine sr_iconst G (v := 0) (by decide) d_B_oneIf_8 ?_
    refine sr_iret G d_B_oneIf_9 ?_
    unfold f_B_oneIf
    rw [if_pos h1]
    exact ⟨rfl, rfl⟩
  · skip
    refine sr_iconst G (v := 1) (by decide) d_B_oneIf_4 ?_
    refine sr_goto G 9 d_B_oneIf_5 rfl ?_
    refine sr_iret G d_B_oneIf_9 ?_
    unfold f_B_oneIf
    rw [if_neg h1]
    exact ⟨rfl, rfl⟩
