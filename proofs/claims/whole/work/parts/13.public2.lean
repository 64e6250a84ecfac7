def f_B_send (M : Mem) (x1 : Int32) (x2 : Int32) (x3 : Int32) (x4 : Int32) (x5 : Int32) (x6 : Int32) (x7 : Int32) : Int32 × Mem := (if (f_B_isChannel M x1) = 0 then ((-1), M) else (if (f_B_isSide x2) = 0 then ((-1), M) else (if (f_B_isAccount x3) = 0 then ((-1), M) else (if (f_B_isCoin x5) = 0 then ((-1), M) else (if (f_B_isWithin x4 0 7) = 0 then ((-2), M) else (if (f_B_isWithin x6 1 1000) = 0 then ((-2), M) else (if (f_B_isWithin x7 1 200) = 0 then ((-2), M) else (if (M 6 (2 * (Int32.toNatClampNeg x1) + Int32.toNatClampNeg x2) 2) = 3 then (if x5 = x2 then (if x6 ≤ (M 2 (Int32.toNatClampNeg x2) (Int32.toNatClampNeg x3)) then (if (M 3 (Int32.toNatClampNeg x2) 1) = 0 then (if (M 3 (Int32.toNatClampNeg x2) 2) < x7 then (if (M 0 0 4) < 60 then ((((f_B_write (f_B_takeIn M x1 x2 x3 x5 x6) x1 x2 x3 x4 x5 x6 x7) 0 0 4) - 1), (f_B_write (f_B_takeIn M x1 x2 x3 x5 x6) x1 x2 x3 x4 x5 x6 x7)) else ((-10), M)) else ((-7), M)) else ((-4), M)) else ((-3), M)) else (if x6 ≤ (M 8 (2 * Int32.toNatClampNeg x1 + Int32.toNatClampNeg x2) (Int32.toNatClampNeg x3)) then (if (M 3 (Int32.toNatClampNeg x2) 1) = 0 then (if (M 3 (Int32.toNatClampNeg x2) 2) < x7 then (if (M 0 0 4) < 60 then ((((f_B_write (f_B_takeIn M x1 x2 x3 x5 x6) x1 x2 x3 x4 x5 x6 x7) 0 0 4) - 1), (f_B_write (f_B_takeIn M x1 x2 x3 x5 x6) x1 x2 x3 x4 x5 x6 x7)) else ((-10), M)) else ((-7), M)) else ((-4), M)) else ((-3), M))) else ((-3), M)))))))))
set_option maxHeartbeats 4000000 in
set_option maxRecDepth 100000 in
theorem c_B_send {l : Launch} {D : va_G} {t6 : Nat → ClassId} {b n : Nat} (hn : 104 ≤ n) {M : Mem} {x1 : Int32} {x2 : Int32} {x3 : Int32} {x4 : Int32} {x5 : Int32} {x6 : Int32} {x7 : Int32} (hI : ci_ M) : CI l D t6 b n y_B_send cd_B_send 9 .int (rk 2 50) [.ref (ad b 0 0), .int x1, .int x2, .int x3, .int x4, .int x5, .int x6, .int x7] M (f_B_send M x1 x2 x3 x4 x5 x6 x7).1 (f_B_send M x1 x2 x3 x4 x5 x6 x7).2 := by
  refine en_i (by decide) (by simp [Value.category]) (Nat.le_of_ble_eq_true rfl) (fun p e s m below meth c G => ?_)
  refine sr_aload_n G rfl d_B_send_0 ?_
  refine sr_iload_n G rfl d_B_send_1 ?_
  refine sr_cvi G (vv_0 hn) rfl rfl ki_B_isChannel kx_B_isChannel (c_B_isChannel hn) kc_B_isChannel km_B_101 kn_B yy_B_isChannel rfl ⟨rfl, rfl, by decide, by decide⟩ (Nat.le_of_ble_eq_true rfl) rfl d_B_send_2 ?_
  refine sr_if_eq G 30 d_B_send_5 rfl (fun h5 => ?_) (fun h5 => ?_)
  · skip
    refine sr_iconst G (v := (-1)) (by decide) d_B_send_30 ?_
    refine sr_iret G d_B_send_31 ?_
    unfold f_B_send
    rw [if_pos h5]
    exact ⟨rfl, rfl⟩
  · skip
    have v5 : vp_in x1 4 := in_ch hI h5
    have i5 := ix_lt v5
    have f5 := hI.2.2.1 _ i5
    have f5a := ix_lt f5
    have f5b := in_1 f5
    have f5c := ix_lt f5b
    have f5d := in_1 f5b
    have f5e := ix_lt f5d
    refine sr_iload_n G rfl d_B_send_8 ?_
    refine sr_csi G ks_B_isSide (c_B_isSide) kc_B_isSide km_B_33 kn_B yy_B_isSide rfl ⟨rfl, rfl, by decide, by decide⟩ (Nat.le_of_ble_eq_true rfl) rfl d_B_send_9 ?_
    refine sr_if_eq G 30 d_B_send_12 rfl (fun h12 => ?_) (fun h12 => ?_)
    · skip
      refine sr_iconst G (v := (-1)) (by decide) d_B_send_30 ?_
      refine sr_iret G d_B_send_31 ?_
      unfold f_B_send
      rw [if_neg h5, if_pos h12]
      exact ⟨rfl, rfl⟩
    · skip
      have v12 : vp_in x2 2 := in_wi (lo := 0) (hi := 1) (by decide) (by decide) h12
      have i12 := ix_lt v12
      have w12 := in_1 v12
      have j12 := ix_lt w12
      refine sr_iload_n G rfl d_B_send_15 ?_
      refine sr_csi G ks_B_isAccount (c_B_isAccount) kc_B_isAccount km_B_117 kn_B yy_B_isAccount rfl ⟨rfl, rfl, by decide, by decide⟩ (Nat.le_of_ble_eq_true rfl) rfl d_B_send_16 ?_
      refine sr_if_eq G 30 d_B_send_19 rfl (fun h19 => ?_) (fun h19 => ?_)
      · skip
        refine sr_iconst G (v := (-1)) (by decide) d_B_send_30 ?_
        refine sr_iret G d_B_send_31 ?_
        unfold f_B_send
        rw [if_neg h5, if_neg h12, if_pos h19]
        exact ⟨rfl, rfl⟩
      · skip
        have v19 : vp_in x3 4 := in_wi (lo := 0) (hi := 3) (by decide) (by decide) h19
        have i19 := ix_lt v19
        refine sr_iload G rfl d_B_send_22 ?_
        refine sr_csi G ks_B_isCoin (c_B_isCoin) kc_B_isCoin km_B_120 kn_B yy_B_isCoin rfl ⟨rfl, rfl, by decide, by decide⟩ (Nat.le_of_ble_eq_true rfl) rfl d_B_send_24 ?_
        refine sr_if_ne G 32 d_B_send_27 rfl (fun h27 => ?_) (fun h27 => ?_)
        · skip
          have v27 : vp_in x5 2 := in_wi (lo := 0) (hi := 1) (by decide) (by decide) h27
          have i27 := ix_lt v27
          have w27 := in_1 v27
          have j27 := ix_lt w27
          refine sr_iload G rfl d_B_send_32 ?_
          refine sr_iconst G (v := 0) (by decide) d_B_send_34 ?_
          refine sr_bipush G (v := 7) (by decide) d_B_send_35 ?_
          refine sr_csi G ks_B_isWithin (c_B_isWithin) kc_B_isWithin km_B_41 kn_B yy_B_isWithin rfl ⟨rfl, rfl, by decide, by decide⟩ (Nat.le_of_ble_eq_true rfl) rfl d_B_send_37 ?_
          refine sr_if_eq G 67 d_B_send_40 rfl (fun h40 => ?_) (fun h40 => ?_)
          · skip
            refine sr_bipush G (v := (-2)) (by decide) d_B_send_67 ?_
            refine sr_iret G d_B_send_69 ?_
            unfold f_B_send
            rw [if_neg h5, if_neg h12, if_neg h19, if_neg h27, if_pos h40]
            exact ⟨rfl, rfl⟩
          · skip
            have v40 : vp_in x4 8 := in_wi (lo := 0) (hi := 7) (by decide) (by decide) h40
            have i40 := ix_lt v40
            refine sr_iload G rfl d_B_send_43 ?_
            refine sr_iconst G (v := 1) (by decide) d_B_send_45 ?_
            refine sr_sipush G (v := 1000) (by decide) d_B_send_46 ?_
            refine sr_csi G ks_B_isWithin (c_B_isWithin) kc_B_isWithin km_B_41 kn_B yy_B_isWithin rfl ⟨rfl, rfl, by decide, by decide⟩ (Nat.le_of_ble_eq_true rfl) rfl d_B_send_49 ?_
            refine sr_if_eq G 67 d_B_send_52 rfl (fun h52 => ?_) (fun h52 => ?_)
            · skip
              refine sr_bipush G (v := (-2)) (by decide) d_B_send_67 ?_
              refine sr_iret G d_B_send_69 ?_
              unfold f_B_send
              rw [if_neg h5, if_neg h12, if_neg h19, if_neg h27, if_neg h40, if_pos h52]
              exact ⟨rfl, rfl⟩
            · skip
              have v52 : vp_in x6 1001 := in_wi (lo := 1) (hi := 1000) (by decide) (by decide) h52
              have i52 := ix_lt v52
              refine sr_iload G rfl d_B_send_55 ?_
              refine sr_iconst G (v := 1) (by decide) d_B_send_57 ?_
              refine sr_sipush G (v := 200) (by decide) d_B_send_58 ?_
              refine sr_csi G ks_B_isWithin (c_B_isWithin) kc_B_isWithin km_B_41 kn_B yy_B_isWithin rfl ⟨rfl, rfl, by decide, by decide⟩ (Nat.le_of_ble_eq_true rfl) rfl d_B_send_61 ?_
              refine sr_if_ne G 70 d_B_send_64 rfl (fun h64 => ?_) (fun h64 => ?_)
              · skip
                have v64 : vp_in x7 201 := in_wi (lo := 1) (hi := 200) (by decide) (by decide) h64
                have i64 := ix_lt v64
                refine sr_aload_n G rfl d_B_send_70 ?_
                refine sr_get G (vv_0 hn) rfl ku_B rfl 1 (by decide) kf_B_17 rfl rfl d_B_send_71 ?_
                refine sr_iload_n G rfl d_B_send_74 ?_
                refine sr_aald G (vv_11 hn) rfl rfl (by assumption) d_B_send_75 ?_
                refine sr_getN G (vv_5 hn (by omega)) rfl ku_Ch rfl 0 (by decide) kf_B_89 rfl rfl d_B_send_76 ?_
                refine sr_iload_n G rfl d_B_send_79 ?_
                refine sr_aald G (vv_13 hn (by omega)) rfl rfl (by assumption) d_B_send_80 ?_
                refine sr_getN G (vv_6 hn (by omega)) rfl ku_En rfl 2 (by decide) kf_B_114 rfl rfl d_B_send_81 ?_
                refine sr_iconst G (v := 3) (by decide) d_B_send_84 ?_
                refine sr_icmp_ne G 103 d_B_send_85 rfl (fun h85 => ?_) (fun h85 => ?_)
                · skip
                  refine sr_bipush G (v := (-3)) (by decide) d_B_send_103 ?_
                  refine sr_iret G d_B_send_105 ?_
                  unfold f_B_send
                  rw [if_neg h5, if_neg h12, if_neg h19, if_neg h27, if_neg h40, if_neg h52, if_neg h64, if_neg h85]
                  exact ⟨rfl, rfl⟩
                · skip
                  refine sr_aload_n G rfl d_B_send_88 ?_
                  refine sr_iload_n G rfl d_B_send_89 ?_
                  refine sr_iload_n G rfl d_B_send_90 ?_
                  refine sr_iload G rfl d_B_send_91 ?_
                  by_cases h93 : x5 = x2
                  · skip
                    refine sr_cva G (vv_0 hn) rfl rfl ki_B_purse kx_B_purse (c_B_purse_h hn (by assumption) (by assumption) h93) kc_B_purse km_B_123 kn_B yy_B_purse rfl ⟨rfl, rfl, by decide, by decide⟩ (Nat.le_of_ble_eq_true rfl) rfl d_B_send_93 ?_
                    refine sr_iload_n G rfl d_B_send_96 ?_
                    refine sr_iald G (vv_2 hn (by omega)) rfl (by assumption) d_B_send_97 ?_
                    refine sr_iload G rfl d_B_send_98 ?_
                    refine sr_icmp_ge G 106 d_B_send_100 rfl (fun h100 => ?_) (fun h100 => ?_)
                    · skip
                      refine sr_aload_n G rfl d_B_send_106 ?_
                      refine sr_get G (vv_0 hn) rfl ku_B rfl 0 (by decide) kf_B_11 rfl rfl d_B_send_107 ?_
                      refine sr_iload_n G rfl d_B_send_110 ?_
                      refine sr_aald G (vv_10 hn) rfl rfl (by assumption) d_B_send_111 ?_
                      refine sr_getN G (vv_1 hn (by omega)) rfl ku_Le rfl 1 (by decide) kf_B_45 rfl rfl d_B_send_112 ?_
                      refine sr_astore G (by decide) d_B_send_115 ?_
                      refine sr_aload G rfl d_B_send_117 ?_
                      refine sr_getN G (vv_3 hn (by omega)) rfl ku_Cl rfl 1 (by decide) kf_B_59 rfl rfl d_B_send_119 ?_
                      refine sr_if_eq G 128 d_B_send_122 rfl (fun h122 => ?_) (fun h122 => ?_)
                      · skip
                        refine sr_aload G rfl d_B_send_128 ?_
                        refine sr_getN G (vv_3 hn (by omega)) rfl ku_Cl rfl 2 (by decide) kf_B_77 rfl rfl d_B_send_130 ?_
                        refine sr_iload G rfl d_B_send_133 ?_
                        refine sr_icmp_lt G 141 d_B_send_135 rfl (fun h135 => ?_) (fun h135 => ?_)
                        · skip
                          refine sr_aload_n G rfl d_B_send_141 ?_
                          refine sr_get G (vv_0 hn) rfl ku_B rfl 4 (by decide) kf_B_127 rfl rfl d_B_send_142 ?_
                          refine sr_bipush G (v := 60) (by decide) d_B_send_145 ?_
                          refine sr_icmp_lt G 153 d_B_send_147 rfl (fun h147 => ?_) (fun h147 => ?_)
                          · skip
                            refine sr_aload_n G rfl d_B_send_153 ?_
                            refine sr_iload_n G rfl d_B_send_154 ?_
                            refine sr_iload_n G rfl d_B_send_155 ?_
                            refine sr_iload_n G rfl d_B_send_156 ?_
                            refine sr_iload G rfl d_B_send_157 ?_
                            refine sr_iload G rfl d_B_send_159 ?_
                            refine sr_cvv G (vv_0 hn) rfl rfl ki_B_takeIn kx_B_takeIn (c_B_takeIn hn (by first | assumption | omega | decide | (unfold vp_in; decide)) (by first | assumption | omega | decide | (unfold vp_in; decide)) (by first | assumption | omega | decide | (unfold vp_in; decide))) kc_B_takeIn km_B_130 kn_B yy_B_takeIn rfl ⟨rfl, rfl, by decide, by decide⟩ (Nat.le_of_ble_eq_true rfl) rfl d_B_send_161 ?_
                            refine sr_aload_n G rfl d_B_send_164 ?_
                            refine sr_iload_n G rfl d_B_send_165 ?_
                            refine sr_iload_n G rfl d_B_send_166 ?_
                            refine sr_iload_n G rfl d_B_send_167 ?_
                            refine sr_iload G rfl d_B_send_168 ?_
                            refine sr_iload G rfl d_B_send_170 ?_
                            refine sr_iload G rfl d_B_send_172 ?_
                            refine sr_iload G rfl d_B_send_174 ?_
                            have v9 : vp_in (f_B_takeIn M x1 x2 x3 x5 x6 0 0 4) 60 := by rw [tk_mc]; exact in_l60 hI h147
                            refine sr_cvv G (vv_0 hn) rfl rfl ki_B_write kx_B_write (c_B_write hn (by first | assumption | omega | decide | (unfold vp_in; decide)) (by first | assumption | omega | decide | (unfold vp_in; decide)) (by first | assumption | omega | decide | (unfold vp_in; decide))) kc_B_write km_B_134 kn_B yy_B_write rfl ⟨rfl, rfl, by decide, by decide⟩ (Nat.le_of_ble_eq_true rfl) rfl d_B_send_176 ?_
                            refine sr_aload_n G rfl d_B_send_179 ?_
                            refine sr_get G (vv_0 hn) rfl ku_B rfl 4 (by decide) kf_B_127 rfl rfl d_B_send_180 ?_
                            refine sr_iconst G (v := 1) (by decide) d_B_send_183 ?_
                            refine sr_isub G d_B_send_184 ?_
                            refine sr_iret G d_B_send_185 ?_
                            unfold f_B_send
                            rw [if_neg h5, if_neg h12, if_neg h19, if_neg h27, if_neg h40, if_neg h52, if_neg h64, if_pos h85, if_pos h93, if_pos h100, if_pos h122, if_pos h135, if_pos h147]
                            exact ⟨rfl, rfl⟩
                          · skip
                            refine sr_bipush G (v := (-10)) (by decide) d_B_send_150 ?_
                            refine sr_iret G d_B_send_152 ?_
                            unfold f_B_send
                            rw [if_neg h5, if_neg h12, if_neg h19, if_neg h27, if_neg h40, if_neg h52, if_neg h64, if_pos h85, if_pos h93, if_pos h100, if_pos h122, if_pos h135, if_neg h147]
                            exact ⟨rfl, rfl⟩
                        · skip
                          refine sr_bipush G (v := (-7)) (by decide) d_B_send_138 ?_
                          refine sr_iret G d_B_send_140 ?_
                          unfold f_B_send
                          rw [if_neg h5, if_neg h12, if_neg h19, if_neg h27, if_neg h40, if_neg h52, if_neg h64, if_pos h85, if_pos h93, if_pos h100, if_pos h122, if_neg h135]
                          exact ⟨rfl, rfl⟩
                      · skip
                        refine sr_bipush G (v := (-4)) (by decide) d_B_send_125 ?_
                        refine sr_iret G d_B_send_127 ?_
                        unfold f_B_send
                        rw [if_neg h5, if_neg h12, if_neg h19, if_neg h27, if_neg h40, if_neg h52, if_neg h64, if_pos h85, if_pos h93, if_pos h100, if_neg h122]
                        exact ⟨rfl, rfl⟩
                    · skip
                      refine sr_bipush G (v := (-3)) (by decide) d_B_send_103 ?_
                      refine sr_iret G d_B_send_105 ?_
                      unfold f_B_send
                      rw [if_neg h5, if_neg h12, if_neg h19, if_neg h27, if_neg h40, if_neg h52, if_neg h64, if_pos h85, if_pos h93, if_neg h100]
                      exact ⟨rfl, rfl⟩
                  · skip
                    refine sr_cva G (vv_0 hn) rfl rfl ki_B_purse kx_B_purse (c_B_purse_o hn (by assumption) (by assumption) h93) kc_B_purse km_B_123 kn_B yy_B_purse rfl ⟨rfl, rfl, by decide, by decide⟩ (Nat.le_of_ble_eq_true rfl) rfl d_B_send_93 ?_
                    refine sr_iload_n G rfl d_B_send_96 ?_
                    refine sr_iald G (vv_8 hn (by omega)) rfl (by assumption) d_B_send_97 ?_
                    refine sr_iload G rfl d_B_send_98 ?_
                    refine sr_icmp_ge G 106 d_B_send_100 rfl (fun h100 => ?_) (fun h100 => ?_)
                    · skip
                      refine sr_aload_n G rfl d_B_send_106 ?_
                      refine sr_get G (vv_0 hn) rfl ku_B rfl 0 (by decide) kf_B_11 rfl rfl d_B_send_107 ?_
                      refine sr_iload_n G rfl d_B_send_110 ?_
                      refine sr_aald G (vv_10 hn) rfl rfl (by assumption) d_B_send_111 ?_
                      refine sr_getN G (vv_1 hn (by omega)) rfl ku_Le rfl 1 (by decide) kf_B_45 rfl rfl d_B_send_112 ?_
                      refine sr_astore G (by decide) d_B_send_115 ?_
                      refine sr_aload G rfl d_B_send_117 ?_
                      refine sr_getN G (vv_3 hn (by omega)) rfl ku_Cl rfl 1 (by decide) kf_B_59 rfl rfl d_B_send_119 ?_
                      refine sr_if_eq G 128 d_B_send_122 rfl (fun h122 => ?_) (fun h122 => ?_)
                      · skip
                        refine sr_aload G rfl d_B_send_128 ?_
                        refine sr_getN G (vv_3 hn (by omega)) rfl ku_Cl rfl 2 (by decide) kf_B_77 rfl rfl d_B_send_130 ?_
                        refine sr_iload G rfl d_B_send_133 ?_
                        refine sr_icmp_lt G 141 d_B_send_135 rfl (fun h135 => ?_) (fun h135 => ?_)
                        · skip
                          refine sr_aload_n G rfl d_B_send_141 ?_
                          refine sr_get G (vv_0 hn) rfl ku_B rfl 4 (by decide) kf_B_127 rfl rfl d_B_send_142 ?_
                          refine sr_bipush G (v := 60) (by decide) d_B_send_145 ?_
                          refine sr_icmp_lt G 153 d_B_send_147 rfl (fun h147 => ?_) (fun h147 => ?_)
                          · skip
                            refine sr_aload_n G rfl d_B_send_153 ?_
                            refine sr_iload_n G rfl d_B_send_154 ?_
                            refine sr_iload_n G rfl d_B_send_155 ?_
                            refine sr_iload_n G rfl d_B_send_156 ?_
                            refine sr_iload G rfl d_B_send_157 ?_
                            refine sr_iload G rfl d_B_send_159 ?_
                            refine sr_cvv G (vv_0 hn) rfl rfl ki_B_takeIn kx_B_takeIn (c_B_takeIn hn (by first | assumption | omega | decide | (unfold vp_in; decide)) (by first | assumption | omega | decide | (unfold vp_in; decide)) (by first | assumption | omega | decide | (unfold vp_in; decide))) kc_B_takeIn km_B_130 kn_B yy_B_takeIn rfl ⟨rfl, rfl, by decide, by decide⟩ (Nat.le_of_ble_eq_true rfl) rfl d_B_send_161 ?_
                            refine sr_aload_n G rfl d_B_send_164 ?_
                            refine sr_iload_n G rfl d_B_send_165 ?_
                            refine sr_iload_n G rfl d_B_send_166 ?_
                            refine sr_iload_n G rfl d_B_send_167 ?_
                            refine sr_iload G rfl d_B_send_168 ?_
                            refine sr_iload G rfl d_B_send_170 ?_
                            refine sr_iload G rfl d_B_send_172 ?_
                            refine sr_iload G rfl d_B_send_174 ?_
                            have v9 : vp_in (f_B_takeIn M x1 x2 x3 x5 x6 0 0 4) 60 := by rw [tk_mc]; exact in_l60 hI h147
                            refine sr_cvv G (vv_0 hn) rfl rfl ki_B_write kx_B_write (c_B_write hn (by first | assumption | omega | decide | (unfold vp_in; decide)) (by first | assumption | omega | decide | (unfold vp_in; decide)) (by first | assumption | omega | decide | (unfold vp_in; decide))) kc_B_write km_B_134 kn_B yy_B_write rfl ⟨rfl, rfl, by decide, by decide⟩ (Nat.le_of_ble_eq_true rfl) rfl d_B_send_176 ?_
                            refine sr_aload_n G rfl d_B_send_179 ?_
                            refine sr_get G (vv_0 hn) rfl ku_B rfl 4 (by decide) kf_B_127 rfl rfl d_B_send_180 ?_
                            refine sr_iconst G (v := 1) (by decide) d_B_send_183 ?_
                            refine sr_isub G d_B_send_184 ?_
                            refine sr_iret G d_B_send_185 ?_
                            unfold f_B_send
                            rw [if_neg h5, if_neg h12, if_neg h19, if_neg h27, if_neg h40, if_neg h52, if_neg h64, if_pos h85, if_neg h93, if_pos h100, if_pos h122, if_pos h135, if_pos h147]
                            exact ⟨rfl, rfl⟩
                          · skip
                            refine sr_bipush G (v := (-10)) (by decide) d_B_send_150 ?_
                            refine sr_iret G d_B_send_152 ?_
                            unfold f_B_send
                            rw [if_neg h5, if_neg h12, if_neg h19, if_neg h27, if_neg h40, if_neg h52, if_neg h64, if_pos h85, if_neg h93, if_pos h100, if_pos h122, if_pos h135, if_neg h147]
                            exact ⟨rfl, rfl⟩
                        · skip
                          refine sr_bipush G (v := (-7)) (by decide) d_B_send_138 ?_
                          refine sr_iret G d_B_send_140 ?_
                          unfold f_B_send
                          rw [if_neg h5, if_neg h12, if_neg h19, if_neg h27, if_neg h40, if_neg h52, if_neg h64, if_pos h85, if_neg h93, if_pos h100, if_pos h122, if_neg h135]
                          exact ⟨rfl, rfl⟩
                      · skip
                        refine sr_bipush G (v := (-4)) (by decide) d_B_send_125 ?_
                        refine sr_iret G d_B_send_127 ?_
                        unfold f_B_send
                        rw [if_neg h5, if_neg h12, if_neg h19, if_neg h27, if_neg h40, if_neg h52, if_neg h64, if_pos h85, if_neg h93, if_pos h100, if_neg h122]
                        exact ⟨rfl, rfl⟩
                    · skip
                      refine sr_bipush G (v := (-3)) (by decide) d_B_send_103 ?_
                      refine sr_iret G d_B_send_105 ?_
                      unfold f_B_send
                      rw [if_neg h5, if_neg h12, if_neg h19, if_neg h27, if_neg h40, if_neg h52, if_neg h64, if_pos h85, if_neg h93, if_neg h100]
                      exact ⟨rfl, rfl⟩
              · skip
                refine sr_bipush G (v := (-2)) (by decide) d_B_send_67 ?_
                refine sr_iret G d_B_send_69 ?_
                unfold f_B_send
                rw [if_neg h5, if_neg h12, if_neg h19, if_neg h27, if_neg h40, if_neg h52, if_pos h64]
                exact ⟨rfl, rfl⟩
        · skip
          refine sr_iconst G (v := (-1)) (by decide) d_B_send_30 ?_
          refine sr_iret G d_B_send_31 ?_
          unfold f_B_send
          rw [if_neg h5, if_neg h12, if_neg h19, if_pos h27]
          exact ⟨rfl, rfl⟩
def f_B_receive (M : Mem) (x1 : Int32) (x2 : Int32) : Int32 × Mem := (if (f_B_isMessage M x1) = 0 then ((-1), M) else (if (M 6 (2 * (Int32.toNatClampNeg (M 9 (Int32.toNatClampNeg x1) 0)) + Int32.toNatClampNeg (1 - (M 9 (Int32.toNatClampNeg x1) 1))) 2) = 3 then (if (M 9 (Int32.toNatClampNeg x1) 10) = 0 then (if (f_Cl_refusal M (Int32.toNatClampNeg (1 - (M 9 (Int32.toNatClampNeg x1) 1))) x2) = 0 then (if (f_Me_standsIn M (Int32.toNatClampNeg x1) x2) = 0 then ((-6), M) else (if (M 1 (Int32.toNatClampNeg (1 - (M 9 (Int32.toNatClampNeg x1) 1))) 2) < (M 9 (Int32.toNatClampNeg x1) 7) then (if (M 5 (Int32.toNatClampNeg (M 9 (Int32.toNatClampNeg x1) 0)) 1) = 0 then (if (f_B_isAccount (M 9 (Int32.toNatClampNeg x1) 4)) = 0 then ((f_B_oneIf (f_B_isAccount (M 9 (Int32.toNatClampNeg x1) 4))), (u3 (u3 (u3 M 6 (2 * (Int32.toNatClampNeg (M 9 (Int32.toNatClampNeg x1) 0)) + Int32.toNatClampNeg (1 - (M 9 (Int32.toNatClampNeg x1) 1))) 7 ((M 6 (2 * (Int32.toNatClampNeg (M 9 (Int32.toNatClampNeg x1) 0)) + Int32.toNatClampNeg (1 - (M 9 (Int32.toNatClampNeg x1) 1))) 7) + 1)) 9 (Int32.toNatClampNeg x1) 10 2) 9 (Int32.toNatClampNeg x1) 13 ((u3 (u3 M 6 (2 * (Int32.toNatClampNeg (M 9 (Int32.toNatClampNeg x1) 0)) + Int32.toNatClampNeg (1 - (M 9 (Int32.toNatClampNeg x1) 1))) 7 ((M 6 (2 * (Int32.toNatClampNeg (M 9 (Int32.toNatClampNeg x1) 0)) + Int32.toNatClampNeg (1 - (M 9 (Int32.toNatClampNeg x1) 1))) 7) + 1)) 9 (Int32.toNatClampNeg x1) 10 2) 1 (Int32.toNatClampNeg (1 - (M 9 (Int32.toNatClampNeg x1) 1))) 2))) else ((f_B_oneIf (f_B_isAccount (M 9 (Int32.toNatClampNeg x1) 4))), (u3 (u3 (u3 (f_B_giveOut M (M 9 (Int32.toNatClampNeg x1) 0) (1 - (M 9 (Int32.toNatClampNeg x1) 1)) (M 9 (Int32.toNatClampNeg x1) 4) (M 9 (Int32.toNatClampNeg x1) 5) (M 9 (Int32.toNatClampNeg x1) 6)) 6 (2 * (Int32.toNatClampNeg (M 9 (Int32.toNatClampNeg x1) 0)) + Int32.toNatClampNeg (1 - (M 9 (Int32.toNatClampNeg x1) 1))) 7 (((f_B_giveOut M (M 9 (Int32.toNatClampNeg x1) 0) (1 - (M 9 (Int32.toNatClampNeg x1) 1)) (M 9 (Int32.toNatClampNeg x1) 4) (M 9 (Int32.toNatClampNeg x1) 5) (M 9 (Int32.toNatClampNeg x1) 6)) 6 (2 * (Int32.toNatClampNeg (M 9 (Int32.toNatClampNeg x1) 0)) + Int32.toNatClampNeg (1 - (M 9 (Int32.toNatClampNeg x1) 1))) 7) + 1)) 9 (Int32.toNatClampNeg x1) 10 1) 9 (Int32.toNatClampNeg x1) 13 ((u3 (u3 (f_B_giveOut M (M 9 (Int32.toNatClampNeg x1) 0) (1 - (M 9 (Int32.toNatClampNeg x1) 1)) (M 9 (Int32.toNatClampNeg x1) 4) (M 9 (Int32.toNatClampNeg x1) 5) (M 9 (Int32.toNatClampNeg x1) 6)) 6 (2 * (Int32.toNatClampNeg (M 9 (Int32.toNatClampNeg x1) 0)) + Int32.toNatClampNeg (1 - (M 9 (Int32.toNatClampNeg x1) 1))) 7 (((f_B_giveOut M (M 9 (Int32.toNatClampNeg x1) 0) (1 - (M 9 (Int32.toNatClampNeg x1) 1)) (M 9 (Int32.toNatClampNeg x1) 4) (M 9 (Int32.toNatClampNeg x1) 5) (M 9 (Int32.toNatClampNeg x1) 6)) 6 (2 * (Int32.toNatClampNeg (M 9 (Int32.toNatClampNeg x1) 0)) + Int32.toNatClampNeg (1 - (M 9 (Int32.toNatClampNeg x1) 1))) 7) + 1)) 9 (Int32.toNatClampNeg x1) 10 1) 1 (Int32.toNatClampNeg (1 - (M 9 (Int32.toNatClampNeg x1) 1))) 2)))) else (if (f_B_areAllBeforeReceived M x1) = 0 then ((-8), M) else (if (f_B_isAccount (M 9 (Int32.toNatClampNeg x1) 4)) = 0 then ((f_B_oneIf (f_B_isAccount (M 9 (Int32.toNatClampNeg x1) 4))), (u3 (u3 (u3 M 6 (2 * (Int32.toNatClampNeg (M 9 (Int32.toNatClampNeg x1) 0)) + Int32.toNatClampNeg (1 - (M 9 (Int32.toNatClampNeg x1) 1))) 7 ((M 6 (2 * (Int32.toNatClampNeg (M 9 (Int32.toNatClampNeg x1) 0)) + Int32.toNatClampNeg (1 - (M 9 (Int32.toNatClampNeg x1) 1))) 7) + 1)) 9 (Int32.toNatClampNeg x1) 10 2) 9 (Int32.toNatClampNeg x1) 13 ((u3 (u3 M 6 (2 * (Int32.toNatClampNeg (M 9 (Int32.toNatClampNeg x1) 0)) + Int32.toNatClampNeg (1 - (M 9 (Int32.toNatClampNeg x1) 1))) 7 ((M 6 (2 * (Int32.toNatClampNeg (M 9 (Int32.toNatClampNeg x1) 0)) + Int32.toNatClampNeg (1 - (M 9 (Int32.toNatClampNeg x1) 1))) 7) + 1)) 9 (Int32.toNatClampNeg x1) 10 2) 1 (Int32.toNatClampNeg (1 - (M 9 (Int32.toNatClampNeg x1) 1))) 2))) else ((f_B_oneIf (f_B_isAccount (M 9 (Int32.toNatClampNeg x1) 4))), (u3 (u3 (u3 (f_B_giveOut M (M 9 (Int32.toNatClampNeg x1) 0) (1 - (M 9 (Int32.toNatClampNeg x1) 1)) (M 9 (Int32.toNatClampNeg x1) 4) (M 9 (Int32.toNatClampNeg x1) 5) (M 9 (Int32.toNatClampNeg x1) 6)) 6 (2 * (Int32.toNatClampNeg (M 9 (Int32.toNatClampNeg x1) 0)) + Int32.toNatClampNeg (1 - (M 9 (Int32.toNatClampNeg x1) 1))) 7 (((f_B_giveOut M (M 9 (Int32.toNatClampNeg x1) 0) (1 - (M 9 (Int32.toNatClampNeg x1) 1)) (M 9 (Int32.toNatClampNeg x1) 4) (M 9 (Int32.toNatClampNeg x1) 5) (M 9 (Int32.toNatClampNeg x1) 6)) 6 (2 * (Int32.toNatClampNeg (M 9 (Int32.toNatClampNeg x1) 0)) + Int32.toNatClampNeg (1 - (M 9 (Int32.toNatClampNeg x1) 1))) 7) + 1)) 9 (Int32.toNatClampNeg x1) 10 1) 9 (Int32.toNatClampNeg x1) 13 ((u3 (u3 (f_B_giveOut M (M 9 (Int32.toNatClampNeg x1) 0) (1 - (M 9 (Int32.toNatClampNeg x1) 1)) (M 9 (Int32.toNatClampNeg x1) 4) (M 9 (Int32.toNatClampNeg x1) 5) (M 9 (Int32.toNatClampNeg x1) 6)) 6 (2 * (Int32.toNatClampNeg (M 9 (Int32.toNatClampNeg x1) 0)) + Int32.toNatClampNeg (1 - (M 9 (Int32.toNatClampNeg x1) 1))) 7 (((f_B_giveOut M (M 9 (Int32.toNatClampNeg x1) 0) (1 - (M 9 (Int32.toNatClampNeg x1) 1)) (M 9 (Int32.toNatClampNeg x1) 4) (M 9 (Int32.toNatClampNeg x1) 5) (M 9 (Int32.toNatClampNeg x1) 6)) 6 (2 * (Int32.toNatClampNeg (M 9 (Int32.toNatClampNeg x1) 0)) + Int32.toNatClampNeg (1 - (M 9 (Int32.toNatClampNeg x1) 1))) 7) + 1)) 9 (Int32.toNatClampNeg x1) 10 1) 1 (Int32.toNatClampNeg (1 - (M 9 (Int32.toNatClampNeg x1) 1))) 2)))))) else ((-7), M))) else ((f_Cl_refusal M (Int32.toNatClampNeg (1 - (M 9 (Int32.toNatClampNeg x1) 1))) x2), M)) else ((-3), M)) else ((-3), M)))
set_option maxHeartbeats 4000000 in
set_option maxRecDepth 100000 in
theorem c_B_receive {l : Launch} {D : va_G} {t6 : Nat → ClassId} {b n : Nat} (hn : 104 ≤ n) {M : Mem} {x1 : Int32} {x2 : Int32} (hI : ci_ M) : CI l D t6 b n y_B_receive cd_B_receive 8 .int (rk 4 86) [.ref (ad b 0 0), .int x1, .int x2] M (f_B_receive M x1 x2).1 (f_B_receive M x1 x2).2 := by
  refine en_i (by decide) (by simp [Value.category]) (Nat.le_of_ble_eq_true rfl) (fun p e s m below meth c G => ?_)
  refine sr_aload_n G rfl d_B_receive_0 ?_
  refine sr_iload_n G rfl d_B_receive_1 ?_
  refine sr_cvi G (vv_0 hn) rfl rfl ki_B_isMessage kx_B_isMessage (c_B_isMessage hn) kc_B_isMessage km_B_138 kn_B yy_B_isMessage rfl ⟨rfl, rfl, by decide, by decide⟩ (Nat.le_of_ble_eq_true rfl) rfl d_B_receive_2 ?_
  refine sr_if_ne G 10 d_B_receive_5 rfl (fun h5 => ?_) (fun h5 => ?_)
  · skip
    have v5 : vp_in x1 60 := in_ms hI h5
    have i5 := ix_lt v5
    obtain ⟨k5a, k5b, k5c⟩ := ci_mg hI i5
    have k5d := ix_lt k5a
    have k5e := ix_lt k5b
    have k5f := ix_lt k5c
    have k5g := in_1 k5b
    have k5h := ix_lt k5g
    refine sr_aload_n G rfl d_B_receive_10 ?_
    refine sr_get G (vv_0 hn) rfl ku_B rfl 2 (by decide) kf_B_23 rfl rfl d_B_receive_11 ?_
    refine sr_iload_n G rfl d_B_receive_14 ?_
    refine sr_aald G (vv_12 hn) rfl rfl (by assumption) d_B_receive_15 ?_
    refine sr_astore_n G (by decide) d_B_receive_16 ?_
    refine sr_iconst G (v := 1) (by decide) d_B_receive_17 ?_
    refine sr_aload_n G rfl d_B_receive_18 ?_
    refine sr_getN G (vv_9 hn (by omega)) rfl ku_Me rfl 1 (by decide) kf_B_141 rfl rfl d_B_receive_19 ?_
    refine sr_isub G d_B_receive_22 ?_
    refine sr_istore G (by decide) d_B_receive_23 ?_
    refine sr_aload_n G rfl d_B_receive_25 ?_
    refine sr_get G (vv_0 hn) rfl ku_B rfl 1 (by decide) kf_B_17 rfl rfl d_B_receive_26 ?_
    refine sr_aload_n G rfl d_B_receive_29 ?_
    refine sr_getN G (vv_9 hn (by omega)) rfl ku_Me rfl 0 (by decide) kf_B_144 rfl rfl d_B_receive_30 ?_
    refine sr_aald G (vv_11 hn) rfl rfl (by assumption) d_B_receive_33 ?_
    refine sr_getN G (vv_5 hn (by omega)) rfl ku_Ch rfl 0 (by decide) kf_B_89 rfl rfl d_B_receive_34 ?_
    refine sr_iload G rfl d_B_receive_37 ?_
    refine sr_aald G (vv_13 hn (by omega)) rfl rfl (by assumption) d_B_receive_39 ?_
    refine sr_astore G (by decide) d_B_receive_40 ?_
    refine sr_aload G rfl d_B_receive_42 ?_
    refine sr_getN G (vv_6 hn (by omega)) rfl ku_En rfl 2 (by decide) kf_B_114 rfl rfl d_B_receive_44 ?_
    refine sr_iconst G (v := 3) (by decide) d_B_receive_47 ?_
    refine sr_icmp_ne G 58 d_B_receive_48 rfl (fun h48 => ?_) (fun h48 => ?_)
    · skip
      refine sr_bipush G (v := (-3)) (by decide) d_B_receive_58 ?_
      refine sr_iret G d_B_receive_60 ?_
      unfold f_B_receive
      rw [if_neg h5, if_neg h48]
      exact ⟨rfl, rfl⟩
    · skip
      refine sr_aload_n G rfl d_B_receive_51 ?_
      refine sr_getN G (vv_9 hn (by omega)) rfl ku_Me rfl 10 (by decide) kf_B_147 rfl rfl d_B_receive_52 ?_
      refine sr_if_eq G 61 d_B_receive_55 rfl (fun h55 => ?_) (fun h55 => ?_)
      · skip
        refine sr_aload_n G rfl d_B_receive_61 ?_
        refine sr_get G (vv_0 hn) rfl ku_B rfl 0 (by decide) kf_B_11 rfl rfl d_B_receive_62 ?_
        refine sr_iload G rfl d_B_receive_65 ?_
        refine sr_aald G (vv_10 hn) rfl rfl (by assumption) d_B_receive_67 ?_
        refine sr_getN G (vv_1 hn (by omega)) rfl ku_Le rfl 1 (by decide) kf_B_45 rfl rfl d_B_receive_68 ?_
        refine sr_iload_n G rfl d_B_receive_71 ?_
        refine sr_cvNi G (vv_3 hn (by omega)) rfl rfl ki_Cl_refusal kx_Cl_refusal (c_Cl_refusal hn (by first | assumption | omega | decide | (unfold vp_in; decide))) kc_Cl_refusal km_B_150 kn_Cl yy_Cl_refusal rfl ⟨rfl, rfl, by decide, by decide⟩ (Nat.le_of_ble_eq_true rfl) rfl d_B_receive_72 ?_
        refine sr_istore G (by decide) d_B_receive_75 ?_
        refine sr_iload G rfl d_B_receive_77 ?_
        refine sr_if_eq G 85 d_B_receive_79 rfl (fun h79 => ?_) (fun h79 => ?_)
        · skip
          refine sr_aload_n G rfl d_B_receive_85 ?_
          refine sr_iload_n G rfl d_B_receive_86 ?_
          refine sr_cvNi G (vv_9 hn (by omega)) rfl rfl ki_Me_standsIn kx_Me_standsIn (c_Me_standsIn hn (by first | assumption | omega | decide | (unfold vp_in; decide))) kc_Me_standsIn km_B_153 kn_Me yy_Me_standsIn rfl ⟨rfl, rfl, by decide, by decide⟩ (Nat.le_of_ble_eq_true rfl) rfl d_B_receive_87 ?_
          refine sr_if_ne G 96 d_B_receive_90 rfl (fun h90 => ?_) (fun h90 => ?_)
          · skip
            refine sr_aload_n G rfl d_B_receive_96 ?_
            refine sr_get G (vv_0 hn) rfl ku_B rfl 0 (by decide) kf_B_11 rfl rfl d_B_receive_97 ?_
            refine sr_iload G rfl d_B_receive_100 ?_
            refine sr_aald G (vv_10 hn) rfl rfl (by assumption) d_B_receive_102 ?_
            refine sr_getN G (vv_1 hn (by omega)) rfl ku_Le rfl 2 (by decide) kf_B_37 rfl rfl d_B_receive_103 ?_
            refine sr_aload_n G rfl d_B_receive_106 ?_
            refine sr_getN G (vv_9 hn (by omega)) rfl ku_Me rfl 7 (by decide) kf_B_156 rfl rfl d_B_receive_107 ?_
            refine sr_icmp_lt G 116 d_B_receive_110 rfl (fun h110 => ?_) (fun h110 => ?_)
            · skip
              refine sr_aload_n G rfl d_B_receive_116 ?_
              refine sr_get G (vv_0 hn) rfl ku_B rfl 1 (by decide) kf_B_17 rfl rfl d_B_receive_117 ?_
              refine sr_aload_n G rfl d_B_receive_120 ?_
              refine sr_getN G (vv_9 hn (by omega)) rfl ku_Me rfl 0 (by decide) kf_B_144 rfl rfl d_B_receive_121 ?_
              refine sr_aald G (vv_11 hn) rfl rfl (by assumption) d_B_receive_124 ?_
              refine sr_getN G (vv_5 hn (by omega)) rfl ku_Ch rfl 1 (by decide) kf_B_86 rfl rfl d_B_receive_125 ?_
              refine sr_if_eq G 142 d_B_receive_128 rfl (fun h128 => ?_) (fun h128 => ?_)
              · skip
                refine sr_aload_n G rfl d_B_receive_142 ?_
                refine sr_getN G (vv_9 hn (by omega)) rfl ku_Me rfl 4 (by decide) kf_B_162 rfl rfl d_B_receive_143 ?_
                refine sr_csi G ks_B_isAccount (c_B_isAccount) kc_B_isAccount km_B_117 kn_B yy_B_isAccount rfl ⟨rfl, rfl, by decide, by decide⟩ (Nat.le_of_ble_eq_true rfl) rfl d_B_receive_146 ?_
                refine sr_istore G (by decide) d_B_receive_149 ?_
                refine sr_iload G rfl d_B_receive_151 ?_
                refine sr_if_eq G 178 d_B_receive_153 rfl (fun h153 => ?_) (fun h153 => ?_)
                · skip
                  refine sr_aload G rfl d_B_receive_178 ?_
                  refine sr_dup G rfl d_B_receive_180 ?_
                  refine sr_getN G (vv_6 hn (by omega)) rfl ku_En rfl 7 (by decide) kf_B_174 rfl rfl d_B_receive_181 ?_
                  refine sr_iconst G (v := 1) (by decide) d_B_receive_184 ?_
                  refine sr_iadd G d_B_receive_185 ?_
                  refine sr_putN G (vv_6 hn (by omega)) rfl ku_En rfl 7 (by decide) t_En ty_En nm_En kf_B_174 rfl rfl (ty := .int) (by decide +kernel) rfl rfl (Nat.le_of_ble_eq_true rfl) rfl d_B_receive_186 ?_
                  refine sr_aload_n G rfl d_B_receive_189 ?_
                  refine sr_iload G rfl d_B_receive_190 ?_
                  refine sr_if_eq G 199 d_B_receive_192 rfl (fun _ => ?_) (fun h => absurd h153 h)
                  refine sr_iconst G (v := 2) (by decide) d_B_receive_199 ?_
                  refine sr_putN G (vv_9 hn (by omega)) rfl ku_Me rfl 10 (by decide) t_Me ty_Me nm_Me kf_B_147 rfl rfl (ty := .int) (by decide +kernel) rfl rfl (Nat.le_of_ble_eq_true rfl) rfl d_B_receive_200 ?_
                  refine sr_aload_n G rfl d_B_receive_203 ?_
                  refine sr_aload_n G rfl d_B_receive_204 ?_
                  refine sr_get G (vv_0 hn) rfl ku_B rfl 0 (by decide) kf_B_11 rfl rfl d_B_receive_205 ?_
                  refine sr_iload G rfl d_B_receive_208 ?_
                  refine sr_aald G (vv_10 hn) rfl rfl (by assumption) d_B_receive_210 ?_
                  refine sr_getN G (vv_1 hn (by omega)) rfl ku_Le rfl 2 (by decide) kf_B_37 rfl rfl d_B_receive_211 ?_
                  refine sr_putN G (vv_9 hn (by omega)) rfl ku_Me rfl 13 (by decide) t_Me ty_Me nm_Me kf_B_177 rfl rfl (ty := .int) (by decide +kernel) rfl rfl (Nat.le_of_ble_eq_true rfl) rfl d_B_receive_214 ?_
                  refine sr_iload G rfl d_B_receive_217 ?_
                  refine sr_csi G ks_B_oneIf (c_B_oneIf) kc_B_oneIf km_B_73 kn_B yy_B_oneIf rfl ⟨rfl, rfl, by decide, by decide⟩ (Nat.le_of_ble_eq_true rfl) rfl d_B_receive_219 ?_
                  refine sr_iret G d_B_receive_222 ?_
                  unfold f_B_receive
                  rw [if_neg h5, if_pos h48, if_pos h55, if_pos h79, if_neg h90, if_pos h110, if_pos h128, if_pos h153]
                  exact ⟨rfl, rfl⟩
                · skip
                  have v153 : vp_in (M 9 (Int32.toNatClampNeg x1) 4) 4 := in_wi (lo := 0) (hi := 3) (by decide) (by decide) h153
                  have i153 := ix_lt v153
                  refine sr_aload_n G rfl d_B_receive_156 ?_
                  refine sr_aload_n G rfl d_B_receive_157 ?_
                  refine sr_getN G (vv_9 hn (by omega)) rfl ku_Me rfl 0 (by decide) kf_B_144 rfl rfl d_B_receive_158 ?_
                  refine sr_iload G rfl d_B_receive_161 ?_
                  refine sr_aload_n G rfl d_B_receive_163 ?_
                  refine sr_getN G (vv_9 hn (by omega)) rfl ku_Me rfl 4 (by decide) kf_B_162 rfl rfl d_B_receive_164 ?_
                  refine sr_aload_n G rfl d_B_receive_167 ?_
                  refine sr_getN G (vv_9 hn (by omega)) rfl ku_Me rfl 5 (by decide) kf_B_165 rfl rfl d_B_receive_168 ?_
                  refine sr_aload_n G rfl d_B_receive_171 ?_
                  refine sr_getN G (vv_9 hn (by omega)) rfl ku_Me rfl 6 (by decide) kf_B_168 rfl rfl d_B_receive_172 ?_
                  refine sr_cvv G (vv_0 hn) rfl rfl ki_B_giveOut kx_B_giveOut (c_B_giveOut hn (by first | assumption | omega | decide | (unfold vp_in; decide)) (by first | assumption | omega | decide | (unfold vp_in; decide)) (by first | assumption | omega | decide | (unfold vp_in; decide))) kc_B_giveOut km_B_171 kn_B yy_B_giveOut rfl ⟨rfl, rfl, by decide, by decide⟩ (Nat.le_of_ble_eq_true rfl) rfl d_B_receive_175 ?_
                  refine sr_aload G rfl d_B_receive_178 ?_
                  refine sr_dup G rfl d_B_receive_180 ?_
                  refine sr_getN G (vv_6 hn (by omega)) rfl ku_En rfl 7 (by decide) kf_B_174 rfl rfl d_B_receive_181 ?_
                  refine sr_iconst G (v := 1) (by decide) d_B_receive_184 ?_
                  refine sr_iadd G d_B_receive_185 ?_
                  refine sr_putN G (vv_6 hn (by omega)) rfl ku_En rfl 7 (by decide) t_En ty_En nm_En kf_B_174 rfl rfl (ty := .int) (by decide +kernel) rfl rfl (Nat.le_of_ble_eq_true rfl) rfl d_B_receive_186 ?_
                  refine sr_aload_n G rfl d_B_receive_189 ?_
                  refine sr_iload G rfl d_B_receive_190 ?_
                  refine sr_if_eq G 199 d_B_receive_192 rfl (fun h => absurd h h153) (fun _ => ?_)
                  refine sr_iconst G (v := 1) (by decide) d_B_receive_195 ?_
                  refine sr_goto G 200 d_B_receive_196 rfl ?_
                  refine sr_putN G (vv_9 hn (by omega)) rfl ku_Me rfl 10 (by decide) t_Me ty_Me nm_Me kf_B_147 rfl rfl (ty := .int) (by decide +kernel) rfl rfl (Nat.le_of_ble_eq_true rfl) rfl d_B_receive_200 ?_
                  refine sr_aload_n G rfl d_B_receive_203 ?_
                  refine sr_aload_n G rfl d_B_receive_204 ?_
                  refine sr_get G (vv_0 hn) rfl ku_B rfl 0 (by decide) kf_B_11 rfl rfl d_B_receive_205 ?_
                  refine sr_iload G rfl d_B_receive_208 ?_
                  refine sr_aald G (vv_10 hn) rfl rfl (by assumption) d_B_receive_210 ?_
                  refine sr_getN G (vv_1 hn (by omega)) rfl ku_Le rfl 2 (by decide) kf_B_37 rfl rfl d_B_receive_211 ?_
                  refine sr_putN G (vv_9 hn (by omega)) rfl ku_Me rfl 13 (by decide) t_Me ty_Me nm_Me kf_B_177 rfl rfl (ty := .int) (by decide +kernel) rfl rfl (Nat.le_of_ble_eq_true rfl) rfl d_B_receive_214 ?_
                  refine sr_iload G rfl d_B_receive_217 ?_
                  refine sr_csi G ks_B_oneIf (c_B_oneIf) kc_B_oneIf km_B_73 kn_B yy_B_oneIf rfl ⟨rfl, rfl, by decide, by decide⟩ (Nat.le_of_ble_eq_true rfl) rfl d_B_receive_219 ?_
                  refine sr_iret G d_B_receive_222 ?_
                  unfold f_B_receive
                  rw [if_neg h5, if_pos h48, if_pos h55, if_pos h79, if_neg h90, if_pos h110, if_pos h128, if_neg h153]
                  exact ⟨rfl, rfl⟩
              · skip
                refine sr_aload_n G rfl d_B_receive_131 ?_
                refine sr_iload_n G rfl d_B_receive_132 ?_
                refine sr_cvi G (vv_0 hn) rfl rfl ki_B_areAllBeforeReceived kx_B_areAllBeforeReceived (c_B_areAllBeforeReceived hn (by first | assumption | omega | decide | (unfold vp_in; decide))) kc_B_areAllBeforeReceived km_B_159 kn_B yy_B_areAllBeforeReceived rfl ⟨rfl, rfl, by decide, by decide⟩ (Nat.le_of_ble_eq_true rfl) rfl d_B_receive_133 ?_
                refine sr_if_ne G 142 d_B_receive_136 rfl (fun h136 => ?_) (fun h136 => ?_)
                · skip
                  refine sr_aload_n G rfl d_B_receive_142 ?_
                  refine sr_getN G (vv_9 hn (by omega)) rfl ku_Me rfl 4 (by decide) kf_B_162 rfl rfl d_B_receive_143 ?_
                  refine sr_csi G ks_B_isAccount (c_B_isAccount) kc_B_isAccount km_B_117 kn_B yy_B_isAccount rfl ⟨rfl, rfl, by decide, by decide⟩ (Nat.le_of_ble_eq_true rfl) rfl d_B_receive_146 ?_
                  refine sr_istore G (by decide) d_B_receive_149 ?_
                  refine sr_iload G rfl d_B_receive_151 ?_
                  refine sr_if_eq G 178 d_B_receive_153 rfl (fun h153 => ?_) (fun h153 => ?_)
                  · skip
                    refine sr_aload G rfl d_B_receive_178 ?_
                    refine sr_dup G rfl d_B_receive_180 ?_
                    refine sr_getN G (vv_6 hn (by omega)) rfl ku_En rfl 7 (by decide) kf_B_174 rfl rfl d_B_receive_181 ?_
                    refine sr_iconst G (v := 1) (by decide) d_B_receive_184 ?_
                    refine sr_iadd G d_B_receive_185 ?_
                    refine sr_putN G (vv_6 hn (by omega)) rfl ku_En rfl 7 (by decide) t_En ty_En nm_En kf_B_174 rfl rfl (ty := .int) (by decide +kernel) rfl rfl (Nat.le_of_ble_eq_true rfl) rfl d_B_receive_186 ?_
                    refine sr_aload_n G rfl d_B_receive_189 ?_
                    refine sr_iload G rfl d_B_receive_190 ?_
                    refine sr_if_eq G 199 d_B_receive_192 rfl (fun _ => ?_) (fun h => absurd h153 h)
                    refine sr_iconst G (v := 2) (by decide) d_B_receive_199 ?_
                    refine sr_putN G (vv_9 hn (by omega)) rfl ku_Me rfl 10 (by decide) t_Me ty_Me nm_Me kf_B_147 rfl rfl (ty := .int) (by decide +kernel) rfl rfl (Nat.le_of_ble_eq_true rfl) rfl d_B_receive_200 ?_
                    refine sr_aload_n G rfl d_B_receive_203 ?_
                    refine sr_aload_n G rfl d_B_receive_204 ?_
                    refine sr_get G (vv_0 hn) rfl ku_B rfl 0 (by decide) kf_B_11 rfl rfl d_B_receive_205 ?_
                    refine sr_iload G rfl d_B_receive_208 ?_
                    refine sr_aald G (vv_10 hn) rfl rfl (by assumption) d_B_receive_210 ?_
                    refine sr_getN G (vv_1 hn (by omega)) rfl ku_Le rfl 2 (by decide) kf_B_37 rfl rfl d_B_receive_211 ?_
                    refine sr_putN G (vv_9 hn (by omega)) rfl ku_Me rfl 13 (by decide) t_Me ty_Me nm_Me kf_B_177 rfl rfl (ty := .int) (by decide +kernel) rfl rfl (Nat.le_of_ble_eq_true rfl) rfl d_B_receive_214 ?_
                    refine sr_iload G rfl d_B_receive_217 ?_
                    refine sr_csi G ks_B_oneIf (c_B_oneIf) kc_B_oneIf km_B_73 kn_B yy_B_oneIf rfl ⟨rfl, rfl, by decide, by decide⟩ (Nat.le_of_ble_eq_true rfl) rfl d_B_receive_219 ?_
                    refine sr_iret G d_B_receive_222 ?_
                    unfold f_B_receive
                    rw [if_neg h5, if_pos h48, if_pos h55, if_pos h79, if_neg h90, if_pos h110, if_neg h128, if_neg h136, if_pos h153]
                    exact ⟨rfl, rfl⟩
                  · skip
                    have v153 : vp_in (M 9 (Int32.toNatClampNeg x1) 4) 4 := in_wi (lo := 0) (hi := 3) (by decide) (by decide) h153
                    have i153 := ix_lt v153
                    refine sr_aload_n G rfl d_B_receive_156 ?_
                    refine sr_aload_n G rfl d_B_receive_157 ?_
                    refine sr_getN G (vv_9 hn (by omega)) rfl ku_Me rfl 0 (by decide) kf_B_144 rfl rfl d_B_receive_158 ?_
                    refine sr_iload G rfl d_B_receive_161 ?_
                    refine sr_aload_n G rfl d_B_receive_163 ?_
                    refine sr_getN G (vv_9 hn (by omega)) rfl ku_Me rfl 4 (by decide) kf_B_162 rfl rfl d_B_receive_164 ?_
                    refine sr_aload_n G rfl d_B_receive_167 ?_
                    refine sr_getN G (vv_9 hn (by omega)) rfl ku_Me rfl 5 (by decide) kf_B_165 rfl rfl d_B_receive_168 ?_
                    refine sr_aload_n G rfl d_B_receive_171 ?_
                    refine sr_getN G (vv_9 hn (by omega)) rfl ku_Me rfl 6 (by decide) kf_B_168 rfl rfl d_B_receive_172 ?_
                    refine sr_cvv G (vv_0 hn) rfl rfl ki_B_giveOut kx_B_giveOut (c_B_giveOut hn (by first | assumption | omega | decide | (unfold vp_in; decide)) (by first | assumption | omega | decide | (unfold vp_in; decide)) (by first | assumption | omega | decide | (unfold vp_in; decide))) kc_B_giveOut km_B_171 kn_B yy_B_giveOut rfl ⟨rfl, rfl, by decide, by decide⟩ (Nat.le_of_ble_eq_true rfl) rfl d_B_receive_175 ?_
                    refine sr_aload G rfl d_B_receive_178 ?_
                    refine sr_dup G rfl d_B_receive_180 ?_
                    refine sr_getN G (vv_6 hn (by omega)) rfl ku_En rfl 7 (by decide) kf_B_174 rfl rfl d_B_receive_181 ?_
                    refine sr_iconst G (v := 1) (by decide) d_B_receive_184 ?_
                    refine sr_iadd G d_B_receive_185 ?_
                    refine sr_putN G (vv_6 hn (by omega)) rfl ku_En rfl 7 (by decide) t_En ty_En nm_En kf_B_174 rfl rfl (ty := .int) (by decide +kernel) rfl rfl (Nat.le_of_ble_eq_true rfl) rfl d_B_receive_186 ?_
                    refine sr_aload_n G rfl d_B_receive_189 ?_
                    refine sr_iload G rfl d_B_receive_190 ?_
                    refine sr_if_eq G 199 d_B_receive_192 rfl (fun h => absurd h h153) (fun _ => ?_)
                    refine sr_iconst G (v := 1) (by decide) d_B_receive_195 ?_
                    refine sr_goto G 200 d_B_receive_196 rfl ?_
                    refine sr_putN G (vv_9 hn (by omega)) rfl ku_Me rfl 10 (by decide) t_Me ty_Me nm_Me kf_B_147 rfl rfl (ty := .int) (by decide +kernel) rfl rfl (Nat.le_of_ble_eq_true rfl) rfl d_B_receive_200 ?_
                    refine sr_aload_n G rfl d_B_receive_203 ?_
                    refine sr_aload_n G rfl d_B_receive_204 ?_
                    refine sr_get G (vv_0 hn) rfl ku_B rfl 0 (by decide) kf_B_11 rfl rfl d_B_receive_205 ?_
                    refine sr_iload G rfl d_B_receive_208 ?_
                    refine sr_aald G (vv_10 hn) rfl rfl (by assumption) d_B_receive_210 ?_
                    refine sr_getN G (vv_1 hn (by omega)) rfl ku_Le rfl 2 (by decide) kf_B_37 rfl rfl d_B_receive_211 ?_
                    refine sr_putN G (vv_9 hn (by omega)) rfl ku_Me rfl 13 (by decide) t_Me ty_Me nm_Me kf_B_177 rfl rfl (ty := .int) (by decide +kernel) rfl rfl (Nat.le_of_ble_eq_true rfl) rfl d_B_receive_214 ?_
                    refine sr_iload G rfl d_B_receive_217 ?_
                    refine sr_csi G ks_B_oneIf (c_B_oneIf) kc_B_oneIf km_B_73 kn_B yy_B_oneIf rfl ⟨rfl, rfl, by decide, by decide⟩ (Nat.le_of_ble_eq_true rfl) rfl d_B_receive_219 ?_
                    refine sr_iret G d_B_receive_222 ?_
                    unfold f_B_receive
                    rw [if_neg h5, if_pos h48, if_pos h55, if_pos h79, if_neg h90, if_pos h110, if_neg h128, if_neg h136, if_neg h153]
                    exact ⟨rfl, rfl⟩
                · skip
                  refine sr_bipush G (v := (-8)) (by decide) d_B_receive_139 ?_
                  refine sr_iret G d_B_receive_141 ?_
                  unfold f_B_receive
                  rw [if_neg h5, if_pos h48, if_pos h55, if_pos h79, if_neg h90, if_pos h110, if_neg h128, if_pos h136]
                  exact ⟨rfl, rfl⟩
            · skip
              refine sr_bipush G (v := (-7)) (by decide) d_B_receive_113 ?_
              refine sr_iret G d_B_receive_115 ?_
              unfold f_B_receive
              rw [if_neg h5, if_pos h48, if_pos h55, if_pos h79, if_neg h90, if_neg h110]
              exact ⟨rfl, rfl⟩
          · skip
            refine sr_bipush G (v := (-6)) (by decide) d_B_receive_93 ?_
            refine sr_iret G d_B_receive_95 ?_
            unfold f_B_receive
            rw [if_neg h5, if_pos h48, if_pos h55, if_pos h79, if_pos h90]
            exact ⟨rfl, rfl⟩
        · skip
          refine sr_iload G rfl d_B_receive_82 ?_
          refine sr_iret G d_B_receive_84 ?_
          unfold f_B_receive
          rw [if_neg h5, if_pos h48, if_pos h55, if_neg h79]
          exact ⟨rfl, rfl⟩
      · skip
        refine sr_bipush G (v := (-3)) (by decide) d_B_receive_58 ?_
        refine sr_iret G d_B_receive_60 ?_
        unfold f_B_receive
        rw [if_neg h5, if_pos h48, if_neg h55]
        exact ⟨rfl, rfl⟩
  · skip
    refine sr_iconst G (v := (-1)) (by decide) d_B_receive_8 ?_
    refine sr_iret G d_B_receive_9 ?_
    unfold f_B_receive
    rw [if_pos h5]
    exact ⟨rfl, rfl⟩
def f_B_acknowledge (M : Mem) (x1 : Int32) (x2 : Int32) : Int32 × Mem := (if (f_B_isMessage M x1) = 0 then ((-1), M) else (if (f_B_refusalAtSender M (Int32.toNatClampNeg x1) x2) = 0 then (if (f_Me_isReceivedIn M (Int32.toNatClampNeg x1) x2) = 0 then ((-6), M) else (if (M 5 (Int32.toNatClampNeg (M 9 (Int32.toNatClampNeg x1) 0)) 1) = 0 then (if ((f_B_finish M (Int32.toNatClampNeg x1)) 9 (Int32.toNatClampNeg x1) 10) = 2 then (if ((f_B_giveBack (f_B_finish M (Int32.toNatClampNeg x1)) (Int32.toNatClampNeg x1)) 9 (Int32.toNatClampNeg x1) 10) = 1 then ((f_B_oneIf 1), (f_B_giveBack (f_B_finish M (Int32.toNatClampNeg x1)) (Int32.toNatClampNeg x1))) else ((f_B_oneIf 0), (f_B_giveBack (f_B_finish M (Int32.toNatClampNeg x1)) (Int32.toNatClampNeg x1)))) else (if ((f_B_finish M (Int32.toNatClampNeg x1)) 9 (Int32.toNatClampNeg x1) 10) = 1 then ((f_B_oneIf 1), (f_B_finish M (Int32.toNatClampNeg x1))) else ((f_B_oneIf 0), (f_B_finish M (Int32.toNatClampNeg x1))))) else (if (f_B_standsOneBefore M x1) = 0 then (if ((f_B_finish M (Int32.toNatClampNeg x1)) 9 (Int32.toNatClampNeg x1) 10) = 2 then (if ((f_B_giveBack (f_B_finish M (Int32.toNatClampNeg x1)) (Int32.toNatClampNeg x1)) 9 (Int32.toNatClampNeg x1) 10) = 1 then ((f_B_oneIf 1), (f_B_giveBack (f_B_finish M (Int32.toNatClampNeg x1)) (Int32.toNatClampNeg x1))) else ((f_B_oneIf 0), (f_B_giveBack (f_B_finish M (Int32.toNatClampNeg x1)) (Int32.toNatClampNeg x1)))) else (if ((f_B_finish M (Int32.toNatClampNeg x1)) 9 (Int32.toNatClampNeg x1) 10) = 1 then ((f_B_oneIf 1), (f_B_finish M (Int32.toNatClampNeg x1))) else ((f_B_oneIf 0), (f_B_finish M (Int32.toNatClampNeg x1))))) else ((-8), M)))) else ((f_B_refusalAtSender M (Int32.toNatClampNeg x1) x2), M)))
set_option maxHeartbeats 4000000 in
set_option maxRecDepth 100000 in
theorem c_B_acknowledge {l : Launch} {D : va_G} {t6 : Nat → ClassId} {b n : Nat} (hn : 104 ≤ n) {M : Mem} {x1 : Int32} {x2 : Int32} (hI : ci_ M) : CI l D t6 b n y_B_acknowledge cd_B_acknowledge 5 .int (rk 5 108) [.ref (ad b 0 0), .int x1, .int x2] M (f_B_acknowledge M x1 x2).1 (f_B_acknowledge M x1 x2).2 := by
  refine en_i (by decide) (by simp [Value.category]) (Nat.le_of_ble_eq_true rfl) (fun p e s m below meth c G => ?_)
  refine sr_aload_n G rfl d_B_acknowledge_0 ?_
  refine sr_iload_n G rfl d_B_acknowledge_1 ?_
  refine sr_cvi G (vv_0 hn) rfl rfl ki_B_isMessage kx_B_isMessage (c_B_isMessage hn) kc_B_isMessage km_B_138 kn_B yy_B_isMessage rfl ⟨rfl, rfl, by decide, by decide⟩ (Nat.le_of_ble_eq_true rfl) rfl d_B_acknowledge_2 ?_
  refine sr_if_ne G 10 d_B_acknowledge_5 rfl (fun h5 => ?_) (fun h5 => ?_)
  · skip
    have v5 : vp_in x1 60 := in_ms hI h5
    have i5 := ix_lt v5
    obtain ⟨k5a, k5b, k5c⟩ := ci_mg hI i5
    have k5d := ix_lt k5a
    have k5e := ix_lt k5b
    have k5f := ix_lt k5c
    have k5g := in_1 k5b
    have k5h := ix_lt k5g
    refine sr_aload_n G rfl d_B_acknowledge_10 ?_
    refine sr_get G (vv_0 hn) rfl ku_B rfl 2 (by decide) kf_B_23 rfl rfl d_B_acknowledge_11 ?_
    refine sr_iload_n G rfl d_B_acknowledge_14 ?_
    refine sr_aald G (vv_12 hn) rfl rfl (by assumption) d_B_acknowledge_15 ?_
    refine sr_astore_n G (by decide) d_B_acknowledge_16 ?_
    refine sr_aload_n G rfl d_B_acknowledge_17 ?_
    refine sr_aload_n G rfl d_B_acknowledge_18 ?_
    refine sr_iload_n G rfl d_B_acknowledge_19 ?_
    refine sr_cvi G (vv_0 hn) rfl rfl ki_B_refusalAtSender kx_B_refusalAtSender (c_B_refusalAtSender hn (by first | assumption | omega | decide | (unfold vp_in; decide)) (by first | assumption | omega | decide | (unfold vp_in; decide))) kc_B_refusalAtSender km_B_180 kn_B yy_B_refusalAtSender rfl ⟨rfl, rfl, by decide, by decide⟩ (Nat.le_of_ble_eq_true rfl) rfl d_B_acknowledge_20 ?_
    refine sr_istore G (by decide) d_B_acknowledge_23 ?_
    refine sr_iload G rfl d_B_acknowledge_25 ?_
    refine sr_if_eq G 33 d_B_acknowledge_27 rfl (fun h27 => ?_) (fun h27 => ?_)
    · skip
      refine sr_aload_n G rfl d_B_acknowledge_33 ?_
      refine sr_iload_n G rfl d_B_acknowledge_34 ?_
      refine sr_cvNi G (vv_9 hn (by omega)) rfl rfl ki_Me_isReceivedIn kx_Me_isReceivedIn (c_Me_isReceivedIn hn (by first | assumption | omega | decide | (unfold vp_in; decide))) kc_Me_isReceivedIn km_B_184 kn_Me yy_Me_isReceivedIn rfl ⟨rfl, rfl, by decide, by decide⟩ (Nat.le_of_ble_eq_true rfl) rfl d_B_acknowledge_35 ?_
      refine sr_if_ne G 44 d_B_acknowledge_38 rfl (fun h38 => ?_) (fun h38 => ?_)
      · skip
        refine sr_aload_n G rfl d_B_acknowledge_44 ?_
        refine sr_get G (vv_0 hn) rfl ku_B rfl 1 (by decide) kf_B_17 rfl rfl d_B_acknowledge_45 ?_
        refine sr_aload_n G rfl d_B_acknowledge_48 ?_
        refine sr_getN G (vv_9 hn (by omega)) rfl ku_Me rfl 0 (by decide) kf_B_144 rfl rfl d_B_acknowledge_49 ?_
        refine sr_aald G (vv_11 hn) rfl rfl (by assumption) d_B_acknowledge_52 ?_
        refine sr_getN G (vv_5 hn (by omega)) rfl ku_Ch rfl 1 (by decide) kf_B_86 rfl rfl d_B_acknowledge_53 ?_
        refine sr_if_eq G 70 d_B_acknowledge_56 rfl (fun h56 => ?_) (fun h56 => ?_)
        · skip
          refine sr_aload_n G rfl d_B_acknowledge_70 ?_
          refine sr_aload_n G rfl d_B_acknowledge_71 ?_
          refine sr_cvv G (vv_0 hn) rfl rfl ki_B_finish kx_B_finish (c_B_finish hn (by first | assumption | omega | decide | (unfold vp_in; decide)) (by first | assumption | omega | decide | (unfold vp_in; decide))) kc_B_finish km_B_190 kn_B yy_B_finish rfl ⟨rfl, rfl, by decide, by decide⟩ (Nat.le_of_ble_eq_true rfl) rfl d_B_acknowledge_72 ?_
          refine sr_aload_n G rfl d_B_acknowledge_75 ?_
          refine sr_getN G (vv_9 hn (by omega)) rfl ku_Me rfl 10 (by decide) kf_B_147 rfl rfl d_B_acknowledge_76 ?_
          refine sr_iconst G (v := 2) (by decide) d_B_acknowledge_79 ?_
          refine sr_icmp_ne G 88 d_B_acknowledge_80 rfl (fun h80 => ?_) (fun h80 => ?_)
          · skip
            refine sr_aload_n G rfl d_B_acknowledge_88 ?_
            refine sr_getN G (vv_9 hn (by omega)) rfl ku_Me rfl 10 (by decide) kf_B_147 rfl rfl d_B_acknowledge_89 ?_
            refine sr_iconst G (v := 1) (by decide) d_B_acknowledge_92 ?_
            refine sr_icmp_ne G 100 d_B_acknowledge_93 rfl (fun h93 => ?_) (fun h93 => ?_)
            · skip
              refine sr_iconst G (v := 0) (by decide) d_B_acknowledge_100 ?_
              refine sr_csi G ks_B_oneIf (c_B_oneIf) kc_B_oneIf km_B_73 kn_B yy_B_oneIf rfl ⟨rfl, rfl, by decide, by decide⟩ (Nat.le_of_ble_eq_true rfl) rfl d_B_acknowledge_101 ?_
              refine sr_iret G d_B_acknowledge_104 ?_
              unfold f_B_acknowledge
              rw [if_neg h5, if_pos h27, if_neg h38, if_pos h56, if_neg h80, if_neg h93]
              exact ⟨rfl, rfl⟩
            · skip
              refine sr_iconst G (v := 1) (by decide) d_B_acknowledge_96 ?_
              refine sr_goto G 101 d_B_acknowledge_97 rfl ?_
              refine sr_csi G ks_B_oneIf (c_B_oneIf) kc_B_oneIf km_B_73 kn_B yy_B_oneIf rfl ⟨rfl, rfl, by decide, by decide⟩ (Nat.le_of_ble_eq_true rfl) rfl d_B_acknowledge_101 ?_
              refine sr_iret G d_B_acknowledge_104 ?_
              unfold f_B_acknowledge
              rw [if_neg h5, if_pos h27, if_neg h38, if_pos h56, if_neg h80, if_pos h93]
              exact ⟨rfl, rfl⟩
          · skip
            refine sr_aload_n G rfl d_B_acknowledge_83 ?_
            refine sr_aload_n G rfl d_B_acknowledge_84 ?_
            have hI9 : ci_ (f_B_finish M (Int32.toNatClampNeg x1)) := ci_fin hI
            refine sr_cvv G (vv_0 hn) rfl rfl ki_B_giveBack kx_B_giveBack (c_B_giveBack hn (by first | assumption | omega | decide | (unfold vp_in; decide)) (by first | assumption | omega | decide | (unfold vp_in; decide))) kc_B_giveBack km_B_194 kn_B yy_B_giveBack rfl ⟨rfl, rfl, by decide, by decide⟩ (Nat.le_of_ble_eq_true rfl) rfl d_B_acknowledge_85 ?_
            refine sr_aload_n G rfl d_B_acknowledge_88 ?_
            refine sr_getN G (vv_9 hn (by omega)) rfl ku_Me rfl 10 (by decide) kf_B_147 rfl rfl d_B_acknowledge_89 ?_
            refine sr_iconst G (v := 1) (by decide) d_B_acknowledge_92 ?_
            refine sr_icmp_ne G 100 d_B_acknowledge_93 rfl (fun h93 => ?_) (fun h93 => ?_)
            · skip
              refine sr_iconst G (v := 0) (by decide) d_B_acknowledge_100 ?_
              refine sr_csi G ks_B_oneIf (c_B_oneIf) kc_B_oneIf km_B_73 kn_B yy_B_oneIf rfl ⟨rfl, rfl, by decide, by decide⟩ (Nat.le_of_ble_eq_true rfl) rfl d_B_acknowledge_101 ?_
              refine sr_iret G d_B_acknowledge_104 ?_
              unfold f_B_acknowledge
              rw [if_neg h5, if_pos h27, if_neg h38, if_pos h56, if_pos h80, if_neg h93]
              exact ⟨rfl, rfl⟩
            · skip
              refine sr_iconst G (v := 1) (by decide) d_B_acknowledge_96 ?_
              refine sr_goto G 101 d_B_acknowledge_97 rfl ?_
              refine sr_csi G ks_B_oneIf (c_B_oneIf) kc_B_oneIf km_B_73 kn_B yy_B_oneIf rfl ⟨rfl, rfl, by decide, by decide⟩ (Nat.le_of_ble_eq_true rfl) rfl d_B_acknowledge_101 ?_
              refine sr_iret G d_B_acknowledge_104 ?_
              unfold f_B_acknowledge
              rw [if_neg h5, if_pos h27, if_neg h38, if_pos h56, if_pos h80, if_pos h93]
              exact ⟨rfl, rfl⟩
        · skip
          refine sr_aload_n G rfl d_B_acknowledge_59 ?_
          refine sr_iload_n G rfl d_B_acknowledge_60 ?_
          refine sr_cvi G (vv_0 hn) rfl rfl ki_B_standsOneBefore kx_B_standsOneBefore (c_B_standsOneBefore hn (by first | assumption | omega | decide | (unfold vp_in; decide))) kc_B_standsOneBefore km_B_187 kn_B yy_B_standsOneBefore rfl ⟨rfl, rfl, by decide, by decide⟩ (Nat.le_of_ble_eq_true rfl) rfl d_B_acknowledge_61 ?_
          refine sr_if_eq G 70 d_B_acknowledge_64 rfl (fun h64 => ?_) (fun h64 => ?_)
          · skip
            refine sr_aload_n G rfl d_B_acknowledge_70 ?_
            refine sr_aload_n G rfl d_B_acknowledge_71 ?_
            refine sr_cvv G (vv_0 hn) rfl rfl ki_B_finish kx_B_finish (c_B_finish hn (by first | assumption | omega | decide | (unfold vp_in; decide)) (by first | assumption | omega | decide | (unfold vp_in; decide))) kc_B_finish km_B_190 kn_B yy_B_finish rfl ⟨rfl, rfl, by decide, by decide⟩ (Nat.le_of_ble_eq_true rfl) rfl d_B_acknowledge_72 ?_
            refine sr_aload_n G rfl d_B_acknowledge_75 ?_
            refine sr_getN G (vv_9 hn (by omega)) rfl ku_Me rfl 10 (by decide) kf_B_147 rfl rfl d_B_acknowledge_76 ?_
            refine sr_iconst G (v := 2) (by decide) d_B_acknowledge_79 ?_
            refine sr_icmp_ne G 88 d_B_acknowledge_80 rfl (fun h80 => ?_) (fun h80 => ?_)
            · skip
              refine sr_aload_n G rfl d_B_acknowledge_88 ?_
              refine sr_getN G (vv_9 hn (by omega)) rfl ku_Me rfl 10 (by decide) kf_B_147 rfl rfl d_B_acknowledge_89 ?_
              refine sr_iconst G (v := 1) (by decide) d_B_acknowledge_92 ?_
              refine sr_icmp_ne G 100 d_B_acknowledge_93 rfl (fun h93 => ?_) (fun h93 => ?_)
              · skip
                refine sr_iconst G (v := 0) (by decide) d_B_acknowledge_100 ?_
                refine sr_csi G ks_B_oneIf (c_B_oneIf) kc_B_oneIf km_B_73 kn_B yy_B_oneIf rfl ⟨rfl, rfl, by decide, by decide⟩ (Nat.le_of_ble_eq_true rfl) rfl d_B_acknowledge_101 ?_
                refine sr_iret G d_B_acknowledge_104 ?_
                unfold f_B_acknowledge
                rw [if_neg h5, if_pos h27, if_neg h38, if_neg h56, if_pos h64, if_neg h80, if_neg h93]
                exact ⟨rfl, rfl⟩
              · skip
                refine sr_iconst G (v := 1) (by decide) d_B_acknowledge_96 ?_
                refine sr_goto G 101 d_B_acknowledge_97 rfl ?_
                refine sr_csi G ks_B_oneIf (c_B_oneIf) kc_B_oneIf km_B_73 kn_B yy_B_oneIf rfl ⟨rfl, rfl, by decide, by decide⟩ (Nat.le_of_ble_eq_true rfl) rfl d_B_acknowledge_101 ?_
                refine sr_iret G d_B_acknowledge_104 ?_
                unfold f_B_acknowledge
                rw [if_neg h5, if_pos h27, if_neg h38, if_neg h56, if_pos h64, if_neg h80, if_pos h93]
                exact ⟨rfl, rfl⟩
            · skip
              refine sr_aload_n G rfl d_B_acknowledge_83 ?_
              refine sr_aload_n G rfl d_B_acknowledge_84 ?_
              have hI9 : ci_ (f_B_finish M (Int32.toNatClampNeg x1)) := ci_fin hI
              refine sr_cvv G (vv_0 hn) rfl rfl ki_B_giveBack kx_B_giveBack (c_B_giveBack hn (by first | assumption | omega | decide | (unfold vp_in; decide)) (by first | assumption | omega | decide | (unfold vp_in; decide))) kc_B_giveBack km_B_194 kn_B yy_B_giveBack rfl ⟨rfl, rfl, by decide, by decide⟩ (Nat.le_of_ble_eq_true rfl) rfl d_B_acknowledge_85 ?_
              refine sr_aload_n G rfl d_B_acknowledge_88 ?_
              refine sr_getN G (vv_9 hn (by omega)) rfl ku_Me rfl 10 (by decide) kf_B_147 rfl rfl d_B_acknowledge_89 ?_
              refine sr_iconst G (v := 1) (by decide) d_B_acknowledge_92 ?_
              refine sr_icmp_ne G 100 d_B_acknowledge_93 rfl (fun h93 => ?_) (fun h93 => ?_)
              · skip
                refine sr_iconst G (v := 0) (by decide) d_B_acknowledge_100 ?_
                refine sr_csi G ks_B_oneIf (c_B_oneIf) kc_B_oneIf km_B_73 kn_B yy_B_oneIf rfl ⟨rfl, rfl, by decide, by decide⟩ (Nat.le_of_ble_eq_true rfl) rfl d_B_acknowledge_101 ?_
                refine sr_iret G d_B_acknowledge_104 ?_
                unfold f_B_acknowledge
                rw [if_neg h5, if_pos h27, if_neg h38, if_neg h56, if_pos h64, if_pos h80, if_neg h93]
                exact ⟨rfl, rfl⟩
              · skip
                refine sr_iconst G (v := 1) (by decide) d_B_acknowledge_96 ?_
                refine sr_goto G 101 d_B_acknowledge_97 rfl ?_
                refine sr_csi G ks_B_oneIf (c_B_oneIf) kc_B_oneIf km_B_73 kn_B yy_B_oneIf rfl ⟨rfl, rfl, by decide, by decide⟩ (Nat.le_of_ble_eq_true rfl) rfl d_B_acknowledge_101 ?_
                refine sr_iret G d_B_acknowledge_104 ?_
                unfold f_B_acknowledge
                rw [if_neg h5, if_pos h27, if_neg h38, if_neg h56, if_pos h64, if_pos h80, if_pos h93]
                exact ⟨rfl, rfl⟩
          · skip
            refine sr_bipush G (v := (-8)) (by decide) d_B_acknowledge_67 ?_
            refine sr_iret G d_B_acknowledge_69 ?_
            unfold f_B_acknowledge
            rw [if_neg h5, if_pos h27, if_neg h38, if_neg h56, if_neg h64]
            exact ⟨rfl, rfl⟩
      · skip
        refine sr_bipush G (v := (-6)) (by decide) d_B_acknowledge_41 ?_
        refine sr_iret G d_B_acknowledge_43 ?_
        unfold f_B_acknowledge
        rw [if_neg h5, if_pos h27, if_pos h38]
        exact ⟨rfl, rfl⟩
    · skip
      refine sr_iload G rfl d_B_acknowledge_30 ?_
      refine sr_iret G d_B_acknowledge_32 ?_
      unfold f_B_acknowledge
      rw [if_neg h5, if_neg h27]
      exact ⟨rfl, rfl⟩
  · skip
    refine sr_iconst G (v := (-1)) (by decide) d_B_acknowledge_8 ?_
    refine sr_iret G d_B_acknowledge_9 ?_
    unfold f_B_acknowledge
    rw [if_pos h5]
    exact ⟨rfl, rfl⟩
def f_B_timeout (M : Mem) (x1 : Int32) (x2 : Int32) : Int32 × Mem := (if (f_B_isMessage M x1) = 0 then ((-1), M) else (if (f_B_refusalAtSender M (Int32.toNatClampNeg x1) x2) = 0 then (if (f_Me_isReceivedIn M (Int32.toNatClampNeg x1) x2) = 0 then (if (M 9 (Int32.toNatClampNeg x1) 7) ≤ x2 then (if ((f_B_giveBack (f_B_finish M (Int32.toNatClampNeg x1)) (Int32.toNatClampNeg x1)) 5 (Int32.toNatClampNeg ((f_B_giveBack (f_B_finish M (Int32.toNatClampNeg x1)) (Int32.toNatClampNeg x1)) 9 (Int32.toNatClampNeg x1) 0)) 1) = 0 then (((f_B_giveBack (f_B_finish M (Int32.toNatClampNeg x1)) (Int32.toNatClampNeg x1)) 9 (Int32.toNatClampNeg x1) 6), (f_B_giveBack (f_B_finish M (Int32.toNatClampNeg x1)) (Int32.toNatClampNeg x1))) else (if ((f_B_giveBack (f_B_finish M (Int32.toNatClampNeg x1)) (Int32.toNatClampNeg x1)) 6 (2 * (Int32.toNatClampNeg ((f_B_giveBack (f_B_finish M (Int32.toNatClampNeg x1)) (Int32.toNatClampNeg x1)) 9 (Int32.toNatClampNeg x1) 0)) + Int32.toNatClampNeg ((f_B_giveBack (f_B_finish M (Int32.toNatClampNeg x1)) (Int32.toNatClampNeg x1)) 9 (Int32.toNatClampNeg x1) 1)) 2) = 3 then (((f_En_comeTo (f_B_giveBack (f_B_finish M (Int32.toNatClampNeg x1)) (Int32.toNatClampNeg x1)) (2 * (Int32.toNatClampNeg ((f_B_giveBack (f_B_finish M (Int32.toNatClampNeg x1)) (Int32.toNatClampNeg x1)) 9 (Int32.toNatClampNeg x1) 0)) + Int32.toNatClampNeg ((f_B_giveBack (f_B_finish M (Int32.toNatClampNeg x1)) (Int32.toNatClampNeg x1)) 9 (Int32.toNatClampNeg x1) 1)) 4 ((f_B_giveBack (f_B_finish M (Int32.toNatClampNeg x1)) (Int32.toNatClampNeg x1)) 1 (Int32.toNatClampNeg ((f_B_giveBack (f_B_finish M (Int32.toNatClampNeg x1)) (Int32.toNatClampNeg x1)) 9 (Int32.toNatClampNeg x1) 1)) 2)) 9 (Int32.toNatClampNeg x1) 6), (f_En_comeTo (f_B_giveBack (f_B_finish M (Int32.toNatClampNeg x1)) (Int32.toNatClampNeg x1)) (2 * (Int32.toNatClampNeg ((f_B_giveBack (f_B_finish M (Int32.toNatClampNeg x1)) (Int32.toNatClampNeg x1)) 9 (Int32.toNatClampNeg x1) 0)) + Int32.toNatClampNeg ((f_B_giveBack (f_B_finish M (Int32.toNatClampNeg x1)) (Int32.toNatClampNeg x1)) 9 (Int32.toNatClampNeg x1) 1)) 4 ((f_B_giveBack (f_B_finish M (Int32.toNatClampNeg x1)) (Int32.toNatClampNeg x1)) 1 (Int32.toNatClampNeg ((f_B_giveBack (f_B_finish M (Int32.toNatClampNeg x1)) (Int32.toNatClampNeg x1)) 9 (Int32.toNatClampNeg x1) 1)) 2))) else (((f_B_giveBack (f_B_finish M (Int32.toNatClampNeg x1)) (Int32.toNatClampNeg x1)) 9 (Int32.toNatClampNeg x1) 6), (f_B_giveBack (f_B_finish M (Int32.toNatClampNeg x1)) (Int32.toNatClampNeg x1))))) else ((-7), M)) else ((-6), M)) else ((f_B_refusalAtSender M (Int32.toNatClampNeg x1) x2), M)))
set_option maxHeartbeats 4000000 in
set_option maxRecDepth 100000 in
theorem c_B_timeout {l : Launch} {D : va_G} {t6 : Nat → ClassId} {b n : Nat} (hn : 104 ≤ n) {M : Mem} {x1 : Int32} {x2 : Int32} (hI : ci_ M) : CI l D t6 b n y_B_timeout cd_B_timeout 6 .int (rk 5 108) [.ref (ad b 0 0), .int x1, .int x2] M (f_B_timeout M x1 x2).1 (f_B_timeout M x1 x2).2 := by
  refine en_i (by decide) (by simp [Value.category]) (Nat.le_of_ble_eq_true rfl) (fun p e s m below meth c G => ?_)
  refine sr_aload_n G rfl d_B_timeout_0 ?_
  refine sr_iload_n G rfl d_B_timeout_1 ?_
  refine sr_cvi G (vv_0 hn) rfl rfl ki_B_isMessage kx_B_isMessage (c_B_isMessage hn) kc_B_isMessage km_B_138 kn_B yy_B_isMessage rfl ⟨rfl, rfl, by decide, by decide⟩ (Nat.le_of_ble_eq_true rfl) rfl d_B_timeout_2 ?_
  refine sr_if_ne G 10 d_B_timeout_5 rfl (fun h5 => ?_) (fun h5 => ?_)
  · skip
    have v5 : vp_in x1 60 := in_ms hI h5
    have i5 := ix_lt v5
    obtain ⟨k5a, k5b, k5c⟩ := ci_mg hI i5
    have k5d := ix_lt k5a
    have k5e := ix_lt k5b
    have k5f := ix_lt k5c
    have k5g := in_1 k5b
    have k5h := ix_lt k5g
    refine sr_aload_n G rfl d_B_timeout_10 ?_
    refine sr_get G (vv_0 hn) rfl ku_B rfl 2 (by decide) kf_B_23 rfl rfl d_B_timeout_11 ?_
    refine sr_iload_n G rfl d_B_timeout_14 ?_
    refine sr_aald G (vv_12 hn) rfl rfl (by assumption) d_B_timeout_15 ?_
    refine sr_astore_n G (by decide) d_B_timeout_16 ?_
    refine sr_aload_n G rfl d_B_timeout_17 ?_
    refine sr_aload_n G rfl d_B_timeout_18 ?_
    refine sr_iload_n G rfl d_B_timeout_19 ?_
    refine sr_cvi G (vv_0 hn) rfl rfl ki_B_refusalAtSender kx_B_refusalAtSender (c_B_refusalAtSender hn (by first | assumption | omega | decide | (unfold vp_in; decide)) (by first | assumption | omega | decide | (unfold vp_in; decide))) kc_B_refusalAtSender km_B_180 kn_B yy_B_refusalAtSender rfl ⟨rfl, rfl, by decide, by decide⟩ (Nat.le_of_ble_eq_true rfl) rfl d_B_timeout_20 ?_
    refine sr_istore G (by decide) d_B_timeout_23 ?_
    refine sr_iload G rfl d_B_timeout_25 ?_
    refine sr_if_eq G 33 d_B_timeout_27 rfl (fun h27 => ?_) (fun h27 => ?_)
    · skip
      refine sr_aload_n G rfl d_B_timeout_33 ?_
      refine sr_iload_n G rfl d_B_timeout_34 ?_
      refine sr_cvNi G (vv_9 hn (by omega)) rfl rfl ki_Me_isReceivedIn kx_Me_isReceivedIn (c_Me_isReceivedIn hn (by first | assumption | omega | decide | (unfold vp_in; decide))) kc_Me_isReceivedIn km_B_184 kn_Me yy_Me_isReceivedIn rfl ⟨rfl, rfl, by decide, by decide⟩ (Nat.le_of_ble_eq_true rfl) rfl d_B_timeout_35 ?_
      refine sr_if_eq G 44 d_B_timeout_38 rfl (fun h38 => ?_) (fun h38 => ?_)
      · skip
        refine sr_iload_n G rfl d_B_timeout_44 ?_
        refine sr_aload_n G rfl d_B_timeout_45 ?_
        refine sr_getN G (vv_9 hn (by omega)) rfl ku_Me rfl 7 (by decide) kf_B_156 rfl rfl d_B_timeout_46 ?_
        refine sr_icmp_ge G 55 d_B_timeout_49 rfl (fun h49 => ?_) (fun h49 => ?_)
        · skip
          refine sr_aload_n G rfl d_B_timeout_55 ?_
          refine sr_aload_n G rfl d_B_timeout_56 ?_
          refine sr_cvv G (vv_0 hn) rfl rfl ki_B_finish kx_B_finish (c_B_finish hn (by first | assumption | omega | decide | (unfold vp_in; decide)) (by first | assumption | omega | decide | (unfold vp_in; decide))) kc_B_finish km_B_190 kn_B yy_B_finish rfl ⟨rfl, rfl, by decide, by decide⟩ (Nat.le_of_ble_eq_true rfl) rfl d_B_timeout_57 ?_
          refine sr_aload_n G rfl d_B_timeout_60 ?_
          refine sr_aload_n G rfl d_B_timeout_61 ?_
          have hI9 : ci_ (f_B_finish M (Int32.toNatClampNeg x1)) := ci_fin hI
          refine sr_cvv G (vv_0 hn) rfl rfl ki_B_giveBack kx_B_giveBack (c_B_giveBack hn (by first | assumption | omega | decide | (unfold vp_in; decide)) (by first | assumption | omega | decide | (unfold vp_in; decide))) kc_B_giveBack km_B_194 kn_B yy_B_giveBack rfl ⟨rfl, rfl, by decide, by decide⟩ (Nat.le_of_ble_eq_true rfl) rfl d_B_timeout_62 ?_
          have hI8 : ci_ (f_B_giveBack (f_B_finish M (Int32.toNatClampNeg x1)) (Int32.toNatClampNeg x1)) := ci_gb hI9
          obtain ⟨u0, u1, u3_⟩ := ci_mg hI8 i5
          have u4 := ix_lt u0
          have u5 := ix_lt u1
          refine sr_aload_n G rfl d_B_timeout_65 ?_
          refine sr_get G (vv_0 hn) rfl ku_B rfl 1 (by decide) kf_B_17 rfl rfl d_B_timeout_66 ?_
          refine sr_aload_n G rfl d_B_timeout_69 ?_
          refine sr_getN G (vv_9 hn (by omega)) rfl ku_Me rfl 0 (by decide) kf_B_144 rfl rfl d_B_timeout_70 ?_
          refine sr_aald G (vv_11 hn) rfl rfl (by assumption) d_B_timeout_73 ?_
          refine sr_getN G (vv_5 hn (by omega)) rfl ku_Ch rfl 0 (by decide) kf_B_89 rfl rfl d_B_timeout_74 ?_
          refine sr_aload_n G rfl d_B_timeout_77 ?_
          refine sr_getN G (vv_9 hn (by omega)) rfl ku_Me rfl 1 (by decide) kf_B_141 rfl rfl d_B_timeout_78 ?_
          refine sr_aald G (vv_13 hn (by omega)) rfl rfl (by assumption) d_B_timeout_81 ?_
          refine sr_astore G (by decide) d_B_timeout_82 ?_
          refine sr_aload_n G rfl d_B_timeout_84 ?_
          refine sr_get G (vv_0 hn) rfl ku_B rfl 1 (by decide) kf_B_17 rfl rfl d_B_timeout_85 ?_
          refine sr_aload_n G rfl d_B_timeout_88 ?_
          refine sr_getN G (vv_9 hn (by omega)) rfl ku_Me rfl 0 (by decide) kf_B_144 rfl rfl d_B_timeout_89 ?_
          refine sr_aald G (vv_11 hn) rfl rfl (by assumption) d_B_timeout_92 ?_
          refine sr_getN G (vv_5 hn (by omega)) rfl ku_Ch rfl 1 (by decide) kf_B_86 rfl rfl d_B_timeout_93 ?_
          refine sr_if_eq G 126 d_B_timeout_96 rfl (fun h96 => ?_) (fun h96 => ?_)
          · skip
            refine sr_aload_n G rfl d_B_timeout_126 ?_
            refine sr_getN G (vv_9 hn (by omega)) rfl ku_Me rfl 6 (by decide) kf_B_168 rfl rfl d_B_timeout_127 ?_
            refine sr_iret G d_B_timeout_130 ?_
            unfold f_B_timeout
            rw [if_neg h5, if_pos h27, if_pos h38, if_pos h49, if_pos h96]
            exact ⟨rfl, rfl⟩
          · skip
            refine sr_aload G rfl d_B_timeout_99 ?_
            refine sr_getN G (vv_6 hn (by omega)) rfl ku_En rfl 2 (by decide) kf_B_114 rfl rfl d_B_timeout_101 ?_
            refine sr_iconst G (v := 3) (by decide) d_B_timeout_104 ?_
            refine sr_icmp_ne G 126 d_B_timeout_105 rfl (fun h105 => ?_) (fun h105 => ?_)
            · skip
              refine sr_aload_n G rfl d_B_timeout_126 ?_
              refine sr_getN G (vv_9 hn (by omega)) rfl ku_Me rfl 6 (by decide) kf_B_168 rfl rfl d_B_timeout_127 ?_
              refine sr_iret G d_B_timeout_130 ?_
              unfold f_B_timeout
              rw [if_neg h5, if_pos h27, if_pos h38, if_pos h49, if_neg h96, if_neg h105]
              exact ⟨rfl, rfl⟩
            · skip
              refine sr_aload G rfl d_B_timeout_108 ?_
              refine sr_iconst G (v := 4) (by decide) d_B_timeout_110 ?_
              refine sr_aload_n G rfl d_B_timeout_111 ?_
              refine sr_get G (vv_0 hn) rfl ku_B rfl 0 (by decide) kf_B_11 rfl rfl d_B_timeout_112 ?_
              refine sr_aload_n G rfl d_B_timeout_115 ?_
              refine sr_getN G (vv_9 hn (by omega)) rfl ku_Me rfl 1 (by decide) kf_B_141 rfl rfl d_B_timeout_116 ?_
              refine sr_aald G (vv_10 hn) rfl rfl (by assumption) d_B_timeout_119 ?_
              refine sr_getN G (vv_1 hn (by omega)) rfl ku_Le rfl 2 (by decide) kf_B_37 rfl rfl d_B_timeout_120 ?_
              refine sr_cvNv G (vv_6 hn (by omega)) rfl rfl ki_En_comeTo kx_En_comeTo (c_En_comeTo hn (by first | assumption | omega | decide | (unfold vp_in; decide))) kc_En_comeTo km_B_98 kn_En yy_En_comeTo rfl ⟨rfl, rfl, by decide, by decide⟩ (Nat.le_of_ble_eq_true rfl) rfl d_B_timeout_123 ?_
              refine sr_aload_n G rfl d_B_timeout_126 ?_
              refine sr_getN G (vv_9 hn (by omega)) rfl ku_Me rfl 6 (by decide) kf_B_168 rfl rfl d_B_timeout_127 ?_
              refine sr_iret G d_B_timeout_130 ?_
              unfold f_B_timeout
              rw [if_neg h5, if_pos h27, if_pos h38, if_pos h49, if_neg h96, if_pos h105]
              exact ⟨rfl, rfl⟩
        · skip
          refine sr_bipush G (v := (-7)) (by decide) d_B_timeout_52 ?_
          refine sr_iret G d_B_timeout_54 ?_
          unfold f_B_timeout
          rw [if_neg h5, if_pos h27, if_pos h38, if_neg h49]
          exact ⟨rfl, rfl⟩
      · skip
        refine sr_bipush G (v := (-6)) (by decide) d_B_timeout_41 ?_
        refine sr_iret G d_B_timeout_43 ?_
        unfold f_B_timeout
        rw [if_neg h5, if_pos h27, if_neg h38]
        exact ⟨rfl, rfl⟩
    · skip
      refine sr_iload G rfl d_B_timeout_30 ?_
      refine sr_iret G d_B_timeout_32 ?_
      unfold f_B_timeout
      rw [if_neg h5, if_neg h27]
      exact ⟨rfl, rfl⟩
  · skip
    refine sr_iconst G (v := (-1)) (by decide) d_B_timeout_8 ?_
    refine sr_iret G d_B_timeout_9 ?_
    unfold f_B_timeout
    rw [if_pos h5]
    exact ⟨rfl, rfl⟩
def f_B_end (M : Mem) (x1 : Int32) (x2 : Int32) (x3 : Int32) : Int32 := (if (f_B_isChannel M x1) = 0 then (-1) else (if (f_B_isSide x2) = 0 then (-1) else (if x3 = 0 then (M 6 (2 * (Int32.toNatClampNeg x1) + Int32.toNatClampNeg x2) 2) else (if x3 = 1 then (M 6 (2 * (Int32.toNatClampNeg x1) + Int32.toNatClampNeg x2) 3) else (if x3 = 2 then (M 6 (2 * (Int32.toNatClampNeg x1) + Int32.toNatClampNeg x2) 4) else (if x3 = 3 then (M 6 (2 * (Int32.toNatClampNeg x1) + Int32.toNatClampNeg x2) 5) else (if x3 = 4 then (M 6 (2 * (Int32.toNatClampNeg x1) + Int32.toNatClampNeg x2) 6) else (if x3 = 5 then (M 6 (2 * (Int32.toNatClampNeg x1) + Int32.toNatClampNeg x2) 7) else (if x3 = 6 then (f_B_oneIf (M 5 (Int32.toNatClampNeg x1) 1)) else (-2))))))))))
set_option maxHeartbeats 4000000 in
set_option maxRecDepth 100000 in
theorem c_B_end {l : Launch} {D : va_G} {t6 : Nat → ClassId} {b n : Nat} (hn : 104 ≤ n) {M : Mem} {x1 : Int32} {x2 : Int32} {x3 : Int32} (hI : ci_ M) : CI l D t6 b n y_B_end cd_B_end 5 .int (rk 2 43) [.ref (ad b 0 0), .int x1, .int x2, .int x3] M (f_B_end M x1 x2 x3) M := by
  refine en_i (by decide) (by simp [Value.category]) (Nat.le_of_ble_eq_true rfl) (fun p e s m below meth c G => ?_)
  refine sr_aload_n G rfl d_B_end_0 ?_
  refine sr_iload_n G rfl d_B_end_1 ?_
  refine sr_cvi G (vv_0 hn) rfl rfl ki_B_isChannel kx_B_isChannel (c_B_isChannel hn) kc_B_isChannel km_B_101 kn_B yy_B_isChannel rfl ⟨rfl, rfl, by decide, by decide⟩ (Nat.le_of_ble_eq_true rfl) rfl d_B_end_2 ?_
  refine sr_if_eq G 15 d_B_end_5 rfl (fun h5 => ?_) (fun h5 => ?_)
  · skip
    refine sr_iconst G (v := (-1)) (by decide) d_B_end_15 ?_
    refine sr_iret G d_B_end_16 ?_
    unfold f_B_end
    rw [if_pos h5]
    exact ⟨rfl, rfl⟩
  · skip
    have v5 : vp_in x1 4 := in_ch hI h5
    have i5 := ix_lt v5
    have f5 := hI.2.2.1 _ i5
    have f5a := ix_lt f5
    have f5b := in_1 f5
    have f5c := ix_lt f5b
    have f5d := in_1 f5b
    have f5e := ix_lt f5d
    refine sr_iload_n G rfl d_B_end_8 ?_
    refine sr_csi G ks_B_isSide (c_B_isSide) kc_B_isSide km_B_33 kn_B yy_B_isSide rfl ⟨rfl, rfl, by decide, by decide⟩ (Nat.le_of_ble_eq_true rfl) rfl d_B_end_9 ?_
    refine sr_if_ne G 17 d_B_end_12 rfl (fun h12 => ?_) (fun h12 => ?_)
    · skip
      have v12 : vp_in x2 2 := in_wi (lo := 0) (hi := 1) (by decide) (by decide) h12
      have i12 := ix_lt v12
      have w12 := in_1 v12
      have j12 := ix_lt w12
      refine sr_aload_n G rfl d_B_end_17 ?_
      refine sr_get G (vv_0 hn) rfl ku_B rfl 1 (by decide) kf_B_17 rfl rfl d_B_end_18 ?_
      refine sr_iload_n G rfl d_B_end_21 ?_
      refine sr_aald G (vv_11 hn) rfl rfl (by assumption) d_B_end_22 ?_
      refine sr_getN G (vv_5 hn (by omega)) rfl ku_Ch rfl 0 (by decide) kf_B_89 rfl rfl d_B_end_23 ?_
      refine sr_iload_n G rfl d_B_end_26 ?_
      refine sr_aald G (vv_13 hn (by omega)) rfl rfl (by assumption) d_B_end_27 ?_
      refine sr_astore G (by decide) d_B_end_28 ?_
      refine sr_iload_n G rfl d_B_end_30 ?_
      by_cases h31_0 : x3 = 0
      · skip
        refine sr_tabIn G 72 d_B_end_31 (by rw [h31_0]; decide) (by rw [h31_0]; decide) (by rw [h31_0]; rfl) rfl ?_
        refine sr_aload G rfl d_B_end_72 ?_
        refine sr_getN G (vv_6 hn (by omega)) rfl ku_En rfl 2 (by decide) kf_B_114 rfl rfl d_B_end_74 ?_
        refine sr_iret G d_B_end_77 ?_
        unfold f_B_end
        rw [if_neg h5, if_neg h12, if_pos h31_0]
        exact ⟨rfl, rfl⟩
      · skip
        by_cases h31_1 : x3 = 1
        · skip
          refine sr_tabIn G 78 d_B_end_31 (by rw [h31_1]; decide) (by rw [h31_1]; decide) (by rw [h31_1]; rfl) rfl ?_
          refine sr_aload G rfl d_B_end_78 ?_
          refine sr_getN G (vv_6 hn (by omega)) rfl ku_En rfl 3 (by decide) kf_B_93 rfl rfl d_B_end_80 ?_
          refine sr_iret G d_B_end_83 ?_
          unfold f_B_end
          rw [if_neg h5, if_neg h12, if_neg h31_0, if_pos h31_1]
          exact ⟨rfl, rfl⟩
        · skip
          by_cases h31_2 : x3 = 2
          · skip
            refine sr_tabIn G 84 d_B_end_31 (by rw [h31_2]; decide) (by rw [h31_2]; decide) (by rw [h31_2]; rfl) rfl ?_
            refine sr_aload G rfl d_B_end_84 ?_
            refine sr_getN G (vv_6 hn (by omega)) rfl ku_En rfl 4 (by decide) kf_B_111 rfl rfl d_B_end_86 ?_
            refine sr_iret G d_B_end_89 ?_
            unfold f_B_end
            rw [if_neg h5, if_neg h12, if_neg h31_0, if_neg h31_1, if_pos h31_2]
            exact ⟨rfl, rfl⟩
          · skip
            by_cases h31_3 : x3 = 3
            · skip
              refine sr_tabIn G 90 d_B_end_31 (by rw [h31_3]; decide) (by rw [h31_3]; decide) (by rw [h31_3]; rfl) rfl ?_
              refine sr_aload G rfl d_B_end_90 ?_
              refine sr_getN G (vv_6 hn (by omega)) rfl ku_En rfl 5 (by decide) kf_B_197 rfl rfl d_B_end_92 ?_
              refine sr_iret G d_B_end_95 ?_
              unfold f_B_end
              rw [if_neg h5, if_neg h12, if_neg h31_0, if_neg h31_1, if_neg h31_2, if_pos h31_3]
              exact ⟨rfl, rfl⟩
            · skip
              by_cases h31_4 : x3 = 4
              · skip
                refine sr_tabIn G 96 d_B_end_31 (by rw [h31_4]; decide) (by rw [h31_4]; decide) (by rw [h31_4]; rfl) rfl ?_
                refine sr_aload G rfl d_B_end_96 ?_
                refine sr_getN G (vv_6 hn (by omega)) rfl ku_En rfl 6 (by decide) kf_B_200 rfl rfl d_B_end_98 ?_
                refine sr_iret G d_B_end_101 ?_
                unfold f_B_end
                rw [if_neg h5, if_neg h12, if_neg h31_0, if_neg h31_1, if_neg h31_2, if_neg h31_3, if_pos h31_4]
                exact ⟨rfl, rfl⟩
              · skip
                by_cases h31_5 : x3 = 5
                · skip
                  refine sr_tabIn G 102 d_B_end_31 (by rw [h31_5]; decide) (by rw [h31_5]; decide) (by rw [h31_5]; rfl) rfl ?_
                  refine sr_aload G rfl d_B_end_102 ?_
                  refine sr_getN G (vv_6 hn (by omega)) rfl ku_En rfl 7 (by decide) kf_B_174 rfl rfl d_B_end_104 ?_
                  refine sr_iret G d_B_end_107 ?_
                  unfold f_B_end
                  rw [if_neg h5, if_neg h12, if_neg h31_0, if_neg h31_1, if_neg h31_2, if_neg h31_3, if_neg h31_4, if_pos h31_5]
                  exact ⟨rfl, rfl⟩
                · skip
                  by_cases h31_6 : x3 = 6
                  · skip
                    refine sr_tabIn G 108 d_B_end_31 (by rw [h31_6]; decide) (by rw [h31_6]; decide) (by rw [h31_6]; rfl) rfl ?_
                    refine sr_aload_n G rfl d_B_end_108 ?_
                    refine sr_get G (vv_0 hn) rfl ku_B rfl 1 (by decide) kf_B_17 rfl rfl d_B_end_109 ?_
                    refine sr_iload_n G rfl d_B_end_112 ?_
                    refine sr_aald G (vv_11 hn) rfl rfl (by assumption) d_B_end_113 ?_
                    refine sr_getN G (vv_5 hn (by omega)) rfl ku_Ch rfl 1 (by decide) kf_B_86 rfl rfl d_B_end_114 ?_
                    refine sr_csi G ks_B_oneIf (c_B_oneIf) kc_B_oneIf km_B_73 kn_B yy_B_oneIf rfl ⟨rfl, rfl, by decide, by decide⟩ (Nat.le_of_ble_eq_true rfl) rfl d_B_end_117 ?_
                    refine sr_iret G d_B_end_120 ?_
                    unfold f_B_end
                    rw [if_neg h5, if_neg h12, if_neg h31_0, if_neg h31_1, if_neg h31_2, if_neg h31_3, if_neg h31_4, if_neg h31_5, if_pos h31_6]
                    exact ⟨rfl, rfl⟩
                  · skip
                    refine sr_tabOut G 121 d_B_end_31 (by have := lv_neT h31_0 (show (0 : Int32).toInt = 0 by decide); have := lv_neT h31_1 (show (1 : Int32).toInt = 1 by decide); have := lv_neT h31_2 (show (2 : Int32).toInt = 2 by decide); have := lv_neT h31_3 (show (3 : Int32).toInt = 3 by decide); have := lv_neT h31_4 (show (4 : Int32).toInt = 4 by decide); have := lv_neT h31_5 (show (5 : Int32).toInt = 5 by decide); have := lv_neT h31_6 (show (6 : Int32).toInt = 6 by decide); omega) rfl ?_
                    refine sr_bipush G (v := (-2)) (by decide) d_B_end_121 ?_
                    refine sr_iret G d_B_end_123 ?_
                    unfold f_B_end
                    rw [if_neg h5, if_neg h12, if_neg h31_0, if_neg h31_1, if_neg h31_2, if_neg h31_3, if_neg h31_4, if_neg h31_5, if_neg h31_6]
                    exact ⟨rfl, rfl⟩
    · skip
      refine sr_iconst G (v := (-1)) (by decide) d_B_end_15 ?_
      refine sr_iret G d_B_end_16 ?_
      unfold f_B_end
      rw [if_neg h5, if_pos h12]
      exact ⟨rfl, rfl⟩
def f_B_stepAt (M : Mem) (x1 : Int32) (x2 : Int32) (x3 : Int32) : Int32 := (if (f_B_isChannel M x1) = 0 then (-1) else (if (f_B_isSide x2) = 0 then (-1) else (if (f_B_isWithin x3 0 (M 1 (Int32.toNatClampNeg x2) 2)) = 0 then (-2) else (f_En_stepIn M (2 * (Int32.toNatClampNeg x1) + Int32.toNatClampNeg x2) x3))))
set_option maxHeartbeats 4000000 in
set_option maxRecDepth 100000 in
theorem c_B_stepAt {l : Launch} {D : va_G} {t6 : Nat → ClassId} {b n : Nat} (hn : 104 ≤ n) {M : Mem} {x1 : Int32} {x2 : Int32} {x3 : Int32} (hI : ci_ M) : CI l D t6 b n y_B_stepAt cd_B_stepAt 4 .int (rk 2 43) [.ref (ad b 0 0), .int x1, .int x2, .int x3] M (f_B_stepAt M x1 x2 x3) M := by
  refine en_i (by decide) (by simp [Value.category]) (Nat.le_of_ble_eq_true rfl) (fun p e s m below meth c G => ?_)
  refine sr_aload_n G rfl d_B_stepAt_0 ?_
  refine sr_iload_n G rfl d_B_stepAt_1 ?_
  refine sr_cvi G (vv_0 hn) rfl rfl ki_B_isChannel kx_B_isChannel (c_B_isChannel hn) kc_B_isChannel km_B_101 kn_B yy_B_isChannel rfl ⟨rfl, rfl, by decide, by decide⟩ (Nat.le_of_ble_eq_true rfl) rfl d_B_stepAt_2 ?_
  refine sr_if_eq G 15 d_B_stepAt_5 rfl (fun h5 => ?_) (fun h5 => ?_)
  · skip
    refine sr_iconst G (v := (-1)) (by decide) d_B_stepAt_15 ?_
    refine sr_iret G d_B_stepAt_16 ?_
    unfold f_B_stepAt
    rw [if_pos h5]
    exact ⟨rfl, rfl⟩
  · skip
    have v5 : vp_in x1 4 := in_ch hI h5
    have i5 := ix_lt v5
    have f5 := hI.2.2.1 _ i5
    have f5a := ix_lt f5
    have f5b := in_1 f5
    have f5c := ix_lt f5b
    have f5d := in_1 f5b
    have f5e := ix_lt f5d
    refine sr_iload_n G rfl d_B_stepAt_8 ?_
    refine sr_csi G ks_B_isSide (c_B_isSide) kc_B_isSide km_B_33 kn_B yy_B_isSide rfl ⟨rfl, rfl, by decide, by decide⟩ (Nat.le_of_ble_eq_true rfl) rfl d_B_stepAt_9 ?_
    refine sr_if_ne G 17 d_B_stepAt_12 rfl (fun h12 => ?_) (fun h12 => ?_)
    · skip
      have v12 : vp_in x2 2 := in_wi (lo := 0) (hi := 1) (by decide) (by decide) h12
      have i12 := ix_lt v12
      have w12 := in_1 v12
      have j12 := ix_lt w12
      refine sr_iload_n G rfl d_B_stepAt_17 ?_
      refine sr_iconst G (v := 0) (by decide) d_B_stepAt_18 ?_
      refine sr_aload_n G rfl d_B_stepAt_19 ?_
      refine sr_get G (vv_0 hn) rfl ku_B rfl 0 (by decide) kf_B_11 rfl rfl d_B_stepAt_20 ?_
      refine sr_iload_n G rfl d_B_stepAt_23 ?_
      refine sr_aald G (vv_10 hn) rfl rfl (by assumption) d_B_stepAt_24 ?_
      refine sr_getN G (vv_1 hn (by omega)) rfl ku_Le rfl 2 (by decide) kf_B_37 rfl rfl d_B_stepAt_25 ?_
      refine sr_csi G ks_B_isWithin (c_B_isWithin) kc_B_isWithin km_B_41 kn_B yy_B_isWithin rfl ⟨rfl, rfl, by decide, by decide⟩ (Nat.le_of_ble_eq_true rfl) rfl d_B_stepAt_28 ?_
      refine sr_if_ne G 37 d_B_stepAt_31 rfl (fun h31 => ?_) (fun h31 => ?_)
      · skip
        refine sr_aload_n G rfl d_B_stepAt_37 ?_
        refine sr_get G (vv_0 hn) rfl ku_B rfl 1 (by decide) kf_B_17 rfl rfl d_B_stepAt_38 ?_
        refine sr_iload_n G rfl d_B_stepAt_41 ?_
        refine sr_aald G (vv_11 hn) rfl rfl (by assumption) d_B_stepAt_42 ?_
        refine sr_getN G (vv_5 hn (by omega)) rfl ku_Ch rfl 0 (by decide) kf_B_89 rfl rfl d_B_stepAt_43 ?_
        refine sr_iload_n G rfl d_B_stepAt_46 ?_
        refine sr_aald G (vv_13 hn (by omega)) rfl rfl (by assumption) d_B_stepAt_47 ?_
        refine sr_iload_n G rfl d_B_stepAt_48 ?_
        refine sr_cvNi G (vv_6 hn (by omega)) rfl rfl ki_En_stepIn kx_En_stepIn (c_En_stepIn hn (by first | assumption | omega | decide | (unfold vp_in; decide))) kc_En_stepIn km_B_203 kn_En yy_En_stepIn rfl ⟨rfl, rfl, by decide, by decide⟩ (Nat.le_of_ble_eq_true rfl) rfl d_B_stepAt_49 ?_
        refine sr_iret G d_B_stepAt_52 ?_
        unfold f_B_stepAt
        rw [if_neg h5, if_neg h12, if_neg h31]
        exact ⟨rfl, rfl⟩
      · skip
        refine sr_bipush G (v := (-2)) (by decide) d_B_stepAt_34 ?_
        refine sr_iret G d_B_stepAt_36 ?_
        unfold f_B_stepAt
        rw [if_neg h5, if_neg h12, if_pos h31]
        exact ⟨rfl, rfl⟩
    · skip
      refine sr_iconst G (v := (-1)) (by decide) d_B_stepAt_15 ?_
      refine sr_iret G d_B_stepAt_16 ?_
      unfold f_B_stepAt
      rw [if_neg h5, if_pos h12]
      exact ⟨rfl, rfl⟩
def f_B_message (M : Mem) (x1 : Int32) (x2 : Int32) : Int32 := (if (f_B_isMessage M x1) = 0 then (-1) else (if x2 = 0 then (M 9 (Int32.toNatClampNeg x1) 0) else (if x2 = 1 then (M 9 (Int32.toNatClampNeg x1) 1) else (if x2 = 2 then (M 9 (Int32.toNatClampNeg x1) 2) else (if x2 = 3 then (M 9 (Int32.toNatClampNeg x1) 6) else (if x2 = 4 then (M 9 (Int32.toNatClampNeg x1) 5) else (if x2 = 5 then (M 9 (Int32.toNatClampNeg x1) 3) else (if x2 = 6 then (M 9 (Int32.toNatClampNeg x1) 4) else (if x2 = 7 then (M 9 (Int32.toNatClampNeg x1) 7) else (if x2 = 8 then (f_B_oneIf (M 9 (Int32.toNatClampNeg x1) 8)) else (if x2 = 9 then (M 9 (Int32.toNatClampNeg x1) 10) else (if x2 = 10 then (f_B_oneIf (M 9 (Int32.toNatClampNeg x1) 9)) else (-2)))))))))))))
set_option maxHeartbeats 4000000 in
set_option maxRecDepth 100000 in
theorem c_B_message {l : Launch} {D : va_G} {t6 : Nat → ClassId} {b n : Nat} (hn : 104 ≤ n) {M : Mem} {x1 : Int32} {x2 : Int32} (hI : ci_ M) : CI l D t6 b n y_B_message cd_B_message 4 .int (rk 2 43) [.ref (ad b 0 0), .int x1, .int x2] M (f_B_message M x1 x2) M := by
  refine en_i (by decide) (by simp [Value.category]) (Nat.le_of_ble_eq_true rfl) (fun p e s m below meth c G => ?_)
  refine sr_aload_n G rfl d_B_message_0 ?_
  refine sr_iload_n G rfl d_B_message_1 ?_
  refine sr_cvi G (vv_0 hn) rfl rfl ki_B_isMessage kx_B_isMessage (c_B_isMessage hn) kc_B_isMessage km_B_138 kn_B yy_B_isMessage rfl ⟨rfl, rfl, by decide, by decide⟩ (Nat.le_of_ble_eq_true rfl) rfl d_B_message_2 ?_
  refine sr_if_ne G 10 d_B_message_5 rfl (fun h5 => ?_) (fun h5 => ?_)
  · skip
    have v5 : vp_in x1 60 := in_ms hI h5
    have i5 := ix_lt v5
    obtain ⟨k5a, k5b, k5c⟩ := ci_mg hI i5
    have k5d := ix_lt k5a
    have k5e := ix_lt k5b
    have k5f := ix_lt k5c
    have k5g := in_1 k5b
    have k5h := ix_lt k5g
    refine sr_aload_n G rfl d_B_message_10 ?_
    refine sr_get G (vv_0 hn) rfl ku_B rfl 2 (by decide) kf_B_23 rfl rfl d_B_message_11 ?_
    refine sr_iload_n G rfl d_B_message_14 ?_
    refine sr_aald G (vv_12 hn) rfl rfl (by assumption) d_B_message_15 ?_
    refine sr_astore_n G (by decide) d_B_message_16 ?_
    refine sr_iload_n G rfl d_B_message_17 ?_
    by_cases h18_0 : x2 = 0
    · skip
      refine sr_tabIn G 76 d_B_message_18 (by rw [h18_0]; decide) (by rw [h18_0]; decide) (by rw [h18_0]; rfl) rfl ?_
      refine sr_aload_n G rfl d_B_message_76 ?_
      refine sr_getN G (vv_9 hn (by omega)) rfl ku_Me rfl 0 (by decide) kf_B_144 rfl rfl d_B_message_77 ?_
      refine sr_iret G d_B_message_80 ?_
      unfold f_B_message
      rw [if_neg h5, if_pos h18_0]
      exact ⟨rfl, rfl⟩
    · skip
      by_cases h18_1 : x2 = 1
      · skip
        refine sr_tabIn G 81 d_B_message_18 (by rw [h18_1]; decide) (by rw [h18_1]; decide) (by rw [h18_1]; rfl) rfl ?_
        refine sr_aload_n G rfl d_B_message_81 ?_
        refine sr_getN G (vv_9 hn (by omega)) rfl ku_Me rfl 1 (by decide) kf_B_141 rfl rfl d_B_message_82 ?_
        refine sr_iret G d_B_message_85 ?_
        unfold f_B_message
        rw [if_neg h5, if_neg h18_0, if_pos h18_1]
        exact ⟨rfl, rfl⟩
      · skip
        by_cases h18_2 : x2 = 2
        · skip
          refine sr_tabIn G 86 d_B_message_18 (by rw [h18_2]; decide) (by rw [h18_2]; decide) (by rw [h18_2]; rfl) rfl ?_
          refine sr_aload_n G rfl d_B_message_86 ?_
          refine sr_getN G (vv_9 hn (by omega)) rfl ku_Me rfl 2 (by decide) kf_B_206 rfl rfl d_B_message_87 ?_
          refine sr_iret G d_B_message_90 ?_
          unfold f_B_message
          rw [if_neg h5, if_neg h18_0, if_neg h18_1, if_pos h18_2]
          exact ⟨rfl, rfl⟩
        · skip
          by_cases h18_3 : x2 = 3
          · skip
            refine sr_tabIn G 91 d_B_message_18 (by rw [h18_3]; decide) (by rw [h18_3]; decide) (by rw [h18_3]; rfl) rfl ?_
            refine sr_aload_n G rfl d_B_message_91 ?_
            refine sr_getN G (vv_9 hn (by omega)) rfl ku_Me rfl 6 (by decide) kf_B_168 rfl rfl d_B_message_92 ?_
            refine sr_iret G d_B_message_95 ?_
            unfold f_B_message
            rw [if_neg h5, if_neg h18_0, if_neg h18_1, if_neg h18_2, if_pos h18_3]
            exact ⟨rfl, rfl⟩
          · skip
            by_cases h18_4 : x2 = 4
            · skip
              refine sr_tabIn G 96 d_B_message_18 (by rw [h18_4]; decide) (by rw [h18_4]; decide) (by rw [h18_4]; rfl) rfl ?_
              refine sr_aload_n G rfl d_B_message_96 ?_
              refine sr_getN G (vv_9 hn (by omega)) rfl ku_Me rfl 5 (by decide) kf_B_165 rfl rfl d_B_message_97 ?_
              refine sr_iret G d_B_message_100 ?_
              unfold f_B_message
              rw [if_neg h5, if_neg h18_0, if_neg h18_1, if_neg h18_2, if_neg h18_3, if_pos h18_4]
              exact ⟨rfl, rfl⟩
            · skip
              by_cases h18_5 : x2 = 5
              · skip
                refine sr_tabIn G 101 d_B_message_18 (by rw [h18_5]; decide) (by rw [h18_5]; decide) (by rw [h18_5]; rfl) rfl ?_
                refine sr_aload_n G rfl d_B_message_101 ?_
                refine sr_getN G (vv_9 hn (by omega)) rfl ku_Me rfl 3 (by decide) kf_B_209 rfl rfl d_B_message_102 ?_
                refine sr_iret G d_B_message_105 ?_
                unfold f_B_message
                rw [if_neg h5, if_neg h18_0, if_neg h18_1, if_neg h18_2, if_neg h18_3, if_neg h18_4, if_pos h18_5]
                exact ⟨rfl, rfl⟩
              · skip
                by_cases h18_6 : x2 = 6
                · skip
                  refine sr_tabIn G 106 d_B_message_18 (by rw [h18_6]; decide) (by rw [h18_6]; decide) (by rw [h18_6]; rfl) rfl ?_
                  refine sr_aload_n G rfl d_B_message_106 ?_
                  refine sr_getN G (vv_9 hn (by omega)) rfl ku_Me rfl 4 (by decide) kf_B_162 rfl rfl d_B_message_107 ?_
                  refine sr_iret G d_B_message_110 ?_
                  unfold f_B_message
                  rw [if_neg h5, if_neg h18_0, if_neg h18_1, if_neg h18_2, if_neg h18_3, if_neg h18_4, if_neg h18_5, if_pos h18_6]
                  exact ⟨rfl, rfl⟩
                · skip
                  by_cases h18_7 : x2 = 7
                  · skip
                    refine sr_tabIn G 111 d_B_message_18 (by rw [h18_7]; decide) (by rw [h18_7]; decide) (by rw [h18_7]; rfl) rfl ?_
                    refine sr_aload_n G rfl d_B_message_111 ?_
                    refine sr_getN G (vv_9 hn (by omega)) rfl ku_Me rfl 7 (by decide) kf_B_156 rfl rfl d_B_message_112 ?_
                    refine sr_iret G d_B_message_115 ?_
                    unfold f_B_message
                    rw [if_neg h5, if_neg h18_0, if_neg h18_1, if_neg h18_2, if_neg h18_3, if_neg h18_4, if_neg h18_5, if_neg h18_6, if_pos h18_7]
                    exact ⟨rfl, rfl⟩
                  · skip
                    by_cases h18_8 : x2 = 8
                    · skip
                      refine sr_tabIn G 116 d_B_message_18 (by rw [h18_8]; decide) (by rw [h18_8]; decide) (by rw [h18_8]; rfl) rfl ?_
                      refine sr_aload_n G rfl d_B_message_116 ?_
                      refine sr_getN G (vv_9 hn (by omega)) rfl ku_Me rfl 8 (by decide) kf_B_212 rfl rfl d_B_message_117 ?_
                      refine sr_csi G ks_B_oneIf (c_B_oneIf) kc_B_oneIf km_B_73 kn_B yy_B_oneIf rfl ⟨rfl, rfl, by decide, by decide⟩ (Nat.le_of_ble_eq_true rfl) rfl d_B_message_120 ?_
                      refine sr_iret G d_B_message_123 ?_
                      unfold f_B_message
                      rw [if_neg h5, if_neg h18_0, if_neg h18_1, if_neg h18_2, if_neg h18_3, if_neg h18_4, if_neg h18_5, if_neg h18_6, if_neg h18_7, if_pos h18_8]
                      exact ⟨rfl, rfl⟩
                    · skip
                      by_cases h18_9 : x2 = 9
                      · skip
                        refine sr_tabIn G 124 d_B_message_18 (by rw [h18_9]; decide) (by rw [h18_9]; decide) (by rw [h18_9]; rfl) rfl ?_
                        refine sr_aload_n G rfl d_B_message_124 ?_
                        refine sr_getN G (vv_9 hn (by omega)) rfl ku_Me rfl 10 (by decide) kf_B_147 rfl rfl d_B_message_125 ?_
                        refine sr_iret G d_B_message_128 ?_
                        unfold f_B_message
                        rw [if_neg h5, if_neg h18_0, if_neg h18_1, if_neg h18_2, if_neg h18_3, if_neg h18_4, if_neg h18_5, if_neg h18_6, if_neg h18_7, if_neg h18_8, if_pos h18_9]
                        exact ⟨rfl, rfl⟩
                      · skip
                        by_cases h18_10 : x2 = 10
                        · skip
                          refine sr_tabIn G 129 d_B_message_18 (by rw [h18_10]; decide) (by rw [h18_10]; decide) (by rw [h18_10]; rfl) rfl ?_
                          refine sr_aload_n G rfl d_B_message_129 ?_
                          refine sr_getN G (vv_9 hn (by omega)) rfl ku_Me rfl 9 (by decide) kf_B_215 rfl rfl d_B_message_130 ?_
                          refine sr_csi G ks_B_oneIf (c_B_oneIf) kc_B_oneIf km_B_73 kn_B yy_B_oneIf rfl ⟨rfl, rfl, by decide, by decide⟩ (Nat.le_of_ble_eq_true rfl) rfl d_B_message_133 ?_
                          refine sr_iret G d_B_message_136 ?_
                          unfold f_B_message
                          rw [if_neg h5, if_neg h18_0, if_neg h18_1, if_neg h18_2, if_neg h18_3, if_neg h18_4, if_neg h18_5, if_neg h18_6, if_neg h18_7, if_neg h18_8, if_neg h18_9, if_pos h18_10]
                          exact ⟨rfl, rfl⟩
                        · skip
                          refine sr_tabOut G 137 d_B_message_18 (by have := lv_neT h18_0 (show (0 : Int32).toInt = 0 by decide); have := lv_neT h18_1 (show (1 : Int32).toInt = 1 by decide); have := lv_neT h18_2 (show (2 : Int32).toInt = 2 by decide); have := lv_neT h18_3 (show (3 : Int32).toInt = 3 by decide); have := lv_neT h18_4 (show (4 : Int32).toInt = 4 by decide); have := lv_neT h18_5 (show (5 : Int32).toInt = 5 by decide); have := lv_neT h18_6 (show (6 : Int32).toInt = 6 by decide); have := lv_neT h18_7 (show (7 : Int32).toInt = 7 by decide); have := lv_neT h18_8 (show (8 : Int32).toInt = 8 by decide); have := lv_neT h18_9 (show (9 : Int32).toInt = 9 by decide); have := lv_neT h18_10 (show (10 : Int32).toInt = 10 by decide); omega) rfl ?_
                          refine sr_bipush G (v := (-2)) (by decide) d_B_message_137 ?_
                          refine sr_iret G d_B_message_139 ?_
                          unfold f_B_message
                          rw [if_neg h5, if_neg h18_0, if_neg h18_1, if_neg h18_2, if_neg h18_3, if_neg h18_4, if_neg h18_5, if_neg h18_6, if_neg h18_7, if_neg h18_8, if_neg h18_9, if_neg h18_10]
                          exact ⟨rfl, rfl⟩
  · skip
    refine sr_iconst G (v := (-1)) (by decide) d_B_message_8 ?_
    refine sr_iret G d_B_message_9 ?_
    unfold f_B_message
    rw [if_pos h5]
    exact ⟨rfl, rfl⟩
def g_B_balance (M : Mem) (x1 : Int32) (x2 : Int32) (j : Nat) (ACC : Int32) : Int32 := (ACC + (M 8 (2 * (Int32.toNatClampNeg (nI j)) + Int32.toNatClampNeg x1) (Int32.toNatClampNeg x2)))
theorem eg_B_balance (M : Mem) (x1 : Int32) (x2 : Int32) (j : Nat) (ACC : Int32) : g_B_balance M x1 x2 j ACC = (ACC + (M 8 (2 * (Int32.toNatClampNeg (nI j)) + Int32.toNatClampNeg x1) (Int32.toNatClampNeg x2))) := rfl
def f_B_balance (M : Mem) (x1 : Int32) (x2 : Int32) (x3 : Int32) : Int32 := (if (f_B_isSide x1) = 0 then (-1) else (if (f_B_isAccount x2) = 0 then (-1) else (if (f_B_isCoin x3) = 0 then (-1) else (if x3 = x1 then (M 2 (Int32.toNatClampNeg x1) (Int32.toNatClampNeg x2)) else (fd_ (g_B_balance M x1 x2) 0 (Int32.toNatClampNeg (M 0 0 3)))))))
set_option maxHeartbeats 4000000 in
set_option maxRecDepth 100000 in
theorem c_B_balance {l : Launch} {D : va_G} {t6 : Nat → ClassId} {b n : Nat} (hn : 104 ≤ n) {M : Mem} {x1 : Int32} {x2 : Int32} {x3 : Int32} (hI : ci_ M) : CI l D t6 b n y_B_balance cd_B_balance 6 .int (rk 2 42) [.ref (ad b 0 0), .int x1, .int x2, .int x3] M (f_B_balance M x1 x2 x3) M := by
  refine en_i (by decide) (by simp [Value.category]) (Nat.le_of_ble_eq_true rfl) (fun p e s m below meth c G => ?_)
  refine sr_iload_n G rfl d_B_balance_0 ?_
  refine sr_csi G ks_B_isSide (c_B_isSide) kc_B_isSide km_B_33 kn_B yy_B_isSide rfl ⟨rfl, rfl, by decide, by decide⟩ (Nat.le_of_ble_eq_true rfl) rfl d_B_balance_1 ?_
  refine sr_if_eq G 21 d_B_balance_4 rfl (fun h4 => ?_) (fun h4 => ?_)
  · skip
    refine sr_iconst G (v := (-1)) (by decide) d_B_balance_21 ?_
    refine sr_iret G d_B_balance_22 ?_
    unfold f_B_balance
    rw [if_pos h4]
    exact ⟨rfl, rfl⟩
  · skip
    have v4 : vp_in x1 2 := in_wi (lo := 0) (hi := 1) (by decide) (by decide) h4
    have i4 := ix_lt v4
    have w4 := in_1 v4
    have j4 := ix_lt w4
    refine sr_iload_n G rfl d_B_balance_7 ?_
    refine sr_csi G ks_B_isAccount (c_B_isAccount) kc_B_isAccount km_B_117 kn_B yy_B_isAccount rfl ⟨rfl, rfl, by decide, by decide⟩ (Nat.le_of_ble_eq_true rfl) rfl d_B_balance_8 ?_
    refine sr_if_eq G 21 d_B_balance_11 rfl (fun h11 => ?_) (fun h11 => ?_)
    · skip
      refine sr_iconst G (v := (-1)) (by decide) d_B_balance_21 ?_
      refine sr_iret G d_B_balance_22 ?_
      unfold f_B_balance
      rw [if_neg h4, if_pos h11]
      exact ⟨rfl, rfl⟩
    · skip
      have v11 : vp_in x2 4 := in_wi (lo := 0) (hi := 3) (by decide) (by decide) h11
      have i11 := ix_lt v11
      refine sr_iload_n G rfl d_B_balance_14 ?_
      refine sr_csi G ks_B_isCoin (c_B_isCoin) kc_B_isCoin km_B_120 kn_B yy_B_isCoin rfl ⟨rfl, rfl, by decide, by decide⟩ (Nat.le_of_ble_eq_true rfl) rfl d_B_balance_15 ?_
      refine sr_if_ne G 23 d_B_balance_18 rfl (fun h18 => ?_) (fun h18 => ?_)
      · skip
        have v18 : vp_in x3 2 := in_wi (lo := 0) (hi := 1) (by decide) (by decide) h18
        have i18 := ix_lt v18
        have w18 := in_1 v18
        have j18 := ix_lt w18
        refine sr_iload_n G rfl d_B_balance_23 ?_
        refine sr_iload_n G rfl d_B_balance_24 ?_
        refine sr_icmp_ne G 40 d_B_balance_25 rfl (fun h25 => ?_) (fun h25 => ?_)
        · skip
          refine sr_iconst G (v := 0) (by decide) d_B_balance_40 ?_
          refine sr_istore G (by decide) d_B_balance_41 ?_
          refine sr_iconst G (v := (nI 0)) (by decide) d_B_balance_43 ?_
          refine sr_istore G (by decide) d_B_balance_44 ?_
          obtain ⟨eL, hL⟩ := ci_cl hI
          refine sr_loop (Int32.toNatClampNeg (M 0 0 3)) (fun j => M) (fun j => [some (.ref (ad b 0 0)), some (.int x1), some (.int x2), some (.int x3), some (.int (fd_ (g_B_balance M x1 x2) 0 j)), some (.int (nI j))]) (fun _ => True) 0 (Nat.zero_le _) trivial rfl rfl (fun j hj0 hj hi ih => ?_) (fun hi => ?_)
          · skip
            have ij : (nI j).toNatClampNeg = j := nI_clamp (by omega)
            refine sr_iload G rfl d_B_balance_46 ?_
            refine sr_aload_n G rfl d_B_balance_48 ?_
            refine sr_get G (vv_0 hn) rfl ku_B rfl 3 (by decide) kf_B_80 rfl rfl d_B_balance_49 ?_
            refine sr_icmp_ge G 83 d_B_balance_52 rfl (fun h => absurd h (by rw [eL]; exact nI_ge hj (by omega))) (fun _ => ?_)
            refine sr_iload G rfl d_B_balance_55 ?_
            refine sr_aload_n G rfl d_B_balance_57 ?_
            refine sr_get G (vv_0 hn) rfl ku_B rfl 1 (by decide) kf_B_17 rfl rfl d_B_balance_58 ?_
            refine sr_iload G rfl d_B_balance_61 ?_
            refine sr_aald G (vv_11 hn) rfl rfl (vp_in_nI (by omega) (by decide)) d_B_balance_63 ?_
            refine sr_getN G (vv_5 hn (by omega)) rfl ku_Ch rfl 0 (by decide) kf_B_89 rfl rfl d_B_balance_64 ?_
            refine sr_iload_n G rfl d_B_balance_67 ?_
            refine sr_aald G (vv_13 hn (by omega)) rfl rfl (by assumption) d_B_balance_68 ?_
            refine sr_getN G (vv_6 hn (by omega)) rfl ku_En rfl 1 (by decide) kf_B_222 rfl rfl d_B_balance_69 ?_
            refine sr_iload_n G rfl d_B_balance_72 ?_
            refine sr_iald G (vv_8 hn (by omega)) rfl (by assumption) d_B_balance_73 ?_
            refine sr_iadd G d_B_balance_74 ?_
            refine sr_istore G (by decide) d_B_balance_75 ?_
            refine sr_iinc G (v := nI (j + 1)) rfl (nI_1 j) (by decide) d_B_balance_77 ?_
            refine sr_goto G 46 d_B_balance_80 rfl ?_
            have e9 : fd_ (g_B_balance M x1 x2) 0 (j + 1) = ((fd_ (g_B_balance M x1 x2) 0 j) + (M 8 (2 * (Int32.toNatClampNeg (nI j)) + Int32.toNatClampNeg x1) (Int32.toNatClampNeg x2))) := by
              show g_B_balance M x1 x2 j (fd_ (g_B_balance M x1 x2) 0 j) = _
              rw [eg_B_balance]
            have ih9 := ih trivial
            try dsimp only at ih9
            rw [e9] at ih9
            exact ih9
          · skip
            refine sr_iload G rfl d_B_balance_46 ?_
            refine sr_aload_n G rfl d_B_balance_48 ?_
            refine sr_get G (vv_0 hn) rfl ku_B rfl 3 (by decide) kf_B_80 rfl rfl d_B_balance_49 ?_
            refine sr_icmp_ge G 83 d_B_balance_52 rfl (fun _ => ?_) (fun h => absurd (by rw [eL, nI_clamp (by omega)]; exact nI_le (Nat.le_refl _) (by omega)) h)
            refine sr_iload G rfl d_B_balance_83 ?_
            refine sr_iret G d_B_balance_85 ?_
            unfold f_B_balance
            rw [if_neg h4, if_neg h11, if_neg h18, if_neg h25]
            exact ⟨rfl, rfl⟩
        · skip
          refine sr_aload_n G rfl d_B_balance_28 ?_
          refine sr_get G (vv_0 hn) rfl ku_B rfl 0 (by decide) kf_B_11 rfl rfl d_B_balance_29 ?_
          refine sr_iload_n G rfl d_B_balance_32 ?_
          refine sr_aald G (vv_10 hn) rfl rfl (by assumption) d_B_balance_33 ?_
          refine sr_getN G (vv_1 hn (by omega)) rfl ku_Le rfl 0 (by decide) kf_B_218 rfl rfl d_B_balance_34 ?_
          refine sr_iload_n G rfl d_B_balance_37 ?_
          refine sr_iald G (vv_2 hn (by omega)) rfl (by assumption) d_B_balance_38 ?_
          refine sr_iret G d_B_balance_39 ?_
          unfold f_B_balance
          rw [if_neg h4, if_neg h11, if_neg h18, if_pos h25]
          exact ⟨rfl, rfl⟩
      · skip
        refine sr_iconst G (v := (-1)) (by decide) d_B_balance_21 ?_
        refine sr_iret G d_B_balance_22 ?_
        unfold f_B_balance
        rw [if_neg h4, if_neg h11, if_pos h18]
        exact ⟨rfl, rfl⟩
def f_B_vouchers (M : Mem) (x1 : Int32) (x2 : Int32) (x3 : Int32) : Int32 := (if (f_B_isChannel M x1) = 0 then (-1) else (if (f_B_isSide x2) = 0 then (-1) else (if (f_B_isAccount x3) = 0 then (-1) else (M 8 (2 * (Int32.toNatClampNeg x1) + Int32.toNatClampNeg x2) (Int32.toNatClampNeg x3)))))
set_option maxHeartbeats 4000000 in
set_option maxRecDepth 100000 in
theorem c_B_vouchers {l : Launch} {D : va_G} {t6 : Nat → ClassId} {b n : Nat} (hn : 104 ≤ n) {M : Mem} {x1 : Int32} {x2 : Int32} {x3 : Int32} (hI : ci_ M) : CI l D t6 b n y_B_vouchers cd_B_vouchers 4 .int (rk 2 43) [.ref (ad b 0 0), .int x1, .int x2, .int x3] M (f_B_vouchers M x1 x2 x3) M := by
  refine en_i (by decide) (by simp [Value.category]) (Nat.le_of_ble_eq_true rfl) (fun p e s m below meth c G => ?_)
  refine sr_aload_n G rfl d_B_vouchers_0 ?_
  refine sr_iload_n G rfl d_B_vouchers_1 ?_
  refine sr_cvi G (vv_0 hn) rfl rfl ki_B_isChannel kx_B_isChannel (c_B_isChannel hn) kc_B_isChannel km_B_101 kn_B yy_B_isChannel rfl ⟨rfl, rfl, by decide, by decide⟩ (Nat.le_of_ble_eq_true rfl) rfl d_B_vouchers_2 ?_
  refine sr_if_eq G 22 d_B_vouchers_5 rfl (fun h5 => ?_) (fun h5 => ?_)
  · skip
    refine sr_iconst G (v := (-1)) (by decide) d_B_vouchers_22 ?_
    refine sr_iret G d_B_vouchers_23 ?_
    unfold f_B_vouchers
    rw [if_pos h5]
    exact ⟨rfl, rfl⟩
  · skip
    have v5 : vp_in x1 4 := in_ch hI h5
    have i5 := ix_lt v5
    have f5 := hI.2.2.1 _ i5
    have f5a := ix_lt f5
    have f5b := in_1 f5
    have f5c := ix_lt f5b
    have f5d := in_1 f5b
    have f5e := ix_lt f5d
    refine sr_iload_n G rfl d_B_vouchers_8 ?_
    refine sr_csi G ks_B_isSide (c_B_isSide) kc_B_isSide km_B_33 kn_B yy_B_isSide rfl ⟨rfl, rfl, by decide, by decide⟩ (Nat.le_of_ble_eq_true rfl) rfl d_B_vouchers_9 ?_
    refine sr_if_eq G 22 d_B_vouchers_12 rfl (fun h12 => ?_) (fun h12 => ?_)
    · skip
      refine sr_iconst G (v := (-1)) (by decide) d_B_vouchers_22 ?_
      refine sr_iret G d_B_vouchers_23 ?_
      unfold f_B_vouchers
      rw [if_neg h5, if_pos h12]
      exact ⟨rfl, rfl⟩
    · skip
      have v12 : vp_in x2 2 := in_wi (lo := 0) (hi := 1) (by decide) (by decide) h12
      have i12 := ix_lt v12
      have w12 := in_1 v12
      have j12 := ix_lt w12
      refine sr_iload_n G rfl d_B_vouchers_15 ?_
      refine sr_csi G ks_B_isAccount (c_B_isAccount) kc_B_isAccount km_B_117 kn_B yy_B_isAccount rfl ⟨rfl, rfl, by decide, by decide⟩ (Nat.le_of_ble_eq_true rfl) rfl d_B_vouchers_16 ?_
      refine sr_if_ne G 24 d_B_vouchers_19 rfl (fun h19 => ?_) (fun h19 => ?_)
      · skip
        have v19 : vp_in x3 4 := in_wi (lo := 0) (hi := 3) (by decide) (by decide) h19
        have i19 := ix_lt v19
        refine sr_aload_n G rfl d_B_vouchers_24 ?_
        refine sr_get G (vv_0 hn) rfl ku_B rfl 1 (by decide) kf_B_17 rfl rfl d_B_vouchers_25 ?_
        refine sr_iload_n G rfl d_B_vouchers_28 ?_
        refine sr_aald G (vv_11 hn) rfl rfl (by assumption) d_B_vouchers_29 ?_
        refine sr_getN G (vv_5 hn (by omega)) rfl ku_Ch rfl 0 (by decide) kf_B_89 rfl rfl d_B_vouchers_30 ?_
        refine sr_iload_n G rfl d_B_vouchers_33 ?_
        refine sr_aald G (vv_13 hn (by omega)) rfl rfl (by assumption) d_B_vouchers_34 ?_
        refine sr_getN G (vv_6 hn (by omega)) rfl ku_En rfl 1 (by decide) kf_B_222 rfl rfl d_B_vouchers_35 ?_
        refine sr_iload_n G rfl d_B_vouchers_38 ?_
        refine sr_iald G (vv_8 hn (by omega)) rfl (by assumption) d_B_vouchers_39 ?_
        refine sr_iret G d_B_vouchers_40 ?_
        unfold f_B_vouchers
        rw [if_neg h5, if_neg h12, if_neg h19]
        exact ⟨rfl, rfl⟩
      · skip
        refine sr_iconst G (v := (-1)) (by decide) d_B_vouchers_22 ?_
        refine sr_iret G d_B_vouchers_23 ?_
        unfold f_B_vouchers
        rw [if_neg h5, if_neg h12, if_pos h19]
        exact ⟨rfl, rfl⟩
def f_B_sum (M : Mem) (x1 : Int32) (x2 : Int32) : Int32 := (if (f_B_isCoin x1) = 0 then (-1) else (if x2 = 0 then (f_B_total_2 M (Int32.toNatClampNeg x1)) else (if x2 = 1 then (f_B_allEscrows M x1) else (if x2 = 2 then (f_B_allVouchers M (1 - x1)) else (if x2 = 3 then (f_B_onTheWay M x1) else (-2))))))
set_option maxHeartbeats 4000000 in
set_option maxRecDepth 100000 in
theorem c_B_sum {l : Launch} {D : va_G} {t6 : Nat → ClassId} {b n : Nat} (hn : 104 ≤ n) {M : Mem} {x1 : Int32} {x2 : Int32} (hI : ci_ M) : CI l D t6 b n y_B_sum cd_B_sum 3 .int (rk 2 45) [.ref (ad b 0 0), .int x1, .int x2] M (f_B_sum M x1 x2) M := by
  refine en_i (by decide) (by simp [Value.category]) (Nat.le_of_ble_eq_true rfl) (fun p e s m below meth c G => ?_)
  refine sr_iload_n G rfl d_B_sum_0 ?_
  refine sr_csi G ks_B_isCoin (c_B_isCoin) kc_B_isCoin km_B_120 kn_B yy_B_isCoin rfl ⟨rfl, rfl, by decide, by decide⟩ (Nat.le_of_ble_eq_true rfl) rfl d_B_sum_1 ?_
  refine sr_if_ne G 9 d_B_sum_4 rfl (fun h4 => ?_) (fun h4 => ?_)
  · skip
    have v4 : vp_in x1 2 := in_wi (lo := 0) (hi := 1) (by decide) (by decide) h4
    have i4 := ix_lt v4
    have w4 := in_1 v4
    have j4 := ix_lt w4
    refine sr_iload_n G rfl d_B_sum_9 ?_
    by_cases h10_0 : x2 = 0
    · skip
      refine sr_tabIn G 40 d_B_sum_10 (by rw [h10_0]; decide) (by rw [h10_0]; decide) (by rw [h10_0]; rfl) rfl ?_
      refine sr_aload_n G rfl d_B_sum_40 ?_
      refine sr_get G (vv_0 hn) rfl ku_B rfl 0 (by decide) kf_B_11 rfl rfl d_B_sum_41 ?_
      refine sr_iload_n G rfl d_B_sum_44 ?_
      refine sr_aald G (vv_10 hn) rfl rfl (by assumption) d_B_sum_45 ?_
      refine sr_getN G (vv_1 hn (by omega)) rfl ku_Le rfl 0 (by decide) kf_B_218 rfl rfl d_B_sum_46 ?_
      refine sr_csi G ks_B_total (c_B_total_2 hn (by omega)) kc_B_total km_B_225 kn_B yy_B_total rfl ⟨rfl, rfl, by decide, by decide⟩ (Nat.le_of_ble_eq_true rfl) rfl d_B_sum_49 ?_
      refine sr_iret G d_B_sum_52 ?_
      unfold f_B_sum
      rw [if_neg h4, if_pos h10_0]
      exact ⟨rfl, rfl⟩
    · skip
      by_cases h10_1 : x2 = 1
      · skip
        refine sr_tabIn G 53 d_B_sum_10 (by rw [h10_1]; decide) (by rw [h10_1]; decide) (by rw [h10_1]; rfl) rfl ?_
        refine sr_aload_n G rfl d_B_sum_53 ?_
        refine sr_iload_n G rfl d_B_sum_54 ?_
        refine sr_cvi G (vv_0 hn) rfl rfl ki_B_allEscrows kx_B_allEscrows (c_B_allEscrows hn (by first | assumption | omega | decide | (unfold vp_in; decide)) (by first | assumption | omega | decide | (unfold vp_in; decide))) kc_B_allEscrows km_B_229 kn_B yy_B_allEscrows rfl ⟨rfl, rfl, by decide, by decide⟩ (Nat.le_of_ble_eq_true rfl) rfl d_B_sum_55 ?_
        refine sr_iret G d_B_sum_58 ?_
        unfold f_B_sum
        rw [if_neg h4, if_neg h10_0, if_pos h10_1]
        exact ⟨rfl, rfl⟩
      · skip
        by_cases h10_2 : x2 = 2
        · skip
          refine sr_tabIn G 59 d_B_sum_10 (by rw [h10_2]; decide) (by rw [h10_2]; decide) (by rw [h10_2]; rfl) rfl ?_
          refine sr_aload_n G rfl d_B_sum_59 ?_
          refine sr_iconst G (v := 1) (by decide) d_B_sum_60 ?_
          refine sr_iload_n G rfl d_B_sum_61 ?_
          refine sr_isub G d_B_sum_62 ?_
          refine sr_cvi G (vv_0 hn) rfl rfl ki_B_allVouchers kx_B_allVouchers (c_B_allVouchers hn (by first | assumption | omega | decide | (unfold vp_in; decide)) (by first | assumption | omega | decide | (unfold vp_in; decide))) kc_B_allVouchers km_B_232 kn_B yy_B_allVouchers rfl ⟨rfl, rfl, by decide, by decide⟩ (Nat.le_of_ble_eq_true rfl) rfl d_B_sum_63 ?_
          refine sr_iret G d_B_sum_66 ?_
          unfold f_B_sum
          rw [if_neg h4, if_neg h10_0, if_neg h10_1, if_pos h10_2]
          exact ⟨rfl, rfl⟩
        · skip
          by_cases h10_3 : x2 = 3
          · skip
            refine sr_tabIn G 67 d_B_sum_10 (by rw [h10_3]; decide) (by rw [h10_3]; decide) (by rw [h10_3]; rfl) rfl ?_
            refine sr_aload_n G rfl d_B_sum_67 ?_
            refine sr_iload_n G rfl d_B_sum_68 ?_
            refine sr_cvi G (vv_0 hn) rfl rfl ki_B_onTheWay kx_B_onTheWay (c_B_onTheWay hn (by first | assumption | omega | decide | (unfold vp_in; decide))) kc_B_onTheWay km_B_235 kn_B yy_B_onTheWay rfl ⟨rfl, rfl, by decide, by decide⟩ (Nat.le_of_ble_eq_true rfl) rfl d_B_sum_69 ?_
            refine sr_iret G d_B_sum_72 ?_
            unfold f_B_sum
            rw [if_neg h4, if_neg h10_0, if_neg h10_1, if_neg h10_2, if_pos h10_3]
            exact ⟨rfl, rfl⟩
          · skip
            refine sr_tabOut G 73 d_B_sum_10 (by have := lv_neT h10_0 (show (0 : Int32).toInt = 0 by decide); have := lv_neT h10_1 (show (1 : Int32).toInt = 1 by decide); have := lv_neT h10_2 (show (2 : Int32).toInt = 2 by decide); have := lv_neT h10_3 (show (3 : Int32).toInt = 3 by decide); omega) rfl ?_
            refine sr_bipush G (v := (-2)) (by decide) d_B_sum_73 ?_
            refine sr_iret G d_B_sum_75 ?_
            unfold f_B_sum
            rw [if_neg h4, if_neg h10_0, if_neg h10_1, if_neg h10_2, if_neg h10_3]
            exact ⟨rfl, rfl⟩
  · skip
    refine sr_iconst G (v := (-1)) (by decide) d_B_sum_7 ?_
    refine sr_iret G d_B_sum_8 ?_
    unfold f_B_sum
    rw [if_pos h4]
    exact ⟨rfl, rfl⟩
def f_B_count (M : Mem) (x1 : Int32) : Int32 := (if x1 = 0 then (M 1 (Int32.toNatClampNeg 0) 2) else (if x1 = 1 then (M 1 (Int32.toNatClampNeg 1) 2) else (if x1 = 2 then (M 0 0 3) else (if x1 = 3 then (M 0 0 4) else (if x1 = 4 then (f_B_howManyStand M) else (-2))))))
set_option maxHeartbeats 4000000 in
set_option maxRecDepth 100000 in
theorem c_B_count {l : Launch} {D : va_G} {t6 : Nat → ClassId} {b n : Nat} (hn : 104 ≤ n) {M : Mem} {x1 : Int32} (hI : ci_ M) : CI l D t6 b n y_B_count cd_B_count 2 .int (rk 2 42) [.ref (ad b 0 0), .int x1] M (f_B_count M x1) M := by
  refine en_i (by decide) (by simp [Value.category]) (Nat.le_of_ble_eq_true rfl) (fun p e s m below meth c G => ?_)
  refine sr_iload_n G rfl d_B_count_0 ?_
  by_cases h1_0 : x1 = 0
  · skip
    refine sr_tabIn G 36 d_B_count_1 (by rw [h1_0]; decide) (by rw [h1_0]; decide) (by rw [h1_0]; rfl) rfl ?_
    refine sr_aload_n G rfl d_B_count_36 ?_
    refine sr_get G (vv_0 hn) rfl ku_B rfl 0 (by decide) kf_B_11 rfl rfl d_B_count_37 ?_
    refine sr_iconst G (v := 0) (by decide) d_B_count_40 ?_
    refine sr_aald G (vv_10 hn) rfl rfl (by unfold vp_in; decide) d_B_count_41 ?_
    refine sr_getN G (vv_1 hn (by decide)) rfl ku_Le rfl 2 (by decide) kf_B_37 rfl rfl d_B_count_42 ?_
    refine sr_iret G d_B_count_45 ?_
    unfold f_B_count
    rw [if_pos h1_0]
    exact ⟨rfl, rfl⟩
  · skip
    by_cases h1_1 : x1 = 1
    · skip
      refine sr_tabIn G 46 d_B_count_1 (by rw [h1_1]; decide) (by rw [h1_1]; decide) (by rw [h1_1]; rfl) rfl ?_
      refine sr_aload_n G rfl d_B_count_46 ?_
      refine sr_get G (vv_0 hn) rfl ku_B rfl 0 (by decide) kf_B_11 rfl rfl d_B_count_47 ?_
      refine sr_iconst G (v := 1) (by decide) d_B_count_50 ?_
      refine sr_aald G (vv_10 hn) rfl rfl (by unfold vp_in; decide) d_B_count_51 ?_
      refine sr_getN G (vv_1 hn (by decide)) rfl ku_Le rfl 2 (by decide) kf_B_37 rfl rfl d_B_count_52 ?_
      refine sr_iret G d_B_count_55 ?_
      unfold f_B_count
      rw [if_neg h1_0, if_pos h1_1]
      exact ⟨rfl, rfl⟩
    · skip
      by_cases h1_2 : x1 = 2
      · skip
        refine sr_tabIn G 56 d_B_count_1 (by rw [h1_2]; decide) (by rw [h1_2]; decide) (by rw [h1_2]; rfl) rfl ?_
        refine sr_aload_n G rfl d_B_count_56 ?_
        refine sr_get G (vv_0 hn) rfl ku_B rfl 3 (by decide) kf_B_80 rfl rfl d_B_count_57 ?_
        refine sr_iret G d_B_count_60 ?_
        unfold f_B_count
        rw [if_neg h1_0, if_neg h1_1, if_pos h1_2]
        exact ⟨rfl, rfl⟩
      · skip
        by_cases h1_3 : x1 = 3
        · skip
          refine sr_tabIn G 61 d_B_count_1 (by rw [h1_3]; decide) (by rw [h1_3]; decide) (by rw [h1_3]; rfl) rfl ?_
          refine sr_aload_n G rfl d_B_count_61 ?_
          refine sr_get G (vv_0 hn) rfl ku_B rfl 4 (by decide) kf_B_127 rfl rfl d_B_count_62 ?_
          refine sr_iret G d_B_count_65 ?_
          unfold f_B_count
          rw [if_neg h1_0, if_neg h1_1, if_neg h1_2, if_pos h1_3]
          exact ⟨rfl, rfl⟩
        · skip
          by_cases h1_4 : x1 = 4
          · skip
            refine sr_tabIn G 66 d_B_count_1 (by rw [h1_4]; decide) (by rw [h1_4]; decide) (by rw [h1_4]; rfl) rfl ?_
            refine sr_aload_n G rfl d_B_count_66 ?_
            refine sr_cvi G (vv_0 hn) rfl rfl ki_B_howManyStand kx_B_howManyStand (c_B_howManyStand hn (by first | assumption | omega | decide | (unfold vp_in; decide))) kc_B_howManyStand km_B_238 kn_B yy_B_howManyStand rfl ⟨rfl, rfl, by decide, by decide⟩ (Nat.le_of_ble_eq_true rfl) rfl d_B_count_67 ?_
            refine sr_iret G d_B_count_70 ?_
            unfold f_B_count
            rw [if_neg h1_0, if_neg h1_1, if_neg h1_2, if_neg h1_3, if_pos h1_4]
            exact ⟨rfl, rfl⟩
          · skip
            refine sr_tabOut G 71 d_B_count_1 (by have := lv_neT h1_0 (show (0 : Int32).toInt = 0 by decide); have := lv_neT h1_1 (show (1 : Int32).toInt = 1 by decide); have := lv_neT h1_2 (show (2 : Int32).toInt = 2 by decide); have := lv_neT h1_3 (show (3 : Int32).toInt = 3 by decide); have := lv_neT h1_4 (show (4 : Int32).toInt = 4 by decide); omega) rfl ?_
            refine sr_bipush G (v := (-2)) (by decide) d_B_count_71 ?_
            refine sr_iret G d_B_count_73 ?_
            unfold f_B_count
            rw [if_neg h1_0, if_neg h1_1, if_neg h1_2, if_neg h1_3, if_neg h1_4]
            exact ⟨rfl, rfl⟩
def f_B_clear (M : Mem)  : Int32 × Mem := ((M 0 0 4), (f_B_beginAnew M))
set_option maxHeartbeats 4000000 in
set_option maxRecDepth 100000 in
theorem c_B_clear {l : Launch} {D : va_G} {t6 : Nat → ClassId} {b n : Nat} (hn : 104 ≤ n) {M : Mem} : CI l D t6 b n y_B_clear cd_B_clear 2 .int (rk 4 84) [.ref (ad b 0 0)] M (f_B_clear M).1 (f_B_clear M).2 := by
  refine en_i (by decide) (by simp [Value.category]) (Nat.le_of_ble_eq_true rfl) (fun p e s m below meth c G => ?_)
  refine sr_aload_n G rfl d_B_clear_0 ?_
  refine sr_get G (vv_0 hn) rfl ku_B rfl 4 (by decide) kf_B_127 rfl rfl d_B_clear_1 ?_
  refine sr_istore_n G (by decide) d_B_clear_4 ?_
  refine sr_aload_n G rfl d_B_clear_5 ?_
  refine sr_cvv G (vv_0 hn) rfl rfl ki_B_beginAnew kx_B_beginAnew (c_B_beginAnew hn) kc_B_beginAnew km_B_30 kn_B yy_B_beginAnew rfl ⟨rfl, rfl, by decide, by decide⟩ (Nat.le_of_ble_eq_true rfl) rfl d_B_clear_6 ?_
  refine sr_iload_n G rfl d_B_clear_9 ?_
  refine sr_iret G d_B_clear_10 ?_
  unfold f_B_clear
  exact ⟨rfl, rfl⟩
