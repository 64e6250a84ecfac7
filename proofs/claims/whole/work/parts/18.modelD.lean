def f_R_receive (M : Mem) (x1 : Int32) (x2 : Int32) : Int32 × Mem := (if (f_R_noMessage M x1) = 0 then (if (M 21 5 (Int32.toNatClampNeg ((2 * (M 21 14 (Int32.toNatClampNeg x1))) + (1 - (M 21 15 (Int32.toNatClampNeg x1)))))) = 3 then (if (M 21 25 (Int32.toNatClampNeg x1)) = 0 then (if (f_R_unproved M (1 - (M 21 15 (Int32.toNatClampNeg x1))) x2) = 0 then (if x2 < (M 21 23 (Int32.toNatClampNeg x1)) then ((-6), M) else (if x2 < (M 21 24 (Int32.toNatClampNeg x1)) then (if (M 21 0 (Int32.toNatClampNeg (1 - (M 21 15 (Int32.toNatClampNeg x1))))) < (M 21 21 (Int32.toNatClampNeg x1)) then (if (M 21 4 (Int32.toNatClampNeg (M 21 14 (Int32.toNatClampNeg x1)))) = 0 then (if 4 ≤ (M 21 20 (Int32.toNatClampNeg x1)) then (0, (u3 (u3 (u3 M 21 25 (Int32.toNatClampNeg x1) 2) 21 26 (Int32.toNatClampNeg x1) (((u3 M 21 25 (Int32.toNatClampNeg x1) 2) 21 0 (Int32.toNatClampNeg (1 - (M 21 15 (Int32.toNatClampNeg x1))))) + 1)) 21 10 (Int32.toNatClampNeg ((2 * (M 21 14 (Int32.toNatClampNeg x1))) + (1 - (M 21 15 (Int32.toNatClampNeg x1))))) (((u3 (u3 M 21 25 (Int32.toNatClampNeg x1) 2) 21 26 (Int32.toNatClampNeg x1) (((u3 M 21 25 (Int32.toNatClampNeg x1) 2) 21 0 (Int32.toNatClampNeg (1 - (M 21 15 (Int32.toNatClampNeg x1))))) + 1)) 21 10 (Int32.toNatClampNeg ((2 * (M 21 14 (Int32.toNatClampNeg x1))) + (1 - (M 21 15 (Int32.toNatClampNeg x1)))))) + 1))) else (1, (u3 (u3 (u3 (f_R_give M ((2 * (M 21 14 (Int32.toNatClampNeg x1))) + (1 - (M 21 15 (Int32.toNatClampNeg x1)))) (M 21 20 (Int32.toNatClampNeg x1)) (M 21 18 (Int32.toNatClampNeg x1)) (M 21 17 (Int32.toNatClampNeg x1))) 21 25 (Int32.toNatClampNeg x1) 1) 21 26 (Int32.toNatClampNeg x1) (((u3 (f_R_give M ((2 * (M 21 14 (Int32.toNatClampNeg x1))) + (1 - (M 21 15 (Int32.toNatClampNeg x1)))) (M 21 20 (Int32.toNatClampNeg x1)) (M 21 18 (Int32.toNatClampNeg x1)) (M 21 17 (Int32.toNatClampNeg x1))) 21 25 (Int32.toNatClampNeg x1) 1) 21 0 (Int32.toNatClampNeg (1 - (M 21 15 (Int32.toNatClampNeg x1))))) + 1)) 21 10 (Int32.toNatClampNeg ((2 * (M 21 14 (Int32.toNatClampNeg x1))) + (1 - (M 21 15 (Int32.toNatClampNeg x1))))) (((u3 (u3 (f_R_give M ((2 * (M 21 14 (Int32.toNatClampNeg x1))) + (1 - (M 21 15 (Int32.toNatClampNeg x1)))) (M 21 20 (Int32.toNatClampNeg x1)) (M 21 18 (Int32.toNatClampNeg x1)) (M 21 17 (Int32.toNatClampNeg x1))) 21 25 (Int32.toNatClampNeg x1) 1) 21 26 (Int32.toNatClampNeg x1) (((u3 (f_R_give M ((2 * (M 21 14 (Int32.toNatClampNeg x1))) + (1 - (M 21 15 (Int32.toNatClampNeg x1)))) (M 21 20 (Int32.toNatClampNeg x1)) (M 21 18 (Int32.toNatClampNeg x1)) (M 21 17 (Int32.toNatClampNeg x1))) 21 25 (Int32.toNatClampNeg x1) 1) 21 0 (Int32.toNatClampNeg (1 - (M 21 15 (Int32.toNatClampNeg x1))))) + 1)) 21 10 (Int32.toNatClampNeg ((2 * (M 21 14 (Int32.toNatClampNeg x1))) + (1 - (M 21 15 (Int32.toNatClampNeg x1)))))) + 1)))) else (if (f_R_isBehind M x1 0) = 0 then (if 4 ≤ (M 21 20 (Int32.toNatClampNeg x1)) then (0, (u3 (u3 (u3 M 21 25 (Int32.toNatClampNeg x1) 2) 21 26 (Int32.toNatClampNeg x1) (((u3 M 21 25 (Int32.toNatClampNeg x1) 2) 21 0 (Int32.toNatClampNeg (1 - (M 21 15 (Int32.toNatClampNeg x1))))) + 1)) 21 10 (Int32.toNatClampNeg ((2 * (M 21 14 (Int32.toNatClampNeg x1))) + (1 - (M 21 15 (Int32.toNatClampNeg x1))))) (((u3 (u3 M 21 25 (Int32.toNatClampNeg x1) 2) 21 26 (Int32.toNatClampNeg x1) (((u3 M 21 25 (Int32.toNatClampNeg x1) 2) 21 0 (Int32.toNatClampNeg (1 - (M 21 15 (Int32.toNatClampNeg x1))))) + 1)) 21 10 (Int32.toNatClampNeg ((2 * (M 21 14 (Int32.toNatClampNeg x1))) + (1 - (M 21 15 (Int32.toNatClampNeg x1)))))) + 1))) else (1, (u3 (u3 (u3 (f_R_give M ((2 * (M 21 14 (Int32.toNatClampNeg x1))) + (1 - (M 21 15 (Int32.toNatClampNeg x1)))) (M 21 20 (Int32.toNatClampNeg x1)) (M 21 18 (Int32.toNatClampNeg x1)) (M 21 17 (Int32.toNatClampNeg x1))) 21 25 (Int32.toNatClampNeg x1) 1) 21 26 (Int32.toNatClampNeg x1) (((u3 (f_R_give M ((2 * (M 21 14 (Int32.toNatClampNeg x1))) + (1 - (M 21 15 (Int32.toNatClampNeg x1)))) (M 21 20 (Int32.toNatClampNeg x1)) (M 21 18 (Int32.toNatClampNeg x1)) (M 21 17 (Int32.toNatClampNeg x1))) 21 25 (Int32.toNatClampNeg x1) 1) 21 0 (Int32.toNatClampNeg (1 - (M 21 15 (Int32.toNatClampNeg x1))))) + 1)) 21 10 (Int32.toNatClampNeg ((2 * (M 21 14 (Int32.toNatClampNeg x1))) + (1 - (M 21 15 (Int32.toNatClampNeg x1))))) (((u3 (u3 (f_R_give M ((2 * (M 21 14 (Int32.toNatClampNeg x1))) + (1 - (M 21 15 (Int32.toNatClampNeg x1)))) (M 21 20 (Int32.toNatClampNeg x1)) (M 21 18 (Int32.toNatClampNeg x1)) (M 21 17 (Int32.toNatClampNeg x1))) 21 25 (Int32.toNatClampNeg x1) 1) 21 26 (Int32.toNatClampNeg x1) (((u3 (f_R_give M ((2 * (M 21 14 (Int32.toNatClampNeg x1))) + (1 - (M 21 15 (Int32.toNatClampNeg x1)))) (M 21 20 (Int32.toNatClampNeg x1)) (M 21 18 (Int32.toNatClampNeg x1)) (M 21 17 (Int32.toNatClampNeg x1))) 21 25 (Int32.toNatClampNeg x1) 1) 21 0 (Int32.toNatClampNeg (1 - (M 21 15 (Int32.toNatClampNeg x1))))) + 1)) 21 10 (Int32.toNatClampNeg ((2 * (M 21 14 (Int32.toNatClampNeg x1))) + (1 - (M 21 15 (Int32.toNatClampNeg x1)))))) + 1)))) else ((-8), M))) else ((-7), M)) else ((-6), M))) else ((f_R_unproved M (1 - (M 21 15 (Int32.toNatClampNeg x1))) x2), M)) else ((-3), M)) else ((-3), M)) else ((-1), M))
set_option maxHeartbeats 4000000 in
set_option maxRecDepth 100000 in
theorem c_R_receive {l : Launch} {D : va_G} {t6 : Nat → ClassId} {b n : Nat} (hn : 133 ≤ n) {M : Mem} {x1 : Int32} {x2 : Int32} (hI : ri_ M) : CI l D t6 b n y_R_receive cd_R_receive 7 .int (rk 3 67) [.ref (ad b 20 0), .int x1, .int x2] M (f_R_receive M x1 x2).1 (f_R_receive M x1 x2).2 := by
  refine en_i (by decide) (by simp [Value.category]) (Nat.le_of_ble_eq_true rfl) (fun p e s m below meth c G => ?_)
  refine sr_aload_n G rfl d_R_receive_0 ?_
  refine sr_iload_n G rfl d_R_receive_1 ?_
  refine sr_cvi G (vv_20 hn) rfl rfl ki_R_noMessage kx_R_noMessage (c_R_noMessage hn) kc_R_noMessage km_R_152 kn_R yy_R_noMessage rfl ⟨rfl, rfl, by decide, by decide⟩ (Nat.le_of_ble_eq_true rfl) rfl d_R_receive_2 ?_
  refine sr_if_eq G 10 d_R_receive_5 rfl (fun h5 => ?_) (fun h5 => ?_)
  · skip
    have v5 : vp_in x1 60 := in_msR hI h5
    have i5 := ix_lt v5
    obtain ⟨k5a, k5b, k5c, k5t⟩ := ri_mg hI i5
    have k5d := ix_lt k5a
    have k5e := ix_lt k5b
    have k5f := ix_lt k5c
    have k5g := in_1 k5b
    have k5h := ix_lt k5g
    refine sr_iconst G (v := 1) (by decide) d_R_receive_10 ?_
    refine sr_aload_n G rfl d_R_receive_11 ?_
    refine sr_get G (vv_20 hn) rfl ku_R rfl 17 (by decide) kf_R_56 rfl rfl d_R_receive_12 ?_
    refine sr_iload_n G rfl d_R_receive_15 ?_
    refine sr_iald G (vv_21 hn (by decide)) rfl (by assumption) d_R_receive_16 ?_
    refine sr_isub G d_R_receive_17 ?_
    refine sr_istore_n G (by decide) d_R_receive_18 ?_
    refine sr_iconst G (v := 2) (by decide) d_R_receive_19 ?_
    refine sr_aload_n G rfl d_R_receive_20 ?_
    refine sr_get G (vv_20 hn) rfl ku_R rfl 16 (by decide) kf_R_53 rfl rfl d_R_receive_21 ?_
    refine sr_iload_n G rfl d_R_receive_24 ?_
    refine sr_iald G (vv_21 hn (by decide)) rfl (by assumption) d_R_receive_25 ?_
    refine sr_imul G d_R_receive_26 ?_
    refine sr_iload_n G rfl d_R_receive_27 ?_
    refine sr_iadd G d_R_receive_28 ?_
    refine sr_istore G (by decide) d_R_receive_29 ?_
    have ve := in_e k5a k5g
    refine sr_aload_n G rfl d_R_receive_31 ?_
    refine sr_get G (vv_20 hn) rfl ku_R rfl 6 (by decide) kf_R_26 rfl rfl d_R_receive_32 ?_
    refine sr_iload G rfl d_R_receive_35 ?_
    refine sr_iald G (vv_21 hn (by decide)) rfl (in_e (by assumption) (in_1 (by assumption))) d_R_receive_37 ?_
    refine sr_iconst G (v := 3) (by decide) d_R_receive_38 ?_
    refine sr_icmp_ne G 51 d_R_receive_39 rfl (fun h39 => ?_) (fun h39 => ?_)
    · skip
      refine sr_bipush G (v := (-3)) (by decide) d_R_receive_51 ?_
      refine sr_iret G d_R_receive_53 ?_
      unfold f_R_receive
      rw [if_pos h5, if_neg h39]
      exact ⟨rfl, rfl⟩
    · skip
      refine sr_aload_n G rfl d_R_receive_42 ?_
      refine sr_get G (vv_20 hn) rfl ku_R rfl 27 (by decide) kf_R_86 rfl rfl d_R_receive_43 ?_
      refine sr_iload_n G rfl d_R_receive_46 ?_
      refine sr_iald G (vv_21 hn (by decide)) rfl (by assumption) d_R_receive_47 ?_
      refine sr_if_eq G 54 d_R_receive_48 rfl (fun h48 => ?_) (fun h48 => ?_)
      · skip
        refine sr_aload_n G rfl d_R_receive_54 ?_
        refine sr_iload_n G rfl d_R_receive_55 ?_
        refine sr_iload_n G rfl d_R_receive_56 ?_
        refine sr_cvi G (vv_20 hn) rfl rfl ki_R_unproved kx_R_unproved (c_R_unproved hn (by first | assumption | omega | decide | (unfold vp_in; decide))) kc_R_unproved km_R_128 kn_R yy_R_unproved rfl ⟨rfl, rfl, by decide, by decide⟩ (Nat.le_of_ble_eq_true rfl) rfl d_R_receive_57 ?_
        refine sr_istore G (by decide) d_R_receive_60 ?_
        refine sr_iload G rfl d_R_receive_62 ?_
        refine sr_if_eq G 70 d_R_receive_64 rfl (fun h64 => ?_) (fun h64 => ?_)
        · skip
          refine sr_iload_n G rfl d_R_receive_70 ?_
          refine sr_aload_n G rfl d_R_receive_71 ?_
          refine sr_get G (vv_20 hn) rfl ku_R rfl 25 (by decide) kf_R_80 rfl rfl d_R_receive_72 ?_
          refine sr_iload_n G rfl d_R_receive_75 ?_
          refine sr_iald G (vv_21 hn (by decide)) rfl (by assumption) d_R_receive_76 ?_
          refine sr_icmp_lt G 90 d_R_receive_77 rfl (fun h77 => ?_) (fun h77 => ?_)
          · skip
            refine sr_bipush G (v := (-6)) (by decide) d_R_receive_90 ?_
            refine sr_iret G d_R_receive_92 ?_
            unfold f_R_receive
            rw [if_pos h5, if_pos h39, if_pos h48, if_pos h64, if_pos h77]
            exact ⟨rfl, rfl⟩
          · skip
            refine sr_iload_n G rfl d_R_receive_80 ?_
            refine sr_aload_n G rfl d_R_receive_81 ?_
            refine sr_get G (vv_20 hn) rfl ku_R rfl 26 (by decide) kf_R_83 rfl rfl d_R_receive_82 ?_
            refine sr_iload_n G rfl d_R_receive_85 ?_
            refine sr_iald G (vv_21 hn (by decide)) rfl (by assumption) d_R_receive_86 ?_
            refine sr_icmp_lt G 93 d_R_receive_87 rfl (fun h87 => ?_) (fun h87 => ?_)
            · skip
              refine sr_aload_n G rfl d_R_receive_93 ?_
              refine sr_get G (vv_20 hn) rfl ku_R rfl 0 (by decide) kf_R_7 rfl rfl d_R_receive_94 ?_
              refine sr_iload_n G rfl d_R_receive_97 ?_
              refine sr_iald G (vv_21 hn (by decide)) rfl (in_1 (by assumption)) d_R_receive_98 ?_
              refine sr_aload_n G rfl d_R_receive_99 ?_
              refine sr_get G (vv_20 hn) rfl ku_R rfl 23 (by decide) kf_R_74 rfl rfl d_R_receive_100 ?_
              refine sr_iload_n G rfl d_R_receive_103 ?_
              refine sr_iald G (vv_21 hn (by decide)) rfl (by assumption) d_R_receive_104 ?_
              refine sr_icmp_lt G 111 d_R_receive_105 rfl (fun h105 => ?_) (fun h105 => ?_)
              · skip
                refine sr_aload_n G rfl d_R_receive_111 ?_
                refine sr_get G (vv_20 hn) rfl ku_R rfl 5 (by decide) kf_R_23 rfl rfl d_R_receive_112 ?_
                refine sr_aload_n G rfl d_R_receive_115 ?_
                refine sr_get G (vv_20 hn) rfl ku_R rfl 16 (by decide) kf_R_53 rfl rfl d_R_receive_116 ?_
                refine sr_iload_n G rfl d_R_receive_119 ?_
                refine sr_iald G (vv_21 hn (by decide)) rfl (by assumption) d_R_receive_120 ?_
                refine sr_zald G (vv_21 hn (by decide)) rfl (by assumption) d_R_receive_121 ?_
                refine sr_if_eq G 137 d_R_receive_122 rfl (fun h122 => ?_) (fun h122 => ?_)
                · skip
                  refine sr_aload_n G rfl d_R_receive_137 ?_
                  refine sr_get G (vv_20 hn) rfl ku_R rfl 22 (by decide) kf_R_71 rfl rfl d_R_receive_138 ?_
                  refine sr_iload_n G rfl d_R_receive_141 ?_
                  refine sr_iald G (vv_21 hn (by decide)) rfl (by assumption) d_R_receive_142 ?_
                  refine sr_iconst G (v := 4) (by decide) d_R_receive_143 ?_
                  refine sr_icmp_ge G 151 d_R_receive_144 rfl (fun h144 => ?_) (fun h144 => ?_)
                  · skip
                    refine sr_iconst G (v := 0) (by decide) d_R_receive_151 ?_
                    refine sr_istore G (by decide) d_R_receive_152 ?_
                    refine sr_iload G rfl d_R_receive_154 ?_
                    refine sr_if_eq G 183 d_R_receive_156 rfl (fun _ => ?_) (fun h => absurd (by decide) h)
                    refine sr_aload_n G rfl d_R_receive_183 ?_
                    refine sr_get G (vv_20 hn) rfl ku_R rfl 27 (by decide) kf_R_86 rfl rfl d_R_receive_184 ?_
                    refine sr_iload_n G rfl d_R_receive_187 ?_
                    refine sr_iload G rfl d_R_receive_188 ?_
                    refine sr_if_eq G 197 d_R_receive_190 rfl (fun _ => ?_) (fun h => absurd (by decide) h)
                    refine sr_iconst G (v := 2) (by decide) d_R_receive_197 ?_
                    refine sr_iast G (vv_21 hn (by decide)) (fun _ => rfl) (by assumption) d_R_receive_198 ?_
                    refine sr_aload_n G rfl d_R_receive_199 ?_
                    refine sr_get G (vv_20 hn) rfl ku_R rfl 28 (by decide) kf_R_89 rfl rfl d_R_receive_200 ?_
                    refine sr_iload_n G rfl d_R_receive_203 ?_
                    refine sr_aload_n G rfl d_R_receive_204 ?_
                    refine sr_get G (vv_20 hn) rfl ku_R rfl 0 (by decide) kf_R_7 rfl rfl d_R_receive_205 ?_
                    refine sr_iload_n G rfl d_R_receive_208 ?_
                    refine sr_iald G (vv_21 hn (by decide)) rfl (in_1 (by assumption)) d_R_receive_209 ?_
                    refine sr_iconst G (v := 1) (by decide) d_R_receive_210 ?_
                    refine sr_iadd G d_R_receive_211 ?_
                    refine sr_iast G (vv_21 hn (by decide)) (fun _ => rfl) (by assumption) d_R_receive_212 ?_
                    refine sr_aload_n G rfl d_R_receive_213 ?_
                    refine sr_get G (vv_20 hn) rfl ku_R rfl 11 (by decide) kf_R_41 rfl rfl d_R_receive_214 ?_
                    refine sr_iload G rfl d_R_receive_217 ?_
                    refine sr_dup2 G rfl rfl d_R_receive_219 ?_
                    refine sr_iald G (vv_21 hn (by decide)) rfl (in_e (by assumption) (in_1 (by assumption))) d_R_receive_220 ?_
                    refine sr_iconst G (v := 1) (by decide) d_R_receive_221 ?_
                    refine sr_iadd G d_R_receive_222 ?_
                    refine sr_iast G (vv_21 hn (by decide)) (fun _ => rfl) (in_e (by assumption) (in_1 (by assumption))) d_R_receive_223 ?_
                    refine sr_iload G rfl d_R_receive_224 ?_
                    refine sr_if_eq G 233 d_R_receive_226 rfl (fun _ => ?_) (fun h => absurd (by decide) h)
                    refine sr_iconst G (v := 0) (by decide) d_R_receive_233 ?_
                    refine sr_iret G d_R_receive_234 ?_
                    unfold f_R_receive
                    rw [if_pos h5, if_pos h39, if_pos h48, if_pos h64, if_neg h77, if_pos h87, if_pos h105, if_pos h122, if_pos h144]
                    exact ⟨rfl, rfl⟩
                  · skip
                    refine sr_iconst G (v := 1) (by decide) d_R_receive_147 ?_
                    refine sr_goto G 152 d_R_receive_148 rfl ?_
                    refine sr_istore G (by decide) d_R_receive_152 ?_
                    refine sr_iload G rfl d_R_receive_154 ?_
                    refine sr_if_eq G 183 d_R_receive_156 rfl (fun h => absurd h (by decide)) (fun _ => ?_)
                    refine sr_aload_n G rfl d_R_receive_159 ?_
                    refine sr_iload G rfl d_R_receive_160 ?_
                    refine sr_aload_n G rfl d_R_receive_162 ?_
                    refine sr_get G (vv_20 hn) rfl ku_R rfl 22 (by decide) kf_R_71 rfl rfl d_R_receive_163 ?_
                    refine sr_iload_n G rfl d_R_receive_166 ?_
                    refine sr_iald G (vv_21 hn (by decide)) rfl (by assumption) d_R_receive_167 ?_
                    refine sr_aload_n G rfl d_R_receive_168 ?_
                    refine sr_get G (vv_20 hn) rfl ku_R rfl 20 (by decide) kf_R_65 rfl rfl d_R_receive_169 ?_
                    refine sr_iload_n G rfl d_R_receive_172 ?_
                    refine sr_iald G (vv_21 hn (by decide)) rfl (by assumption) d_R_receive_173 ?_
                    refine sr_aload_n G rfl d_R_receive_174 ?_
                    refine sr_get G (vv_20 hn) rfl ku_R rfl 19 (by decide) kf_R_62 rfl rfl d_R_receive_175 ?_
                    refine sr_iload_n G rfl d_R_receive_178 ?_
                    refine sr_iald G (vv_21 hn (by decide)) rfl (by assumption) d_R_receive_179 ?_
                    have vt := in_lt4 k5t h144
                    refine sr_cvv G (vv_20 hn) rfl rfl ki_R_give kx_R_give (c_R_give hn (by first | assumption | omega | decide | (unfold vp_in; decide)) (by first | assumption | omega | decide | (unfold vp_in; decide))) kc_R_give km_R_148 kn_R yy_R_give rfl ⟨rfl, rfl, by decide, by decide⟩ (Nat.le_of_ble_eq_true rfl) rfl d_R_receive_180 ?_
                    refine sr_aload_n G rfl d_R_receive_183 ?_
                    refine sr_get G (vv_20 hn) rfl ku_R rfl 27 (by decide) kf_R_86 rfl rfl d_R_receive_184 ?_
                    refine sr_iload_n G rfl d_R_receive_187 ?_
                    refine sr_iload G rfl d_R_receive_188 ?_
                    refine sr_if_eq G 197 d_R_receive_190 rfl (fun h => absurd h (by decide)) (fun _ => ?_)
                    refine sr_iconst G (v := 1) (by decide) d_R_receive_193 ?_
                    refine sr_goto G 198 d_R_receive_194 rfl ?_
                    refine sr_iast G (vv_21 hn (by decide)) (fun _ => rfl) (by assumption) d_R_receive_198 ?_
                    refine sr_aload_n G rfl d_R_receive_199 ?_
                    refine sr_get G (vv_20 hn) rfl ku_R rfl 28 (by decide) kf_R_89 rfl rfl d_R_receive_200 ?_
                    refine sr_iload_n G rfl d_R_receive_203 ?_
                    refine sr_aload_n G rfl d_R_receive_204 ?_
                    refine sr_get G (vv_20 hn) rfl ku_R rfl 0 (by decide) kf_R_7 rfl rfl d_R_receive_205 ?_
                    refine sr_iload_n G rfl d_R_receive_208 ?_
                    refine sr_iald G (vv_21 hn (by decide)) rfl (in_1 (by assumption)) d_R_receive_209 ?_
                    refine sr_iconst G (v := 1) (by decide) d_R_receive_210 ?_
                    refine sr_iadd G d_R_receive_211 ?_
                    refine sr_iast G (vv_21 hn (by decide)) (fun _ => rfl) (by assumption) d_R_receive_212 ?_
                    refine sr_aload_n G rfl d_R_receive_213 ?_
                    refine sr_get G (vv_20 hn) rfl ku_R rfl 11 (by decide) kf_R_41 rfl rfl d_R_receive_214 ?_
                    refine sr_iload G rfl d_R_receive_217 ?_
                    refine sr_dup2 G rfl rfl d_R_receive_219 ?_
                    refine sr_iald G (vv_21 hn (by decide)) rfl (in_e (by assumption) (in_1 (by assumption))) d_R_receive_220 ?_
                    refine sr_iconst G (v := 1) (by decide) d_R_receive_221 ?_
                    refine sr_iadd G d_R_receive_222 ?_
                    refine sr_iast G (vv_21 hn (by decide)) (fun _ => rfl) (in_e (by assumption) (in_1 (by assumption))) d_R_receive_223 ?_
                    refine sr_iload G rfl d_R_receive_224 ?_
                    refine sr_if_eq G 233 d_R_receive_226 rfl (fun h => absurd h (by decide)) (fun _ => ?_)
                    refine sr_iconst G (v := 1) (by decide) d_R_receive_229 ?_
                    refine sr_goto G 234 d_R_receive_230 rfl ?_
                    refine sr_iret G d_R_receive_234 ?_
                    unfold f_R_receive
                    rw [if_pos h5, if_pos h39, if_pos h48, if_pos h64, if_neg h77, if_pos h87, if_pos h105, if_pos h122, if_neg h144]
                    exact ⟨rfl, rfl⟩
                · skip
                  refine sr_aload_n G rfl d_R_receive_125 ?_
                  refine sr_iload_n G rfl d_R_receive_126 ?_
                  refine sr_iconst G (v := 0) (by decide) d_R_receive_127 ?_
                  refine sr_cvi G (vv_20 hn) rfl rfl ki_R_isBehind kx_R_isBehind (c_R_isBehind hn (by first | assumption | omega | decide | (unfold vp_in; decide))) kc_R_isBehind km_R_155 kn_R yy_R_isBehind rfl ⟨rfl, rfl, by decide, by decide⟩ (Nat.le_of_ble_eq_true rfl) rfl d_R_receive_128 ?_
                  refine sr_if_eq G 137 d_R_receive_131 rfl (fun h131 => ?_) (fun h131 => ?_)
                  · skip
                    refine sr_aload_n G rfl d_R_receive_137 ?_
                    refine sr_get G (vv_20 hn) rfl ku_R rfl 22 (by decide) kf_R_71 rfl rfl d_R_receive_138 ?_
                    refine sr_iload_n G rfl d_R_receive_141 ?_
                    refine sr_iald G (vv_21 hn (by decide)) rfl (by assumption) d_R_receive_142 ?_
                    refine sr_iconst G (v := 4) (by decide) d_R_receive_143 ?_
                    refine sr_icmp_ge G 151 d_R_receive_144 rfl (fun h144 => ?_) (fun h144 => ?_)
                    · skip
                      refine sr_iconst G (v := 0) (by decide) d_R_receive_151 ?_
                      refine sr_istore G (by decide) d_R_receive_152 ?_
                      refine sr_iload G rfl d_R_receive_154 ?_
                      refine sr_if_eq G 183 d_R_receive_156 rfl (fun _ => ?_) (fun h => absurd (by decide) h)
                      refine sr_aload_n G rfl d_R_receive_183 ?_
                      refine sr_get G (vv_20 hn) rfl ku_R rfl 27 (by decide) kf_R_86 rfl rfl d_R_receive_184 ?_
                      refine sr_iload_n G rfl d_R_receive_187 ?_
                      refine sr_iload G rfl d_R_receive_188 ?_
                      refine sr_if_eq G 197 d_R_receive_190 rfl (fun _ => ?_) (fun h => absurd (by decide) h)
                      refine sr_iconst G (v := 2) (by decide) d_R_receive_197 ?_
                      refine sr_iast G (vv_21 hn (by decide)) (fun _ => rfl) (by assumption) d_R_receive_198 ?_
                      refine sr_aload_n G rfl d_R_receive_199 ?_
                      refine sr_get G (vv_20 hn) rfl ku_R rfl 28 (by decide) kf_R_89 rfl rfl d_R_receive_200 ?_
                      refine sr_iload_n G rfl d_R_receive_203 ?_
                      refine sr_aload_n G rfl d_R_receive_204 ?_
                      refine sr_get G (vv_20 hn) rfl ku_R rfl 0 (by decide) kf_R_7 rfl rfl d_R_receive_205 ?_
                      refine sr_iload_n G rfl d_R_receive_208 ?_
                      refine sr_iald G (vv_21 hn (by decide)) rfl (in_1 (by assumption)) d_R_receive_209 ?_
                      refine sr_iconst G (v := 1) (by decide) d_R_receive_210 ?_
                      refine sr_iadd G d_R_receive_211 ?_
                      refine sr_iast G (vv_21 hn (by decide)) (fun _ => rfl) (by assumption) d_R_receive_212 ?_
                      refine sr_aload_n G rfl d_R_receive_213 ?_
                      refine sr_get G (vv_20 hn) rfl ku_R rfl 11 (by decide) kf_R_41 rfl rfl d_R_receive_214 ?_
                      refine sr_iload G rfl d_R_receive_217 ?_
                      refine sr_dup2 G rfl rfl d_R_receive_219 ?_
                      refine sr_iald G (vv_21 hn (by decide)) rfl (in_e (by assumption) (in_1 (by assumption))) d_R_receive_220 ?_
                      refine sr_iconst G (v := 1) (by decide) d_R_receive_221 ?_
                      refine sr_iadd G d_R_receive_222 ?_
                      refine sr_iast G (vv_21 hn (by decide)) (fun _ => rfl) (in_e (by assumption) (in_1 (by assumption))) d_R_receive_223 ?_
                      refine sr_iload G rfl d_R_receive_224 ?_
                      refine sr_if_eq G 233 d_R_receive_226 rfl (fun _ => ?_) (fun h => absurd (by decide) h)
                      refine sr_iconst G (v := 0) (by decide) d_R_receive_233 ?_
                      refine sr_iret G d_R_receive_234 ?_
                      unfold f_R_receive
                      rw [if_pos h5, if_pos h39, if_pos h48, if_pos h64, if_neg h77, if_pos h87, if_pos h105, if_neg h122, if_pos h131, if_pos h144]
                      exact ⟨rfl, rfl⟩
                    · skip
                      refine sr_iconst G (v := 1) (by decide) d_R_receive_147 ?_
                      refine sr_goto G 152 d_R_receive_148 rfl ?_
                      refine sr_istore G (by decide) d_R_receive_152 ?_
                      refine sr_iload G rfl d_R_receive_154 ?_
                      refine sr_if_eq G 183 d_R_receive_156 rfl (fun h => absurd h (by decide)) (fun _ => ?_)
                      refine sr_aload_n G rfl d_R_receive_159 ?_
                      refine sr_iload G rfl d_R_receive_160 ?_
                      refine sr_aload_n G rfl d_R_receive_162 ?_
                      refine sr_get G (vv_20 hn) rfl ku_R rfl 22 (by decide) kf_R_71 rfl rfl d_R_receive_163 ?_
                      refine sr_iload_n G rfl d_R_receive_166 ?_
                      refine sr_iald G (vv_21 hn (by decide)) rfl (by assumption) d_R_receive_167 ?_
                      refine sr_aload_n G rfl d_R_receive_168 ?_
                      refine sr_get G (vv_20 hn) rfl ku_R rfl 20 (by decide) kf_R_65 rfl rfl d_R_receive_169 ?_
                      refine sr_iload_n G rfl d_R_receive_172 ?_
                      refine sr_iald G (vv_21 hn (by decide)) rfl (by assumption) d_R_receive_173 ?_
                      refine sr_aload_n G rfl d_R_receive_174 ?_
                      refine sr_get G (vv_20 hn) rfl ku_R rfl 19 (by decide) kf_R_62 rfl rfl d_R_receive_175 ?_
                      refine sr_iload_n G rfl d_R_receive_178 ?_
                      refine sr_iald G (vv_21 hn (by decide)) rfl (by assumption) d_R_receive_179 ?_
                      have vt := in_lt4 k5t h144
                      refine sr_cvv G (vv_20 hn) rfl rfl ki_R_give kx_R_give (c_R_give hn (by first | assumption | omega | decide | (unfold vp_in; decide)) (by first | assumption | omega | decide | (unfold vp_in; decide))) kc_R_give km_R_148 kn_R yy_R_give rfl ⟨rfl, rfl, by decide, by decide⟩ (Nat.le_of_ble_eq_true rfl) rfl d_R_receive_180 ?_
                      refine sr_aload_n G rfl d_R_receive_183 ?_
                      refine sr_get G (vv_20 hn) rfl ku_R rfl 27 (by decide) kf_R_86 rfl rfl d_R_receive_184 ?_
                      refine sr_iload_n G rfl d_R_receive_187 ?_
                      refine sr_iload G rfl d_R_receive_188 ?_
                      refine sr_if_eq G 197 d_R_receive_190 rfl (fun h => absurd h (by decide)) (fun _ => ?_)
                      refine sr_iconst G (v := 1) (by decide) d_R_receive_193 ?_
                      refine sr_goto G 198 d_R_receive_194 rfl ?_
                      refine sr_iast G (vv_21 hn (by decide)) (fun _ => rfl) (by assumption) d_R_receive_198 ?_
                      refine sr_aload_n G rfl d_R_receive_199 ?_
                      refine sr_get G (vv_20 hn) rfl ku_R rfl 28 (by decide) kf_R_89 rfl rfl d_R_receive_200 ?_
                      refine sr_iload_n G rfl d_R_receive_203 ?_
                      refine sr_aload_n G rfl d_R_receive_204 ?_
                      refine sr_get G (vv_20 hn) rfl ku_R rfl 0 (by decide) kf_R_7 rfl rfl d_R_receive_205 ?_
                      refine sr_iload_n G rfl d_R_receive_208 ?_
                      refine sr_iald G (vv_21 hn (by decide)) rfl (in_1 (by assumption)) d_R_receive_209 ?_
                      refine sr_iconst G (v := 1) (by decide) d_R_receive_210 ?_
                      refine sr_iadd G d_R_receive_211 ?_
                      refine sr_iast G (vv_21 hn (by decide)) (fun _ => rfl) (by assumption) d_R_receive_212 ?_
                      refine sr_aload_n G rfl d_R_receive_213 ?_
                      refine sr_get G (vv_20 hn) rfl ku_R rfl 11 (by decide) kf_R_41 rfl rfl d_R_receive_214 ?_
                      refine sr_iload G rfl d_R_receive_217 ?_
                      refine sr_dup2 G rfl rfl d_R_receive_219 ?_
                      refine sr_iald G (vv_21 hn (by decide)) rfl (in_e (by assumption) (in_1 (by assumption))) d_R_receive_220 ?_
                      refine sr_iconst G (v := 1) (by decide) d_R_receive_221 ?_
                      refine sr_iadd G d_R_receive_222 ?_
                      refine sr_iast G (vv_21 hn (by decide)) (fun _ => rfl) (in_e (by assumption) (in_1 (by assumption))) d_R_receive_223 ?_
                      refine sr_iload G rfl d_R_receive_224 ?_
                      refine sr_if_eq G 233 d_R_receive_226 rfl (fun h => absurd h (by decide)) (fun _ => ?_)
                      refine sr_iconst G (v := 1) (by decide) d_R_receive_229 ?_
                      refine sr_goto G 234 d_R_receive_230 rfl ?_
                      refine sr_iret G d_R_receive_234 ?_
                      unfold f_R_receive
                      rw [if_pos h5, if_pos h39, if_pos h48, if_pos h64, if_neg h77, if_pos h87, if_pos h105, if_neg h122, if_pos h131, if_neg h144]
                      exact ⟨rfl, rfl⟩
                  · skip
                    refine sr_bipush G (v := (-8)) (by decide) d_R_receive_134 ?_
                    refine sr_iret G d_R_receive_136 ?_
                    unfold f_R_receive
                    rw [if_pos h5, if_pos h39, if_pos h48, if_pos h64, if_neg h77, if_pos h87, if_pos h105, if_neg h122, if_neg h131]
                    exact ⟨rfl, rfl⟩
              · skip
                refine sr_bipush G (v := (-7)) (by decide) d_R_receive_108 ?_
                refine sr_iret G d_R_receive_110 ?_
                unfold f_R_receive
                rw [if_pos h5, if_pos h39, if_pos h48, if_pos h64, if_neg h77, if_pos h87, if_neg h105]
                exact ⟨rfl, rfl⟩
            · skip
              refine sr_bipush G (v := (-6)) (by decide) d_R_receive_90 ?_
              refine sr_iret G d_R_receive_92 ?_
              unfold f_R_receive
              rw [if_pos h5, if_pos h39, if_pos h48, if_pos h64, if_neg h77, if_neg h87]
              exact ⟨rfl, rfl⟩
        · skip
          refine sr_iload G rfl d_R_receive_67 ?_
          refine sr_iret G d_R_receive_69 ?_
          unfold f_R_receive
          rw [if_pos h5, if_pos h39, if_pos h48, if_neg h64]
          exact ⟨rfl, rfl⟩
      · skip
        refine sr_bipush G (v := (-3)) (by decide) d_R_receive_51 ?_
        refine sr_iret G d_R_receive_53 ?_
        unfold f_R_receive
        rw [if_pos h5, if_pos h39, if_neg h48]
        exact ⟨rfl, rfl⟩
  · skip
    refine sr_iconst G (v := (-1)) (by decide) d_R_receive_8 ?_
    refine sr_iret G d_R_receive_9 ?_
    unfold f_R_receive
    rw [if_neg h5]
    exact ⟨rfl, rfl⟩
def f_R_acknowledge (M : Mem) (x1 : Int32) (x2 : Int32) : Int32 × Mem := (if (f_R_noMessage M x1) = 0 then (if (M 21 22 (Int32.toNatClampNeg x1)) = 0 then ((-3), M) else (if (f_R_unproved M (M 21 15 (Int32.toNatClampNeg x1)) x2) = 0 then (if (M 21 26 (Int32.toNatClampNeg x1)) ≤ x2 then (if (M 21 4 (Int32.toNatClampNeg (M 21 14 (Int32.toNatClampNeg x1)))) = 0 then (if (M 21 25 (Int32.toNatClampNeg x1)) = 2 then (if ((f_R_finish M x1 1) 21 25 (Int32.toNatClampNeg x1)) = 1 then (1, (f_R_finish M x1 1)) else (0, (f_R_finish M x1 1))) else (if ((f_R_finish M x1 0) 21 25 (Int32.toNatClampNeg x1)) = 1 then (1, (f_R_finish M x1 0)) else (0, (f_R_finish M x1 0)))) else (if (f_R_isBehind M x1 1) = 0 then (if (M 21 25 (Int32.toNatClampNeg x1)) = 2 then (if ((f_R_finish M x1 1) 21 25 (Int32.toNatClampNeg x1)) = 1 then (1, (f_R_finish M x1 1)) else (0, (f_R_finish M x1 1))) else (if ((f_R_finish M x1 0) 21 25 (Int32.toNatClampNeg x1)) = 1 then (1, (f_R_finish M x1 0)) else (0, (f_R_finish M x1 0)))) else ((-8), M))) else ((-6), M)) else ((f_R_unproved M (M 21 15 (Int32.toNatClampNeg x1)) x2), M))) else ((-1), M))
set_option maxHeartbeats 4000000 in
set_option maxRecDepth 100000 in
theorem c_R_acknowledge {l : Launch} {D : va_G} {t6 : Nat → ClassId} {b n : Nat} (hn : 133 ≤ n) {M : Mem} {x1 : Int32} {x2 : Int32} (hI : ri_ M) : CI l D t6 b n y_R_acknowledge cd_R_acknowledge 4 .int (rk 3 67) [.ref (ad b 20 0), .int x1, .int x2] M (f_R_acknowledge M x1 x2).1 (f_R_acknowledge M x1 x2).2 := by
  refine en_i (by decide) (by simp [Value.category]) (Nat.le_of_ble_eq_true rfl) (fun p e s m below meth c G => ?_)
  refine sr_aload_n G rfl d_R_acknowledge_0 ?_
  refine sr_iload_n G rfl d_R_acknowledge_1 ?_
  refine sr_cvi G (vv_20 hn) rfl rfl ki_R_noMessage kx_R_noMessage (c_R_noMessage hn) kc_R_noMessage km_R_152 kn_R yy_R_noMessage rfl ⟨rfl, rfl, by decide, by decide⟩ (Nat.le_of_ble_eq_true rfl) rfl d_R_acknowledge_2 ?_
  refine sr_if_eq G 10 d_R_acknowledge_5 rfl (fun h5 => ?_) (fun h5 => ?_)
  · skip
    have v5 : vp_in x1 60 := in_msR hI h5
    have i5 := ix_lt v5
    obtain ⟨k5a, k5b, k5c, k5t⟩ := ri_mg hI i5
    have k5d := ix_lt k5a
    have k5e := ix_lt k5b
    have k5f := ix_lt k5c
    have k5g := in_1 k5b
    have k5h := ix_lt k5g
    refine sr_aload_n G rfl d_R_acknowledge_10 ?_
    refine sr_get G (vv_20 hn) rfl ku_R rfl 24 (by decide) kf_R_77 rfl rfl d_R_acknowledge_11 ?_
    refine sr_iload_n G rfl d_R_acknowledge_14 ?_
    refine sr_zald G (vv_21 hn (by decide)) rfl (by assumption) d_R_acknowledge_15 ?_
    refine sr_if_ne G 22 d_R_acknowledge_16 rfl (fun h16 => ?_) (fun h16 => ?_)
    · skip
      refine sr_aload_n G rfl d_R_acknowledge_22 ?_
      refine sr_aload_n G rfl d_R_acknowledge_23 ?_
      refine sr_get G (vv_20 hn) rfl ku_R rfl 17 (by decide) kf_R_56 rfl rfl d_R_acknowledge_24 ?_
      refine sr_iload_n G rfl d_R_acknowledge_27 ?_
      refine sr_iald G (vv_21 hn (by decide)) rfl (by assumption) d_R_acknowledge_28 ?_
      refine sr_iload_n G rfl d_R_acknowledge_29 ?_
      refine sr_cvi G (vv_20 hn) rfl rfl ki_R_unproved kx_R_unproved (c_R_unproved hn (by first | assumption | omega | decide | (unfold vp_in; decide))) kc_R_unproved km_R_128 kn_R yy_R_unproved rfl ⟨rfl, rfl, by decide, by decide⟩ (Nat.le_of_ble_eq_true rfl) rfl d_R_acknowledge_30 ?_
      refine sr_istore_n G (by decide) d_R_acknowledge_33 ?_
      refine sr_iload_n G rfl d_R_acknowledge_34 ?_
      refine sr_if_eq G 40 d_R_acknowledge_35 rfl (fun h35 => ?_) (fun h35 => ?_)
      · skip
        refine sr_iload_n G rfl d_R_acknowledge_40 ?_
        refine sr_aload_n G rfl d_R_acknowledge_41 ?_
        refine sr_get G (vv_20 hn) rfl ku_R rfl 28 (by decide) kf_R_89 rfl rfl d_R_acknowledge_42 ?_
        refine sr_iload_n G rfl d_R_acknowledge_45 ?_
        refine sr_iald G (vv_21 hn (by decide)) rfl (by assumption) d_R_acknowledge_46 ?_
        refine sr_icmp_ge G 53 d_R_acknowledge_47 rfl (fun h47 => ?_) (fun h47 => ?_)
        · skip
          refine sr_aload_n G rfl d_R_acknowledge_53 ?_
          refine sr_get G (vv_20 hn) rfl ku_R rfl 5 (by decide) kf_R_23 rfl rfl d_R_acknowledge_54 ?_
          refine sr_aload_n G rfl d_R_acknowledge_57 ?_
          refine sr_get G (vv_20 hn) rfl ku_R rfl 16 (by decide) kf_R_53 rfl rfl d_R_acknowledge_58 ?_
          refine sr_iload_n G rfl d_R_acknowledge_61 ?_
          refine sr_iald G (vv_21 hn (by decide)) rfl (by assumption) d_R_acknowledge_62 ?_
          refine sr_zald G (vv_21 hn (by decide)) rfl (by assumption) d_R_acknowledge_63 ?_
          refine sr_if_eq G 79 d_R_acknowledge_64 rfl (fun h64 => ?_) (fun h64 => ?_)
          · skip
            refine sr_aload_n G rfl d_R_acknowledge_79 ?_
            refine sr_iload_n G rfl d_R_acknowledge_80 ?_
            refine sr_aload_n G rfl d_R_acknowledge_81 ?_
            refine sr_get G (vv_20 hn) rfl ku_R rfl 27 (by decide) kf_R_86 rfl rfl d_R_acknowledge_82 ?_
            refine sr_iload_n G rfl d_R_acknowledge_85 ?_
            refine sr_iald G (vv_21 hn (by decide)) rfl (by assumption) d_R_acknowledge_86 ?_
            refine sr_iconst G (v := 2) (by decide) d_R_acknowledge_87 ?_
            refine sr_icmp_ne G 95 d_R_acknowledge_88 rfl (fun h88 => ?_) (fun h88 => ?_)
            · skip
              refine sr_iconst G (v := 0) (by decide) d_R_acknowledge_95 ?_
              refine sr_cvv G (vv_20 hn) rfl rfl ki_R_finish kx_R_finish (c_R_finish hn (by first | assumption | omega | decide | (unfold vp_in; decide)) (by first | assumption | omega | decide | (unfold vp_in; decide))) kc_R_finish km_R_159 kn_R yy_R_finish rfl ⟨rfl, rfl, by decide, by decide⟩ (Nat.le_of_ble_eq_true rfl) rfl d_R_acknowledge_96 ?_
              refine sr_aload_n G rfl d_R_acknowledge_99 ?_
              refine sr_get G (vv_20 hn) rfl ku_R rfl 27 (by decide) kf_R_86 rfl rfl d_R_acknowledge_100 ?_
              refine sr_iload_n G rfl d_R_acknowledge_103 ?_
              refine sr_iald G (vv_21 hn (by decide)) rfl (by assumption) d_R_acknowledge_104 ?_
              refine sr_iconst G (v := 1) (by decide) d_R_acknowledge_105 ?_
              refine sr_icmp_ne G 113 d_R_acknowledge_106 rfl (fun h106 => ?_) (fun h106 => ?_)
              · skip
                refine sr_iconst G (v := 0) (by decide) d_R_acknowledge_113 ?_
                refine sr_iret G d_R_acknowledge_114 ?_
                unfold f_R_acknowledge
                rw [if_pos h5, if_neg h16, if_pos h35, if_pos h47, if_pos h64, if_neg h88, if_neg h106]
                exact ⟨rfl, rfl⟩
              · skip
                refine sr_iconst G (v := 1) (by decide) d_R_acknowledge_109 ?_
                refine sr_goto G 114 d_R_acknowledge_110 rfl ?_
                refine sr_iret G d_R_acknowledge_114 ?_
                unfold f_R_acknowledge
                rw [if_pos h5, if_neg h16, if_pos h35, if_pos h47, if_pos h64, if_neg h88, if_pos h106]
                exact ⟨rfl, rfl⟩
            · skip
              refine sr_iconst G (v := 1) (by decide) d_R_acknowledge_91 ?_
              refine sr_goto G 96 d_R_acknowledge_92 rfl ?_
              refine sr_cvv G (vv_20 hn) rfl rfl ki_R_finish kx_R_finish (c_R_finish hn (by first | assumption | omega | decide | (unfold vp_in; decide)) (by first | assumption | omega | decide | (unfold vp_in; decide))) kc_R_finish km_R_159 kn_R yy_R_finish rfl ⟨rfl, rfl, by decide, by decide⟩ (Nat.le_of_ble_eq_true rfl) rfl d_R_acknowledge_96 ?_
              refine sr_aload_n G rfl d_R_acknowledge_99 ?_
              refine sr_get G (vv_20 hn) rfl ku_R rfl 27 (by decide) kf_R_86 rfl rfl d_R_acknowledge_100 ?_
              refine sr_iload_n G rfl d_R_acknowledge_103 ?_
              refine sr_iald G (vv_21 hn (by decide)) rfl (by assumption) d_R_acknowledge_104 ?_
              refine sr_iconst G (v := 1) (by decide) d_R_acknowledge_105 ?_
              refine sr_icmp_ne G 113 d_R_acknowledge_106 rfl (fun h106 => ?_) (fun h106 => ?_)
              · skip
                refine sr_iconst G (v := 0) (by decide) d_R_acknowledge_113 ?_
                refine sr_iret G d_R_acknowledge_114 ?_
                unfold f_R_acknowledge
                rw [if_pos h5, if_neg h16, if_pos h35, if_pos h47, if_pos h64, if_pos h88, if_neg h106]
                exact ⟨rfl, rfl⟩
              · skip
                refine sr_iconst G (v := 1) (by decide) d_R_acknowledge_109 ?_
                refine sr_goto G 114 d_R_acknowledge_110 rfl ?_
                refine sr_iret G d_R_acknowledge_114 ?_
                unfold f_R_acknowledge
                rw [if_pos h5, if_neg h16, if_pos h35, if_pos h47, if_pos h64, if_pos h88, if_pos h106]
                exact ⟨rfl, rfl⟩
          · skip
            refine sr_aload_n G rfl d_R_acknowledge_67 ?_
            refine sr_iload_n G rfl d_R_acknowledge_68 ?_
            refine sr_iconst G (v := 1) (by decide) d_R_acknowledge_69 ?_
            refine sr_cvi G (vv_20 hn) rfl rfl ki_R_isBehind kx_R_isBehind (c_R_isBehind hn (by first | assumption | omega | decide | (unfold vp_in; decide))) kc_R_isBehind km_R_155 kn_R yy_R_isBehind rfl ⟨rfl, rfl, by decide, by decide⟩ (Nat.le_of_ble_eq_true rfl) rfl d_R_acknowledge_70 ?_
            refine sr_if_eq G 79 d_R_acknowledge_73 rfl (fun h73 => ?_) (fun h73 => ?_)
            · skip
              refine sr_aload_n G rfl d_R_acknowledge_79 ?_
              refine sr_iload_n G rfl d_R_acknowledge_80 ?_
              refine sr_aload_n G rfl d_R_acknowledge_81 ?_
              refine sr_get G (vv_20 hn) rfl ku_R rfl 27 (by decide) kf_R_86 rfl rfl d_R_acknowledge_82 ?_
              refine sr_iload_n G rfl d_R_acknowledge_85 ?_
              refine sr_iald G (vv_21 hn (by decide)) rfl (by assumption) d_R_acknowledge_86 ?_
              refine sr_iconst G (v := 2) (by decide) d_R_acknowledge_87 ?_
              refine sr_icmp_ne G 95 d_R_acknowledge_88 rfl (fun h88 => ?_) (fun h88 => ?_)
              · skip
                refine sr_iconst G (v := 0) (by decide) d_R_acknowledge_95 ?_
                refine sr_cvv G (vv_20 hn) rfl rfl ki_R_finish kx_R_finish (c_R_finish hn (by first | assumption | omega | decide | (unfold vp_in; decide)) (by first | assumption | omega | decide | (unfold vp_in; decide))) kc_R_finish km_R_159 kn_R yy_R_finish rfl ⟨rfl, rfl, by decide, by decide⟩ (Nat.le_of_ble_eq_true rfl) rfl d_R_acknowledge_96 ?_
                refine sr_aload_n G rfl d_R_acknowledge_99 ?_
                refine sr_get G (vv_20 hn) rfl ku_R rfl 27 (by decide) kf_R_86 rfl rfl d_R_acknowledge_100 ?_
                refine sr_iload_n G rfl d_R_acknowledge_103 ?_
                refine sr_iald G (vv_21 hn (by decide)) rfl (by assumption) d_R_acknowledge_104 ?_
                refine sr_iconst G (v := 1) (by decide) d_R_acknowledge_105 ?_
                refine sr_icmp_ne G 113 d_R_acknowledge_106 rfl (fun h106 => ?_) (fun h106 => ?_)
                · skip
                  refine sr_iconst G (v := 0) (by decide) d_R_acknowledge_113 ?_
                  refine sr_iret G d_R_acknowledge_114 ?_
                  unfold f_R_acknowledge
                  rw [if_pos h5, if_neg h16, if_pos h35, if_pos h47, if_neg h64, if_pos h73, if_neg h88, if_neg h106]
                  exact ⟨rfl, rfl⟩
                · skip
                  refine sr_iconst G (v := 1) (by decide) d_R_acknowledge_109 ?_
                  refine sr_goto G 114 d_R_acknowledge_110 rfl ?_
                  refine sr_iret G d_R_acknowledge_114 ?_
                  unfold f_R_acknowledge
                  rw [if_pos h5, if_neg h16, if_pos h35, if_pos h47, if_neg h64, if_pos h73, if_neg h88, if_pos h106]
                  exact ⟨rfl, rfl⟩
              · skip
                refine sr_iconst G (v := 1) (by decide) d_R_acknowledge_91 ?_
                refine sr_goto G 96 d_R_acknowledge_92 rfl ?_
                refine sr_cvv G (vv_20 hn) rfl rfl ki_R_finish kx_R_finish (c_R_finish hn (by first | assumption | omega | decide | (unfold vp_in; decide)) (by first | assumption | omega | decide | (unfold vp_in; decide))) kc_R_finish km_R_159 kn_R yy_R_finish rfl ⟨rfl, rfl, by decide, by decide⟩ (Nat.le_of_ble_eq_true rfl) rfl d_R_acknowledge_96 ?_
                refine sr_aload_n G rfl d_R_acknowledge_99 ?_
                refine sr_get G (vv_20 hn) rfl ku_R rfl 27 (by decide) kf_R_86 rfl rfl d_R_acknowledge_100 ?_
                refine sr_iload_n G rfl d_R_acknowledge_103 ?_
                refine sr_iald G (vv_21 hn (by decide)) rfl (by assumption) d_R_acknowledge_104 ?_
                refine sr_iconst G (v := 1) (by decide) d_R_acknowledge_105 ?_
                refine sr_icmp_ne G 113 d_R_acknowledge_106 rfl (fun h106 => ?_) (fun h106 => ?_)
                · skip
                  refine sr_iconst G (v := 0) (by decide) d_R_acknowledge_113 ?_
                  refine sr_iret G d_R_acknowledge_114 ?_
                  unfold f_R_acknowledge
                  rw [if_pos h5, if_neg h16, if_pos h35, if_pos h47, if_neg h64, if_pos h73, if_pos h88, if_neg h106]
                  exact ⟨rfl, rfl⟩
                · skip
                  refine sr_iconst G (v := 1) (by decide) d_R_acknowledge_109 ?_
                  refine sr_goto G 114 d_R_acknowledge_110 rfl ?_
                  refine sr_iret G d_R_acknowledge_114 ?_
                  unfold f_R_acknowledge
                  rw [if_pos h5, if_neg h16, if_pos h35, if_pos h47, if_neg h64, if_pos h73, if_pos h88, if_pos h106]
                  exact ⟨rfl, rfl⟩
            · skip
              refine sr_bipush G (v := (-8)) (by decide) d_R_acknowledge_76 ?_
              refine sr_iret G d_R_acknowledge_78 ?_
              unfold f_R_acknowledge
              rw [if_pos h5, if_neg h16, if_pos h35, if_pos h47, if_neg h64, if_neg h73]
              exact ⟨rfl, rfl⟩
        · skip
          refine sr_bipush G (v := (-6)) (by decide) d_R_acknowledge_50 ?_
          refine sr_iret G d_R_acknowledge_52 ?_
          unfold f_R_acknowledge
          rw [if_pos h5, if_neg h16, if_pos h35, if_neg h47]
          exact ⟨rfl, rfl⟩
      · skip
        refine sr_iload_n G rfl d_R_acknowledge_38 ?_
        refine sr_iret G d_R_acknowledge_39 ?_
        unfold f_R_acknowledge
        rw [if_pos h5, if_neg h16, if_neg h35]
        exact ⟨rfl, rfl⟩
    · skip
      refine sr_bipush G (v := (-3)) (by decide) d_R_acknowledge_19 ?_
      refine sr_iret G d_R_acknowledge_21 ?_
      unfold f_R_acknowledge
      rw [if_pos h5, if_pos h16]
      exact ⟨rfl, rfl⟩
  · skip
    refine sr_iconst G (v := (-1)) (by decide) d_R_acknowledge_8 ?_
    refine sr_iret G d_R_acknowledge_9 ?_
    unfold f_R_acknowledge
    rw [if_neg h5]
    exact ⟨rfl, rfl⟩
def f_R_timeout (M : Mem) (x1 : Int32) (x2 : Int32) : Int32 × Mem := (if (f_R_noMessage M x1) = 0 then (if (M 21 22 (Int32.toNatClampNeg x1)) = 0 then ((-3), M) else (if (f_R_unproved M (M 21 15 (Int32.toNatClampNeg x1)) x2) = 0 then (if x2 < (M 21 26 (Int32.toNatClampNeg x1)) then (if (M 21 21 (Int32.toNatClampNeg x1)) ≤ x2 then (if ((f_R_finish M x1 1) 21 4 (Int32.toNatClampNeg ((f_R_finish M x1 1) 21 14 (Int32.toNatClampNeg x1)))) = 0 then (((u3 (f_R_finish M x1 1) 21 5 (Int32.toNatClampNeg ((2 * ((f_R_finish M x1 1) 21 14 (Int32.toNatClampNeg x1))) + ((f_R_finish M x1 1) 21 15 (Int32.toNatClampNeg x1)))) ((f_R_finish M x1 1) 21 5 (Int32.toNatClampNeg ((2 * ((f_R_finish M x1 1) 21 14 (Int32.toNatClampNeg x1))) + ((f_R_finish M x1 1) 21 15 (Int32.toNatClampNeg x1)))))) 21 17 (Int32.toNatClampNeg x1)), (u3 (f_R_finish M x1 1) 21 5 (Int32.toNatClampNeg ((2 * ((f_R_finish M x1 1) 21 14 (Int32.toNatClampNeg x1))) + ((f_R_finish M x1 1) 21 15 (Int32.toNatClampNeg x1)))) ((f_R_finish M x1 1) 21 5 (Int32.toNatClampNeg ((2 * ((f_R_finish M x1 1) 21 14 (Int32.toNatClampNeg x1))) + ((f_R_finish M x1 1) 21 15 (Int32.toNatClampNeg x1))))))) else (if ((f_R_finish M x1 1) 21 5 (Int32.toNatClampNeg ((2 * ((f_R_finish M x1 1) 21 14 (Int32.toNatClampNeg x1))) + ((f_R_finish M x1 1) 21 15 (Int32.toNatClampNeg x1))))) = 3 then (((u3 (f_R_finish M x1 1) 21 5 (Int32.toNatClampNeg ((2 * ((f_R_finish M x1 1) 21 14 (Int32.toNatClampNeg x1))) + ((f_R_finish M x1 1) 21 15 (Int32.toNatClampNeg x1)))) 4) 21 17 (Int32.toNatClampNeg x1)), (u3 (f_R_finish M x1 1) 21 5 (Int32.toNatClampNeg ((2 * ((f_R_finish M x1 1) 21 14 (Int32.toNatClampNeg x1))) + ((f_R_finish M x1 1) 21 15 (Int32.toNatClampNeg x1)))) 4)) else (((u3 (f_R_finish M x1 1) 21 5 (Int32.toNatClampNeg ((2 * ((f_R_finish M x1 1) 21 14 (Int32.toNatClampNeg x1))) + ((f_R_finish M x1 1) 21 15 (Int32.toNatClampNeg x1)))) ((f_R_finish M x1 1) 21 5 (Int32.toNatClampNeg ((2 * ((f_R_finish M x1 1) 21 14 (Int32.toNatClampNeg x1))) + ((f_R_finish M x1 1) 21 15 (Int32.toNatClampNeg x1)))))) 21 17 (Int32.toNatClampNeg x1)), (u3 (f_R_finish M x1 1) 21 5 (Int32.toNatClampNeg ((2 * ((f_R_finish M x1 1) 21 14 (Int32.toNatClampNeg x1))) + ((f_R_finish M x1 1) 21 15 (Int32.toNatClampNeg x1)))) ((f_R_finish M x1 1) 21 5 (Int32.toNatClampNeg ((2 * ((f_R_finish M x1 1) 21 14 (Int32.toNatClampNeg x1))) + ((f_R_finish M x1 1) 21 15 (Int32.toNatClampNeg x1))))))))) else ((-7), M)) else ((-6), M)) else ((f_R_unproved M (M 21 15 (Int32.toNatClampNeg x1)) x2), M))) else ((-1), M))
set_option maxHeartbeats 4000000 in
set_option maxRecDepth 100000 in
theorem c_R_timeout {l : Launch} {D : va_G} {t6 : Nat → ClassId} {b n : Nat} (hn : 133 ≤ n) {M : Mem} {x1 : Int32} {x2 : Int32} (hI : ri_ M) : CI l D t6 b n y_R_timeout cd_R_timeout 5 .int (rk 3 67) [.ref (ad b 20 0), .int x1, .int x2] M (f_R_timeout M x1 x2).1 (f_R_timeout M x1 x2).2 := by
  refine en_i (by decide) (by simp [Value.category]) (Nat.le_of_ble_eq_true rfl) (fun p e s m below meth c G => ?_)
  refine sr_aload_n G rfl d_R_timeout_0 ?_
  refine sr_iload_n G rfl d_R_timeout_1 ?_
  refine sr_cvi G (vv_20 hn) rfl rfl ki_R_noMessage kx_R_noMessage (c_R_noMessage hn) kc_R_noMessage km_R_152 kn_R yy_R_noMessage rfl ⟨rfl, rfl, by decide, by decide⟩ (Nat.le_of_ble_eq_true rfl) rfl d_R_timeout_2 ?_
  refine sr_if_eq G 10 d_R_timeout_5 rfl (fun h5 => ?_) (fun h5 => ?_)
  · skip
    have v5 : vp_in x1 60 := in_msR hI h5
    have i5 := ix_lt v5
    obtain ⟨k5a, k5b, k5c, k5t⟩ := ri_mg hI i5
    have k5d := ix_lt k5a
    have k5e := ix_lt k5b
    have k5f := ix_lt k5c
    have k5g := in_1 k5b
    have k5h := ix_lt k5g
    refine sr_aload_n G rfl d_R_timeout_10 ?_
    refine sr_get G (vv_20 hn) rfl ku_R rfl 24 (by decide) kf_R_77 rfl rfl d_R_timeout_11 ?_
    refine sr_iload_n G rfl d_R_timeout_14 ?_
    refine sr_zald G (vv_21 hn (by decide)) rfl (by assumption) d_R_timeout_15 ?_
    refine sr_if_ne G 22 d_R_timeout_16 rfl (fun h16 => ?_) (fun h16 => ?_)
    · skip
      refine sr_aload_n G rfl d_R_timeout_22 ?_
      refine sr_aload_n G rfl d_R_timeout_23 ?_
      refine sr_get G (vv_20 hn) rfl ku_R rfl 17 (by decide) kf_R_56 rfl rfl d_R_timeout_24 ?_
      refine sr_iload_n G rfl d_R_timeout_27 ?_
      refine sr_iald G (vv_21 hn (by decide)) rfl (by assumption) d_R_timeout_28 ?_
      refine sr_iload_n G rfl d_R_timeout_29 ?_
      refine sr_cvi G (vv_20 hn) rfl rfl ki_R_unproved kx_R_unproved (c_R_unproved hn (by first | assumption | omega | decide | (unfold vp_in; decide))) kc_R_unproved km_R_128 kn_R yy_R_unproved rfl ⟨rfl, rfl, by decide, by decide⟩ (Nat.le_of_ble_eq_true rfl) rfl d_R_timeout_30 ?_
      refine sr_istore_n G (by decide) d_R_timeout_33 ?_
      refine sr_iload_n G rfl d_R_timeout_34 ?_
      refine sr_if_eq G 40 d_R_timeout_35 rfl (fun h35 => ?_) (fun h35 => ?_)
      · skip
        refine sr_iload_n G rfl d_R_timeout_40 ?_
        refine sr_aload_n G rfl d_R_timeout_41 ?_
        refine sr_get G (vv_20 hn) rfl ku_R rfl 28 (by decide) kf_R_89 rfl rfl d_R_timeout_42 ?_
        refine sr_iload_n G rfl d_R_timeout_45 ?_
        refine sr_iald G (vv_21 hn (by decide)) rfl (by assumption) d_R_timeout_46 ?_
        refine sr_icmp_lt G 53 d_R_timeout_47 rfl (fun h47 => ?_) (fun h47 => ?_)
        · skip
          refine sr_iload_n G rfl d_R_timeout_53 ?_
          refine sr_aload_n G rfl d_R_timeout_54 ?_
          refine sr_get G (vv_20 hn) rfl ku_R rfl 23 (by decide) kf_R_74 rfl rfl d_R_timeout_55 ?_
          refine sr_iload_n G rfl d_R_timeout_58 ?_
          refine sr_iald G (vv_21 hn (by decide)) rfl (by assumption) d_R_timeout_59 ?_
          refine sr_icmp_ge G 66 d_R_timeout_60 rfl (fun h60 => ?_) (fun h60 => ?_)
          · skip
            refine sr_aload_n G rfl d_R_timeout_66 ?_
            refine sr_iload_n G rfl d_R_timeout_67 ?_
            refine sr_iconst G (v := 1) (by decide) d_R_timeout_68 ?_
            refine sr_cvv G (vv_20 hn) rfl rfl ki_R_finish kx_R_finish (c_R_finish hn (by first | assumption | omega | decide | (unfold vp_in; decide)) (by first | assumption | omega | decide | (unfold vp_in; decide))) kc_R_finish km_R_159 kn_R yy_R_finish rfl ⟨rfl, rfl, by decide, by decide⟩ (Nat.le_of_ble_eq_true rfl) rfl d_R_timeout_69 ?_
            have hI9 : ri_ (f_R_finish M x1 1) := ri_fin hI
            obtain ⟨t0, t1, t2, t3⟩ := ri_mg hI9 i5
            have te := in_e t0 t1
            refine sr_iconst G (v := 2) (by decide) d_R_timeout_72 ?_
            refine sr_aload_n G rfl d_R_timeout_73 ?_
            refine sr_get G (vv_20 hn) rfl ku_R rfl 16 (by decide) kf_R_53 rfl rfl d_R_timeout_74 ?_
            refine sr_iload_n G rfl d_R_timeout_77 ?_
            refine sr_iald G (vv_21 hn (by decide)) rfl (by assumption) d_R_timeout_78 ?_
            refine sr_imul G d_R_timeout_79 ?_
            refine sr_aload_n G rfl d_R_timeout_80 ?_
            refine sr_get G (vv_20 hn) rfl ku_R rfl 17 (by decide) kf_R_56 rfl rfl d_R_timeout_81 ?_
            refine sr_iload_n G rfl d_R_timeout_84 ?_
            refine sr_iald G (vv_21 hn (by decide)) rfl (by assumption) d_R_timeout_85 ?_
            refine sr_iadd G d_R_timeout_86 ?_
            refine sr_istore G (by decide) d_R_timeout_87 ?_
            refine sr_aload_n G rfl d_R_timeout_89 ?_
            refine sr_get G (vv_20 hn) rfl ku_R rfl 6 (by decide) kf_R_26 rfl rfl d_R_timeout_90 ?_
            refine sr_iload G rfl d_R_timeout_93 ?_
            refine sr_aload_n G rfl d_R_timeout_95 ?_
            refine sr_get G (vv_20 hn) rfl ku_R rfl 5 (by decide) kf_R_23 rfl rfl d_R_timeout_96 ?_
            refine sr_aload_n G rfl d_R_timeout_99 ?_
            refine sr_get G (vv_20 hn) rfl ku_R rfl 16 (by decide) kf_R_53 rfl rfl d_R_timeout_100 ?_
            refine sr_iload_n G rfl d_R_timeout_103 ?_
            refine sr_iald G (vv_21 hn (by decide)) rfl (by assumption) d_R_timeout_104 ?_
            refine sr_zald G (vv_21 hn (by decide)) rfl (by assumption) d_R_timeout_105 ?_
            refine sr_if_eq G 124 d_R_timeout_106 rfl (fun h106 => ?_) (fun h106 => ?_)
            · skip
              refine sr_aload_n G rfl d_R_timeout_124 ?_
              refine sr_get G (vv_20 hn) rfl ku_R rfl 6 (by decide) kf_R_26 rfl rfl d_R_timeout_125 ?_
              refine sr_iload G rfl d_R_timeout_128 ?_
              refine sr_iald G (vv_21 hn (by decide)) rfl (in_e (by assumption) (by assumption)) d_R_timeout_130 ?_
              refine sr_iast G (vv_21 hn (by decide)) (fun _ => rfl) (in_e (by assumption) (by assumption)) d_R_timeout_131 ?_
              refine sr_aload_n G rfl d_R_timeout_132 ?_
              refine sr_get G (vv_20 hn) rfl ku_R rfl 19 (by decide) kf_R_62 rfl rfl d_R_timeout_133 ?_
              refine sr_iload_n G rfl d_R_timeout_136 ?_
              refine sr_iald G (vv_21 hn (by decide)) rfl (by assumption) d_R_timeout_137 ?_
              refine sr_iret G d_R_timeout_138 ?_
              unfold f_R_timeout
              rw [if_pos h5, if_neg h16, if_pos h35, if_pos h47, if_pos h60, if_pos h106]
              exact ⟨rfl, rfl⟩
            · skip
              refine sr_aload_n G rfl d_R_timeout_109 ?_
              refine sr_get G (vv_20 hn) rfl ku_R rfl 6 (by decide) kf_R_26 rfl rfl d_R_timeout_110 ?_
              refine sr_iload G rfl d_R_timeout_113 ?_
              refine sr_iald G (vv_21 hn (by decide)) rfl (in_e (by assumption) (by assumption)) d_R_timeout_115 ?_
              refine sr_iconst G (v := 3) (by decide) d_R_timeout_116 ?_
              refine sr_icmp_ne G 124 d_R_timeout_117 rfl (fun h117 => ?_) (fun h117 => ?_)
              · skip
                refine sr_aload_n G rfl d_R_timeout_124 ?_
                refine sr_get G (vv_20 hn) rfl ku_R rfl 6 (by decide) kf_R_26 rfl rfl d_R_timeout_125 ?_
                refine sr_iload G rfl d_R_timeout_128 ?_
                refine sr_iald G (vv_21 hn (by decide)) rfl (in_e (by assumption) (by assumption)) d_R_timeout_130 ?_
                refine sr_iast G (vv_21 hn (by decide)) (fun _ => rfl) (in_e (by assumption) (by assumption)) d_R_timeout_131 ?_
                refine sr_aload_n G rfl d_R_timeout_132 ?_
                refine sr_get G (vv_20 hn) rfl ku_R rfl 19 (by decide) kf_R_62 rfl rfl d_R_timeout_133 ?_
                refine sr_iload_n G rfl d_R_timeout_136 ?_
                refine sr_iald G (vv_21 hn (by decide)) rfl (by assumption) d_R_timeout_137 ?_
                refine sr_iret G d_R_timeout_138 ?_
                unfold f_R_timeout
                rw [if_pos h5, if_neg h16, if_pos h35, if_pos h47, if_pos h60, if_neg h106, if_neg h117]
                exact ⟨rfl, rfl⟩
              · skip
                refine sr_iconst G (v := 4) (by decide) d_R_timeout_120 ?_
                refine sr_goto G 131 d_R_timeout_121 rfl ?_
                refine sr_iast G (vv_21 hn (by decide)) (fun _ => rfl) (in_e (by assumption) (by assumption)) d_R_timeout_131 ?_
                refine sr_aload_n G rfl d_R_timeout_132 ?_
                refine sr_get G (vv_20 hn) rfl ku_R rfl 19 (by decide) kf_R_62 rfl rfl d_R_timeout_133 ?_
                refine sr_iload_n G rfl d_R_timeout_136 ?_
                refine sr_iald G (vv_21 hn (by decide)) rfl (by assumption) d_R_timeout_137 ?_
                refine sr_iret G d_R_timeout_138 ?_
                unfold f_R_timeout
                rw [if_pos h5, if_neg h16, if_pos h35, if_pos h47, if_pos h60, if_neg h106, if_pos h117]
                exact ⟨rfl, rfl⟩
          · skip
            refine sr_bipush G (v := (-7)) (by decide) d_R_timeout_63 ?_
            refine sr_iret G d_R_timeout_65 ?_
            unfold f_R_timeout
            rw [if_pos h5, if_neg h16, if_pos h35, if_pos h47, if_neg h60]
            exact ⟨rfl, rfl⟩
        · skip
          refine sr_bipush G (v := (-6)) (by decide) d_R_timeout_50 ?_
          refine sr_iret G d_R_timeout_52 ?_
          unfold f_R_timeout
          rw [if_pos h5, if_neg h16, if_pos h35, if_neg h47]
          exact ⟨rfl, rfl⟩
      · skip
        refine sr_iload_n G rfl d_R_timeout_38 ?_
        refine sr_iret G d_R_timeout_39 ?_
        unfold f_R_timeout
        rw [if_pos h5, if_neg h16, if_neg h35]
        exact ⟨rfl, rfl⟩
    · skip
      refine sr_bipush G (v := (-3)) (by decide) d_R_timeout_19 ?_
      refine sr_iret G d_R_timeout_21 ?_
      unfold f_R_timeout
      rw [if_pos h5, if_pos h16]
      exact ⟨rfl, rfl⟩
  · skip
    refine sr_iconst G (v := (-1)) (by decide) d_R_timeout_8 ?_
    refine sr_iret G d_R_timeout_9 ?_
    unfold f_R_timeout
    rw [if_neg h5]
    exact ⟨rfl, rfl⟩
def f_R_end (M : Mem) (x1 : Int32) (x2 : Int32) (x3 : Int32) : Int32 := (if (f_R_noChannel M x1) = 0 then (if (f_R_noSide x2) = 0 then (if x3 = 0 then (M 21 5 (Int32.toNatClampNeg ((2 * x1) + x2))) else (if x3 = 1 then (M 21 6 (Int32.toNatClampNeg ((2 * x1) + x2))) else (if x3 = 2 then (M 21 7 (Int32.toNatClampNeg ((2 * x1) + x2))) else (if x3 = 3 then (M 21 8 (Int32.toNatClampNeg ((2 * x1) + x2))) else (if x3 = 4 then (M 21 9 (Int32.toNatClampNeg ((2 * x1) + x2))) else (if x3 = 5 then (M 21 10 (Int32.toNatClampNeg ((2 * x1) + x2))) else (if x3 = 6 then (if (M 21 4 (Int32.toNatClampNeg x1)) = 0 then 0 else 1) else (-2)))))))) else (-1)) else (-1))
set_option maxHeartbeats 4000000 in
set_option maxRecDepth 100000 in
theorem c_R_end {l : Launch} {D : va_G} {t6 : Nat → ClassId} {b n : Nat} (hn : 133 ≤ n) {M : Mem} {x1 : Int32} {x2 : Int32} {x3 : Int32} (hI : ri_ M) : CI l D t6 b n y_R_end cd_R_end 5 .int (rk 2 43) [.ref (ad b 20 0), .int x1, .int x2, .int x3] M (f_R_end M x1 x2 x3) M := by
  refine en_i (by decide) (by simp [Value.category]) (Nat.le_of_ble_eq_true rfl) (fun p e s m below meth c G => ?_)
  refine sr_aload_n G rfl d_R_end_0 ?_
  refine sr_iload_n G rfl d_R_end_1 ?_
  refine sr_cvi G (vv_20 hn) rfl rfl ki_R_noChannel kx_R_noChannel (c_R_noChannel hn) kc_R_noChannel km_R_135 kn_R yy_R_noChannel rfl ⟨rfl, rfl, by decide, by decide⟩ (Nat.le_of_ble_eq_true rfl) rfl d_R_end_2 ?_
  refine sr_if_ne G 15 d_R_end_5 rfl (fun h5 => ?_) (fun h5 => ?_)
  · skip
    refine sr_iconst G (v := (-1)) (by decide) d_R_end_15 ?_
    refine sr_iret G d_R_end_16 ?_
    unfold f_R_end
    rw [if_neg h5]
    exact ⟨rfl, rfl⟩
  · skip
    have v5 : vp_in x1 4 := in_chR hI h5
    have i5 := ix_lt v5
    have f5 := ri_b hI i5
    have f5a := ix_lt f5
    have f5b := in_1 f5
    have f5c := ix_lt f5b
    have f5d := in_1 f5b
    have f5e := ix_lt f5d
    refine sr_iload_n G rfl d_R_end_8 ?_
    refine sr_csi G ks_R_noSide (c_R_noSide) kc_R_noSide km_R_109 kn_R yy_R_noSide rfl ⟨rfl, rfl, by decide, by decide⟩ (Nat.le_of_ble_eq_true rfl) rfl d_R_end_9 ?_
    refine sr_if_eq G 17 d_R_end_12 rfl (fun h12 => ?_) (fun h12 => ?_)
    · skip
      have v12 : vp_in x2 2 := in_nos h12
      have i12 := ix_lt v12
      have w12 := in_1 v12
      have j12 := ix_lt w12
      refine sr_iconst G (v := 2) (by decide) d_R_end_17 ?_
      refine sr_iload_n G rfl d_R_end_18 ?_
      refine sr_imul G d_R_end_19 ?_
      refine sr_iload_n G rfl d_R_end_20 ?_
      refine sr_iadd G d_R_end_21 ?_
      refine sr_istore G (by decide) d_R_end_22 ?_
      refine sr_iload_n G rfl d_R_end_24 ?_
      by_cases h25_0 : x3 = 0
      · skip
        refine sr_tabIn G 68 d_R_end_25 (by rw [h25_0]; decide) (by rw [h25_0]; decide) (by rw [h25_0]; rfl) rfl ?_
        refine sr_aload_n G rfl d_R_end_68 ?_
        refine sr_get G (vv_20 hn) rfl ku_R rfl 6 (by decide) kf_R_26 rfl rfl d_R_end_69 ?_
        refine sr_iload G rfl d_R_end_72 ?_
        refine sr_iald G (vv_21 hn (by decide)) rfl (in_e (by assumption) (by assumption)) d_R_end_74 ?_
        refine sr_iret G d_R_end_75 ?_
        unfold f_R_end
        rw [if_pos h5, if_pos h12, if_pos h25_0]
        exact ⟨rfl, rfl⟩
      · skip
        by_cases h25_1 : x3 = 1
        · skip
          refine sr_tabIn G 76 d_R_end_25 (by rw [h25_1]; decide) (by rw [h25_1]; decide) (by rw [h25_1]; rfl) rfl ?_
          refine sr_aload_n G rfl d_R_end_76 ?_
          refine sr_get G (vv_20 hn) rfl ku_R rfl 7 (by decide) kf_R_29 rfl rfl d_R_end_77 ?_
          refine sr_iload G rfl d_R_end_80 ?_
          refine sr_iald G (vv_21 hn (by decide)) rfl (in_e (by assumption) (by assumption)) d_R_end_82 ?_
          refine sr_iret G d_R_end_83 ?_
          unfold f_R_end
          rw [if_pos h5, if_pos h12, if_neg h25_0, if_pos h25_1]
          exact ⟨rfl, rfl⟩
        · skip
          by_cases h25_2 : x3 = 2
          · skip
            refine sr_tabIn G 84 d_R_end_25 (by rw [h25_2]; decide) (by rw [h25_2]; decide) (by rw [h25_2]; rfl) rfl ?_
            refine sr_aload_n G rfl d_R_end_84 ?_
            refine sr_get G (vv_20 hn) rfl ku_R rfl 8 (by decide) kf_R_32 rfl rfl d_R_end_85 ?_
            refine sr_iload G rfl d_R_end_88 ?_
            refine sr_iald G (vv_21 hn (by decide)) rfl (in_e (by assumption) (by assumption)) d_R_end_90 ?_
            refine sr_iret G d_R_end_91 ?_
            unfold f_R_end
            rw [if_pos h5, if_pos h12, if_neg h25_0, if_neg h25_1, if_pos h25_2]
            exact ⟨rfl, rfl⟩
          · skip
            by_cases h25_3 : x3 = 3
            · skip
              refine sr_tabIn G 92 d_R_end_25 (by rw [h25_3]; decide) (by rw [h25_3]; decide) (by rw [h25_3]; rfl) rfl ?_
              refine sr_aload_n G rfl d_R_end_92 ?_
              refine sr_get G (vv_20 hn) rfl ku_R rfl 9 (by decide) kf_R_35 rfl rfl d_R_end_93 ?_
              refine sr_iload G rfl d_R_end_96 ?_
              refine sr_iald G (vv_21 hn (by decide)) rfl (in_e (by assumption) (by assumption)) d_R_end_98 ?_
              refine sr_iret G d_R_end_99 ?_
              unfold f_R_end
              rw [if_pos h5, if_pos h12, if_neg h25_0, if_neg h25_1, if_neg h25_2, if_pos h25_3]
              exact ⟨rfl, rfl⟩
            · skip
              by_cases h25_4 : x3 = 4
              · skip
                refine sr_tabIn G 100 d_R_end_25 (by rw [h25_4]; decide) (by rw [h25_4]; decide) (by rw [h25_4]; rfl) rfl ?_
                refine sr_aload_n G rfl d_R_end_100 ?_
                refine sr_get G (vv_20 hn) rfl ku_R rfl 10 (by decide) kf_R_38 rfl rfl d_R_end_101 ?_
                refine sr_iload G rfl d_R_end_104 ?_
                refine sr_iald G (vv_21 hn (by decide)) rfl (in_e (by assumption) (by assumption)) d_R_end_106 ?_
                refine sr_iret G d_R_end_107 ?_
                unfold f_R_end
                rw [if_pos h5, if_pos h12, if_neg h25_0, if_neg h25_1, if_neg h25_2, if_neg h25_3, if_pos h25_4]
                exact ⟨rfl, rfl⟩
              · skip
                by_cases h25_5 : x3 = 5
                · skip
                  refine sr_tabIn G 108 d_R_end_25 (by rw [h25_5]; decide) (by rw [h25_5]; decide) (by rw [h25_5]; rfl) rfl ?_
                  refine sr_aload_n G rfl d_R_end_108 ?_
                  refine sr_get G (vv_20 hn) rfl ku_R rfl 11 (by decide) kf_R_41 rfl rfl d_R_end_109 ?_
                  refine sr_iload G rfl d_R_end_112 ?_
                  refine sr_iald G (vv_21 hn (by decide)) rfl (in_e (by assumption) (by assumption)) d_R_end_114 ?_
                  refine sr_iret G d_R_end_115 ?_
                  unfold f_R_end
                  rw [if_pos h5, if_pos h12, if_neg h25_0, if_neg h25_1, if_neg h25_2, if_neg h25_3, if_neg h25_4, if_pos h25_5]
                  exact ⟨rfl, rfl⟩
                · skip
                  by_cases h25_6 : x3 = 6
                  · skip
                    refine sr_tabIn G 116 d_R_end_25 (by rw [h25_6]; decide) (by rw [h25_6]; decide) (by rw [h25_6]; rfl) rfl ?_
                    refine sr_aload_n G rfl d_R_end_116 ?_
                    refine sr_get G (vv_20 hn) rfl ku_R rfl 5 (by decide) kf_R_23 rfl rfl d_R_end_117 ?_
                    refine sr_iload_n G rfl d_R_end_120 ?_
                    refine sr_zald G (vv_21 hn (by decide)) rfl (by assumption) d_R_end_121 ?_
                    refine sr_if_eq G 129 d_R_end_122 rfl (fun h122 => ?_) (fun h122 => ?_)
                    · skip
                      refine sr_iconst G (v := 0) (by decide) d_R_end_129 ?_
                      refine sr_iret G d_R_end_130 ?_
                      unfold f_R_end
                      rw [if_pos h5, if_pos h12, if_neg h25_0, if_neg h25_1, if_neg h25_2, if_neg h25_3, if_neg h25_4, if_neg h25_5, if_pos h25_6, if_pos h122]
                      exact ⟨rfl, rfl⟩
                    · skip
                      refine sr_iconst G (v := 1) (by decide) d_R_end_125 ?_
                      refine sr_goto G 130 d_R_end_126 rfl ?_
                      refine sr_iret G d_R_end_130 ?_
                      unfold f_R_end
                      rw [if_pos h5, if_pos h12, if_neg h25_0, if_neg h25_1, if_neg h25_2, if_neg h25_3, if_neg h25_4, if_neg h25_5, if_pos h25_6, if_neg h122]
                      exact ⟨rfl, rfl⟩
                  · skip
                    refine sr_tabOut G 131 d_R_end_25 (by have := lv_neT h25_0 (show (0 : Int32).toInt = 0 by decide); have := lv_neT h25_1 (show (1 : Int32).toInt = 1 by decide); have := lv_neT h25_2 (show (2 : Int32).toInt = 2 by decide); have := lv_neT h25_3 (show (3 : Int32).toInt = 3 by decide); have := lv_neT h25_4 (show (4 : Int32).toInt = 4 by decide); have := lv_neT h25_5 (show (5 : Int32).toInt = 5 by decide); have := lv_neT h25_6 (show (6 : Int32).toInt = 6 by decide); omega) rfl ?_
                    refine sr_bipush G (v := (-2)) (by decide) d_R_end_131 ?_
                    refine sr_iret G d_R_end_133 ?_
                    unfold f_R_end
                    rw [if_pos h5, if_pos h12, if_neg h25_0, if_neg h25_1, if_neg h25_2, if_neg h25_3, if_neg h25_4, if_neg h25_5, if_neg h25_6]
                    exact ⟨rfl, rfl⟩
    · skip
      refine sr_iconst G (v := (-1)) (by decide) d_R_end_15 ?_
      refine sr_iret G d_R_end_16 ?_
      unfold f_R_end
      rw [if_pos h5, if_neg h12]
      exact ⟨rfl, rfl⟩
def f_R_stepAt (M : Mem) (x1 : Int32) (x2 : Int32) (x3 : Int32) : Int32 := (if (f_R_noChannel M x1) = 0 then (if (f_R_noSide x2) = 0 then (if (f_R_in x3 0 (M 21 0 (Int32.toNatClampNeg x2))) = 0 then (-2) else (f_R_stepOf M x1 x2 x3)) else (-1)) else (-1))
set_option maxHeartbeats 4000000 in
set_option maxRecDepth 100000 in
theorem c_R_stepAt {l : Launch} {D : va_G} {t6 : Nat → ClassId} {b n : Nat} (hn : 133 ≤ n) {M : Mem} {x1 : Int32} {x2 : Int32} {x3 : Int32} (hI : ri_ M) : CI l D t6 b n y_R_stepAt cd_R_stepAt 4 .int (rk 2 43) [.ref (ad b 20 0), .int x1, .int x2, .int x3] M (f_R_stepAt M x1 x2 x3) M := by
  refine en_i (by decide) (by simp [Value.category]) (Nat.le_of_ble_eq_true rfl) (fun p e s m below meth c G => ?_)
  refine sr_aload_n G rfl d_R_stepAt_0 ?_
  refine sr_iload_n G rfl d_R_stepAt_1 ?_
  refine sr_cvi G (vv_20 hn) rfl rfl ki_R_noChannel kx_R_noChannel (c_R_noChannel hn) kc_R_noChannel km_R_135 kn_R yy_R_noChannel rfl ⟨rfl, rfl, by decide, by decide⟩ (Nat.le_of_ble_eq_true rfl) rfl d_R_stepAt_2 ?_
  refine sr_if_ne G 15 d_R_stepAt_5 rfl (fun h5 => ?_) (fun h5 => ?_)
  · skip
    refine sr_iconst G (v := (-1)) (by decide) d_R_stepAt_15 ?_
    refine sr_iret G d_R_stepAt_16 ?_
    unfold f_R_stepAt
    rw [if_neg h5]
    exact ⟨rfl, rfl⟩
  · skip
    have v5 : vp_in x1 4 := in_chR hI h5
    have i5 := ix_lt v5
    have f5 := ri_b hI i5
    have f5a := ix_lt f5
    have f5b := in_1 f5
    have f5c := ix_lt f5b
    have f5d := in_1 f5b
    have f5e := ix_lt f5d
    refine sr_iload_n G rfl d_R_stepAt_8 ?_
    refine sr_csi G ks_R_noSide (c_R_noSide) kc_R_noSide km_R_109 kn_R yy_R_noSide rfl ⟨rfl, rfl, by decide, by decide⟩ (Nat.le_of_ble_eq_true rfl) rfl d_R_stepAt_9 ?_
    refine sr_if_eq G 17 d_R_stepAt_12 rfl (fun h12 => ?_) (fun h12 => ?_)
    · skip
      have v12 : vp_in x2 2 := in_nos h12
      have i12 := ix_lt v12
      have w12 := in_1 v12
      have j12 := ix_lt w12
      refine sr_iload_n G rfl d_R_stepAt_17 ?_
      refine sr_iconst G (v := 0) (by decide) d_R_stepAt_18 ?_
      refine sr_aload_n G rfl d_R_stepAt_19 ?_
      refine sr_get G (vv_20 hn) rfl ku_R rfl 0 (by decide) kf_R_7 rfl rfl d_R_stepAt_20 ?_
      refine sr_iload_n G rfl d_R_stepAt_23 ?_
      refine sr_iald G (vv_21 hn (by decide)) rfl (by assumption) d_R_stepAt_24 ?_
      refine sr_csi G ks_R_in (c_R_in) kc_R_in km_R_113 kn_R yy_R_in rfl ⟨rfl, rfl, by decide, by decide⟩ (Nat.le_of_ble_eq_true rfl) rfl d_R_stepAt_25 ?_
      refine sr_if_eq G 41 d_R_stepAt_28 rfl (fun h28 => ?_) (fun h28 => ?_)
      · skip
        refine sr_bipush G (v := (-2)) (by decide) d_R_stepAt_41 ?_
        refine sr_iret G d_R_stepAt_43 ?_
        unfold f_R_stepAt
        rw [if_pos h5, if_pos h12, if_pos h28]
        exact ⟨rfl, rfl⟩
      · skip
        refine sr_aload_n G rfl d_R_stepAt_31 ?_
        refine sr_iload_n G rfl d_R_stepAt_32 ?_
        refine sr_iload_n G rfl d_R_stepAt_33 ?_
        refine sr_iload_n G rfl d_R_stepAt_34 ?_
        have v28 : vp_in x3 201 := in_wiR (by decide) (vp_in_iff.mp (ri_h hI i12)).2 h28
        refine sr_cvi G (vv_20 hn) rfl rfl ki_R_stepOf kx_R_stepOf (c_R_stepOf hn (by first | assumption | omega | decide | (unfold vp_in; decide)) (by first | assumption | omega | decide | (unfold vp_in; decide)) (by first | assumption | omega | decide | (unfold vp_in; decide))) kc_R_stepOf km_R_131 kn_R yy_R_stepOf rfl ⟨rfl, rfl, by decide, by decide⟩ (Nat.le_of_ble_eq_true rfl) rfl d_R_stepAt_35 ?_
        refine sr_goto G 43 d_R_stepAt_38 rfl ?_
        refine sr_iret G d_R_stepAt_43 ?_
        unfold f_R_stepAt
        rw [if_pos h5, if_pos h12, if_neg h28]
        exact ⟨rfl, rfl⟩
    · skip
      refine sr_iconst G (v := (-1)) (by decide) d_R_stepAt_15 ?_
      refine sr_iret G d_R_stepAt_16 ?_
      unfold f_R_stepAt
      rw [if_pos h5, if_neg h12]
      exact ⟨rfl, rfl⟩
def f_R_message (M : Mem) (x1 : Int32) (x2 : Int32) : Int32 := (if (f_R_noMessage M x1) = 0 then (if x2 = 0 then (M 21 14 (Int32.toNatClampNeg x1)) else (if x2 = 1 then (M 21 15 (Int32.toNatClampNeg x1)) else (if x2 = 2 then (M 21 16 (Int32.toNatClampNeg x1)) else (if x2 = 3 then (M 21 17 (Int32.toNatClampNeg x1)) else (if x2 = 4 then (M 21 18 (Int32.toNatClampNeg x1)) else (if x2 = 5 then (M 21 19 (Int32.toNatClampNeg x1)) else (if x2 = 6 then (M 21 20 (Int32.toNatClampNeg x1)) else (if x2 = 7 then (M 21 21 (Int32.toNatClampNeg x1)) else (if x2 = 8 then (if (M 21 22 (Int32.toNatClampNeg x1)) = 0 then 0 else 1) else (if x2 = 9 then (M 21 25 (Int32.toNatClampNeg x1)) else (if x2 = 10 then (if (M 21 27 (Int32.toNatClampNeg x1)) = 0 then 0 else 1) else (-2)))))))))))) else (-1))
set_option maxHeartbeats 4000000 in
set_option maxRecDepth 100000 in
theorem c_R_message {l : Launch} {D : va_G} {t6 : Nat → ClassId} {b n : Nat} (hn : 133 ≤ n) {M : Mem} {x1 : Int32} {x2 : Int32} (hI : ri_ M) : CI l D t6 b n y_R_message cd_R_message 3 .int (rk 2 43) [.ref (ad b 20 0), .int x1, .int x2] M (f_R_message M x1 x2) M := by
  refine en_i (by decide) (by simp [Value.category]) (Nat.le_of_ble_eq_true rfl) (fun p e s m below meth c G => ?_)
  refine sr_aload_n G rfl d_R_message_0 ?_
  refine sr_iload_n G rfl d_R_message_1 ?_
  refine sr_cvi G (vv_20 hn) rfl rfl ki_R_noMessage kx_R_noMessage (c_R_noMessage hn) kc_R_noMessage km_R_152 kn_R yy_R_noMessage rfl ⟨rfl, rfl, by decide, by decide⟩ (Nat.le_of_ble_eq_true rfl) rfl d_R_message_2 ?_
  refine sr_if_eq G 10 d_R_message_5 rfl (fun h5 => ?_) (fun h5 => ?_)
  · skip
    have v5 : vp_in x1 60 := in_msR hI h5
    have i5 := ix_lt v5
    obtain ⟨k5a, k5b, k5c, k5t⟩ := ri_mg hI i5
    have k5d := ix_lt k5a
    have k5e := ix_lt k5b
    have k5f := ix_lt k5c
    have k5g := in_1 k5b
    have k5h := ix_lt k5g
    refine sr_iload_n G rfl d_R_message_10 ?_
    by_cases h11_0 : x2 = 0
    · skip
      refine sr_tabIn G 68 d_R_message_11 (by rw [h11_0]; decide) (by rw [h11_0]; decide) (by rw [h11_0]; rfl) rfl ?_
      refine sr_aload_n G rfl d_R_message_68 ?_
      refine sr_get G (vv_20 hn) rfl ku_R rfl 16 (by decide) kf_R_53 rfl rfl d_R_message_69 ?_
      refine sr_iload_n G rfl d_R_message_72 ?_
      refine sr_iald G (vv_21 hn (by decide)) rfl (by assumption) d_R_message_73 ?_
      refine sr_iret G d_R_message_74 ?_
      unfold f_R_message
      rw [if_pos h5, if_pos h11_0]
      exact ⟨rfl, rfl⟩
    · skip
      by_cases h11_1 : x2 = 1
      · skip
        refine sr_tabIn G 75 d_R_message_11 (by rw [h11_1]; decide) (by rw [h11_1]; decide) (by rw [h11_1]; rfl) rfl ?_
        refine sr_aload_n G rfl d_R_message_75 ?_
        refine sr_get G (vv_20 hn) rfl ku_R rfl 17 (by decide) kf_R_56 rfl rfl d_R_message_76 ?_
        refine sr_iload_n G rfl d_R_message_79 ?_
        refine sr_iald G (vv_21 hn (by decide)) rfl (by assumption) d_R_message_80 ?_
        refine sr_iret G d_R_message_81 ?_
        unfold f_R_message
        rw [if_pos h5, if_neg h11_0, if_pos h11_1]
        exact ⟨rfl, rfl⟩
      · skip
        by_cases h11_2 : x2 = 2
        · skip
          refine sr_tabIn G 82 d_R_message_11 (by rw [h11_2]; decide) (by rw [h11_2]; decide) (by rw [h11_2]; rfl) rfl ?_
          refine sr_aload_n G rfl d_R_message_82 ?_
          refine sr_get G (vv_20 hn) rfl ku_R rfl 18 (by decide) kf_R_59 rfl rfl d_R_message_83 ?_
          refine sr_iload_n G rfl d_R_message_86 ?_
          refine sr_iald G (vv_21 hn (by decide)) rfl (by assumption) d_R_message_87 ?_
          refine sr_iret G d_R_message_88 ?_
          unfold f_R_message
          rw [if_pos h5, if_neg h11_0, if_neg h11_1, if_pos h11_2]
          exact ⟨rfl, rfl⟩
        · skip
          by_cases h11_3 : x2 = 3
          · skip
            refine sr_tabIn G 89 d_R_message_11 (by rw [h11_3]; decide) (by rw [h11_3]; decide) (by rw [h11_3]; rfl) rfl ?_
            refine sr_aload_n G rfl d_R_message_89 ?_
            refine sr_get G (vv_20 hn) rfl ku_R rfl 19 (by decide) kf_R_62 rfl rfl d_R_message_90 ?_
            refine sr_iload_n G rfl d_R_message_93 ?_
            refine sr_iald G (vv_21 hn (by decide)) rfl (by assumption) d_R_message_94 ?_
            refine sr_iret G d_R_message_95 ?_
            unfold f_R_message
            rw [if_pos h5, if_neg h11_0, if_neg h11_1, if_neg h11_2, if_pos h11_3]
            exact ⟨rfl, rfl⟩
          · skip
            by_cases h11_4 : x2 = 4
            · skip
              refine sr_tabIn G 96 d_R_message_11 (by rw [h11_4]; decide) (by rw [h11_4]; decide) (by rw [h11_4]; rfl) rfl ?_
              refine sr_aload_n G rfl d_R_message_96 ?_
              refine sr_get G (vv_20 hn) rfl ku_R rfl 20 (by decide) kf_R_65 rfl rfl d_R_message_97 ?_
              refine sr_iload_n G rfl d_R_message_100 ?_
              refine sr_iald G (vv_21 hn (by decide)) rfl (by assumption) d_R_message_101 ?_
              refine sr_iret G d_R_message_102 ?_
              unfold f_R_message
              rw [if_pos h5, if_neg h11_0, if_neg h11_1, if_neg h11_2, if_neg h11_3, if_pos h11_4]
              exact ⟨rfl, rfl⟩
            · skip
              by_cases h11_5 : x2 = 5
              · skip
                refine sr_tabIn G 103 d_R_message_11 (by rw [h11_5]; decide) (by rw [h11_5]; decide) (by rw [h11_5]; rfl) rfl ?_
                refine sr_aload_n G rfl d_R_message_103 ?_
                refine sr_get G (vv_20 hn) rfl ku_R rfl 21 (by decide) kf_R_68 rfl rfl d_R_message_104 ?_
                refine sr_iload_n G rfl d_R_message_107 ?_
                refine sr_iald G (vv_21 hn (by decide)) rfl (by assumption) d_R_message_108 ?_
                refine sr_iret G d_R_message_109 ?_
                unfold f_R_message
                rw [if_pos h5, if_neg h11_0, if_neg h11_1, if_neg h11_2, if_neg h11_3, if_neg h11_4, if_pos h11_5]
                exact ⟨rfl, rfl⟩
              · skip
                by_cases h11_6 : x2 = 6
                · skip
                  refine sr_tabIn G 110 d_R_message_11 (by rw [h11_6]; decide) (by rw [h11_6]; decide) (by rw [h11_6]; rfl) rfl ?_
                  refine sr_aload_n G rfl d_R_message_110 ?_
                  refine sr_get G (vv_20 hn) rfl ku_R rfl 22 (by decide) kf_R_71 rfl rfl d_R_message_111 ?_
                  refine sr_iload_n G rfl d_R_message_114 ?_
                  refine sr_iald G (vv_21 hn (by decide)) rfl (by assumption) d_R_message_115 ?_
                  refine sr_iret G d_R_message_116 ?_
                  unfold f_R_message
                  rw [if_pos h5, if_neg h11_0, if_neg h11_1, if_neg h11_2, if_neg h11_3, if_neg h11_4, if_neg h11_5, if_pos h11_6]
                  exact ⟨rfl, rfl⟩
                · skip
                  by_cases h11_7 : x2 = 7
                  · skip
                    refine sr_tabIn G 117 d_R_message_11 (by rw [h11_7]; decide) (by rw [h11_7]; decide) (by rw [h11_7]; rfl) rfl ?_
                    refine sr_aload_n G rfl d_R_message_117 ?_
                    refine sr_get G (vv_20 hn) rfl ku_R rfl 23 (by decide) kf_R_74 rfl rfl d_R_message_118 ?_
                    refine sr_iload_n G rfl d_R_message_121 ?_
                    refine sr_iald G (vv_21 hn (by decide)) rfl (by assumption) d_R_message_122 ?_
                    refine sr_iret G d_R_message_123 ?_
                    unfold f_R_message
                    rw [if_pos h5, if_neg h11_0, if_neg h11_1, if_neg h11_2, if_neg h11_3, if_neg h11_4, if_neg h11_5, if_neg h11_6, if_pos h11_7]
                    exact ⟨rfl, rfl⟩
                  · skip
                    by_cases h11_8 : x2 = 8
                    · skip
                      refine sr_tabIn G 124 d_R_message_11 (by rw [h11_8]; decide) (by rw [h11_8]; decide) (by rw [h11_8]; rfl) rfl ?_
                      refine sr_aload_n G rfl d_R_message_124 ?_
                      refine sr_get G (vv_20 hn) rfl ku_R rfl 24 (by decide) kf_R_77 rfl rfl d_R_message_125 ?_
                      refine sr_iload_n G rfl d_R_message_128 ?_
                      refine sr_zald G (vv_21 hn (by decide)) rfl (by assumption) d_R_message_129 ?_
                      refine sr_if_eq G 137 d_R_message_130 rfl (fun h130 => ?_) (fun h130 => ?_)
                      · skip
                        refine sr_iconst G (v := 0) (by decide) d_R_message_137 ?_
                        refine sr_iret G d_R_message_138 ?_
                        unfold f_R_message
                        rw [if_pos h5, if_neg h11_0, if_neg h11_1, if_neg h11_2, if_neg h11_3, if_neg h11_4, if_neg h11_5, if_neg h11_6, if_neg h11_7, if_pos h11_8, if_pos h130]
                        exact ⟨rfl, rfl⟩
                      · skip
                        refine sr_iconst G (v := 1) (by decide) d_R_message_133 ?_
                        refine sr_goto G 138 d_R_message_134 rfl ?_
                        refine sr_iret G d_R_message_138 ?_
                        unfold f_R_message
                        rw [if_pos h5, if_neg h11_0, if_neg h11_1, if_neg h11_2, if_neg h11_3, if_neg h11_4, if_neg h11_5, if_neg h11_6, if_neg h11_7, if_pos h11_8, if_neg h130]
                        exact ⟨rfl, rfl⟩
                    · skip
                      by_cases h11_9 : x2 = 9
                      · skip
                        refine sr_tabIn G 139 d_R_message_11 (by rw [h11_9]; decide) (by rw [h11_9]; decide) (by rw [h11_9]; rfl) rfl ?_
                        refine sr_aload_n G rfl d_R_message_139 ?_
                        refine sr_get G (vv_20 hn) rfl ku_R rfl 27 (by decide) kf_R_86 rfl rfl d_R_message_140 ?_
                        refine sr_iload_n G rfl d_R_message_143 ?_
                        refine sr_iald G (vv_21 hn (by decide)) rfl (by assumption) d_R_message_144 ?_
                        refine sr_iret G d_R_message_145 ?_
                        unfold f_R_message
                        rw [if_pos h5, if_neg h11_0, if_neg h11_1, if_neg h11_2, if_neg h11_3, if_neg h11_4, if_neg h11_5, if_neg h11_6, if_neg h11_7, if_neg h11_8, if_pos h11_9]
                        exact ⟨rfl, rfl⟩
                      · skip
                        by_cases h11_10 : x2 = 10
                        · skip
                          refine sr_tabIn G 146 d_R_message_11 (by rw [h11_10]; decide) (by rw [h11_10]; decide) (by rw [h11_10]; rfl) rfl ?_
                          refine sr_aload_n G rfl d_R_message_146 ?_
                          refine sr_get G (vv_20 hn) rfl ku_R rfl 29 (by decide) kf_R_92 rfl rfl d_R_message_147 ?_
                          refine sr_iload_n G rfl d_R_message_150 ?_
                          refine sr_zald G (vv_21 hn (by decide)) rfl (by assumption) d_R_message_151 ?_
                          refine sr_if_eq G 159 d_R_message_152 rfl (fun h152 => ?_) (fun h152 => ?_)
                          · skip
                            refine sr_iconst G (v := 0) (by decide) d_R_message_159 ?_
                            refine sr_iret G d_R_message_160 ?_
                            unfold f_R_message
                            rw [if_pos h5, if_neg h11_0, if_neg h11_1, if_neg h11_2, if_neg h11_3, if_neg h11_4, if_neg h11_5, if_neg h11_6, if_neg h11_7, if_neg h11_8, if_neg h11_9, if_pos h11_10, if_pos h152]
                            exact ⟨rfl, rfl⟩
                          · skip
                            refine sr_iconst G (v := 1) (by decide) d_R_message_155 ?_
                            refine sr_goto G 160 d_R_message_156 rfl ?_
                            refine sr_iret G d_R_message_160 ?_
                            unfold f_R_message
                            rw [if_pos h5, if_neg h11_0, if_neg h11_1, if_neg h11_2, if_neg h11_3, if_neg h11_4, if_neg h11_5, if_neg h11_6, if_neg h11_7, if_neg h11_8, if_neg h11_9, if_pos h11_10, if_neg h152]
                            exact ⟨rfl, rfl⟩
                        · skip
                          refine sr_tabOut G 161 d_R_message_11 (by have := lv_neT h11_0 (show (0 : Int32).toInt = 0 by decide); have := lv_neT h11_1 (show (1 : Int32).toInt = 1 by decide); have := lv_neT h11_2 (show (2 : Int32).toInt = 2 by decide); have := lv_neT h11_3 (show (3 : Int32).toInt = 3 by decide); have := lv_neT h11_4 (show (4 : Int32).toInt = 4 by decide); have := lv_neT h11_5 (show (5 : Int32).toInt = 5 by decide); have := lv_neT h11_6 (show (6 : Int32).toInt = 6 by decide); have := lv_neT h11_7 (show (7 : Int32).toInt = 7 by decide); have := lv_neT h11_8 (show (8 : Int32).toInt = 8 by decide); have := lv_neT h11_9 (show (9 : Int32).toInt = 9 by decide); have := lv_neT h11_10 (show (10 : Int32).toInt = 10 by decide); omega) rfl ?_
                          refine sr_bipush G (v := (-2)) (by decide) d_R_message_161 ?_
                          refine sr_iret G d_R_message_163 ?_
                          unfold f_R_message
                          rw [if_pos h5, if_neg h11_0, if_neg h11_1, if_neg h11_2, if_neg h11_3, if_neg h11_4, if_neg h11_5, if_neg h11_6, if_neg h11_7, if_neg h11_8, if_neg h11_9, if_neg h11_10]
                          exact ⟨rfl, rfl⟩
  · skip
    refine sr_iconst G (v := (-1)) (by decide) d_R_message_8 ?_
    refine sr_iret G d_R_message_9 ?_
    unfold f_R_message
    rw [if_neg h5]
    exact ⟨rfl, rfl⟩
def g_R_balance (M : Mem) (x1 x2 : Int32) (j : Nat) (ACC : Int32) : Int32 := (ACC + (M 21 13 (Int32.toNatClampNeg ((4 * ((2 * (nI j)) + x1)) + x2))))
theorem eg_R_balance (M : Mem) (x1 x2 : Int32) (j : Nat) (ACC : Int32) : g_R_balance M x1 x2 j ACC = (ACC + (M 21 13 (Int32.toNatClampNeg ((4 * ((2 * (nI j)) + x1)) + x2)))) := rfl
def g_R_balance_2 (M : Mem) (x1 x2 : Int32) (j : Nat) (ACC : Int32) : Int32 := (ACC + 0)
theorem eg_R_balance_2 (M : Mem) (x1 x2 : Int32) (j : Nat) (ACC : Int32) : g_R_balance_2 M x1 x2 j ACC = (ACC + 0) := rfl
def f_R_balance (M : Mem) (x1 : Int32) (x2 : Int32) (x3 : Int32) : Int32 := (if (f_R_noSide x1) = 0 then (if (f_R_in x2 0 3) = 0 then (-1) else (if (f_R_in x3 0 1) = 0 then (-1) else (if x3 = x1 then (fd_ (g_R_balance_2 M x1 x2) (M 21 12 (Int32.toNatClampNeg ((4 * x1) + x2))) (Int32.toNatClampNeg (M 20 0 3))) else (fd_ (g_R_balance M x1 x2) 0 (Int32.toNatClampNeg (M 20 0 3)))))) else (-1))
set_option maxHeartbeats 4000000 in
set_option maxRecDepth 100000 in
theorem c_R_balance {l : Launch} {D : va_G} {t6 : Nat → ClassId} {b n : Nat} (hn : 133 ≤ n) {M : Mem} {x1 : Int32} {x2 : Int32} {x3 : Int32} (hI : ri_ M) : CI l D t6 b n y_R_balance cd_R_balance 6 .int (rk 1 22) [.ref (ad b 20 0), .int x1, .int x2, .int x3] M (f_R_balance M x1 x2 x3) M := by
  refine en_i (by decide) (by simp [Value.category]) (Nat.le_of_ble_eq_true rfl) (fun p e s m below meth c G => ?_)
  refine sr_iload_n G rfl d_R_balance_0 ?_
  refine sr_csi G ks_R_noSide (c_R_noSide) kc_R_noSide km_R_109 kn_R yy_R_noSide rfl ⟨rfl, rfl, by decide, by decide⟩ (Nat.le_of_ble_eq_true rfl) rfl d_R_balance_1 ?_
  refine sr_if_ne G 25 d_R_balance_4 rfl (fun h4 => ?_) (fun h4 => ?_)
  · skip
    refine sr_iconst G (v := (-1)) (by decide) d_R_balance_25 ?_
    refine sr_iret G d_R_balance_26 ?_
    unfold f_R_balance
    rw [if_neg h4]
    exact ⟨rfl, rfl⟩
  · skip
    have v4 : vp_in x1 2 := in_nos h4
    have i4 := ix_lt v4
    have w4 := in_1 v4
    have j4 := ix_lt w4
    refine sr_iload_n G rfl d_R_balance_7 ?_
    refine sr_iconst G (v := 0) (by decide) d_R_balance_8 ?_
    refine sr_iconst G (v := 3) (by decide) d_R_balance_9 ?_
    refine sr_csi G ks_R_in (c_R_in) kc_R_in km_R_113 kn_R yy_R_in rfl ⟨rfl, rfl, by decide, by decide⟩ (Nat.le_of_ble_eq_true rfl) rfl d_R_balance_10 ?_
    refine sr_if_eq G 25 d_R_balance_13 rfl (fun h13 => ?_) (fun h13 => ?_)
    · skip
      refine sr_iconst G (v := (-1)) (by decide) d_R_balance_25 ?_
      refine sr_iret G d_R_balance_26 ?_
      unfold f_R_balance
      rw [if_pos h4, if_pos h13]
      exact ⟨rfl, rfl⟩
    · skip
      have v13 : vp_in x2 4 := in_wiR (lo := 0) (hi := 3) (by decide) (by decide) h13
      have i13 := ix_lt v13
      refine sr_iload_n G rfl d_R_balance_16 ?_
      refine sr_iconst G (v := 0) (by decide) d_R_balance_17 ?_
      refine sr_iconst G (v := 1) (by decide) d_R_balance_18 ?_
      refine sr_csi G ks_R_in (c_R_in) kc_R_in km_R_113 kn_R yy_R_in rfl ⟨rfl, rfl, by decide, by decide⟩ (Nat.le_of_ble_eq_true rfl) rfl d_R_balance_19 ?_
      refine sr_if_ne G 27 d_R_balance_22 rfl (fun h22 => ?_) (fun h22 => ?_)
      · skip
        have v22 : vp_in x3 2 := in_wiR (lo := 0) (hi := 1) (by decide) (by decide) h22
        have i22 := ix_lt v22
        have w22 := in_1 v22
        have j22 := ix_lt w22
        refine sr_iload_n G rfl d_R_balance_27 ?_
        refine sr_iload_n G rfl d_R_balance_28 ?_
        refine sr_icmp_ne G 45 d_R_balance_29 rfl (fun h29 => ?_) (fun h29 => ?_)
        · skip
          refine sr_iconst G (v := 0) (by decide) d_R_balance_45 ?_
          refine sr_istore G (by decide) d_R_balance_46 ?_
          refine sr_iconst G (v := (nI 0)) (by decide) d_R_balance_48 ?_
          refine sr_istore G (by decide) d_R_balance_49 ?_
          obtain ⟨eL, hL⟩ := ri_cl hI
          refine sr_loop (Int32.toNatClampNeg (M 20 0 3)) (fun j => M) (fun j => [some (.ref (ad b 20 0)), some (.int x1), some (.int x2), some (.int x3), some (.int (fd_ (g_R_balance M x1 x2) 0 j)), some (.int (nI j))]) (fun _ => True) 0 (Nat.zero_le _) trivial rfl rfl (fun j hj0 hj hi ih => ?_) (fun hi => ?_)
          · skip
            have ij : (nI j).toNatClampNeg = j := nI_clamp (by omega)
            refine sr_iload G rfl d_R_balance_51 ?_
            refine sr_aload_n G rfl d_R_balance_53 ?_
            refine sr_get G (vv_20 hn) rfl ku_R rfl 3 (by decide) kf_R_98 rfl rfl d_R_balance_54 ?_
            refine sr_icmp_ge G 95 d_R_balance_57 rfl (fun h => absurd h (by rw [eL]; exact nI_ge hj (by omega))) (fun _ => ?_)
            refine sr_iload G rfl d_R_balance_60 ?_
            refine sr_iload_n G rfl d_R_balance_62 ?_
            refine sr_iload_n G rfl d_R_balance_63 ?_
            refine sr_icmp_ne G 71 d_R_balance_64 rfl (fun _ => ?_) (fun h => absurd h h29)
            refine sr_aload_n G rfl d_R_balance_71 ?_
            refine sr_get G (vv_20 hn) rfl ku_R rfl 14 (by decide) kf_R_50 rfl rfl d_R_balance_72 ?_
            refine sr_iconst G (v := 4) (by decide) d_R_balance_75 ?_
            refine sr_iconst G (v := 2) (by decide) d_R_balance_76 ?_
            refine sr_iload G rfl d_R_balance_77 ?_
            refine sr_imul G d_R_balance_79 ?_
            refine sr_iload_n G rfl d_R_balance_80 ?_
            refine sr_iadd G d_R_balance_81 ?_
            refine sr_imul G d_R_balance_82 ?_
            refine sr_iload_n G rfl d_R_balance_83 ?_
            refine sr_iadd G d_R_balance_84 ?_
            refine sr_iald G (vv_21 hn (by decide)) rfl (in_v (in_e (vp_in_nI (by omega) (by decide)) (by assumption)) (by assumption)) d_R_balance_85 ?_
            refine sr_iadd G d_R_balance_86 ?_
            refine sr_istore G (by decide) d_R_balance_87 ?_
            refine sr_iinc G (v := nI (j + 1)) rfl (nI_1 j) (by decide) d_R_balance_89 ?_
            refine sr_goto G 51 d_R_balance_92 rfl ?_
            have e9 : fd_ (g_R_balance M x1 x2) 0 (j + 1) = ((fd_ (g_R_balance M x1 x2) 0 j) + (M 21 13 (Int32.toNatClampNeg ((4 * ((2 * (nI j)) + x1)) + x2)))) := by
              show g_R_balance M x1 x2 j (fd_ (g_R_balance M x1 x2) 0 j) = _
              rw [eg_R_balance]
            have ih9 := ih trivial
            try dsimp only at ih9
            rw [e9] at ih9
            exact ih9
          · skip
            refine sr_iload G rfl d_R_balance_51 ?_
            refine sr_aload_n G rfl d_R_balance_53 ?_
            refine sr_get G (vv_20 hn) rfl ku_R rfl 3 (by decide) kf_R_98 rfl rfl d_R_balance_54 ?_
            refine sr_icmp_ge G 95 d_R_balance_57 rfl (fun _ => ?_) (fun h => absurd (by rw [eL, nI_clamp (by omega)]; exact nI_le (Nat.le_refl _) (by omega)) h)
            refine sr_iload G rfl d_R_balance_95 ?_
            refine sr_iret G d_R_balance_97 ?_
            unfold f_R_balance
            rw [if_pos h4, if_neg h13, if_neg h22, if_neg h29]
            exact ⟨rfl, rfl⟩
        · skip
          refine sr_aload_n G rfl d_R_balance_32 ?_
          refine sr_get G (vv_20 hn) rfl ku_R rfl 13 (by decide) kf_R_47 rfl rfl d_R_balance_33 ?_
          refine sr_iconst G (v := 4) (by decide) d_R_balance_36 ?_
          refine sr_iload_n G rfl d_R_balance_37 ?_
          refine sr_imul G d_R_balance_38 ?_
          refine sr_iload_n G rfl d_R_balance_39 ?_
          refine sr_iadd G d_R_balance_40 ?_
          refine sr_iald G (vv_21 hn (by decide)) rfl (in_a (by assumption) (by assumption)) d_R_balance_41 ?_
          refine sr_goto G 46 d_R_balance_42 rfl ?_
          refine sr_istore G (by decide) d_R_balance_46 ?_
          refine sr_iconst G (v := (nI 0)) (by decide) d_R_balance_48 ?_
          refine sr_istore G (by decide) d_R_balance_49 ?_
          obtain ⟨eL, hL⟩ := ri_cl hI
          refine sr_loop (Int32.toNatClampNeg (M 20 0 3)) (fun j => M) (fun j => [some (.ref (ad b 20 0)), some (.int x1), some (.int x2), some (.int x3), some (.int (fd_ (g_R_balance_2 M x1 x2) (M 21 12 (Int32.toNatClampNeg ((4 * x1) + x2))) j)), some (.int (nI j))]) (fun _ => True) 0 (Nat.zero_le _) trivial rfl rfl (fun j hj0 hj hi ih => ?_) (fun hi => ?_)
          · skip
            have ij : (nI j).toNatClampNeg = j := nI_clamp (by omega)
            refine sr_iload G rfl d_R_balance_51 ?_
            refine sr_aload_n G rfl d_R_balance_53 ?_
            refine sr_get G (vv_20 hn) rfl ku_R rfl 3 (by decide) kf_R_98 rfl rfl d_R_balance_54 ?_
            refine sr_icmp_ge G 95 d_R_balance_57 rfl (fun h => absurd h (by rw [eL]; exact nI_ge hj (by omega))) (fun _ => ?_)
            refine sr_iload G rfl d_R_balance_60 ?_
            refine sr_iload_n G rfl d_R_balance_62 ?_
            refine sr_iload_n G rfl d_R_balance_63 ?_
            refine sr_icmp_ne G 71 d_R_balance_64 rfl (fun h => absurd h29 h) (fun _ => ?_)
            refine sr_iconst G (v := 0) (by decide) d_R_balance_67 ?_
            refine sr_goto G 86 d_R_balance_68 rfl ?_
            refine sr_iadd G d_R_balance_86 ?_
            refine sr_istore G (by decide) d_R_balance_87 ?_
            refine sr_iinc G (v := nI (j + 1)) rfl (nI_1 j) (by decide) d_R_balance_89 ?_
            refine sr_goto G 51 d_R_balance_92 rfl ?_
            have e9 : fd_ (g_R_balance_2 M x1 x2) (M 21 12 (Int32.toNatClampNeg ((4 * x1) + x2))) (j + 1) = ((fd_ (g_R_balance_2 M x1 x2) (M 21 12 (Int32.toNatClampNeg ((4 * x1) + x2))) j) + 0) := by
              show g_R_balance_2 M x1 x2 j (fd_ (g_R_balance_2 M x1 x2) (M 21 12 (Int32.toNatClampNeg ((4 * x1) + x2))) j) = _
              rw [eg_R_balance_2]
            have ih9 := ih trivial
            try dsimp only at ih9
            rw [e9] at ih9
            exact ih9
          · skip
            refine sr_iload G rfl d_R_balance_51 ?_
            refine sr_aload_n G rfl d_R_balance_53 ?_
            refine sr_get G (vv_20 hn) rfl ku_R rfl 3 (by decide) kf_R_98 rfl rfl d_R_balance_54 ?_
            refine sr_icmp_ge G 95 d_R_balance_57 rfl (fun _ => ?_) (fun h => absurd (by rw [eL, nI_clamp (by omega)]; exact nI_le (Nat.le_refl _) (by omega)) h)
            refine sr_iload G rfl d_R_balance_95 ?_
            refine sr_iret G d_R_balance_97 ?_
            unfold f_R_balance
            rw [if_pos h4, if_neg h13, if_neg h22, if_pos h29]
            exact ⟨rfl, rfl⟩
      · skip
        refine sr_iconst G (v := (-1)) (by decide) d_R_balance_25 ?_
        refine sr_iret G d_R_balance_26 ?_
        unfold f_R_balance
        rw [if_pos h4, if_neg h13, if_pos h22]
        exact ⟨rfl, rfl⟩
def f_R_vouchers (M : Mem) (x1 : Int32) (x2 : Int32) (x3 : Int32) : Int32 := (if (f_R_noChannel M x1) = 0 then (if (f_R_noSide x2) = 0 then (if (f_R_in x3 0 3) = 0 then (-1) else (M 21 13 (Int32.toNatClampNeg ((4 * ((2 * x1) + x2)) + x3)))) else (-1)) else (-1))
set_option maxHeartbeats 4000000 in
set_option maxRecDepth 100000 in
theorem c_R_vouchers {l : Launch} {D : va_G} {t6 : Nat → ClassId} {b n : Nat} (hn : 133 ≤ n) {M : Mem} {x1 : Int32} {x2 : Int32} {x3 : Int32} (hI : ri_ M) : CI l D t6 b n y_R_vouchers cd_R_vouchers 4 .int (rk 2 43) [.ref (ad b 20 0), .int x1, .int x2, .int x3] M (f_R_vouchers M x1 x2 x3) M := by
  refine en_i (by decide) (by simp [Value.category]) (Nat.le_of_ble_eq_true rfl) (fun p e s m below meth c G => ?_)
  refine sr_aload_n G rfl d_R_vouchers_0 ?_
  refine sr_iload_n G rfl d_R_vouchers_1 ?_
  refine sr_cvi G (vv_20 hn) rfl rfl ki_R_noChannel kx_R_noChannel (c_R_noChannel hn) kc_R_noChannel km_R_135 kn_R yy_R_noChannel rfl ⟨rfl, rfl, by decide, by decide⟩ (Nat.le_of_ble_eq_true rfl) rfl d_R_vouchers_2 ?_
  refine sr_if_ne G 24 d_R_vouchers_5 rfl (fun h5 => ?_) (fun h5 => ?_)
  · skip
    refine sr_iconst G (v := (-1)) (by decide) d_R_vouchers_24 ?_
    refine sr_goto G 42 d_R_vouchers_25 rfl ?_
    refine sr_iret G d_R_vouchers_42 ?_
    unfold f_R_vouchers
    rw [if_neg h5]
    exact ⟨rfl, rfl⟩
  · skip
    have v5 : vp_in x1 4 := in_chR hI h5
    have i5 := ix_lt v5
    have f5 := ri_b hI i5
    have f5a := ix_lt f5
    have f5b := in_1 f5
    have f5c := ix_lt f5b
    have f5d := in_1 f5b
    have f5e := ix_lt f5d
    refine sr_iload_n G rfl d_R_vouchers_8 ?_
    refine sr_csi G ks_R_noSide (c_R_noSide) kc_R_noSide km_R_109 kn_R yy_R_noSide rfl ⟨rfl, rfl, by decide, by decide⟩ (Nat.le_of_ble_eq_true rfl) rfl d_R_vouchers_9 ?_
    refine sr_if_ne G 24 d_R_vouchers_12 rfl (fun h12 => ?_) (fun h12 => ?_)
    · skip
      refine sr_iconst G (v := (-1)) (by decide) d_R_vouchers_24 ?_
      refine sr_goto G 42 d_R_vouchers_25 rfl ?_
      refine sr_iret G d_R_vouchers_42 ?_
      unfold f_R_vouchers
      rw [if_pos h5, if_neg h12]
      exact ⟨rfl, rfl⟩
    · skip
      have v12 : vp_in x2 2 := in_nos h12
      have i12 := ix_lt v12
      have w12 := in_1 v12
      have j12 := ix_lt w12
      refine sr_iload_n G rfl d_R_vouchers_15 ?_
      refine sr_iconst G (v := 0) (by decide) d_R_vouchers_16 ?_
      refine sr_iconst G (v := 3) (by decide) d_R_vouchers_17 ?_
      refine sr_csi G ks_R_in (c_R_in) kc_R_in km_R_113 kn_R yy_R_in rfl ⟨rfl, rfl, by decide, by decide⟩ (Nat.le_of_ble_eq_true rfl) rfl d_R_vouchers_18 ?_
      refine sr_if_ne G 28 d_R_vouchers_21 rfl (fun h21 => ?_) (fun h21 => ?_)
      · skip
        have v21 : vp_in x3 4 := in_wiR (lo := 0) (hi := 3) (by decide) (by decide) h21
        have i21 := ix_lt v21
        refine sr_aload_n G rfl d_R_vouchers_28 ?_
        refine sr_get G (vv_20 hn) rfl ku_R rfl 14 (by decide) kf_R_50 rfl rfl d_R_vouchers_29 ?_
        refine sr_iconst G (v := 4) (by decide) d_R_vouchers_32 ?_
        refine sr_iconst G (v := 2) (by decide) d_R_vouchers_33 ?_
        refine sr_iload_n G rfl d_R_vouchers_34 ?_
        refine sr_imul G d_R_vouchers_35 ?_
        refine sr_iload_n G rfl d_R_vouchers_36 ?_
        refine sr_iadd G d_R_vouchers_37 ?_
        refine sr_imul G d_R_vouchers_38 ?_
        refine sr_iload_n G rfl d_R_vouchers_39 ?_
        refine sr_iadd G d_R_vouchers_40 ?_
        refine sr_iald G (vv_21 hn (by decide)) rfl (in_v (in_e (by assumption) (by assumption)) (by assumption)) d_R_vouchers_41 ?_
        refine sr_iret G d_R_vouchers_42 ?_
        unfold f_R_vouchers
        rw [if_pos h5, if_pos h12, if_neg h21]
        exact ⟨rfl, rfl⟩
      · skip
        refine sr_iconst G (v := (-1)) (by decide) d_R_vouchers_24 ?_
        refine sr_goto G 42 d_R_vouchers_25 rfl ?_
        refine sr_iret G d_R_vouchers_42 ?_
        unfold f_R_vouchers
        rw [if_pos h5, if_pos h12, if_pos h21]
        exact ⟨rfl, rfl⟩
def f_R_held (M : Mem) (x1 : Int32) (x2 : Int32) : Int32 := ((((0 + (f_R_balance M x1 0 x2)) + (f_R_balance M x1 1 x2)) + (f_R_balance M x1 2 x2)) + (f_R_balance M x1 3 x2))
set_option maxHeartbeats 4000000 in
set_option maxRecDepth 100000 in
theorem c_R_held {l : Launch} {D : va_G} {t6 : Nat → ClassId} {b n : Nat} (hn : 133 ≤ n) {M : Mem} {x1 : Int32} {x2 : Int32} (hI : ri_ M) : CI l D t6 b n y_R_held cd_R_held 5 .int (rk 2 47) [.ref (ad b 20 0), .int x1, .int x2] M (f_R_held M x1 x2) M := by
  refine en_i (by decide) (by simp [Value.category]) (Nat.le_of_ble_eq_true rfl) (fun p e s m below meth c G => ?_)
  refine sr_iconst G (v := 0) (by decide) d_R_held_0 ?_
  refine sr_istore_n G (by decide) d_R_held_1 ?_
  refine sr_iconst G (v := 0) (by decide) d_R_held_2 ?_
  refine sr_istore G (by decide) d_R_held_3 ?_
  refine sr_iload G rfl d_R_held_5 ?_
  refine sr_iconst G (v := 4) (by decide) d_R_held_7 ?_
  refine sr_icmp_ge G 28 d_R_held_8 rfl (fun h => absurd h (by decide)) (fun _ => ?_)
  refine sr_iload_n G rfl d_R_held_11 ?_
  refine sr_aload_n G rfl d_R_held_12 ?_
  refine sr_iload_n G rfl d_R_held_13 ?_
  refine sr_iload G rfl d_R_held_14 ?_
  refine sr_iload_n G rfl d_R_held_16 ?_
  refine sr_cvi G (vv_20 hn) rfl rfl ki_R_balance kx_R_balance (c_R_balance hn (by first | assumption | omega | decide | (unfold vp_in; decide))) kc_R_balance km_R_163 kn_R yy_R_balance rfl ⟨rfl, rfl, by decide, by decide⟩ (Nat.le_of_ble_eq_true rfl) rfl d_R_held_17 ?_
  refine sr_iadd G d_R_held_20 ?_
  refine sr_istore_n G (by decide) d_R_held_21 ?_
  refine sr_iinc G (v := 1) rfl (by decide) (by decide) d_R_held_22 ?_
  refine sr_goto G 5 d_R_held_25 rfl ?_
  refine sr_iload G rfl d_R_held_5 ?_
  refine sr_iconst G (v := 4) (by decide) d_R_held_7 ?_
  refine sr_icmp_ge G 28 d_R_held_8 rfl (fun h => absurd h (by decide)) (fun _ => ?_)
  refine sr_iload_n G rfl d_R_held_11 ?_
  refine sr_aload_n G rfl d_R_held_12 ?_
  refine sr_iload_n G rfl d_R_held_13 ?_
  refine sr_iload G rfl d_R_held_14 ?_
  refine sr_iload_n G rfl d_R_held_16 ?_
  refine sr_cvi G (vv_20 hn) rfl rfl ki_R_balance kx_R_balance (c_R_balance hn (by first | assumption | omega | decide | (unfold vp_in; decide))) kc_R_balance km_R_163 kn_R yy_R_balance rfl ⟨rfl, rfl, by decide, by decide⟩ (Nat.le_of_ble_eq_true rfl) rfl d_R_held_17 ?_
  refine sr_iadd G d_R_held_20 ?_
  refine sr_istore_n G (by decide) d_R_held_21 ?_
  refine sr_iinc G (v := 2) rfl (by decide) (by decide) d_R_held_22 ?_
  refine sr_goto G 5 d_R_held_25 rfl ?_
  refine sr_iload G rfl d_R_held_5 ?_
  refine sr_iconst G (v := 4) (by decide) d_R_held_7 ?_
  refine sr_icmp_ge G 28 d_R_held_8 rfl (fun h => absurd h (by decide)) (fun _ => ?_)
  refine sr_iload_n G rfl d_R_held_11 ?_
  refine sr_aload_n G rfl d_R_held_12 ?_
  refine sr_iload_n G rfl d_R_held_13 ?_
  refine sr_iload G rfl d_R_held_14 ?_
  refine sr_iload_n G rfl d_R_held_16 ?_
  refine sr_cvi G (vv_20 hn) rfl rfl ki_R_balance kx_R_balance (c_R_balance hn (by first | assumption | omega | decide | (unfold vp_in; decide))) kc_R_balance km_R_163 kn_R yy_R_balance rfl ⟨rfl, rfl, by decide, by decide⟩ (Nat.le_of_ble_eq_true rfl) rfl d_R_held_17 ?_
  refine sr_iadd G d_R_held_20 ?_
  refine sr_istore_n G (by decide) d_R_held_21 ?_
  refine sr_iinc G (v := 3) rfl (by decide) (by decide) d_R_held_22 ?_
  refine sr_goto G 5 d_R_held_25 rfl ?_
  refine sr_iload G rfl d_R_held_5 ?_
  refine sr_iconst G (v := 4) (by decide) d_R_held_7 ?_
  refine sr_icmp_ge G 28 d_R_held_8 rfl (fun h => absurd h (by decide)) (fun _ => ?_)
  refine sr_iload_n G rfl d_R_held_11 ?_
  refine sr_aload_n G rfl d_R_held_12 ?_
  refine sr_iload_n G rfl d_R_held_13 ?_
  refine sr_iload G rfl d_R_held_14 ?_
  refine sr_iload_n G rfl d_R_held_16 ?_
  refine sr_cvi G (vv_20 hn) rfl rfl ki_R_balance kx_R_balance (c_R_balance hn (by first | assumption | omega | decide | (unfold vp_in; decide))) kc_R_balance km_R_163 kn_R yy_R_balance rfl ⟨rfl, rfl, by decide, by decide⟩ (Nat.le_of_ble_eq_true rfl) rfl d_R_held_17 ?_
  refine sr_iadd G d_R_held_20 ?_
  refine sr_istore_n G (by decide) d_R_held_21 ?_
  refine sr_iinc G (v := 4) rfl (by decide) (by decide) d_R_held_22 ?_
  refine sr_goto G 5 d_R_held_25 rfl ?_
  refine sr_iload G rfl d_R_held_5 ?_
  refine sr_iconst G (v := 4) (by decide) d_R_held_7 ?_
  refine sr_icmp_ge G 28 d_R_held_8 rfl (fun _ => ?_) (fun h => absurd (by decide) h)
  refine sr_iload_n G rfl d_R_held_28 ?_
  refine sr_iret G d_R_held_29 ?_
  unfold f_R_held
  exact ⟨rfl, rfl⟩
def g_R_sum_a (M : Mem) (x1 : Int32) (j : Nat) (ACC : Int32) : Int32 := (ACC + (M 21 8 (Int32.toNatClampNeg ((2 * (nI j)) + x1))))
theorem eg_R_sum_a (M : Mem) (x1 : Int32) (j : Nat) (ACC : Int32) : g_R_sum_a M x1 j ACC = (ACC + (M 21 8 (Int32.toNatClampNeg ((2 * (nI j)) + x1)))) := rfl
def g_R_sum_b (M : Mem) (x1 : Int32) (j : Nat) (ACC : Int32) : Int32 := (if (M 21 18 (Int32.toNatClampNeg (nI j))) = x1 then (if (M 21 25 (Int32.toNatClampNeg (nI j))) = 1 then (ACC + 0) else (if (M 21 27 (Int32.toNatClampNeg (nI j))) = 0 then (ACC + (M 21 17 (Int32.toNatClampNeg (nI j)))) else (ACC + 0))) else (ACC + 0))
theorem eg_R_sum_b (M : Mem) (x1 : Int32) (j : Nat) (ACC : Int32) : g_R_sum_b M x1 j ACC = (if (M 21 18 (Int32.toNatClampNeg (nI j))) = x1 then (if (M 21 25 (Int32.toNatClampNeg (nI j))) = 1 then (ACC + 0) else (if (M 21 27 (Int32.toNatClampNeg (nI j))) = 0 then (ACC + (M 21 17 (Int32.toNatClampNeg (nI j)))) else (ACC + 0))) else (ACC + 0)) := rfl
def f_R_sum (M : Mem) (x1 : Int32) (x2 : Int32) : Int32 := (if (f_R_in x1 0 1) = 0 then (-1) else (if x2 = 0 then (f_R_held M x1 x1) else (if x2 = 1 then (fd_ (g_R_sum_a M x1) 0 (Int32.toNatClampNeg (M 20 0 3))) else (if x2 = 2 then (f_R_held M (1 - x1) x1) else (if x2 = 3 then (fd_ (g_R_sum_b M x1) 0 (Int32.toNatClampNeg (M 20 0 15))) else (-2))))))
set_option maxHeartbeats 4000000 in
set_option maxRecDepth 100000 in
theorem c_R_sum {l : Launch} {D : va_G} {t6 : Nat → ClassId} {b n : Nat} (hn : 133 ≤ n) {M : Mem} {x1 : Int32} {x2 : Int32} (hI : ri_ M) : CI l D t6 b n y_R_sum cd_R_sum 5 .int (rk 3 71) [.ref (ad b 20 0), .int x1, .int x2] M (f_R_sum M x1 x2) M := by
  refine en_i (by decide) (by simp [Value.category]) (Nat.le_of_ble_eq_true rfl) (fun p e s m below meth c G => ?_)
  refine sr_iload_n G rfl d_R_sum_0 ?_
  refine sr_iconst G (v := 0) (by decide) d_R_sum_1 ?_
  refine sr_iconst G (v := 1) (by decide) d_R_sum_2 ?_
  refine sr_csi G ks_R_in (c_R_in) kc_R_in km_R_113 kn_R yy_R_in rfl ⟨rfl, rfl, by decide, by decide⟩ (Nat.le_of_ble_eq_true rfl) rfl d_R_sum_3 ?_
  refine sr_if_ne G 11 d_R_sum_6 rfl (fun h6 => ?_) (fun h6 => ?_)
  · skip
    have v6 : vp_in x1 2 := in_wiR (lo := 0) (hi := 1) (by decide) (by decide) h6
    have i6 := ix_lt v6
    have w6 := in_1 v6
    have j6 := ix_lt w6
    refine sr_iconst G (v := 0) (by decide) d_R_sum_11 ?_
    refine sr_istore_n G (by decide) d_R_sum_12 ?_
    refine sr_iload_n G rfl d_R_sum_13 ?_
    by_cases h14_0 : x2 = 0
    · skip
      refine sr_tabIn G 44 d_R_sum_14 (by rw [h14_0]; decide) (by rw [h14_0]; decide) (by rw [h14_0]; rfl) rfl ?_
      refine sr_aload_n G rfl d_R_sum_44 ?_
      refine sr_iload_n G rfl d_R_sum_45 ?_
      refine sr_iload_n G rfl d_R_sum_46 ?_
      refine sr_cvi G (vv_20 hn) rfl rfl ki_R_held kx_R_held (c_R_held hn (by first | assumption | omega | decide | (unfold vp_in; decide))) kc_R_held km_R_166 kn_R yy_R_held rfl ⟨rfl, rfl, by decide, by decide⟩ (Nat.le_of_ble_eq_true rfl) rfl d_R_sum_47 ?_
      refine sr_iret G d_R_sum_50 ?_
      unfold f_R_sum
      rw [if_neg h6, if_pos h14_0]
      exact ⟨rfl, rfl⟩
    · skip
      by_cases h14_1 : x2 = 1
      · skip
        refine sr_tabIn G 51 d_R_sum_14 (by rw [h14_1]; decide) (by rw [h14_1]; decide) (by rw [h14_1]; rfl) rfl ?_
        refine sr_iconst G (v := (nI 0)) (by decide) d_R_sum_51 ?_
        refine sr_istore G (by decide) d_R_sum_52 ?_
        obtain ⟨eL, hL⟩ := ri_cl hI
        refine sr_loop (Int32.toNatClampNeg (M 20 0 3)) (fun j => M) (fun j => [some (.ref (ad b 20 0)), some (.int x1), some (.int x2), some (.int (fd_ (g_R_sum_a M x1) 0 j)), some (.int (nI j))]) (fun _ => True) 0 (Nat.zero_le _) trivial rfl rfl (fun j hj0 hj hi ih => ?_) (fun hi => ?_)
        · skip
          have ij : (nI j).toNatClampNeg = j := nI_clamp (by omega)
          refine sr_iload G rfl d_R_sum_54 ?_
          refine sr_aload_n G rfl d_R_sum_56 ?_
          refine sr_get G (vv_20 hn) rfl ku_R rfl 3 (by decide) kf_R_98 rfl rfl d_R_sum_57 ?_
          refine sr_icmp_ge G 83 d_R_sum_60 rfl (fun h => absurd h (by rw [eL]; exact nI_ge hj (by omega))) (fun _ => ?_)
          refine sr_iload_n G rfl d_R_sum_63 ?_
          refine sr_aload_n G rfl d_R_sum_64 ?_
          refine sr_get G (vv_20 hn) rfl ku_R rfl 9 (by decide) kf_R_35 rfl rfl d_R_sum_65 ?_
          refine sr_iconst G (v := 2) (by decide) d_R_sum_68 ?_
          refine sr_iload G rfl d_R_sum_69 ?_
          refine sr_imul G d_R_sum_71 ?_
          refine sr_iload_n G rfl d_R_sum_72 ?_
          refine sr_iadd G d_R_sum_73 ?_
          refine sr_iald G (vv_21 hn (by decide)) rfl (in_e (vp_in_nI (by omega) (by decide)) (by assumption)) d_R_sum_74 ?_
          refine sr_iadd G d_R_sum_75 ?_
          refine sr_istore_n G (by decide) d_R_sum_76 ?_
          refine sr_iinc G (v := nI (j + 1)) rfl (nI_1 j) (by decide) d_R_sum_77 ?_
          refine sr_goto G 54 d_R_sum_80 rfl ?_
          have e9 : fd_ (g_R_sum_a M x1) 0 (j + 1) = ((fd_ (g_R_sum_a M x1) 0 j) + (M 21 8 (Int32.toNatClampNeg ((2 * (nI j)) + x1)))) := by
            show g_R_sum_a M x1 j (fd_ (g_R_sum_a M x1) 0 j) = _
            rw [eg_R_sum_a]
          have ih9 := ih trivial
          try dsimp only at ih9
          rw [e9] at ih9
          exact ih9
        · skip
          refine sr_iload G rfl d_R_sum_54 ?_
          refine sr_aload_n G rfl d_R_sum_56 ?_
          refine sr_get G (vv_20 hn) rfl ku_R rfl 3 (by decide) kf_R_98 rfl rfl d_R_sum_57 ?_
          refine sr_icmp_ge G 83 d_R_sum_60 rfl (fun _ => ?_) (fun h => absurd (by rw [eL, nI_clamp (by omega)]; exact nI_le (Nat.le_refl _) (by omega)) h)
          refine sr_iload_n G rfl d_R_sum_83 ?_
          refine sr_iret G d_R_sum_84 ?_
          unfold f_R_sum
          rw [if_neg h6, if_neg h14_0, if_pos h14_1]
          exact ⟨rfl, rfl⟩
      · skip
        by_cases h14_2 : x2 = 2
        · skip
          refine sr_tabIn G 85 d_R_sum_14 (by rw [h14_2]; decide) (by rw [h14_2]; decide) (by rw [h14_2]; rfl) rfl ?_
          refine sr_aload_n G rfl d_R_sum_85 ?_
          refine sr_iconst G (v := 1) (by decide) d_R_sum_86 ?_
          refine sr_iload_n G rfl d_R_sum_87 ?_
          refine sr_isub G d_R_sum_88 ?_
          refine sr_iload_n G rfl d_R_sum_89 ?_
          refine sr_cvi G (vv_20 hn) rfl rfl ki_R_held kx_R_held (c_R_held hn (by first | assumption | omega | decide | (unfold vp_in; decide))) kc_R_held km_R_166 kn_R yy_R_held rfl ⟨rfl, rfl, by decide, by decide⟩ (Nat.le_of_ble_eq_true rfl) rfl d_R_sum_90 ?_
          refine sr_iret G d_R_sum_93 ?_
          unfold f_R_sum
          rw [if_neg h6, if_neg h14_0, if_neg h14_1, if_pos h14_2]
          exact ⟨rfl, rfl⟩
        · skip
          by_cases h14_3 : x2 = 3
          · skip
            refine sr_tabIn G 94 d_R_sum_14 (by rw [h14_3]; decide) (by rw [h14_3]; decide) (by rw [h14_3]; rfl) rfl ?_
            refine sr_iconst G (v := (nI 0)) (by decide) d_R_sum_94 ?_
            refine sr_istore G (by decide) d_R_sum_95 ?_
            obtain ⟨eL, hL⟩ := ri_ml hI
            refine sr_loop (Int32.toNatClampNeg (M 20 0 15)) (fun j => M) (fun j => [some (.ref (ad b 20 0)), some (.int x1), some (.int x2), some (.int (fd_ (g_R_sum_b M x1) 0 j)), some (.int (nI j))]) (fun _ => True) 0 (Nat.zero_le _) trivial rfl rfl (fun j hj0 hj hi ih => ?_) (fun hi => ?_)
            · skip
              have ij : (nI j).toNatClampNeg = j := nI_clamp (by omega)
              refine sr_iload G rfl d_R_sum_97 ?_
              refine sr_aload_n G rfl d_R_sum_99 ?_
              refine sr_get G (vv_20 hn) rfl ku_R rfl 15 (by decide) kf_R_102 rfl rfl d_R_sum_100 ?_
              refine sr_icmp_ge G 158 d_R_sum_103 rfl (fun h => absurd h (by rw [eL]; exact nI_ge hj (by omega))) (fun _ => ?_)
              refine sr_iload_n G rfl d_R_sum_106 ?_
              refine sr_aload_n G rfl d_R_sum_107 ?_
              refine sr_get G (vv_20 hn) rfl ku_R rfl 20 (by decide) kf_R_65 rfl rfl d_R_sum_108 ?_
              refine sr_iload G rfl d_R_sum_111 ?_
              refine sr_iald G (vv_21 hn (by decide)) rfl (vp_in_nI (N := 60) (by omega) (by decide)) d_R_sum_113 ?_
              refine sr_iload_n G rfl d_R_sum_114 ?_
              refine sr_icmp_ne G 149 d_R_sum_115 rfl (fun h115 => ?_) (fun h115 => ?_)
              · skip
                refine sr_iconst G (v := 0) (by decide) d_R_sum_149 ?_
                refine sr_iadd G d_R_sum_150 ?_
                refine sr_istore_n G (by decide) d_R_sum_151 ?_
                refine sr_iinc G (v := nI (j + 1)) rfl (nI_1 j) (by decide) d_R_sum_152 ?_
                refine sr_goto G 97 d_R_sum_155 rfl ?_
                have e9 : fd_ (g_R_sum_b M x1) 0 (j + 1) = ((fd_ (g_R_sum_b M x1) 0 j) + 0) := by
                  show g_R_sum_b M x1 j (fd_ (g_R_sum_b M x1) 0 j) = _
                  rw [eg_R_sum_b, if_neg h115]
                have ih9 := ih trivial
                try dsimp only at ih9
                rw [e9] at ih9
                exact ih9
              · skip
                refine sr_aload_n G rfl d_R_sum_118 ?_
                refine sr_get G (vv_20 hn) rfl ku_R rfl 27 (by decide) kf_R_86 rfl rfl d_R_sum_119 ?_
                refine sr_iload G rfl d_R_sum_122 ?_
                refine sr_iald G (vv_21 hn (by decide)) rfl (vp_in_nI (N := 60) (by omega) (by decide)) d_R_sum_124 ?_
                refine sr_iconst G (v := 1) (by decide) d_R_sum_125 ?_
                refine sr_icmp_eq G 149 d_R_sum_126 rfl (fun h126 => ?_) (fun h126 => ?_)
                · skip
                  refine sr_iconst G (v := 0) (by decide) d_R_sum_149 ?_
                  refine sr_iadd G d_R_sum_150 ?_
                  refine sr_istore_n G (by decide) d_R_sum_151 ?_
                  refine sr_iinc G (v := nI (j + 1)) rfl (nI_1 j) (by decide) d_R_sum_152 ?_
                  refine sr_goto G 97 d_R_sum_155 rfl ?_
                  have e9 : fd_ (g_R_sum_b M x1) 0 (j + 1) = ((fd_ (g_R_sum_b M x1) 0 j) + 0) := by
                    show g_R_sum_b M x1 j (fd_ (g_R_sum_b M x1) 0 j) = _
                    rw [eg_R_sum_b, if_pos h115, if_pos h126]
                  have ih9 := ih trivial
                  try dsimp only at ih9
                  rw [e9] at ih9
                  exact ih9
                · skip
                  refine sr_aload_n G rfl d_R_sum_129 ?_
                  refine sr_get G (vv_20 hn) rfl ku_R rfl 29 (by decide) kf_R_92 rfl rfl d_R_sum_130 ?_
                  refine sr_iload G rfl d_R_sum_133 ?_
                  refine sr_zald G (vv_21 hn (by decide)) rfl (vp_in_nI (N := 60) (by omega) (by decide)) d_R_sum_135 ?_
                  refine sr_if_ne G 149 d_R_sum_136 rfl (fun h136 => ?_) (fun h136 => ?_)
                  · skip
                    refine sr_iconst G (v := 0) (by decide) d_R_sum_149 ?_
                    refine sr_iadd G d_R_sum_150 ?_
                    refine sr_istore_n G (by decide) d_R_sum_151 ?_
                    refine sr_iinc G (v := nI (j + 1)) rfl (nI_1 j) (by decide) d_R_sum_152 ?_
                    refine sr_goto G 97 d_R_sum_155 rfl ?_
                    have e9 : fd_ (g_R_sum_b M x1) 0 (j + 1) = ((fd_ (g_R_sum_b M x1) 0 j) + 0) := by
                      show g_R_sum_b M x1 j (fd_ (g_R_sum_b M x1) 0 j) = _
                      rw [eg_R_sum_b, if_pos h115, if_neg h126, if_neg h136]
                    have ih9 := ih trivial
                    try dsimp only at ih9
                    rw [e9] at ih9
                    exact ih9
                  · skip
                    refine sr_aload_n G rfl d_R_sum_139 ?_
                    refine sr_get G (vv_20 hn) rfl ku_R rfl 19 (by decide) kf_R_62 rfl rfl d_R_sum_140 ?_
                    refine sr_iload G rfl d_R_sum_143 ?_
                    refine sr_iald G (vv_21 hn (by decide)) rfl (vp_in_nI (N := 60) (by omega) (by decide)) d_R_sum_145 ?_
                    refine sr_goto G 150 d_R_sum_146 rfl ?_
                    refine sr_iadd G d_R_sum_150 ?_
                    refine sr_istore_n G (by decide) d_R_sum_151 ?_
                    refine sr_iinc G (v := nI (j + 1)) rfl (nI_1 j) (by decide) d_R_sum_152 ?_
                    refine sr_goto G 97 d_R_sum_155 rfl ?_
                    have e9 : fd_ (g_R_sum_b M x1) 0 (j + 1) = ((fd_ (g_R_sum_b M x1) 0 j) + (M 21 17 (Int32.toNatClampNeg (nI j)))) := by
                      show g_R_sum_b M x1 j (fd_ (g_R_sum_b M x1) 0 j) = _
                      rw [eg_R_sum_b, if_pos h115, if_neg h126, if_pos h136]
                    have ih9 := ih trivial
                    try dsimp only at ih9
                    rw [e9] at ih9
                    exact ih9
            · skip
              refine sr_iload G rfl d_R_sum_97 ?_
              refine sr_aload_n G rfl d_R_sum_99 ?_
              refine sr_get G (vv_20 hn) rfl ku_R rfl 15 (by decide) kf_R_102 rfl rfl d_R_sum_100 ?_
              refine sr_icmp_ge G 158 d_R_sum_103 rfl (fun _ => ?_) (fun h => absurd (by rw [eL, nI_clamp (by omega)]; exact nI_le (Nat.le_refl _) (by omega)) h)
              refine sr_iload_n G rfl d_R_sum_158 ?_
              refine sr_iret G d_R_sum_159 ?_
              unfold f_R_sum
              rw [if_neg h6, if_neg h14_0, if_neg h14_1, if_neg h14_2, if_pos h14_3]
              exact ⟨rfl, rfl⟩
          · skip
            refine sr_tabOut G 160 d_R_sum_14 (by have := lv_neT h14_0 (show (0 : Int32).toInt = 0 by decide); have := lv_neT h14_1 (show (1 : Int32).toInt = 1 by decide); have := lv_neT h14_2 (show (2 : Int32).toInt = 2 by decide); have := lv_neT h14_3 (show (3 : Int32).toInt = 3 by decide); omega) rfl ?_
            refine sr_bipush G (v := (-2)) (by decide) d_R_sum_160 ?_
            refine sr_iret G d_R_sum_162 ?_
            unfold f_R_sum
            rw [if_neg h6, if_neg h14_0, if_neg h14_1, if_neg h14_2, if_neg h14_3]
            exact ⟨rfl, rfl⟩
  · skip
    refine sr_iconst G (v := (-1)) (by decide) d_R_sum_9 ?_
    refine sr_iret G d_R_sum_10 ?_
    unfold f_R_sum
    rw [if_pos h6]
    exact ⟨rfl, rfl⟩
def g_R_count (M : Mem) (j : Nat) (ACC : Int32) : Int32 := (if (M 21 22 (Int32.toNatClampNeg (nI j))) = 0 then (ACC + 0) else (ACC + 1))
theorem eg_R_count (M : Mem) (j : Nat) (ACC : Int32) : g_R_count M j ACC = (if (M 21 22 (Int32.toNatClampNeg (nI j))) = 0 then (ACC + 0) else (ACC + 1)) := rfl
def f_R_count (M : Mem) (x1 : Int32) : Int32 := (if x1 = 0 then (M 21 0 (Int32.toNatClampNeg 0)) else (if x1 = 1 then (M 21 0 (Int32.toNatClampNeg 1)) else (if x1 = 2 then (M 20 0 3) else (if x1 = 3 then (M 20 0 15) else (if x1 = 4 then (fd_ (g_R_count M) 0 (Int32.toNatClampNeg (M 20 0 15))) else (-2))))))
set_option maxHeartbeats 4000000 in
set_option maxRecDepth 100000 in
theorem c_R_count {l : Launch} {D : va_G} {t6 : Nat → ClassId} {b n : Nat} (hn : 133 ≤ n) {M : Mem} {x1 : Int32} (hI : ri_ M) : CI l D t6 b n y_R_count cd_R_count 4 .int (rk 0 0) [.ref (ad b 20 0), .int x1] M (f_R_count M x1) M := by
  refine en_i (by decide) (by simp [Value.category]) (Nat.le_of_ble_eq_true rfl) (fun p e s m below meth c G => ?_)
  refine sr_iconst G (v := 0) (by decide) d_R_count_0 ?_
  refine sr_istore_n G (by decide) d_R_count_1 ?_
  refine sr_iconst G (v := (nI 0)) (by decide) d_R_count_2 ?_
  refine sr_istore_n G (by decide) d_R_count_3 ?_
  obtain ⟨eL, hL⟩ := ri_ml hI
  refine sr_loop (Int32.toNatClampNeg (M 20 0 15)) (fun j => M) (fun j => [some (.ref (ad b 20 0)), some (.int x1), some (.int (fd_ (g_R_count M) 0 j)), some (.int (nI j))]) (fun _ => True) 0 (Nat.zero_le _) trivial rfl rfl (fun j hj0 hj hi ih => ?_) (fun hi => ?_)
  · skip
    have ij : (nI j).toNatClampNeg = j := nI_clamp (by omega)
    refine sr_iload_n G rfl d_R_count_4 ?_
    refine sr_aload_n G rfl d_R_count_5 ?_
    refine sr_get G (vv_20 hn) rfl ku_R rfl 15 (by decide) kf_R_102 rfl rfl d_R_count_6 ?_
    refine sr_icmp_ge G 35 d_R_count_9 rfl (fun h => absurd h (by rw [eL]; exact nI_ge hj (by omega))) (fun _ => ?_)
    refine sr_iload_n G rfl d_R_count_12 ?_
    refine sr_aload_n G rfl d_R_count_13 ?_
    refine sr_get G (vv_20 hn) rfl ku_R rfl 24 (by decide) kf_R_77 rfl rfl d_R_count_14 ?_
    refine sr_iload_n G rfl d_R_count_17 ?_
    refine sr_zald G (vv_21 hn (by decide)) rfl (vp_in_nI (N := 60) (by omega) (by decide)) d_R_count_18 ?_
    refine sr_if_eq G 26 d_R_count_19 rfl (fun h19 => ?_) (fun h19 => ?_)
    · skip
      refine sr_iconst G (v := 0) (by decide) d_R_count_26 ?_
      refine sr_iadd G d_R_count_27 ?_
      refine sr_istore_n G (by decide) d_R_count_28 ?_
      refine sr_iinc G (v := nI (j + 1)) rfl (nI_1 j) (by decide) d_R_count_29 ?_
      refine sr_goto G 4 d_R_count_32 rfl ?_
      have e9 : fd_ (g_R_count M) 0 (j + 1) = ((fd_ (g_R_count M) 0 j) + 0) := by
        show g_R_count M j (fd_ (g_R_count M) 0 j) = _
        rw [eg_R_count, if_pos h19]
      have ih9 := ih trivial
      try dsimp only at ih9
      rw [e9] at ih9
      exact ih9
    · skip
      refine sr_iconst G (v := 1) (by decide) d_R_count_22 ?_
      refine sr_goto G 27 d_R_count_23 rfl ?_
      refine sr_iadd G d_R_count_27 ?_
      refine sr_istore_n G (by decide) d_R_count_28 ?_
      refine sr_iinc G (v := nI (j + 1)) rfl (nI_1 j) (by decide) d_R_count_29 ?_
      refine sr_goto G 4 d_R_count_32 rfl ?_
      have e9 : fd_ (g_R_count M) 0 (j + 1) = ((fd_ (g_R_count M) 0 j) + 1) := by
        show g_R_count M j (fd_ (g_R_count M) 0 j) = _
        rw [eg_R_count, if_neg h19]
      have ih9 := ih trivial
      try dsimp only at ih9
      rw [e9] at ih9
      exact ih9
  · skip
    refine sr_iload_n G rfl d_R_count_4 ?_
    refine sr_aload_n G rfl d_R_count_5 ?_
    refine sr_get G (vv_20 hn) rfl ku_R rfl 15 (by decide) kf_R_102 rfl rfl d_R_count_6 ?_
    refine sr_icmp_ge G 35 d_R_count_9 rfl (fun _ => ?_) (fun h => absurd (by rw [eL, nI_clamp (by omega)]; exact nI_le (Nat.le_refl _) (by omega)) h)
    refine sr_iload_n G rfl d_R_count_35 ?_
    by_cases h36_0 : x1 = 0
    · skip
      refine sr_tabIn G 72 d_R_count_36 (by rw [h36_0]; decide) (by rw [h36_0]; decide) (by rw [h36_0]; rfl) rfl ?_
      refine sr_aload_n G rfl d_R_count_72 ?_
      refine sr_get G (vv_20 hn) rfl ku_R rfl 0 (by decide) kf_R_7 rfl rfl d_R_count_73 ?_
      refine sr_iconst G (v := 0) (by decide) d_R_count_76 ?_
      refine sr_iald G (vv_21 hn (by decide)) rfl (by unfold vp_in; decide) d_R_count_77 ?_
      refine sr_iret G d_R_count_78 ?_
      unfold f_R_count
      rw [if_pos h36_0]
      exact ⟨rfl, rfl⟩
    · skip
      by_cases h36_1 : x1 = 1
      · skip
        refine sr_tabIn G 79 d_R_count_36 (by rw [h36_1]; decide) (by rw [h36_1]; decide) (by rw [h36_1]; rfl) rfl ?_
        refine sr_aload_n G rfl d_R_count_79 ?_
        refine sr_get G (vv_20 hn) rfl ku_R rfl 0 (by decide) kf_R_7 rfl rfl d_R_count_80 ?_
        refine sr_iconst G (v := 1) (by decide) d_R_count_83 ?_
        refine sr_iald G (vv_21 hn (by decide)) rfl (by unfold vp_in; decide) d_R_count_84 ?_
        refine sr_iret G d_R_count_85 ?_
        unfold f_R_count
        rw [if_neg h36_0, if_pos h36_1]
        exact ⟨rfl, rfl⟩
      · skip
        by_cases h36_2 : x1 = 2
        · skip
          refine sr_tabIn G 86 d_R_count_36 (by rw [h36_2]; decide) (by rw [h36_2]; decide) (by rw [h36_2]; rfl) rfl ?_
          refine sr_aload_n G rfl d_R_count_86 ?_
          refine sr_get G (vv_20 hn) rfl ku_R rfl 3 (by decide) kf_R_98 rfl rfl d_R_count_87 ?_
          refine sr_iret G d_R_count_90 ?_
          unfold f_R_count
          rw [if_neg h36_0, if_neg h36_1, if_pos h36_2]
          exact ⟨rfl, rfl⟩
        · skip
          by_cases h36_3 : x1 = 3
          · skip
            refine sr_tabIn G 91 d_R_count_36 (by rw [h36_3]; decide) (by rw [h36_3]; decide) (by rw [h36_3]; rfl) rfl ?_
            refine sr_aload_n G rfl d_R_count_91 ?_
            refine sr_get G (vv_20 hn) rfl ku_R rfl 15 (by decide) kf_R_102 rfl rfl d_R_count_92 ?_
            refine sr_iret G d_R_count_95 ?_
            unfold f_R_count
            rw [if_neg h36_0, if_neg h36_1, if_neg h36_2, if_pos h36_3]
            exact ⟨rfl, rfl⟩
          · skip
            by_cases h36_4 : x1 = 4
            · skip
              refine sr_tabIn G 96 d_R_count_36 (by rw [h36_4]; decide) (by rw [h36_4]; decide) (by rw [h36_4]; rfl) rfl ?_
              refine sr_iload_n G rfl d_R_count_96 ?_
              refine sr_iret G d_R_count_97 ?_
              unfold f_R_count
              rw [if_neg h36_0, if_neg h36_1, if_neg h36_2, if_neg h36_3, if_pos h36_4]
              exact ⟨rfl, rfl⟩
            · skip
              refine sr_tabOut G 98 d_R_count_36 (by have := lv_neT h36_0 (show (0 : Int32).toInt = 0 by decide); have := lv_neT h36_1 (show (1 : Int32).toInt = 1 by decide); have := lv_neT h36_2 (show (2 : Int32).toInt = 2 by decide); have := lv_neT h36_3 (show (3 : Int32).toInt = 3 by decide); have := lv_neT h36_4 (show (4 : Int32).toInt = 4 by decide); omega) rfl ?_
              refine sr_bipush G (v := (-2)) (by decide) d_R_count_98 ?_
              refine sr_iret G d_R_count_100 ?_
              unfold f_R_count
              rw [if_neg h36_0, if_neg h36_1, if_neg h36_2, if_neg h36_3, if_neg h36_4]
              exact ⟨rfl, rfl⟩
def f_R_clear (M : Mem)  : Int32 × Mem := ((M 20 0 15), (f_R_begin M))
set_option maxHeartbeats 4000000 in
set_option maxRecDepth 100000 in
theorem c_R_clear {l : Launch} {D : va_G} {t6 : Nat → ClassId} {b n : Nat} (hn : 133 ≤ n) {M : Mem} : CI l D t6 b n y_R_clear cd_R_clear 2 .int (rk 2 44) [.ref (ad b 20 0)] M (f_R_clear M).1 (f_R_clear M).2 := by
  refine en_i (by decide) (by simp [Value.category]) (Nat.le_of_ble_eq_true rfl) (fun p e s m below meth c G => ?_)
  refine sr_aload_n G rfl d_R_clear_0 ?_
  refine sr_get G (vv_20 hn) rfl ku_R rfl 15 (by decide) kf_R_102 rfl rfl d_R_clear_1 ?_
  refine sr_istore_n G (by decide) d_R_clear_4 ?_
  refine sr_aload_n G rfl d_R_clear_5 ?_
  refine sr_cvv G (vv_20 hn) rfl rfl ki_R_begin kx_R_begin (c_R_begin hn) kc_R_begin km_R_95 kn_R yy_R_begin rfl ⟨rfl, rfl, by decide, by decide⟩ (Nat.le_of_ble_eq_true rfl) rfl d_R_clear_6 ?_
  refine sr_iload_n G rfl d_R_clear_9 ?_
  refine sr_iret G d_R_clear_10 ?_
  unfold f_R_clear
  exact ⟨rfl, rfl⟩
