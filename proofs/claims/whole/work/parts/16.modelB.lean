def g_R_init (x1 x3 xc : Int32) (o : Nat) (N : Mem) : Mem := (if (nI o) = x1 then (u3 (u3 (u3 (u3 (fo_ (u3 (u3 (u3 (u3 (u3 (u3 N 21 5 (Int32.toNatClampNeg ((2 * xc) + (nI o))) 1) 21 6 (Int32.toNatClampNeg ((2 * xc) + (nI o))) x3) 21 7 (Int32.toNatClampNeg ((2 * xc) + (nI o))) 0) 21 8 (Int32.toNatClampNeg ((2 * xc) + (nI o))) 0) 21 9 (Int32.toNatClampNeg ((2 * xc) + (nI o))) 0) 21 10 (Int32.toNatClampNeg ((2 * xc) + (nI o))) 0) 11 (201 * Int32.toNatClampNeg ((2 * xc) + (nI o))) 201 0) 21 13 (Int32.toNatClampNeg ((4 * ((2 * xc) + (nI o))) + 0)) 0) 21 13 (Int32.toNatClampNeg ((4 * ((2 * xc) + (nI o))) + 1)) 0) 21 13 (Int32.toNatClampNeg ((4 * ((2 * xc) + (nI o))) + 2)) 0) 21 13 (Int32.toNatClampNeg ((4 * ((2 * xc) + (nI o))) + 3)) 0) else (u3 (u3 (u3 (u3 (fo_ (u3 (u3 (u3 (u3 (u3 (u3 N 21 5 (Int32.toNatClampNeg ((2 * xc) + (nI o))) 0) 21 6 (Int32.toNatClampNeg ((2 * xc) + (nI o))) 0) 21 7 (Int32.toNatClampNeg ((2 * xc) + (nI o))) 0) 21 8 (Int32.toNatClampNeg ((2 * xc) + (nI o))) 0) 21 9 (Int32.toNatClampNeg ((2 * xc) + (nI o))) 0) 21 10 (Int32.toNatClampNeg ((2 * xc) + (nI o))) 0) 11 (201 * Int32.toNatClampNeg ((2 * xc) + (nI o))) 201 0) 21 13 (Int32.toNatClampNeg ((4 * ((2 * xc) + (nI o))) + 0)) 0) 21 13 (Int32.toNatClampNeg ((4 * ((2 * xc) + (nI o))) + 1)) 0) 21 13 (Int32.toNatClampNeg ((4 * ((2 * xc) + (nI o))) + 2)) 0) 21 13 (Int32.toNatClampNeg ((4 * ((2 * xc) + (nI o))) + 3)) 0))
theorem eg_R_init (x1 x3 xc : Int32) (o : Nat) (N : Mem) : g_R_init x1 x3 xc o N = (if (nI o) = x1 then (u3 (u3 (u3 (u3 (fo_ (u3 (u3 (u3 (u3 (u3 (u3 N 21 5 (Int32.toNatClampNeg ((2 * xc) + (nI o))) 1) 21 6 (Int32.toNatClampNeg ((2 * xc) + (nI o))) x3) 21 7 (Int32.toNatClampNeg ((2 * xc) + (nI o))) 0) 21 8 (Int32.toNatClampNeg ((2 * xc) + (nI o))) 0) 21 9 (Int32.toNatClampNeg ((2 * xc) + (nI o))) 0) 21 10 (Int32.toNatClampNeg ((2 * xc) + (nI o))) 0) 11 (201 * Int32.toNatClampNeg ((2 * xc) + (nI o))) 201 0) 21 13 (Int32.toNatClampNeg ((4 * ((2 * xc) + (nI o))) + 0)) 0) 21 13 (Int32.toNatClampNeg ((4 * ((2 * xc) + (nI o))) + 1)) 0) 21 13 (Int32.toNatClampNeg ((4 * ((2 * xc) + (nI o))) + 2)) 0) 21 13 (Int32.toNatClampNeg ((4 * ((2 * xc) + (nI o))) + 3)) 0) else (u3 (u3 (u3 (u3 (fo_ (u3 (u3 (u3 (u3 (u3 (u3 N 21 5 (Int32.toNatClampNeg ((2 * xc) + (nI o))) 0) 21 6 (Int32.toNatClampNeg ((2 * xc) + (nI o))) 0) 21 7 (Int32.toNatClampNeg ((2 * xc) + (nI o))) 0) 21 8 (Int32.toNatClampNeg ((2 * xc) + (nI o))) 0) 21 9 (Int32.toNatClampNeg ((2 * xc) + (nI o))) 0) 21 10 (Int32.toNatClampNeg ((2 * xc) + (nI o))) 0) 11 (201 * Int32.toNatClampNeg ((2 * xc) + (nI o))) 201 0) 21 13 (Int32.toNatClampNeg ((4 * ((2 * xc) + (nI o))) + 0)) 0) 21 13 (Int32.toNatClampNeg ((4 * ((2 * xc) + (nI o))) + 1)) 0) 21 13 (Int32.toNatClampNeg ((4 * ((2 * xc) + (nI o))) + 2)) 0) 21 13 (Int32.toNatClampNeg ((4 * ((2 * xc) + (nI o))) + 3)) 0)) := rfl
def f_R_init (M : Mem) (x1 : Int32) (x2 : Int32) (x3 : Int32) : Int32 × Mem := (if (f_R_noSide x1) = 0 then (if (f_R_in x3 1 7) = 0 then ((-2), M) else (if (M 20 0 3) = 4 then ((-10), M) else ((M 20 0 3), (u3 (md_ (g_R_init x1 x3 (M 20 0 3)) (u3 (u3 M 21 3 (Int32.toNatClampNeg (M 20 0 3)) x1) 21 4 (Int32.toNatClampNeg (M 20 0 3)) x2) 2) 20 0 3 (((md_ (g_R_init x1 x3 (M 20 0 3)) (u3 (u3 M 21 3 (Int32.toNatClampNeg (M 20 0 3)) x1) 21 4 (Int32.toNatClampNeg (M 20 0 3)) x2) 2) 20 0 3) + 1))))) else ((-1), M))
set_option maxHeartbeats 4000000 in
set_option maxRecDepth 100000 in
theorem c_R_init {l : Launch} {D : va_G} {t6 : Nat → ClassId} {b n : Nat} (hn : 133 ≤ n) {M : Mem} {x1 : Int32} {x2 : Int32} {x3 : Int32} (hI : ri_ M) (hb2 : x2 = 0 ∨ x2 = 1) : CI l D t6 b n y_R_init cd_R_init 8 .int (rk 1 22) [.ref (ad b 20 0), .int x1, .int x2, .int x3] M (f_R_init M x1 x2 x3).1 (f_R_init M x1 x2 x3).2 := by
  refine en_i (by decide) (by simp [Value.category]) (Nat.le_of_ble_eq_true rfl) (fun p e s m below meth c G => ?_)
  refine sr_iload_n G rfl d_R_init_0 ?_
  refine sr_csi G ks_R_noSide (c_R_noSide) kc_R_noSide km_R_109 kn_R yy_R_noSide rfl ⟨rfl, rfl, by decide, by decide⟩ (Nat.le_of_ble_eq_true rfl) rfl d_R_init_1 ?_
  refine sr_if_eq G 9 d_R_init_4 rfl (fun h4 => ?_) (fun h4 => ?_)
  · skip
    have v4 : vp_in x1 2 := in_nos h4
    have i4 := ix_lt v4
    have w4 := in_1 v4
    have j4 := ix_lt w4
    refine sr_iload_n G rfl d_R_init_9 ?_
    refine sr_iconst G (v := 1) (by decide) d_R_init_10 ?_
    refine sr_bipush G (v := 7) (by decide) d_R_init_11 ?_
    refine sr_csi G ks_R_in (c_R_in) kc_R_in km_R_113 kn_R yy_R_in rfl ⟨rfl, rfl, by decide, by decide⟩ (Nat.le_of_ble_eq_true rfl) rfl d_R_init_13 ?_
    refine sr_if_ne G 22 d_R_init_16 rfl (fun h16 => ?_) (fun h16 => ?_)
    · skip
      have v16 : vp_in x3 8 := in_wiR (lo := 1) (hi := 7) (by decide) (by decide) h16
      have i16 := ix_lt v16
      refine sr_aload_n G rfl d_R_init_22 ?_
      refine sr_get G (vv_20 hn) rfl ku_R rfl 3 (by decide) kf_R_98 rfl rfl d_R_init_23 ?_
      refine sr_iconst G (v := 4) (by decide) d_R_init_26 ?_
      refine sr_icmp_ne G 33 d_R_init_27 rfl (fun h27 => ?_) (fun h27 => ?_)
      · skip
        refine sr_aload_n G rfl d_R_init_33 ?_
        refine sr_get G (vv_20 hn) rfl ku_R rfl 3 (by decide) kf_R_98 rfl rfl d_R_init_34 ?_
        refine sr_istore G (by decide) d_R_init_37 ?_
        have v9 := in_l4R hI h27
        have i9 := ix_lt v9
        refine sr_aload_n G rfl d_R_init_39 ?_
        refine sr_get G (vv_20 hn) rfl ku_R rfl 4 (by decide) kf_R_20 rfl rfl d_R_init_40 ?_
        refine sr_iload G rfl d_R_init_43 ?_
        refine sr_iload_n G rfl d_R_init_45 ?_
        refine sr_iast G (vv_21 hn (by decide)) (fun _ => rfl) (by assumption) d_R_init_46 ?_
        refine sr_aload_n G rfl d_R_init_47 ?_
        refine sr_get G (vv_20 hn) rfl ku_R rfl 5 (by decide) kf_R_23 rfl rfl d_R_init_48 ?_
        refine sr_iload G rfl d_R_init_51 ?_
        refine sr_iload_n G rfl d_R_init_53 ?_
        refine sr_zast G (vv_21 hn (by decide)) (fun _ => rfl) (by rcases hb2 with rfl | rfl <;> decide) (by assumption) d_R_init_54 ?_
        refine sr_iconst G (v := (nI 0)) (by decide) d_R_init_55 ?_
        refine sr_istore G (by decide) d_R_init_56 ?_
        refine sr_loop 2 (fun o => md_ (g_R_init x1 x3 (M 20 0 3)) (u3 (u3 M 21 3 (Int32.toNatClampNeg (M 20 0 3)) x1) 21 4 (Int32.toNatClampNeg (M 20 0 3)) x2) o) (fun o => [some (.ref (ad b 20 0)), some (.int x1), some (.int x2), some (.int x3), some (.int (M 20 0 3)), some (.int (nI o)), none, none]) (fun _ => True) 0 (Nat.zero_le _) trivial rfl rfl (fun o ho0 ho hi ih => ?_) (fun hi => ?_)
        · skip
          have io : (nI o).toNatClampNeg = o := nI_clamp (by omega)
          have iho := ih trivial
          change St _ _ _ _ _ _ _ _ _ _ _ _ _ _ _ _ (g_R_init x1 x3 (M 20 0 3) o (md_ (g_R_init x1 x3 (M 20 0 3)) (u3 (u3 M 21 3 (Int32.toNatClampNeg (M 20 0 3)) x1) 21 4 (Int32.toNatClampNeg (M 20 0 3)) x2) o)) _ _ _ at iho
          generalize md_ (g_R_init x1 x3 (M 20 0 3)) (u3 (u3 M 21 3 (Int32.toNatClampNeg (M 20 0 3)) x1) 21 4 (Int32.toNatClampNeg (M 20 0 3)) x2) o = N at iho ⊢
          refine sr_iload G rfl d_R_init_58 ?_
          refine sr_iconst G (v := 2) (by decide) d_R_init_60 ?_
          refine sr_icmp_ge G 207 d_R_init_61 rfl (fun h => absurd h (nI_ge (b := 2) ho (by decide))) (fun _ => ?_)
          refine sr_iconst G (v := 2) (by decide) d_R_init_64 ?_
          refine sr_iload G rfl d_R_init_65 ?_
          refine sr_imul G d_R_init_67 ?_
          refine sr_iload G rfl d_R_init_68 ?_
          refine sr_iadd G d_R_init_70 ?_
          refine sr_istore G (by decide) d_R_init_71 ?_
          refine sr_aload_n G rfl d_R_init_73 ?_
          refine sr_get G (vv_20 hn) rfl ku_R rfl 6 (by decide) kf_R_26 rfl rfl d_R_init_74 ?_
          refine sr_iload G rfl d_R_init_77 ?_
          refine sr_iload G rfl d_R_init_79 ?_
          refine sr_iload_n G rfl d_R_init_81 ?_
          refine sr_icmp_ne G 89 d_R_init_82 rfl (fun h82 => ?_) (fun h82 => ?_)
          · skip
            refine sr_iconst G (v := 0) (by decide) d_R_init_89 ?_
            refine sr_iast G (vv_21 hn (by decide)) (fun _ => rfl) (in_e (by assumption) (vp_in_nI (by omega) (by decide))) d_R_init_90 ?_
            refine sr_aload_n G rfl d_R_init_91 ?_
            refine sr_get G (vv_20 hn) rfl ku_R rfl 7 (by decide) kf_R_29 rfl rfl d_R_init_92 ?_
            refine sr_iload G rfl d_R_init_95 ?_
            refine sr_iload G rfl d_R_init_97 ?_
            refine sr_iload_n G rfl d_R_init_99 ?_
            refine sr_icmp_ne G 107 d_R_init_100 rfl (fun _ => ?_) (fun h => absurd h h82)
            refine sr_iconst G (v := 0) (by decide) d_R_init_107 ?_
            refine sr_iast G (vv_21 hn (by decide)) (fun _ => rfl) (in_e (by assumption) (vp_in_nI (by omega) (by decide))) d_R_init_108 ?_
            refine sr_aload_n G rfl d_R_init_109 ?_
            refine sr_get G (vv_20 hn) rfl ku_R rfl 8 (by decide) kf_R_32 rfl rfl d_R_init_110 ?_
            refine sr_iload G rfl d_R_init_113 ?_
            refine sr_iconst G (v := 0) (by decide) d_R_init_115 ?_
            refine sr_iast G (vv_21 hn (by decide)) (fun _ => rfl) (in_e (by assumption) (vp_in_nI (by omega) (by decide))) d_R_init_116 ?_
            refine sr_aload_n G rfl d_R_init_117 ?_
            refine sr_get G (vv_20 hn) rfl ku_R rfl 9 (by decide) kf_R_35 rfl rfl d_R_init_118 ?_
            refine sr_iload G rfl d_R_init_121 ?_
            refine sr_iconst G (v := 0) (by decide) d_R_init_123 ?_
            refine sr_iast G (vv_21 hn (by decide)) (fun _ => rfl) (in_e (by assumption) (vp_in_nI (by omega) (by decide))) d_R_init_124 ?_
            refine sr_aload_n G rfl d_R_init_125 ?_
            refine sr_get G (vv_20 hn) rfl ku_R rfl 10 (by decide) kf_R_38 rfl rfl d_R_init_126 ?_
            refine sr_iload G rfl d_R_init_129 ?_
            refine sr_iconst G (v := 0) (by decide) d_R_init_131 ?_
            refine sr_iast G (vv_21 hn (by decide)) (fun _ => rfl) (in_e (by assumption) (vp_in_nI (by omega) (by decide))) d_R_init_132 ?_
            refine sr_aload_n G rfl d_R_init_133 ?_
            refine sr_get G (vv_20 hn) rfl ku_R rfl 11 (by decide) kf_R_41 rfl rfl d_R_init_134 ?_
            refine sr_iload G rfl d_R_init_137 ?_
            refine sr_iconst G (v := 0) (by decide) d_R_init_139 ?_
            refine sr_iast G (vv_21 hn (by decide)) (fun _ => rfl) (in_e (by assumption) (vp_in_nI (by omega) (by decide))) d_R_init_140 ?_
            refine sr_iconst G (v := (nI 0)) (by decide) d_R_init_141 ?_
            refine sr_istore G (by decide) d_R_init_142 ?_
            have vE : vp_in ((2 * (M 20 0 3)) + (nI o)) 8 := in_e v9 (vp_in_nI (by omega) (by decide))
            have iE := ix_lt vE
            refine sr_loop 201 (fun j => fo_ (u3 (u3 (u3 (u3 (u3 (u3 N 21 5 (Int32.toNatClampNeg ((2 * (M 20 0 3)) + (nI o))) 0) 21 6 (Int32.toNatClampNeg ((2 * (M 20 0 3)) + (nI o))) 0) 21 7 (Int32.toNatClampNeg ((2 * (M 20 0 3)) + (nI o))) 0) 21 8 (Int32.toNatClampNeg ((2 * (M 20 0 3)) + (nI o))) 0) 21 9 (Int32.toNatClampNeg ((2 * (M 20 0 3)) + (nI o))) 0) 21 10 (Int32.toNatClampNeg ((2 * (M 20 0 3)) + (nI o))) 0) 11 (201 * Int32.toNatClampNeg ((2 * (M 20 0 3)) + (nI o))) j 0) (fun j => [some (.ref (ad b 20 0)), some (.int x1), some (.int x2), some (.int x3), some (.int (M 20 0 3)), some (.int (nI o)), some (.int ((2 * (M 20 0 3)) + (nI o))), some (.int (nI j))]) (fun _ => True) 0 (Nat.zero_le _) trivial (fo_0 _ _ _ _) rfl (fun j hj0 hj hi ih => ?_) (fun hi => ?_)
            · skip
              have ij : (nI j).toNatClampNeg = j := nI_clamp (by omega)
              refine sr_iload G rfl d_R_init_144 ?_
              refine sr_sipush G (v := 200) (by decide) d_R_init_146 ?_
              refine sr_icmp_gt G 173 d_R_init_149 rfl (fun h => absurd h (nI_nlt (a := 200) (b := j) (by omega) (by decide))) (fun _ => ?_)
              refine sr_aload_n G rfl d_R_init_152 ?_
              refine sr_get G (vv_20 hn) rfl ku_R rfl 12 (by decide) kf_R_44 rfl rfl d_R_init_153 ?_
              refine sr_sipush G (v := 201) (by decide) d_R_init_156 ?_
              refine sr_iload G rfl d_R_init_159 ?_
              refine sr_imul G d_R_init_161 ?_
              refine sr_iload G rfl d_R_init_162 ?_
              refine sr_iadd G d_R_init_164 ?_
              refine sr_iconst G (v := 0) (by decide) d_R_init_165 ?_
              refine sr_iast G (vv_21 hn (by decide)) (fun _ => rfl) (in_t (in_e (by assumption) (vp_in_nI (by omega) (by decide))) (vp_in_nI (by omega) (by decide))) d_R_init_166 ?_
              refine sr_iinc G (v := nI (j + 1)) rfl (nI_1 j) (by decide) d_R_init_167 ?_
              refine sr_goto G 144 d_R_init_170 rfl ?_
              refine sr_eqM ?_ (ih trivial)
              rw [(ix_t vE (vp_in_nI (n := j) (N := 201) (by omega) (by decide))).1, nI_clamp (by omega), ij]
              exact fo_s _ _ _ _ _
            · skip
              refine sr_iload G rfl d_R_init_144 ?_
              refine sr_sipush G (v := 200) (by decide) d_R_init_146 ?_
              refine sr_icmp_gt G 173 d_R_init_149 rfl (fun _ => ?_) (fun h => absurd (by decide) h)
              refine sr_iconst G (v := 0) (by decide) d_R_init_173 ?_
              refine sr_istore G (by decide) d_R_init_174 ?_
              refine sr_iload G rfl d_R_init_176 ?_
              refine sr_iconst G (v := 4) (by decide) d_R_init_178 ?_
              refine sr_icmp_ge G 201 d_R_init_179 rfl (fun h => absurd h (by decide)) (fun _ => ?_)
              refine sr_aload_n G rfl d_R_init_182 ?_
              refine sr_get G (vv_20 hn) rfl ku_R rfl 14 (by decide) kf_R_50 rfl rfl d_R_init_183 ?_
              refine sr_iconst G (v := 4) (by decide) d_R_init_186 ?_
              refine sr_iload G rfl d_R_init_187 ?_
              refine sr_imul G d_R_init_189 ?_
              refine sr_iload G rfl d_R_init_190 ?_
              refine sr_iadd G d_R_init_192 ?_
              refine sr_iconst G (v := 0) (by decide) d_R_init_193 ?_
              refine sr_iast G (vv_21 hn (by decide)) (fun _ => rfl) (in_v (in_e (by assumption) (vp_in_nI (by omega) (by decide))) (by unfold vp_in; decide)) d_R_init_194 ?_
              refine sr_iinc G (v := 1) rfl (by decide) (by decide) d_R_init_195 ?_
              refine sr_goto G 176 d_R_init_198 rfl ?_
              refine sr_iload G rfl d_R_init_176 ?_
              refine sr_iconst G (v := 4) (by decide) d_R_init_178 ?_
              refine sr_icmp_ge G 201 d_R_init_179 rfl (fun h => absurd h (by decide)) (fun _ => ?_)
              refine sr_aload_n G rfl d_R_init_182 ?_
              refine sr_get G (vv_20 hn) rfl ku_R rfl 14 (by decide) kf_R_50 rfl rfl d_R_init_183 ?_
              refine sr_iconst G (v := 4) (by decide) d_R_init_186 ?_
              refine sr_iload G rfl d_R_init_187 ?_
              refine sr_imul G d_R_init_189 ?_
              refine sr_iload G rfl d_R_init_190 ?_
              refine sr_iadd G d_R_init_192 ?_
              refine sr_iconst G (v := 0) (by decide) d_R_init_193 ?_
              refine sr_iast G (vv_21 hn (by decide)) (fun _ => rfl) (in_v (in_e (by assumption) (vp_in_nI (by omega) (by decide))) (by unfold vp_in; decide)) d_R_init_194 ?_
              refine sr_iinc G (v := 2) rfl (by decide) (by decide) d_R_init_195 ?_
              refine sr_goto G 176 d_R_init_198 rfl ?_
              refine sr_iload G rfl d_R_init_176 ?_
              refine sr_iconst G (v := 4) (by decide) d_R_init_178 ?_
              refine sr_icmp_ge G 201 d_R_init_179 rfl (fun h => absurd h (by decide)) (fun _ => ?_)
              refine sr_aload_n G rfl d_R_init_182 ?_
              refine sr_get G (vv_20 hn) rfl ku_R rfl 14 (by decide) kf_R_50 rfl rfl d_R_init_183 ?_
              refine sr_iconst G (v := 4) (by decide) d_R_init_186 ?_
              refine sr_iload G rfl d_R_init_187 ?_
              refine sr_imul G d_R_init_189 ?_
              refine sr_iload G rfl d_R_init_190 ?_
              refine sr_iadd G d_R_init_192 ?_
              refine sr_iconst G (v := 0) (by decide) d_R_init_193 ?_
              refine sr_iast G (vv_21 hn (by decide)) (fun _ => rfl) (in_v (in_e (by assumption) (vp_in_nI (by omega) (by decide))) (by unfold vp_in; decide)) d_R_init_194 ?_
              refine sr_iinc G (v := 3) rfl (by decide) (by decide) d_R_init_195 ?_
              refine sr_goto G 176 d_R_init_198 rfl ?_
              refine sr_iload G rfl d_R_init_176 ?_
              refine sr_iconst G (v := 4) (by decide) d_R_init_178 ?_
              refine sr_icmp_ge G 201 d_R_init_179 rfl (fun h => absurd h (by decide)) (fun _ => ?_)
              refine sr_aload_n G rfl d_R_init_182 ?_
              refine sr_get G (vv_20 hn) rfl ku_R rfl 14 (by decide) kf_R_50 rfl rfl d_R_init_183 ?_
              refine sr_iconst G (v := 4) (by decide) d_R_init_186 ?_
              refine sr_iload G rfl d_R_init_187 ?_
              refine sr_imul G d_R_init_189 ?_
              refine sr_iload G rfl d_R_init_190 ?_
              refine sr_iadd G d_R_init_192 ?_
              refine sr_iconst G (v := 0) (by decide) d_R_init_193 ?_
              refine sr_iast G (vv_21 hn (by decide)) (fun _ => rfl) (in_v (in_e (by assumption) (vp_in_nI (by omega) (by decide))) (by unfold vp_in; decide)) d_R_init_194 ?_
              refine sr_iinc G (v := 4) rfl (by decide) (by decide) d_R_init_195 ?_
              refine sr_goto G 176 d_R_init_198 rfl ?_
              refine sr_iload G rfl d_R_init_176 ?_
              refine sr_iconst G (v := 4) (by decide) d_R_init_178 ?_
              refine sr_icmp_ge G 201 d_R_init_179 rfl (fun _ => ?_) (fun h => absurd (by decide) h)
              refine sr_iinc G (v := nI (o + 1)) rfl (nI_1 o) (by decide) d_R_init_201 ?_
              refine sr_goto G 58 d_R_init_204 rfl ?_
              refine sr_dropL 6 ?_
              refine sr_dropL 7 ?_
              refine sr_eqM ?_ iho
              rw [eg_R_init, if_neg h82]
          · skip
            refine sr_iconst G (v := 1) (by decide) d_R_init_85 ?_
            refine sr_goto G 90 d_R_init_86 rfl ?_
            refine sr_iast G (vv_21 hn (by decide)) (fun _ => rfl) (in_e (by assumption) (vp_in_nI (by omega) (by decide))) d_R_init_90 ?_
            refine sr_aload_n G rfl d_R_init_91 ?_
            refine sr_get G (vv_20 hn) rfl ku_R rfl 7 (by decide) kf_R_29 rfl rfl d_R_init_92 ?_
            refine sr_iload G rfl d_R_init_95 ?_
            refine sr_iload G rfl d_R_init_97 ?_
            refine sr_iload_n G rfl d_R_init_99 ?_
            refine sr_icmp_ne G 107 d_R_init_100 rfl (fun h => absurd h82 h) (fun _ => ?_)
            refine sr_iload_n G rfl d_R_init_103 ?_
            refine sr_goto G 108 d_R_init_104 rfl ?_
            refine sr_iast G (vv_21 hn (by decide)) (fun _ => rfl) (in_e (by assumption) (vp_in_nI (by omega) (by decide))) d_R_init_108 ?_
            refine sr_aload_n G rfl d_R_init_109 ?_
            refine sr_get G (vv_20 hn) rfl ku_R rfl 8 (by decide) kf_R_32 rfl rfl d_R_init_110 ?_
            refine sr_iload G rfl d_R_init_113 ?_
            refine sr_iconst G (v := 0) (by decide) d_R_init_115 ?_
            refine sr_iast G (vv_21 hn (by decide)) (fun _ => rfl) (in_e (by assumption) (vp_in_nI (by omega) (by decide))) d_R_init_116 ?_
            refine sr_aload_n G rfl d_R_init_117 ?_
            refine sr_get G (vv_20 hn) rfl ku_R rfl 9 (by decide) kf_R_35 rfl rfl d_R_init_118 ?_
            refine sr_iload G rfl d_R_init_121 ?_
            refine sr_iconst G (v := 0) (by decide) d_R_init_123 ?_
            refine sr_iast G (vv_21 hn (by decide)) (fun _ => rfl) (in_e (by assumption) (vp_in_nI (by omega) (by decide))) d_R_init_124 ?_
            refine sr_aload_n G rfl d_R_init_125 ?_
            refine sr_get G (vv_20 hn) rfl ku_R rfl 10 (by decide) kf_R_38 rfl rfl d_R_init_126 ?_
            refine sr_iload G rfl d_R_init_129 ?_
            refine sr_iconst G (v := 0) (by decide) d_R_init_131 ?_
            refine sr_iast G (vv_21 hn (by decide)) (fun _ => rfl) (in_e (by assumption) (vp_in_nI (by omega) (by decide))) d_R_init_132 ?_
            refine sr_aload_n G rfl d_R_init_133 ?_
            refine sr_get G (vv_20 hn) rfl ku_R rfl 11 (by decide) kf_R_41 rfl rfl d_R_init_134 ?_
            refine sr_iload G rfl d_R_init_137 ?_
            refine sr_iconst G (v := 0) (by decide) d_R_init_139 ?_
            refine sr_iast G (vv_21 hn (by decide)) (fun _ => rfl) (in_e (by assumption) (vp_in_nI (by omega) (by decide))) d_R_init_140 ?_
            refine sr_iconst G (v := (nI 0)) (by decide) d_R_init_141 ?_
            refine sr_istore G (by decide) d_R_init_142 ?_
            have vE : vp_in ((2 * (M 20 0 3)) + (nI o)) 8 := in_e v9 (vp_in_nI (by omega) (by decide))
            have iE := ix_lt vE
            refine sr_loop 201 (fun j => fo_ (u3 (u3 (u3 (u3 (u3 (u3 N 21 5 (Int32.toNatClampNeg ((2 * (M 20 0 3)) + (nI o))) 1) 21 6 (Int32.toNatClampNeg ((2 * (M 20 0 3)) + (nI o))) x3) 21 7 (Int32.toNatClampNeg ((2 * (M 20 0 3)) + (nI o))) 0) 21 8 (Int32.toNatClampNeg ((2 * (M 20 0 3)) + (nI o))) 0) 21 9 (Int32.toNatClampNeg ((2 * (M 20 0 3)) + (nI o))) 0) 21 10 (Int32.toNatClampNeg ((2 * (M 20 0 3)) + (nI o))) 0) 11 (201 * Int32.toNatClampNeg ((2 * (M 20 0 3)) + (nI o))) j 0) (fun j => [some (.ref (ad b 20 0)), some (.int x1), some (.int x2), some (.int x3), some (.int (M 20 0 3)), some (.int (nI o)), some (.int ((2 * (M 20 0 3)) + (nI o))), some (.int (nI j))]) (fun _ => True) 0 (Nat.zero_le _) trivial (fo_0 _ _ _ _) rfl (fun j hj0 hj hi ih => ?_) (fun hi => ?_)
            · skip
              have ij : (nI j).toNatClampNeg = j := nI_clamp (by omega)
              refine sr_iload G rfl d_R_init_144 ?_
              refine sr_sipush G (v := 200) (by decide) d_R_init_146 ?_
              refine sr_icmp_gt G 173 d_R_init_149 rfl (fun h => absurd h (nI_nlt (a := 200) (b := j) (by omega) (by decide))) (fun _ => ?_)
              refine sr_aload_n G rfl d_R_init_152 ?_
              refine sr_get G (vv_20 hn) rfl ku_R rfl 12 (by decide) kf_R_44 rfl rfl d_R_init_153 ?_
              refine sr_sipush G (v := 201) (by decide) d_R_init_156 ?_
              refine sr_iload G rfl d_R_init_159 ?_
              refine sr_imul G d_R_init_161 ?_
              refine sr_iload G rfl d_R_init_162 ?_
              refine sr_iadd G d_R_init_164 ?_
              refine sr_iconst G (v := 0) (by decide) d_R_init_165 ?_
              refine sr_iast G (vv_21 hn (by decide)) (fun _ => rfl) (in_t (in_e (by assumption) (vp_in_nI (by omega) (by decide))) (vp_in_nI (by omega) (by decide))) d_R_init_166 ?_
              refine sr_iinc G (v := nI (j + 1)) rfl (nI_1 j) (by decide) d_R_init_167 ?_
              refine sr_goto G 144 d_R_init_170 rfl ?_
              refine sr_eqM ?_ (ih trivial)
              rw [(ix_t vE (vp_in_nI (n := j) (N := 201) (by omega) (by decide))).1, nI_clamp (by omega), ij]
              exact fo_s _ _ _ _ _
            · skip
              refine sr_iload G rfl d_R_init_144 ?_
              refine sr_sipush G (v := 200) (by decide) d_R_init_146 ?_
              refine sr_icmp_gt G 173 d_R_init_149 rfl (fun _ => ?_) (fun h => absurd (by decide) h)
              refine sr_iconst G (v := 0) (by decide) d_R_init_173 ?_
              refine sr_istore G (by decide) d_R_init_174 ?_
              refine sr_iload G rfl d_R_init_176 ?_
              refine sr_iconst G (v := 4) (by decide) d_R_init_178 ?_
              refine sr_icmp_ge G 201 d_R_init_179 rfl (fun h => absurd h (by decide)) (fun _ => ?_)
              refine sr_aload_n G rfl d_R_init_182 ?_
              refine sr_get G (vv_20 hn) rfl ku_R rfl 14 (by decide) kf_R_50 rfl rfl d_R_init_183 ?_
              refine sr_iconst G (v := 4) (by decide) d_R_init_186 ?_
              refine sr_iload G rfl d_R_init_187 ?_
              refine sr_imul G d_R_init_189 ?_
              refine sr_iload G rfl d_R_init_190 ?_
              refine sr_iadd G d_R_init_192 ?_
              refine sr_iconst G (v := 0) (by decide) d_R_init_193 ?_
              refine sr_iast G (vv_21 hn (by decide)) (fun _ => rfl) (in_v (in_e (by assumption) (vp_in_nI (by omega) (by decide))) (by unfold vp_in; decide)) d_R_init_194 ?_
              refine sr_iinc G (v := 1) rfl (by decide) (by decide) d_R_init_195 ?_
              refine sr_goto G 176 d_R_init_198 rfl ?_
              refine sr_iload G rfl d_R_init_176 ?_
              refine sr_iconst G (v := 4) (by decide) d_R_init_178 ?_
              refine sr_icmp_ge G 201 d_R_init_179 rfl (fun h => absurd h (by decide)) (fun _ => ?_)
              refine sr_aload_n G rfl d_R_init_182 ?_
              refine sr_get G (vv_20 hn) rfl ku_R rfl 14 (by decide) kf_R_50 rfl rfl d_R_init_183 ?_
              refine sr_iconst G (v := 4) (by decide) d_R_init_186 ?_
              refine sr_iload G rfl d_R_init_187 ?_
              refine sr_imul G d_R_init_189 ?_
              refine sr_iload G rfl d_R_init_190 ?_
              refine sr_iadd G d_R_init_192 ?_
              refine sr_iconst G (v := 0) (by decide) d_R_init_193 ?_
              refine sr_iast G (vv_21 hn (by decide)) (fun _ => rfl) (in_v (in_e (by assumption) (vp_in_nI (by omega) (by decide))) (by unfold vp_in; decide)) d_R_init_194 ?_
              refine sr_iinc G (v := 2) rfl (by decide) (by decide) d_R_init_195 ?_
              refine sr_goto G 176 d_R_init_198 rfl ?_
              refine sr_iload G rfl d_R_init_176 ?_
              refine sr_iconst G (v := 4) (by decide) d_R_init_178 ?_
              refine sr_icmp_ge G 201 d_R_init_179 rfl (fun h => absurd h (by decide)) (fun _ => ?_)
              refine sr_aload_n G rfl d_R_init_182 ?_
              refine sr_get G (vv_20 hn) rfl ku_R rfl 14 (by decide) kf_R_50 rfl rfl d_R_init_183 ?_
              refine sr_iconst G (v := 4) (by decide) d_R_init_186 ?_
              refine sr_iload G rfl d_R_init_187 ?_
              refine sr_imul G d_R_init_189 ?_
              refine sr_iload G rfl d_R_init_190 ?_
              refine sr_iadd G d_R_init_192 ?_
              refine sr_iconst G (v := 0) (by decide) d_R_init_193 ?_
              refine sr_iast G (vv_21 hn (by decide)) (fun _ => rfl) (in_v (in_e (by assumption) (vp_in_nI (by omega) (by decide))) (by unfold vp_in; decide)) d_R_init_194 ?_
              refine sr_iinc G (v := 3) rfl (by decide) (by decide) d_R_init_195 ?_
              refine sr_goto G 176 d_R_init_198 rfl ?_
              refine sr_iload G rfl d_R_init_176 ?_
              refine sr_iconst G (v := 4) (by decide) d_R_init_178 ?_
              refine sr_icmp_ge G 201 d_R_init_179 rfl (fun h => absurd h (by decide)) (fun _ => ?_)
              refine sr_aload_n G rfl d_R_init_182 ?_
              refine sr_get G (vv_20 hn) rfl ku_R rfl 14 (by decide) kf_R_50 rfl rfl d_R_init_183 ?_
              refine sr_iconst G (v := 4) (by decide) d_R_init_186 ?_
              refine sr_iload G rfl d_R_init_187 ?_
              refine sr_imul G d_R_init_189 ?_
              refine sr_iload G rfl d_R_init_190 ?_
              refine sr_iadd G d_R_init_192 ?_
              refine sr_iconst G (v := 0) (by decide) d_R_init_193 ?_
              refine sr_iast G (vv_21 hn (by decide)) (fun _ => rfl) (in_v (in_e (by assumption) (vp_in_nI (by omega) (by decide))) (by unfold vp_in; decide)) d_R_init_194 ?_
              refine sr_iinc G (v := 4) rfl (by decide) (by decide) d_R_init_195 ?_
              refine sr_goto G 176 d_R_init_198 rfl ?_
              refine sr_iload G rfl d_R_init_176 ?_
              refine sr_iconst G (v := 4) (by decide) d_R_init_178 ?_
              refine sr_icmp_ge G 201 d_R_init_179 rfl (fun _ => ?_) (fun h => absurd (by decide) h)
              refine sr_iinc G (v := nI (o + 1)) rfl (nI_1 o) (by decide) d_R_init_201 ?_
              refine sr_goto G 58 d_R_init_204 rfl ?_
              refine sr_dropL 6 ?_
              refine sr_dropL 7 ?_
              refine sr_eqM ?_ iho
              rw [eg_R_init, if_pos h82]
        · skip
          refine sr_iload G rfl d_R_init_58 ?_
          refine sr_iconst G (v := 2) (by decide) d_R_init_60 ?_
          refine sr_icmp_ge G 207 d_R_init_61 rfl (fun _ => ?_) (fun h => absurd (by decide) h)
          refine sr_aload_n G rfl d_R_init_207 ?_
          refine sr_dup G rfl d_R_init_208 ?_
          refine sr_get G (vv_20 hn) rfl ku_R rfl 3 (by decide) kf_R_98 rfl rfl d_R_init_209 ?_
          refine sr_iconst G (v := 1) (by decide) d_R_init_212 ?_
          refine sr_iadd G d_R_init_213 ?_
          refine sr_put G (vv_20 hn) rfl ku_R rfl 3 (by decide) t_R ty_R nm_R kf_R_98 rfl rfl (ty := .int) (by decide +kernel) rfl rfl (Nat.le_of_ble_eq_true rfl) rfl d_R_init_214 ?_
          refine sr_iload G rfl d_R_init_217 ?_
          refine sr_iret G d_R_init_219 ?_
          unfold f_R_init
          rw [if_pos h4, if_neg h16, if_neg h27]
          exact ⟨rfl, rfl⟩
      · skip
        refine sr_bipush G (v := (-10)) (by decide) d_R_init_30 ?_
        refine sr_iret G d_R_init_32 ?_
        unfold f_R_init
        rw [if_pos h4, if_neg h16, if_pos h27]
        exact ⟨rfl, rfl⟩
    · skip
      refine sr_bipush G (v := (-2)) (by decide) d_R_init_19 ?_
      refine sr_iret G d_R_init_21 ?_
      unfold f_R_init
      rw [if_pos h4, if_pos h16]
      exact ⟨rfl, rfl⟩
  · skip
    refine sr_iconst G (v := (-1)) (by decide) d_R_init_7 ?_
    refine sr_iret G d_R_init_8 ?_
    unfold f_R_init
    rw [if_neg h4]
    exact ⟨rfl, rfl⟩
def f_R_meet (M : Mem) (x1 : Int32) (x2 : Int32) (x3 : Int32) : Int32 × Mem := (if (f_R_noChannel M x1) = 0 then (if (f_R_in x2 1 7) = 0 then ((-2), M) else (if (M 21 5 (Int32.toNatClampNeg ((2 * x1) + (1 - (M 21 3 (Int32.toNatClampNeg x1)))))) = 0 then (if (f_R_unprovedStep M x1 (1 - (M 21 3 (Int32.toNatClampNeg x1))) x3 1) = 0 then (if (f_R_greatestOf (x2 &&& (M 21 6 (Int32.toNatClampNeg (((2 * x1) + 1) - (1 - (M 21 3 (Int32.toNatClampNeg x1)))))))) = 0 then ((-9), M) else ((f_R_greatestOf (x2 &&& (M 21 6 (Int32.toNatClampNeg (((2 * x1) + 1) - (1 - (M 21 3 (Int32.toNatClampNeg x1)))))))), (u3 (u3 (u3 M 21 5 (Int32.toNatClampNeg ((2 * x1) + (1 - (M 21 3 (Int32.toNatClampNeg x1))))) 2) 21 6 (Int32.toNatClampNeg ((2 * x1) + (1 - (M 21 3 (Int32.toNatClampNeg x1))))) x2) 21 7 (Int32.toNatClampNeg ((2 * x1) + (1 - (M 21 3 (Int32.toNatClampNeg x1))))) (f_R_greatestOf (x2 &&& (M 21 6 (Int32.toNatClampNeg (((2 * x1) + 1) - (1 - (M 21 3 (Int32.toNatClampNeg x1))))))))))) else ((f_R_unprovedStep M x1 (1 - (M 21 3 (Int32.toNatClampNeg x1))) x3 1), M)) else ((-3), M))) else ((-1), M))
set_option maxHeartbeats 4000000 in
set_option maxRecDepth 100000 in
theorem c_R_meet {l : Launch} {D : va_G} {t6 : Nat → ClassId} {b n : Nat} (hn : 133 ≤ n) {M : Mem} {x1 : Int32} {x2 : Int32} {x3 : Int32} (hI : ri_ M) : CI l D t6 b n y_R_meet cd_R_meet 8 .int (rk 4 92) [.ref (ad b 20 0), .int x1, .int x2, .int x3] M (f_R_meet M x1 x2 x3).1 (f_R_meet M x1 x2 x3).2 := by
  refine en_i (by decide) (by simp [Value.category]) (Nat.le_of_ble_eq_true rfl) (fun p e s m below meth c G => ?_)
  refine sr_aload_n G rfl d_R_meet_0 ?_
  refine sr_iload_n G rfl d_R_meet_1 ?_
  refine sr_cvi G (vv_20 hn) rfl rfl ki_R_noChannel kx_R_noChannel (c_R_noChannel hn) kc_R_noChannel km_R_135 kn_R yy_R_noChannel rfl ⟨rfl, rfl, by decide, by decide⟩ (Nat.le_of_ble_eq_true rfl) rfl d_R_meet_2 ?_
  refine sr_if_eq G 10 d_R_meet_5 rfl (fun h5 => ?_) (fun h5 => ?_)
  · skip
    have v5 : vp_in x1 4 := in_chR hI h5
    have i5 := ix_lt v5
    have f5 := ri_b hI i5
    have f5a := ix_lt f5
    have f5b := in_1 f5
    have f5c := ix_lt f5b
    have f5d := in_1 f5b
    have f5e := ix_lt f5d
    refine sr_iload_n G rfl d_R_meet_10 ?_
    refine sr_iconst G (v := 1) (by decide) d_R_meet_11 ?_
    refine sr_bipush G (v := 7) (by decide) d_R_meet_12 ?_
    refine sr_csi G ks_R_in (c_R_in) kc_R_in km_R_113 kn_R yy_R_in rfl ⟨rfl, rfl, by decide, by decide⟩ (Nat.le_of_ble_eq_true rfl) rfl d_R_meet_14 ?_
    refine sr_if_ne G 23 d_R_meet_17 rfl (fun h17 => ?_) (fun h17 => ?_)
    · skip
      have v17 : vp_in x2 8 := in_wiR (lo := 1) (hi := 7) (by decide) (by decide) h17
      have i17 := ix_lt v17
      refine sr_iconst G (v := 1) (by decide) d_R_meet_23 ?_
      refine sr_aload_n G rfl d_R_meet_24 ?_
      refine sr_get G (vv_20 hn) rfl ku_R rfl 4 (by decide) kf_R_20 rfl rfl d_R_meet_25 ?_
      refine sr_iload_n G rfl d_R_meet_28 ?_
      refine sr_iald G (vv_21 hn (by decide)) rfl (by assumption) d_R_meet_29 ?_
      refine sr_isub G d_R_meet_30 ?_
      refine sr_istore G (by decide) d_R_meet_31 ?_
      refine sr_iconst G (v := 2) (by decide) d_R_meet_33 ?_
      refine sr_iload_n G rfl d_R_meet_34 ?_
      refine sr_imul G d_R_meet_35 ?_
      refine sr_iload G rfl d_R_meet_36 ?_
      refine sr_iadd G d_R_meet_38 ?_
      refine sr_istore G (by decide) d_R_meet_39 ?_
      refine sr_aload_n G rfl d_R_meet_41 ?_
      refine sr_get G (vv_20 hn) rfl ku_R rfl 6 (by decide) kf_R_26 rfl rfl d_R_meet_42 ?_
      refine sr_iload G rfl d_R_meet_45 ?_
      refine sr_iald G (vv_21 hn (by decide)) rfl (in_e (by assumption) (in_1 (by assumption))) d_R_meet_47 ?_
      refine sr_if_eq G 54 d_R_meet_48 rfl (fun h48 => ?_) (fun h48 => ?_)
      · skip
        refine sr_aload_n G rfl d_R_meet_54 ?_
        refine sr_iload_n G rfl d_R_meet_55 ?_
        refine sr_iload G rfl d_R_meet_56 ?_
        refine sr_iload_n G rfl d_R_meet_58 ?_
        refine sr_iconst G (v := 1) (by decide) d_R_meet_59 ?_
        refine sr_cvi G (vv_20 hn) rfl rfl ki_R_unprovedStep kx_R_unprovedStep (c_R_unprovedStep hn (by first | assumption | omega | decide | (unfold vp_in; decide)) (by first | assumption | omega | decide | (unfold vp_in; decide))) kc_R_unprovedStep km_R_138 kn_R yy_R_unprovedStep rfl ⟨rfl, rfl, by decide, by decide⟩ (Nat.le_of_ble_eq_true rfl) rfl d_R_meet_60 ?_
        refine sr_istore G (by decide) d_R_meet_63 ?_
        refine sr_iload G rfl d_R_meet_65 ?_
        refine sr_if_eq G 73 d_R_meet_67 rfl (fun h67 => ?_) (fun h67 => ?_)
        · skip
          refine sr_iload_n G rfl d_R_meet_73 ?_
          refine sr_aload_n G rfl d_R_meet_74 ?_
          refine sr_get G (vv_20 hn) rfl ku_R rfl 7 (by decide) kf_R_29 rfl rfl d_R_meet_75 ?_
          refine sr_iconst G (v := 2) (by decide) d_R_meet_78 ?_
          refine sr_iload_n G rfl d_R_meet_79 ?_
          refine sr_imul G d_R_meet_80 ?_
          refine sr_iconst G (v := 1) (by decide) d_R_meet_81 ?_
          refine sr_iadd G d_R_meet_82 ?_
          refine sr_iload G rfl d_R_meet_83 ?_
          refine sr_isub G d_R_meet_85 ?_
          refine sr_iald G (vv_21 hn (by decide)) rfl (in_e2 (by assumption) (in_1 (by assumption))) d_R_meet_86 ?_
          refine sr_iand G d_R_meet_87 ?_
          refine sr_csi G ks_R_greatestOf (c_R_greatestOf) kc_R_greatestOf km_R_142 kn_R yy_R_greatestOf rfl ⟨rfl, rfl, by decide, by decide⟩ (Nat.le_of_ble_eq_true rfl) rfl d_R_meet_88 ?_
          refine sr_istore G (by decide) d_R_meet_91 ?_
          refine sr_iload G rfl d_R_meet_93 ?_
          refine sr_if_ne G 101 d_R_meet_95 rfl (fun h95 => ?_) (fun h95 => ?_)
          · skip
            refine sr_aload_n G rfl d_R_meet_101 ?_
            refine sr_get G (vv_20 hn) rfl ku_R rfl 6 (by decide) kf_R_26 rfl rfl d_R_meet_102 ?_
            refine sr_iload G rfl d_R_meet_105 ?_
            refine sr_iconst G (v := 2) (by decide) d_R_meet_107 ?_
            refine sr_iast G (vv_21 hn (by decide)) (fun _ => rfl) (in_e (by assumption) (in_1 (by assumption))) d_R_meet_108 ?_
            refine sr_aload_n G rfl d_R_meet_109 ?_
            refine sr_get G (vv_20 hn) rfl ku_R rfl 7 (by decide) kf_R_29 rfl rfl d_R_meet_110 ?_
            refine sr_iload G rfl d_R_meet_113 ?_
            refine sr_iload_n G rfl d_R_meet_115 ?_
            refine sr_iast G (vv_21 hn (by decide)) (fun _ => rfl) (in_e (by assumption) (in_1 (by assumption))) d_R_meet_116 ?_
            refine sr_aload_n G rfl d_R_meet_117 ?_
            refine sr_get G (vv_20 hn) rfl ku_R rfl 8 (by decide) kf_R_32 rfl rfl d_R_meet_118 ?_
            refine sr_iload G rfl d_R_meet_121 ?_
            refine sr_iload G rfl d_R_meet_123 ?_
            refine sr_iast G (vv_21 hn (by decide)) (fun _ => rfl) (in_e (by assumption) (in_1 (by assumption))) d_R_meet_125 ?_
            refine sr_iload G rfl d_R_meet_126 ?_
            refine sr_iret G d_R_meet_128 ?_
            unfold f_R_meet
            rw [if_pos h5, if_neg h17, if_pos h48, if_pos h67, if_neg h95]
            exact ⟨rfl, rfl⟩
          · skip
            refine sr_bipush G (v := (-9)) (by decide) d_R_meet_98 ?_
            refine sr_iret G d_R_meet_100 ?_
            unfold f_R_meet
            rw [if_pos h5, if_neg h17, if_pos h48, if_pos h67, if_pos h95]
            exact ⟨rfl, rfl⟩
        · skip
          refine sr_iload G rfl d_R_meet_70 ?_
          refine sr_iret G d_R_meet_72 ?_
          unfold f_R_meet
          rw [if_pos h5, if_neg h17, if_pos h48, if_neg h67]
          exact ⟨rfl, rfl⟩
      · skip
        refine sr_bipush G (v := (-3)) (by decide) d_R_meet_51 ?_
        refine sr_iret G d_R_meet_53 ?_
        unfold f_R_meet
        rw [if_pos h5, if_neg h17, if_neg h48]
        exact ⟨rfl, rfl⟩
    · skip
      refine sr_bipush G (v := (-2)) (by decide) d_R_meet_20 ?_
      refine sr_iret G d_R_meet_22 ?_
      unfold f_R_meet
      rw [if_pos h5, if_pos h17]
      exact ⟨rfl, rfl⟩
  · skip
    refine sr_iconst G (v := (-1)) (by decide) d_R_meet_8 ?_
    refine sr_iret G d_R_meet_9 ?_
    unfold f_R_meet
    rw [if_neg h5]
    exact ⟨rfl, rfl⟩
def f_R_agree (M : Mem) (x1 : Int32) (x2 : Int32) : Int32 × Mem := (if (f_R_noChannel M x1) = 0 then (if (M 21 5 (Int32.toNatClampNeg ((2 * x1) + (M 21 3 (Int32.toNatClampNeg x1))))) = 1 then (if (f_R_unprovedStep M x1 (M 21 3 (Int32.toNatClampNeg x1)) x2 2) = 0 then (((u3 (u3 M 21 5 (Int32.toNatClampNeg ((2 * x1) + (M 21 3 (Int32.toNatClampNeg x1)))) 3) 21 7 (Int32.toNatClampNeg ((2 * x1) + (M 21 3 (Int32.toNatClampNeg x1)))) ((u3 M 21 5 (Int32.toNatClampNeg ((2 * x1) + (M 21 3 (Int32.toNatClampNeg x1)))) 3) 21 7 (Int32.toNatClampNeg (((2 * x1) + 1) - (M 21 3 (Int32.toNatClampNeg x1)))))) 21 7 (Int32.toNatClampNeg ((2 * x1) + (M 21 3 (Int32.toNatClampNeg x1))))), (u3 (u3 M 21 5 (Int32.toNatClampNeg ((2 * x1) + (M 21 3 (Int32.toNatClampNeg x1)))) 3) 21 7 (Int32.toNatClampNeg ((2 * x1) + (M 21 3 (Int32.toNatClampNeg x1)))) ((u3 M 21 5 (Int32.toNatClampNeg ((2 * x1) + (M 21 3 (Int32.toNatClampNeg x1)))) 3) 21 7 (Int32.toNatClampNeg (((2 * x1) + 1) - (M 21 3 (Int32.toNatClampNeg x1))))))) else ((f_R_unprovedStep M x1 (M 21 3 (Int32.toNatClampNeg x1)) x2 2), M)) else ((-3), M)) else ((-1), M))
set_option maxHeartbeats 4000000 in
set_option maxRecDepth 100000 in
theorem c_R_agree {l : Launch} {D : va_G} {t6 : Nat → ClassId} {b n : Nat} (hn : 133 ≤ n) {M : Mem} {x1 : Int32} {x2 : Int32} (hI : ri_ M) : CI l D t6 b n y_R_agree cd_R_agree 6 .int (rk 4 92) [.ref (ad b 20 0), .int x1, .int x2] M (f_R_agree M x1 x2).1 (f_R_agree M x1 x2).2 := by
  refine en_i (by decide) (by simp [Value.category]) (Nat.le_of_ble_eq_true rfl) (fun p e s m below meth c G => ?_)
  refine sr_aload_n G rfl d_R_agree_0 ?_
  refine sr_iload_n G rfl d_R_agree_1 ?_
  refine sr_cvi G (vv_20 hn) rfl rfl ki_R_noChannel kx_R_noChannel (c_R_noChannel hn) kc_R_noChannel km_R_135 kn_R yy_R_noChannel rfl ⟨rfl, rfl, by decide, by decide⟩ (Nat.le_of_ble_eq_true rfl) rfl d_R_agree_2 ?_
  refine sr_if_eq G 10 d_R_agree_5 rfl (fun h5 => ?_) (fun h5 => ?_)
  · skip
    have v5 : vp_in x1 4 := in_chR hI h5
    have i5 := ix_lt v5
    have f5 := ri_b hI i5
    have f5a := ix_lt f5
    have f5b := in_1 f5
    have f5c := ix_lt f5b
    have f5d := in_1 f5b
    have f5e := ix_lt f5d
    refine sr_aload_n G rfl d_R_agree_10 ?_
    refine sr_get G (vv_20 hn) rfl ku_R rfl 4 (by decide) kf_R_20 rfl rfl d_R_agree_11 ?_
    refine sr_iload_n G rfl d_R_agree_14 ?_
    refine sr_iald G (vv_21 hn (by decide)) rfl (by assumption) d_R_agree_15 ?_
    refine sr_istore_n G (by decide) d_R_agree_16 ?_
    refine sr_iconst G (v := 2) (by decide) d_R_agree_17 ?_
    refine sr_iload_n G rfl d_R_agree_18 ?_
    refine sr_imul G d_R_agree_19 ?_
    refine sr_iload_n G rfl d_R_agree_20 ?_
    refine sr_iadd G d_R_agree_21 ?_
    refine sr_istore G (by decide) d_R_agree_22 ?_
    refine sr_aload_n G rfl d_R_agree_24 ?_
    refine sr_get G (vv_20 hn) rfl ku_R rfl 6 (by decide) kf_R_26 rfl rfl d_R_agree_25 ?_
    refine sr_iload G rfl d_R_agree_28 ?_
    refine sr_iald G (vv_21 hn (by decide)) rfl (in_e (by assumption) (by assumption)) d_R_agree_30 ?_
    refine sr_iconst G (v := 1) (by decide) d_R_agree_31 ?_
    refine sr_icmp_eq G 38 d_R_agree_32 rfl (fun h32 => ?_) (fun h32 => ?_)
    · skip
      refine sr_aload_n G rfl d_R_agree_38 ?_
      refine sr_iload_n G rfl d_R_agree_39 ?_
      refine sr_iload_n G rfl d_R_agree_40 ?_
      refine sr_iload_n G rfl d_R_agree_41 ?_
      refine sr_iconst G (v := 2) (by decide) d_R_agree_42 ?_
      refine sr_cvi G (vv_20 hn) rfl rfl ki_R_unprovedStep kx_R_unprovedStep (c_R_unprovedStep hn (by first | assumption | omega | decide | (unfold vp_in; decide)) (by first | assumption | omega | decide | (unfold vp_in; decide))) kc_R_unprovedStep km_R_138 kn_R yy_R_unprovedStep rfl ⟨rfl, rfl, by decide, by decide⟩ (Nat.le_of_ble_eq_true rfl) rfl d_R_agree_43 ?_
      refine sr_istore G (by decide) d_R_agree_46 ?_
      refine sr_iload G rfl d_R_agree_48 ?_
      refine sr_if_eq G 56 d_R_agree_50 rfl (fun h50 => ?_) (fun h50 => ?_)
      · skip
        refine sr_aload_n G rfl d_R_agree_56 ?_
        refine sr_get G (vv_20 hn) rfl ku_R rfl 6 (by decide) kf_R_26 rfl rfl d_R_agree_57 ?_
        refine sr_iload G rfl d_R_agree_60 ?_
        refine sr_iconst G (v := 3) (by decide) d_R_agree_62 ?_
        refine sr_iast G (vv_21 hn (by decide)) (fun _ => rfl) (in_e (by assumption) (by assumption)) d_R_agree_63 ?_
        refine sr_aload_n G rfl d_R_agree_64 ?_
        refine sr_get G (vv_20 hn) rfl ku_R rfl 8 (by decide) kf_R_32 rfl rfl d_R_agree_65 ?_
        refine sr_iload G rfl d_R_agree_68 ?_
        refine sr_aload_n G rfl d_R_agree_70 ?_
        refine sr_get G (vv_20 hn) rfl ku_R rfl 8 (by decide) kf_R_32 rfl rfl d_R_agree_71 ?_
        refine sr_iconst G (v := 2) (by decide) d_R_agree_74 ?_
        refine sr_iload_n G rfl d_R_agree_75 ?_
        refine sr_imul G d_R_agree_76 ?_
        refine sr_iconst G (v := 1) (by decide) d_R_agree_77 ?_
        refine sr_iadd G d_R_agree_78 ?_
        refine sr_iload_n G rfl d_R_agree_79 ?_
        refine sr_isub G d_R_agree_80 ?_
        refine sr_iald G (vv_21 hn (by decide)) rfl (in_e2 (by assumption) (by assumption)) d_R_agree_81 ?_
        refine sr_iast G (vv_21 hn (by decide)) (fun _ => rfl) (in_e (by assumption) (by assumption)) d_R_agree_82 ?_
        refine sr_aload_n G rfl d_R_agree_83 ?_
        refine sr_get G (vv_20 hn) rfl ku_R rfl 8 (by decide) kf_R_32 rfl rfl d_R_agree_84 ?_
        refine sr_iload G rfl d_R_agree_87 ?_
        refine sr_iald G (vv_21 hn (by decide)) rfl (in_e (by assumption) (by assumption)) d_R_agree_89 ?_
        refine sr_iret G d_R_agree_90 ?_
        unfold f_R_agree
        rw [if_pos h5, if_pos h32, if_pos h50]
        exact ⟨rfl, rfl⟩
      · skip
        refine sr_iload G rfl d_R_agree_53 ?_
        refine sr_iret G d_R_agree_55 ?_
        unfold f_R_agree
        rw [if_pos h5, if_pos h32, if_neg h50]
        exact ⟨rfl, rfl⟩
    · skip
      refine sr_bipush G (v := (-3)) (by decide) d_R_agree_35 ?_
      refine sr_iret G d_R_agree_37 ?_
      unfold f_R_agree
      rw [if_pos h5, if_neg h32]
      exact ⟨rfl, rfl⟩
  · skip
    refine sr_iconst G (v := (-1)) (by decide) d_R_agree_8 ?_
    refine sr_iret G d_R_agree_9 ?_
    unfold f_R_agree
    rw [if_neg h5]
    exact ⟨rfl, rfl⟩
def f_R_confirm (M : Mem) (x1 : Int32) (x2 : Int32) : Int32 × Mem := (if (f_R_noChannel M x1) = 0 then (if (M 21 5 (Int32.toNatClampNeg ((2 * x1) + (1 - (M 21 3 (Int32.toNatClampNeg x1)))))) = 2 then (if (f_R_unprovedStep M x1 (1 - (M 21 3 (Int32.toNatClampNeg x1))) x2 3) = 0 then (((u3 M 21 5 (Int32.toNatClampNeg ((2 * x1) + (1 - (M 21 3 (Int32.toNatClampNeg x1))))) 3) 21 7 (Int32.toNatClampNeg ((2 * x1) + (1 - (M 21 3 (Int32.toNatClampNeg x1)))))), (u3 M 21 5 (Int32.toNatClampNeg ((2 * x1) + (1 - (M 21 3 (Int32.toNatClampNeg x1))))) 3)) else ((f_R_unprovedStep M x1 (1 - (M 21 3 (Int32.toNatClampNeg x1))) x2 3), M)) else ((-3), M)) else ((-1), M))
set_option maxHeartbeats 4000000 in
set_option maxRecDepth 100000 in
theorem c_R_confirm {l : Launch} {D : va_G} {t6 : Nat → ClassId} {b n : Nat} (hn : 133 ≤ n) {M : Mem} {x1 : Int32} {x2 : Int32} (hI : ri_ M) : CI l D t6 b n y_R_confirm cd_R_confirm 6 .int (rk 4 92) [.ref (ad b 20 0), .int x1, .int x2] M (f_R_confirm M x1 x2).1 (f_R_confirm M x1 x2).2 := by
  refine en_i (by decide) (by simp [Value.category]) (Nat.le_of_ble_eq_true rfl) (fun p e s m below meth c G => ?_)
  refine sr_aload_n G rfl d_R_confirm_0 ?_
  refine sr_iload_n G rfl d_R_confirm_1 ?_
  refine sr_cvi G (vv_20 hn) rfl rfl ki_R_noChannel kx_R_noChannel (c_R_noChannel hn) kc_R_noChannel km_R_135 kn_R yy_R_noChannel rfl ⟨rfl, rfl, by decide, by decide⟩ (Nat.le_of_ble_eq_true rfl) rfl d_R_confirm_2 ?_
  refine sr_if_eq G 10 d_R_confirm_5 rfl (fun h5 => ?_) (fun h5 => ?_)
  · skip
    have v5 : vp_in x1 4 := in_chR hI h5
    have i5 := ix_lt v5
    have f5 := ri_b hI i5
    have f5a := ix_lt f5
    have f5b := in_1 f5
    have f5c := ix_lt f5b
    have f5d := in_1 f5b
    have f5e := ix_lt f5d
    refine sr_iconst G (v := 1) (by decide) d_R_confirm_10 ?_
    refine sr_aload_n G rfl d_R_confirm_11 ?_
    refine sr_get G (vv_20 hn) rfl ku_R rfl 4 (by decide) kf_R_20 rfl rfl d_R_confirm_12 ?_
    refine sr_iload_n G rfl d_R_confirm_15 ?_
    refine sr_iald G (vv_21 hn (by decide)) rfl (by assumption) d_R_confirm_16 ?_
    refine sr_isub G d_R_confirm_17 ?_
    refine sr_istore_n G (by decide) d_R_confirm_18 ?_
    refine sr_iconst G (v := 2) (by decide) d_R_confirm_19 ?_
    refine sr_iload_n G rfl d_R_confirm_20 ?_
    refine sr_imul G d_R_confirm_21 ?_
    refine sr_iload_n G rfl d_R_confirm_22 ?_
    refine sr_iadd G d_R_confirm_23 ?_
    refine sr_istore G (by decide) d_R_confirm_24 ?_
    refine sr_aload_n G rfl d_R_confirm_26 ?_
    refine sr_get G (vv_20 hn) rfl ku_R rfl 6 (by decide) kf_R_26 rfl rfl d_R_confirm_27 ?_
    refine sr_iload G rfl d_R_confirm_30 ?_
    refine sr_iald G (vv_21 hn (by decide)) rfl (in_e (by assumption) (in_1 (by assumption))) d_R_confirm_32 ?_
    refine sr_iconst G (v := 2) (by decide) d_R_confirm_33 ?_
    refine sr_icmp_eq G 40 d_R_confirm_34 rfl (fun h34 => ?_) (fun h34 => ?_)
    · skip
      refine sr_aload_n G rfl d_R_confirm_40 ?_
      refine sr_iload_n G rfl d_R_confirm_41 ?_
      refine sr_iload_n G rfl d_R_confirm_42 ?_
      refine sr_iload_n G rfl d_R_confirm_43 ?_
      refine sr_iconst G (v := 3) (by decide) d_R_confirm_44 ?_
      refine sr_cvi G (vv_20 hn) rfl rfl ki_R_unprovedStep kx_R_unprovedStep (c_R_unprovedStep hn (by first | assumption | omega | decide | (unfold vp_in; decide)) (by first | assumption | omega | decide | (unfold vp_in; decide))) kc_R_unprovedStep km_R_138 kn_R yy_R_unprovedStep rfl ⟨rfl, rfl, by decide, by decide⟩ (Nat.le_of_ble_eq_true rfl) rfl d_R_confirm_45 ?_
      refine sr_istore G (by decide) d_R_confirm_48 ?_
      refine sr_iload G rfl d_R_confirm_50 ?_
      refine sr_if_eq G 58 d_R_confirm_52 rfl (fun h52 => ?_) (fun h52 => ?_)
      · skip
        refine sr_aload_n G rfl d_R_confirm_58 ?_
        refine sr_get G (vv_20 hn) rfl ku_R rfl 6 (by decide) kf_R_26 rfl rfl d_R_confirm_59 ?_
        refine sr_iload G rfl d_R_confirm_62 ?_
        refine sr_iconst G (v := 3) (by decide) d_R_confirm_64 ?_
        refine sr_iast G (vv_21 hn (by decide)) (fun _ => rfl) (in_e (by assumption) (in_1 (by assumption))) d_R_confirm_65 ?_
        refine sr_aload_n G rfl d_R_confirm_66 ?_
        refine sr_get G (vv_20 hn) rfl ku_R rfl 8 (by decide) kf_R_32 rfl rfl d_R_confirm_67 ?_
        refine sr_iload G rfl d_R_confirm_70 ?_
        refine sr_iald G (vv_21 hn (by decide)) rfl (in_e (by assumption) (in_1 (by assumption))) d_R_confirm_72 ?_
        refine sr_iret G d_R_confirm_73 ?_
        unfold f_R_confirm
        rw [if_pos h5, if_pos h34, if_pos h52]
        exact ⟨rfl, rfl⟩
      · skip
        refine sr_iload G rfl d_R_confirm_55 ?_
        refine sr_iret G d_R_confirm_57 ?_
        unfold f_R_confirm
        rw [if_pos h5, if_pos h34, if_neg h52]
        exact ⟨rfl, rfl⟩
    · skip
      refine sr_bipush G (v := (-3)) (by decide) d_R_confirm_37 ?_
      refine sr_iret G d_R_confirm_39 ?_
      unfold f_R_confirm
      rw [if_pos h5, if_neg h34]
      exact ⟨rfl, rfl⟩
  · skip
    refine sr_iconst G (v := (-1)) (by decide) d_R_confirm_8 ?_
    refine sr_iret G d_R_confirm_9 ?_
    unfold f_R_confirm
    rw [if_neg h5]
    exact ⟨rfl, rfl⟩
def f_R_close (M : Mem) (x1 : Int32) (x2 : Int32) : Int32 × Mem := (if (f_R_noChannel M x1) = 0 then (if (f_R_noSide x2) = 0 then (if (M 21 5 (Int32.toNatClampNeg ((2 * x1) + x2))) = 3 then (1, (u3 M 21 5 (Int32.toNatClampNeg ((2 * x1) + x2)) 4)) else ((-3), M)) else ((-1), M)) else ((-1), M))
set_option maxHeartbeats 4000000 in
set_option maxRecDepth 100000 in
theorem c_R_close {l : Launch} {D : va_G} {t6 : Nat → ClassId} {b n : Nat} (hn : 133 ≤ n) {M : Mem} {x1 : Int32} {x2 : Int32} (hI : ri_ M) : CI l D t6 b n y_R_close cd_R_close 4 .int (rk 2 43) [.ref (ad b 20 0), .int x1, .int x2] M (f_R_close M x1 x2).1 (f_R_close M x1 x2).2 := by
  refine en_i (by decide) (by simp [Value.category]) (Nat.le_of_ble_eq_true rfl) (fun p e s m below meth c G => ?_)
  refine sr_aload_n G rfl d_R_close_0 ?_
  refine sr_iload_n G rfl d_R_close_1 ?_
  refine sr_cvi G (vv_20 hn) rfl rfl ki_R_noChannel kx_R_noChannel (c_R_noChannel hn) kc_R_noChannel km_R_135 kn_R yy_R_noChannel rfl ⟨rfl, rfl, by decide, by decide⟩ (Nat.le_of_ble_eq_true rfl) rfl d_R_close_2 ?_
  refine sr_if_ne G 15 d_R_close_5 rfl (fun h5 => ?_) (fun h5 => ?_)
  · skip
    refine sr_iconst G (v := (-1)) (by decide) d_R_close_15 ?_
    refine sr_iret G d_R_close_16 ?_
    unfold f_R_close
    rw [if_neg h5]
    exact ⟨rfl, rfl⟩
  · skip
    have v5 : vp_in x1 4 := in_chR hI h5
    have i5 := ix_lt v5
    have f5 := ri_b hI i5
    have f5a := ix_lt f5
    have f5b := in_1 f5
    have f5c := ix_lt f5b
    have f5d := in_1 f5b
    have f5e := ix_lt f5d
    refine sr_iload_n G rfl d_R_close_8 ?_
    refine sr_csi G ks_R_noSide (c_R_noSide) kc_R_noSide km_R_109 kn_R yy_R_noSide rfl ⟨rfl, rfl, by decide, by decide⟩ (Nat.le_of_ble_eq_true rfl) rfl d_R_close_9 ?_
    refine sr_if_eq G 17 d_R_close_12 rfl (fun h12 => ?_) (fun h12 => ?_)
    · skip
      have v12 : vp_in x2 2 := in_nos h12
      have i12 := ix_lt v12
      have w12 := in_1 v12
      have j12 := ix_lt w12
      refine sr_iconst G (v := 2) (by decide) d_R_close_17 ?_
      refine sr_iload_n G rfl d_R_close_18 ?_
      refine sr_imul G d_R_close_19 ?_
      refine sr_iload_n G rfl d_R_close_20 ?_
      refine sr_iadd G d_R_close_21 ?_
      refine sr_istore_n G (by decide) d_R_close_22 ?_
      refine sr_aload_n G rfl d_R_close_23 ?_
      refine sr_get G (vv_20 hn) rfl ku_R rfl 6 (by decide) kf_R_26 rfl rfl d_R_close_24 ?_
      refine sr_iload_n G rfl d_R_close_27 ?_
      refine sr_iald G (vv_21 hn (by decide)) rfl (in_e (by assumption) (by assumption)) d_R_close_28 ?_
      refine sr_iconst G (v := 3) (by decide) d_R_close_29 ?_
      refine sr_icmp_eq G 36 d_R_close_30 rfl (fun h30 => ?_) (fun h30 => ?_)
      · skip
        refine sr_aload_n G rfl d_R_close_36 ?_
        refine sr_get G (vv_20 hn) rfl ku_R rfl 6 (by decide) kf_R_26 rfl rfl d_R_close_37 ?_
        refine sr_iload_n G rfl d_R_close_40 ?_
        refine sr_iconst G (v := 4) (by decide) d_R_close_41 ?_
        refine sr_iast G (vv_21 hn (by decide)) (fun _ => rfl) (in_e (by assumption) (by assumption)) d_R_close_42 ?_
        refine sr_iconst G (v := 1) (by decide) d_R_close_43 ?_
        refine sr_iret G d_R_close_44 ?_
        unfold f_R_close
        rw [if_pos h5, if_pos h12, if_pos h30]
        exact ⟨rfl, rfl⟩
      · skip
        refine sr_bipush G (v := (-3)) (by decide) d_R_close_33 ?_
        refine sr_iret G d_R_close_35 ?_
        unfold f_R_close
        rw [if_pos h5, if_pos h12, if_neg h30]
        exact ⟨rfl, rfl⟩
    · skip
      refine sr_iconst G (v := (-1)) (by decide) d_R_close_15 ?_
      refine sr_iret G d_R_close_16 ?_
      unfold f_R_close
      rw [if_pos h5, if_neg h12]
      exact ⟨rfl, rfl⟩
def f_R_shut (M : Mem) (x1 : Int32) (x2 : Int32) (x3 : Int32) : Int32 × Mem := (if (f_R_noChannel M x1) = 0 then (if (f_R_noSide x2) = 0 then (if (M 21 5 (Int32.toNatClampNeg ((2 * x1) + x2))) = 3 then (if (f_R_unprovedStep M x1 x2 x3 4) = 0 then (1, (u3 M 21 5 (Int32.toNatClampNeg ((2 * x1) + x2)) 4)) else ((f_R_unprovedStep M x1 x2 x3 4), M)) else ((-3), M)) else ((-1), M)) else ((-1), M))
set_option maxHeartbeats 4000000 in
set_option maxRecDepth 100000 in
theorem c_R_shut {l : Launch} {D : va_G} {t6 : Nat → ClassId} {b n : Nat} (hn : 133 ≤ n) {M : Mem} {x1 : Int32} {x2 : Int32} {x3 : Int32} (hI : ri_ M) : CI l D t6 b n y_R_shut cd_R_shut 6 .int (rk 4 92) [.ref (ad b 20 0), .int x1, .int x2, .int x3] M (f_R_shut M x1 x2 x3).1 (f_R_shut M x1 x2 x3).2 := by
  refine en_i (by decide) (by simp [Value.category]) (Nat.le_of_ble_eq_true rfl) (fun p e s m below meth c G => ?_)
  refine sr_aload_n G rfl d_R_shut_0 ?_
  refine sr_iload_n G rfl d_R_shut_1 ?_
  refine sr_cvi G (vv_20 hn) rfl rfl ki_R_noChannel kx_R_noChannel (c_R_noChannel hn) kc_R_noChannel km_R_135 kn_R yy_R_noChannel rfl ⟨rfl, rfl, by decide, by decide⟩ (Nat.le_of_ble_eq_true rfl) rfl d_R_shut_2 ?_
  refine sr_if_ne G 15 d_R_shut_5 rfl (fun h5 => ?_) (fun h5 => ?_)
  · skip
    refine sr_iconst G (v := (-1)) (by decide) d_R_shut_15 ?_
    refine sr_iret G d_R_shut_16 ?_
    unfold f_R_shut
    rw [if_neg h5]
    exact ⟨rfl, rfl⟩
  · skip
    have v5 : vp_in x1 4 := in_chR hI h5
    have i5 := ix_lt v5
    have f5 := ri_b hI i5
    have f5a := ix_lt f5
    have f5b := in_1 f5
    have f5c := ix_lt f5b
    have f5d := in_1 f5b
    have f5e := ix_lt f5d
    refine sr_iload_n G rfl d_R_shut_8 ?_
    refine sr_csi G ks_R_noSide (c_R_noSide) kc_R_noSide km_R_109 kn_R yy_R_noSide rfl ⟨rfl, rfl, by decide, by decide⟩ (Nat.le_of_ble_eq_true rfl) rfl d_R_shut_9 ?_
    refine sr_if_eq G 17 d_R_shut_12 rfl (fun h12 => ?_) (fun h12 => ?_)
    · skip
      have v12 : vp_in x2 2 := in_nos h12
      have i12 := ix_lt v12
      have w12 := in_1 v12
      have j12 := ix_lt w12
      refine sr_iconst G (v := 2) (by decide) d_R_shut_17 ?_
      refine sr_iload_n G rfl d_R_shut_18 ?_
      refine sr_imul G d_R_shut_19 ?_
      refine sr_iload_n G rfl d_R_shut_20 ?_
      refine sr_iadd G d_R_shut_21 ?_
      refine sr_istore G (by decide) d_R_shut_22 ?_
      refine sr_aload_n G rfl d_R_shut_24 ?_
      refine sr_get G (vv_20 hn) rfl ku_R rfl 6 (by decide) kf_R_26 rfl rfl d_R_shut_25 ?_
      refine sr_iload G rfl d_R_shut_28 ?_
      refine sr_iald G (vv_21 hn (by decide)) rfl (in_e (by assumption) (by assumption)) d_R_shut_30 ?_
      refine sr_iconst G (v := 3) (by decide) d_R_shut_31 ?_
      refine sr_icmp_eq G 38 d_R_shut_32 rfl (fun h32 => ?_) (fun h32 => ?_)
      · skip
        refine sr_aload_n G rfl d_R_shut_38 ?_
        refine sr_iload_n G rfl d_R_shut_39 ?_
        refine sr_iload_n G rfl d_R_shut_40 ?_
        refine sr_iload_n G rfl d_R_shut_41 ?_
        refine sr_iconst G (v := 4) (by decide) d_R_shut_42 ?_
        refine sr_cvi G (vv_20 hn) rfl rfl ki_R_unprovedStep kx_R_unprovedStep (c_R_unprovedStep hn (by first | assumption | omega | decide | (unfold vp_in; decide)) (by first | assumption | omega | decide | (unfold vp_in; decide))) kc_R_unprovedStep km_R_138 kn_R yy_R_unprovedStep rfl ⟨rfl, rfl, by decide, by decide⟩ (Nat.le_of_ble_eq_true rfl) rfl d_R_shut_43 ?_
        refine sr_istore G (by decide) d_R_shut_46 ?_
        refine sr_iload G rfl d_R_shut_48 ?_
        refine sr_if_eq G 56 d_R_shut_50 rfl (fun h50 => ?_) (fun h50 => ?_)
        · skip
          refine sr_aload_n G rfl d_R_shut_56 ?_
          refine sr_get G (vv_20 hn) rfl ku_R rfl 6 (by decide) kf_R_26 rfl rfl d_R_shut_57 ?_
          refine sr_iload G rfl d_R_shut_60 ?_
          refine sr_iconst G (v := 4) (by decide) d_R_shut_62 ?_
          refine sr_iast G (vv_21 hn (by decide)) (fun _ => rfl) (in_e (by assumption) (by assumption)) d_R_shut_63 ?_
          refine sr_iconst G (v := 1) (by decide) d_R_shut_64 ?_
          refine sr_iret G d_R_shut_65 ?_
          unfold f_R_shut
          rw [if_pos h5, if_pos h12, if_pos h32, if_pos h50]
          exact ⟨rfl, rfl⟩
        · skip
          refine sr_iload G rfl d_R_shut_53 ?_
          refine sr_iret G d_R_shut_55 ?_
          unfold f_R_shut
          rw [if_pos h5, if_pos h12, if_pos h32, if_neg h50]
          exact ⟨rfl, rfl⟩
      · skip
        refine sr_bipush G (v := (-3)) (by decide) d_R_shut_35 ?_
        refine sr_iret G d_R_shut_37 ?_
        unfold f_R_shut
        rw [if_pos h5, if_pos h12, if_neg h32]
        exact ⟨rfl, rfl⟩
    · skip
      refine sr_iconst G (v := (-1)) (by decide) d_R_shut_15 ?_
      refine sr_iret G d_R_shut_16 ?_
      unfold f_R_shut
      rw [if_pos h5, if_neg h12]
      exact ⟨rfl, rfl⟩
