def f_R_has (M : Mem) (x1 : Int32) (x2 : Int32) (x3 : Int32) : Int32 := (if x3 = (x1 - x1 / 2 * 2) then (M 21 12 (Int32.toNatClampNeg ((4 * (x1 - x1 / 2 * 2)) + x2))) else (M 21 13 (Int32.toNatClampNeg ((4 * x1) + x2))))
set_option maxHeartbeats 4000000 in
set_option maxRecDepth 100000 in
theorem c_R_has {l : Launch} {D : va_G} {t6 : Nat → ClassId} {b n : Nat} (hn : 133 ≤ n) {M : Mem} {x1 : Int32} {x2 : Int32} {x3 : Int32} (v1 : vp_in x1 8) (v2 : vp_in x2 4) : CI l D t6 b n y_R_has cd_R_has 5 .int (rk 0 0) [.ref (ad b 20 0), .int x1, .int x2, .int x3] M (f_R_has M x1 x2 x3) M := by
  refine en_i (by decide) (by simp [Value.category]) (Nat.le_of_ble_eq_true rfl) (fun p e s m below meth c G => ?_)
  refine sr_iload_n G rfl d_R_has_0 ?_
  refine sr_iconst G (v := 2) (by decide) d_R_has_1 ?_
  refine sr_irem G (by decide) d_R_has_2 ?_
  refine sr_istore G (by decide) d_R_has_3 ?_
  refine sr_iload_n G rfl d_R_has_5 ?_
  refine sr_iload G rfl d_R_has_6 ?_
  refine sr_icmp_ne G 25 d_R_has_8 rfl (fun h8 => ?_) (fun h8 => ?_)
  · skip
    refine sr_aload_n G rfl d_R_has_25 ?_
    refine sr_get G (vv_20 hn) rfl ku_R rfl 14 (by decide) kf_R_50 rfl rfl d_R_has_26 ?_
    refine sr_iconst G (v := 4) (by decide) d_R_has_29 ?_
    refine sr_iload_n G rfl d_R_has_30 ?_
    refine sr_imul G d_R_has_31 ?_
    refine sr_iload_n G rfl d_R_has_32 ?_
    refine sr_iadd G d_R_has_33 ?_
    refine sr_iald G (vv_21 hn (by decide)) rfl (in_v (by assumption) (by assumption)) d_R_has_34 ?_
    refine sr_iret G d_R_has_35 ?_
    unfold f_R_has
    rw [if_neg h8]
    exact ⟨rfl, rfl⟩
  · skip
    refine sr_aload_n G rfl d_R_has_11 ?_
    refine sr_get G (vv_20 hn) rfl ku_R rfl 13 (by decide) kf_R_47 rfl rfl d_R_has_12 ?_
    refine sr_iconst G (v := 4) (by decide) d_R_has_15 ?_
    refine sr_iload G rfl d_R_has_16 ?_
    refine sr_imul G d_R_has_18 ?_
    refine sr_iload_n G rfl d_R_has_19 ?_
    refine sr_iadd G d_R_has_20 ?_
    refine sr_iald G (vv_21 hn (by decide)) rfl (in_a (in_r (by assumption)) (by assumption)) d_R_has_21 ?_
    refine sr_goto G 35 d_R_has_22 rfl ?_
    refine sr_iret G d_R_has_35 ?_
    unfold f_R_has
    rw [if_pos h8]
    exact ⟨rfl, rfl⟩
def f_R_give (M : Mem) (x1 : Int32) (x2 : Int32) (x3 : Int32) (x4 : Int32) : Mem := (if x3 = (x1 - x1 / 2 * 2) then (u3 (u3 (u3 M 21 12 (Int32.toNatClampNeg ((4 * (x1 - x1 / 2 * 2)) + x2)) ((M 21 12 (Int32.toNatClampNeg ((4 * (x1 - x1 / 2 * 2)) + x2))) + x4)) 21 13 (Int32.toNatClampNeg ((4 * x1) + x2)) (((u3 M 21 12 (Int32.toNatClampNeg ((4 * (x1 - x1 / 2 * 2)) + x2)) ((M 21 12 (Int32.toNatClampNeg ((4 * (x1 - x1 / 2 * 2)) + x2))) + x4)) 21 13 (Int32.toNatClampNeg ((4 * x1) + x2))) + 0)) 21 8 (Int32.toNatClampNeg x1) (((u3 (u3 M 21 12 (Int32.toNatClampNeg ((4 * (x1 - x1 / 2 * 2)) + x2)) ((M 21 12 (Int32.toNatClampNeg ((4 * (x1 - x1 / 2 * 2)) + x2))) + x4)) 21 13 (Int32.toNatClampNeg ((4 * x1) + x2)) (((u3 M 21 12 (Int32.toNatClampNeg ((4 * (x1 - x1 / 2 * 2)) + x2)) ((M 21 12 (Int32.toNatClampNeg ((4 * (x1 - x1 / 2 * 2)) + x2))) + x4)) 21 13 (Int32.toNatClampNeg ((4 * x1) + x2))) + 0)) 21 8 (Int32.toNatClampNeg x1)) - x4)) else (u3 (u3 (u3 M 21 12 (Int32.toNatClampNeg ((4 * (x1 - x1 / 2 * 2)) + x2)) ((M 21 12 (Int32.toNatClampNeg ((4 * (x1 - x1 / 2 * 2)) + x2))) + 0)) 21 13 (Int32.toNatClampNeg ((4 * x1) + x2)) (((u3 M 21 12 (Int32.toNatClampNeg ((4 * (x1 - x1 / 2 * 2)) + x2)) ((M 21 12 (Int32.toNatClampNeg ((4 * (x1 - x1 / 2 * 2)) + x2))) + 0)) 21 13 (Int32.toNatClampNeg ((4 * x1) + x2))) + x4)) 21 8 (Int32.toNatClampNeg x1) (((u3 (u3 M 21 12 (Int32.toNatClampNeg ((4 * (x1 - x1 / 2 * 2)) + x2)) ((M 21 12 (Int32.toNatClampNeg ((4 * (x1 - x1 / 2 * 2)) + x2))) + 0)) 21 13 (Int32.toNatClampNeg ((4 * x1) + x2)) (((u3 M 21 12 (Int32.toNatClampNeg ((4 * (x1 - x1 / 2 * 2)) + x2)) ((M 21 12 (Int32.toNatClampNeg ((4 * (x1 - x1 / 2 * 2)) + x2))) + 0)) 21 13 (Int32.toNatClampNeg ((4 * x1) + x2))) + x4)) 21 8 (Int32.toNatClampNeg x1)) - 0)))
set_option maxHeartbeats 4000000 in
set_option maxRecDepth 100000 in
theorem c_R_give {l : Launch} {D : va_G} {t6 : Nat → ClassId} {b n : Nat} (hn : 133 ≤ n) {M : Mem} {x1 : Int32} {x2 : Int32} {x3 : Int32} {x4 : Int32} (v1 : vp_in x1 8) (v2 : vp_in x2 4) : CV l D t6 b n y_R_give cd_R_give 6  (rk 0 0) [.ref (ad b 20 0), .int x1, .int x2, .int x3, .int x4] M (f_R_give M x1 x2 x3 x4) := by
  refine en_v (by decide) (by simp [Value.category]) (Nat.le_of_ble_eq_true rfl) (fun p e s m below meth c G => ?_)
  refine sr_iload_n G rfl d_R_give_0 ?_
  refine sr_iconst G (v := 2) (by decide) d_R_give_1 ?_
  refine sr_irem G (by decide) d_R_give_2 ?_
  refine sr_istore G (by decide) d_R_give_3 ?_
  refine sr_aload_n G rfl d_R_give_5 ?_
  refine sr_get G (vv_20 hn) rfl ku_R rfl 13 (by decide) kf_R_47 rfl rfl d_R_give_6 ?_
  refine sr_iconst G (v := 4) (by decide) d_R_give_9 ?_
  refine sr_iload G rfl d_R_give_10 ?_
  refine sr_imul G d_R_give_12 ?_
  refine sr_iload_n G rfl d_R_give_13 ?_
  refine sr_iadd G d_R_give_14 ?_
  refine sr_dup2 G rfl rfl d_R_give_15 ?_
  refine sr_iald G (vv_21 hn (by decide)) rfl (in_a (in_r (by assumption)) (by assumption)) d_R_give_16 ?_
  refine sr_iload_n G rfl d_R_give_17 ?_
  refine sr_iload G rfl d_R_give_18 ?_
  refine sr_icmp_ne G 28 d_R_give_20 rfl (fun h20 => ?_) (fun h20 => ?_)
  · skip
    refine sr_iconst G (v := 0) (by decide) d_R_give_28 ?_
    refine sr_iadd G d_R_give_29 ?_
    refine sr_iast G (vv_21 hn (by decide)) (fun _ => rfl) (in_a (in_r (by assumption)) (by assumption)) d_R_give_30 ?_
    refine sr_aload_n G rfl d_R_give_31 ?_
    refine sr_get G (vv_20 hn) rfl ku_R rfl 14 (by decide) kf_R_50 rfl rfl d_R_give_32 ?_
    refine sr_iconst G (v := 4) (by decide) d_R_give_35 ?_
    refine sr_iload_n G rfl d_R_give_36 ?_
    refine sr_imul G d_R_give_37 ?_
    refine sr_iload_n G rfl d_R_give_38 ?_
    refine sr_iadd G d_R_give_39 ?_
    refine sr_dup2 G rfl rfl d_R_give_40 ?_
    refine sr_iald G (vv_21 hn (by decide)) rfl (in_v (by assumption) (by assumption)) d_R_give_41 ?_
    refine sr_iload_n G rfl d_R_give_42 ?_
    refine sr_iload G rfl d_R_give_43 ?_
    refine sr_icmp_ne G 52 d_R_give_45 rfl (fun _ => ?_) (fun h => absurd h h20)
    refine sr_iload G rfl d_R_give_52 ?_
    refine sr_iadd G d_R_give_54 ?_
    refine sr_iast G (vv_21 hn (by decide)) (fun _ => rfl) (in_v (by assumption) (by assumption)) d_R_give_55 ?_
    refine sr_aload_n G rfl d_R_give_56 ?_
    refine sr_get G (vv_20 hn) rfl ku_R rfl 9 (by decide) kf_R_35 rfl rfl d_R_give_57 ?_
    refine sr_iload_n G rfl d_R_give_60 ?_
    refine sr_dup2 G rfl rfl d_R_give_61 ?_
    refine sr_iald G (vv_21 hn (by decide)) rfl (by assumption) d_R_give_62 ?_
    refine sr_iload_n G rfl d_R_give_63 ?_
    refine sr_iload G rfl d_R_give_64 ?_
    refine sr_icmp_ne G 74 d_R_give_66 rfl (fun _ => ?_) (fun h => absurd h h20)
    refine sr_iconst G (v := 0) (by decide) d_R_give_74 ?_
    refine sr_isub G d_R_give_75 ?_
    refine sr_iast G (vv_21 hn (by decide)) (fun _ => rfl) (by assumption) d_R_give_76 ?_
    refine sr_vret G d_R_give_77 ?_
    unfold f_R_give
    rw [if_neg h20]
    try rfl
  · skip
    refine sr_iload G rfl d_R_give_23 ?_
    refine sr_goto G 29 d_R_give_25 rfl ?_
    refine sr_iadd G d_R_give_29 ?_
    refine sr_iast G (vv_21 hn (by decide)) (fun _ => rfl) (in_a (in_r (by assumption)) (by assumption)) d_R_give_30 ?_
    refine sr_aload_n G rfl d_R_give_31 ?_
    refine sr_get G (vv_20 hn) rfl ku_R rfl 14 (by decide) kf_R_50 rfl rfl d_R_give_32 ?_
    refine sr_iconst G (v := 4) (by decide) d_R_give_35 ?_
    refine sr_iload_n G rfl d_R_give_36 ?_
    refine sr_imul G d_R_give_37 ?_
    refine sr_iload_n G rfl d_R_give_38 ?_
    refine sr_iadd G d_R_give_39 ?_
    refine sr_dup2 G rfl rfl d_R_give_40 ?_
    refine sr_iald G (vv_21 hn (by decide)) rfl (in_v (by assumption) (by assumption)) d_R_give_41 ?_
    refine sr_iload_n G rfl d_R_give_42 ?_
    refine sr_iload G rfl d_R_give_43 ?_
    refine sr_icmp_ne G 52 d_R_give_45 rfl (fun h => absurd h20 h) (fun _ => ?_)
    refine sr_iconst G (v := 0) (by decide) d_R_give_48 ?_
    refine sr_goto G 54 d_R_give_49 rfl ?_
    refine sr_iadd G d_R_give_54 ?_
    refine sr_iast G (vv_21 hn (by decide)) (fun _ => rfl) (in_v (by assumption) (by assumption)) d_R_give_55 ?_
    refine sr_aload_n G rfl d_R_give_56 ?_
    refine sr_get G (vv_20 hn) rfl ku_R rfl 9 (by decide) kf_R_35 rfl rfl d_R_give_57 ?_
    refine sr_iload_n G rfl d_R_give_60 ?_
    refine sr_dup2 G rfl rfl d_R_give_61 ?_
    refine sr_iald G (vv_21 hn (by decide)) rfl (by assumption) d_R_give_62 ?_
    refine sr_iload_n G rfl d_R_give_63 ?_
    refine sr_iload G rfl d_R_give_64 ?_
    refine sr_icmp_ne G 74 d_R_give_66 rfl (fun h => absurd h20 h) (fun _ => ?_)
    refine sr_iload G rfl d_R_give_69 ?_
    refine sr_goto G 75 d_R_give_71 rfl ?_
    refine sr_isub G d_R_give_75 ?_
    refine sr_iast G (vv_21 hn (by decide)) (fun _ => rfl) (by assumption) d_R_give_76 ?_
    refine sr_vret G d_R_give_77 ?_
    unfold f_R_give
    rw [if_pos h20]
    try rfl
theorem ri_give {M : Mem} {a b c d : Int32} (h : ri_ M) : ri_ (f_R_give M a b c d) := by
  unfold f_R_give
  split <;> exact ri_u3 (ri_u3 (ri_u3 h _ (by decide) (by omega)) _ (by decide) (by omega)) _ (by decide) (by omega)
def f_R_send (M : Mem) (x1 : Int32) (x2 : Int32) (x3 : Int32) (x4 : Int32) (x5 : Int32) (x6 : Int32) (x7 : Int32) : Int32 × Mem := (if (f_R_noChannel M x1) = 0 then (if (f_R_noSide x2) = 0 then (if (f_R_in x3 0 3) = 0 then ((-1), M) else (if (f_R_in x5 0 1) = 0 then ((-1), M) else (if (f_R_in x4 0 7) = 0 then ((-2), M) else (if (f_R_in x6 1 1000) = 0 then ((-2), M) else (if (f_R_in x7 1 200) = 0 then ((-2), M) else (if (M 21 5 (Int32.toNatClampNeg ((2 * x1) + x2))) = 3 then (if x6 ≤ (f_R_has M ((2 * x1) + x2) x3 x5) then (if (M 21 2 (Int32.toNatClampNeg x2)) = 0 then (if (f_R_highest M x2) < x7 then (if (M 20 0 15) = 60 then ((-10), M) else ((M 20 0 15), (u3 (u3 (u3 (u3 (u3 (u3 (u3 (u3 (u3 (u3 (u3 (u3 (u3 (u3 (u3 (u3 (f_R_give M ((2 * x1) + x2) x3 x5 (-x6)) 21 14 (Int32.toNatClampNeg (M 20 0 15)) x1) 21 15 (Int32.toNatClampNeg (M 20 0 15)) x2) 21 16 (Int32.toNatClampNeg (M 20 0 15)) ((u3 (u3 (f_R_give M ((2 * x1) + x2) x3 x5 (-x6)) 21 14 (Int32.toNatClampNeg (M 20 0 15)) x1) 21 15 (Int32.toNatClampNeg (M 20 0 15)) x2) 21 9 (Int32.toNatClampNeg ((2 * x1) + x2)))) 21 17 (Int32.toNatClampNeg (M 20 0 15)) x6) 21 18 (Int32.toNatClampNeg (M 20 0 15)) x5) 21 19 (Int32.toNatClampNeg (M 20 0 15)) x3) 21 20 (Int32.toNatClampNeg (M 20 0 15)) x4) 21 21 (Int32.toNatClampNeg (M 20 0 15)) x7) 21 22 (Int32.toNatClampNeg (M 20 0 15)) 1) 21 23 (Int32.toNatClampNeg (M 20 0 15)) (((u3 (u3 (u3 (u3 (u3 (u3 (u3 (u3 (u3 (f_R_give M ((2 * x1) + x2) x3 x5 (-x6)) 21 14 (Int32.toNatClampNeg (M 20 0 15)) x1) 21 15 (Int32.toNatClampNeg (M 20 0 15)) x2) 21 16 (Int32.toNatClampNeg (M 20 0 15)) ((u3 (u3 (f_R_give M ((2 * x1) + x2) x3 x5 (-x6)) 21 14 (Int32.toNatClampNeg (M 20 0 15)) x1) 21 15 (Int32.toNatClampNeg (M 20 0 15)) x2) 21 9 (Int32.toNatClampNeg ((2 * x1) + x2)))) 21 17 (Int32.toNatClampNeg (M 20 0 15)) x6) 21 18 (Int32.toNatClampNeg (M 20 0 15)) x5) 21 19 (Int32.toNatClampNeg (M 20 0 15)) x3) 21 20 (Int32.toNatClampNeg (M 20 0 15)) x4) 21 21 (Int32.toNatClampNeg (M 20 0 15)) x7) 21 22 (Int32.toNatClampNeg (M 20 0 15)) 1) 21 0 (Int32.toNatClampNeg x2)) + 1)) 21 24 (Int32.toNatClampNeg (M 20 0 15)) 202) 21 25 (Int32.toNatClampNeg (M 20 0 15)) 0) 21 26 (Int32.toNatClampNeg (M 20 0 15)) 202) 21 27 (Int32.toNatClampNeg (M 20 0 15)) 0) 21 9 (Int32.toNatClampNeg ((2 * x1) + x2)) (((u3 (u3 (u3 (u3 (u3 (u3 (u3 (u3 (u3 (u3 (u3 (u3 (u3 (u3 (f_R_give M ((2 * x1) + x2) x3 x5 (-x6)) 21 14 (Int32.toNatClampNeg (M 20 0 15)) x1) 21 15 (Int32.toNatClampNeg (M 20 0 15)) x2) 21 16 (Int32.toNatClampNeg (M 20 0 15)) ((u3 (u3 (f_R_give M ((2 * x1) + x2) x3 x5 (-x6)) 21 14 (Int32.toNatClampNeg (M 20 0 15)) x1) 21 15 (Int32.toNatClampNeg (M 20 0 15)) x2) 21 9 (Int32.toNatClampNeg ((2 * x1) + x2)))) 21 17 (Int32.toNatClampNeg (M 20 0 15)) x6) 21 18 (Int32.toNatClampNeg (M 20 0 15)) x5) 21 19 (Int32.toNatClampNeg (M 20 0 15)) x3) 21 20 (Int32.toNatClampNeg (M 20 0 15)) x4) 21 21 (Int32.toNatClampNeg (M 20 0 15)) x7) 21 22 (Int32.toNatClampNeg (M 20 0 15)) 1) 21 23 (Int32.toNatClampNeg (M 20 0 15)) (((u3 (u3 (u3 (u3 (u3 (u3 (u3 (u3 (u3 (f_R_give M ((2 * x1) + x2) x3 x5 (-x6)) 21 14 (Int32.toNatClampNeg (M 20 0 15)) x1) 21 15 (Int32.toNatClampNeg (M 20 0 15)) x2) 21 16 (Int32.toNatClampNeg (M 20 0 15)) ((u3 (u3 (f_R_give M ((2 * x1) + x2) x3 x5 (-x6)) 21 14 (Int32.toNatClampNeg (M 20 0 15)) x1) 21 15 (Int32.toNatClampNeg (M 20 0 15)) x2) 21 9 (Int32.toNatClampNeg ((2 * x1) + x2)))) 21 17 (Int32.toNatClampNeg (M 20 0 15)) x6) 21 18 (Int32.toNatClampNeg (M 20 0 15)) x5) 21 19 (Int32.toNatClampNeg (M 20 0 15)) x3) 21 20 (Int32.toNatClampNeg (M 20 0 15)) x4) 21 21 (Int32.toNatClampNeg (M 20 0 15)) x7) 21 22 (Int32.toNatClampNeg (M 20 0 15)) 1) 21 0 (Int32.toNatClampNeg x2)) + 1)) 21 24 (Int32.toNatClampNeg (M 20 0 15)) 202) 21 25 (Int32.toNatClampNeg (M 20 0 15)) 0) 21 26 (Int32.toNatClampNeg (M 20 0 15)) 202) 21 27 (Int32.toNatClampNeg (M 20 0 15)) 0) 21 9 (Int32.toNatClampNeg ((2 * x1) + x2))) + 1)) 20 0 15 (((u3 (u3 (u3 (u3 (u3 (u3 (u3 (u3 (u3 (u3 (u3 (u3 (u3 (u3 (u3 (f_R_give M ((2 * x1) + x2) x3 x5 (-x6)) 21 14 (Int32.toNatClampNeg (M 20 0 15)) x1) 21 15 (Int32.toNatClampNeg (M 20 0 15)) x2) 21 16 (Int32.toNatClampNeg (M 20 0 15)) ((u3 (u3 (f_R_give M ((2 * x1) + x2) x3 x5 (-x6)) 21 14 (Int32.toNatClampNeg (M 20 0 15)) x1) 21 15 (Int32.toNatClampNeg (M 20 0 15)) x2) 21 9 (Int32.toNatClampNeg ((2 * x1) + x2)))) 21 17 (Int32.toNatClampNeg (M 20 0 15)) x6) 21 18 (Int32.toNatClampNeg (M 20 0 15)) x5) 21 19 (Int32.toNatClampNeg (M 20 0 15)) x3) 21 20 (Int32.toNatClampNeg (M 20 0 15)) x4) 21 21 (Int32.toNatClampNeg (M 20 0 15)) x7) 21 22 (Int32.toNatClampNeg (M 20 0 15)) 1) 21 23 (Int32.toNatClampNeg (M 20 0 15)) (((u3 (u3 (u3 (u3 (u3 (u3 (u3 (u3 (u3 (f_R_give M ((2 * x1) + x2) x3 x5 (-x6)) 21 14 (Int32.toNatClampNeg (M 20 0 15)) x1) 21 15 (Int32.toNatClampNeg (M 20 0 15)) x2) 21 16 (Int32.toNatClampNeg (M 20 0 15)) ((u3 (u3 (f_R_give M ((2 * x1) + x2) x3 x5 (-x6)) 21 14 (Int32.toNatClampNeg (M 20 0 15)) x1) 21 15 (Int32.toNatClampNeg (M 20 0 15)) x2) 21 9 (Int32.toNatClampNeg ((2 * x1) + x2)))) 21 17 (Int32.toNatClampNeg (M 20 0 15)) x6) 21 18 (Int32.toNatClampNeg (M 20 0 15)) x5) 21 19 (Int32.toNatClampNeg (M 20 0 15)) x3) 21 20 (Int32.toNatClampNeg (M 20 0 15)) x4) 21 21 (Int32.toNatClampNeg (M 20 0 15)) x7) 21 22 (Int32.toNatClampNeg (M 20 0 15)) 1) 21 0 (Int32.toNatClampNeg x2)) + 1)) 21 24 (Int32.toNatClampNeg (M 20 0 15)) 202) 21 25 (Int32.toNatClampNeg (M 20 0 15)) 0) 21 26 (Int32.toNatClampNeg (M 20 0 15)) 202) 21 27 (Int32.toNatClampNeg (M 20 0 15)) 0) 21 9 (Int32.toNatClampNeg ((2 * x1) + x2)) (((u3 (u3 (u3 (u3 (u3 (u3 (u3 (u3 (u3 (u3 (u3 (u3 (u3 (u3 (f_R_give M ((2 * x1) + x2) x3 x5 (-x6)) 21 14 (Int32.toNatClampNeg (M 20 0 15)) x1) 21 15 (Int32.toNatClampNeg (M 20 0 15)) x2) 21 16 (Int32.toNatClampNeg (M 20 0 15)) ((u3 (u3 (f_R_give M ((2 * x1) + x2) x3 x5 (-x6)) 21 14 (Int32.toNatClampNeg (M 20 0 15)) x1) 21 15 (Int32.toNatClampNeg (M 20 0 15)) x2) 21 9 (Int32.toNatClampNeg ((2 * x1) + x2)))) 21 17 (Int32.toNatClampNeg (M 20 0 15)) x6) 21 18 (Int32.toNatClampNeg (M 20 0 15)) x5) 21 19 (Int32.toNatClampNeg (M 20 0 15)) x3) 21 20 (Int32.toNatClampNeg (M 20 0 15)) x4) 21 21 (Int32.toNatClampNeg (M 20 0 15)) x7) 21 22 (Int32.toNatClampNeg (M 20 0 15)) 1) 21 23 (Int32.toNatClampNeg (M 20 0 15)) (((u3 (u3 (u3 (u3 (u3 (u3 (u3 (u3 (u3 (f_R_give M ((2 * x1) + x2) x3 x5 (-x6)) 21 14 (Int32.toNatClampNeg (M 20 0 15)) x1) 21 15 (Int32.toNatClampNeg (M 20 0 15)) x2) 21 16 (Int32.toNatClampNeg (M 20 0 15)) ((u3 (u3 (f_R_give M ((2 * x1) + x2) x3 x5 (-x6)) 21 14 (Int32.toNatClampNeg (M 20 0 15)) x1) 21 15 (Int32.toNatClampNeg (M 20 0 15)) x2) 21 9 (Int32.toNatClampNeg ((2 * x1) + x2)))) 21 17 (Int32.toNatClampNeg (M 20 0 15)) x6) 21 18 (Int32.toNatClampNeg (M 20 0 15)) x5) 21 19 (Int32.toNatClampNeg (M 20 0 15)) x3) 21 20 (Int32.toNatClampNeg (M 20 0 15)) x4) 21 21 (Int32.toNatClampNeg (M 20 0 15)) x7) 21 22 (Int32.toNatClampNeg (M 20 0 15)) 1) 21 0 (Int32.toNatClampNeg x2)) + 1)) 21 24 (Int32.toNatClampNeg (M 20 0 15)) 202) 21 25 (Int32.toNatClampNeg (M 20 0 15)) 0) 21 26 (Int32.toNatClampNeg (M 20 0 15)) 202) 21 27 (Int32.toNatClampNeg (M 20 0 15)) 0) 21 9 (Int32.toNatClampNeg ((2 * x1) + x2))) + 1)) 20 0 15) + 1)))) else ((-7), M)) else ((-4), M)) else ((-3), M)) else ((-3), M))))))) else ((-1), M)) else ((-1), M))
set_option maxHeartbeats 4000000 in
set_option maxRecDepth 100000 in
theorem c_R_send {l : Launch} {D : va_G} {t6 : Nat → ClassId} {b n : Nat} (hn : 133 ≤ n) {M : Mem} {x1 : Int32} {x2 : Int32} {x3 : Int32} {x4 : Int32} {x5 : Int32} {x6 : Int32} {x7 : Int32} (hI : ri_ M) : CI l D t6 b n y_R_send cd_R_send 10 .int (rk 2 43) [.ref (ad b 20 0), .int x1, .int x2, .int x3, .int x4, .int x5, .int x6, .int x7] M (f_R_send M x1 x2 x3 x4 x5 x6 x7).1 (f_R_send M x1 x2 x3 x4 x5 x6 x7).2 := by
  refine en_i (by decide) (by simp [Value.category]) (Nat.le_of_ble_eq_true rfl) (fun p e s m below meth c G => ?_)
  refine sr_aload_n G rfl d_R_send_0 ?_
  refine sr_iload_n G rfl d_R_send_1 ?_
  refine sr_cvi G (vv_20 hn) rfl rfl ki_R_noChannel kx_R_noChannel (c_R_noChannel hn) kc_R_noChannel km_R_135 kn_R yy_R_noChannel rfl ⟨rfl, rfl, by decide, by decide⟩ (Nat.le_of_ble_eq_true rfl) rfl d_R_send_2 ?_
  refine sr_if_ne G 34 d_R_send_5 rfl (fun h5 => ?_) (fun h5 => ?_)
  · skip
    refine sr_iconst G (v := (-1)) (by decide) d_R_send_34 ?_
    refine sr_iret G d_R_send_35 ?_
    unfold f_R_send
    rw [if_neg h5]
    exact ⟨rfl, rfl⟩
  · skip
    have v5 : vp_in x1 4 := in_chR hI h5
    have i5 := ix_lt v5
    have f5 := ri_b hI i5
    have f5a := ix_lt f5
    have f5b := in_1 f5
    have f5c := ix_lt f5b
    have f5d := in_1 f5b
    have f5e := ix_lt f5d
    refine sr_iload_n G rfl d_R_send_8 ?_
    refine sr_csi G ks_R_noSide (c_R_noSide) kc_R_noSide km_R_109 kn_R yy_R_noSide rfl ⟨rfl, rfl, by decide, by decide⟩ (Nat.le_of_ble_eq_true rfl) rfl d_R_send_9 ?_
    refine sr_if_ne G 34 d_R_send_12 rfl (fun h12 => ?_) (fun h12 => ?_)
    · skip
      refine sr_iconst G (v := (-1)) (by decide) d_R_send_34 ?_
      refine sr_iret G d_R_send_35 ?_
      unfold f_R_send
      rw [if_pos h5, if_neg h12]
      exact ⟨rfl, rfl⟩
    · skip
      have v12 : vp_in x2 2 := in_nos h12
      have i12 := ix_lt v12
      have w12 := in_1 v12
      have j12 := ix_lt w12
      refine sr_iload_n G rfl d_R_send_15 ?_
      refine sr_iconst G (v := 0) (by decide) d_R_send_16 ?_
      refine sr_iconst G (v := 3) (by decide) d_R_send_17 ?_
      refine sr_csi G ks_R_in (c_R_in) kc_R_in km_R_113 kn_R yy_R_in rfl ⟨rfl, rfl, by decide, by decide⟩ (Nat.le_of_ble_eq_true rfl) rfl d_R_send_18 ?_
      refine sr_if_eq G 34 d_R_send_21 rfl (fun h21 => ?_) (fun h21 => ?_)
      · skip
        refine sr_iconst G (v := (-1)) (by decide) d_R_send_34 ?_
        refine sr_iret G d_R_send_35 ?_
        unfold f_R_send
        rw [if_pos h5, if_pos h12, if_pos h21]
        exact ⟨rfl, rfl⟩
      · skip
        have v21 : vp_in x3 4 := in_wiR (lo := 0) (hi := 3) (by decide) (by decide) h21
        have i21 := ix_lt v21
        refine sr_iload G rfl d_R_send_24 ?_
        refine sr_iconst G (v := 0) (by decide) d_R_send_26 ?_
        refine sr_iconst G (v := 1) (by decide) d_R_send_27 ?_
        refine sr_csi G ks_R_in (c_R_in) kc_R_in km_R_113 kn_R yy_R_in rfl ⟨rfl, rfl, by decide, by decide⟩ (Nat.le_of_ble_eq_true rfl) rfl d_R_send_28 ?_
        refine sr_if_ne G 36 d_R_send_31 rfl (fun h31 => ?_) (fun h31 => ?_)
        · skip
          have v31 : vp_in x5 2 := in_wiR (lo := 0) (hi := 1) (by decide) (by decide) h31
          have i31 := ix_lt v31
          have w31 := in_1 v31
          have j31 := ix_lt w31
          refine sr_iload G rfl d_R_send_36 ?_
          refine sr_iconst G (v := 0) (by decide) d_R_send_38 ?_
          refine sr_bipush G (v := 7) (by decide) d_R_send_39 ?_
          refine sr_csi G ks_R_in (c_R_in) kc_R_in km_R_113 kn_R yy_R_in rfl ⟨rfl, rfl, by decide, by decide⟩ (Nat.le_of_ble_eq_true rfl) rfl d_R_send_41 ?_
          refine sr_if_eq G 71 d_R_send_44 rfl (fun h44 => ?_) (fun h44 => ?_)
          · skip
            refine sr_bipush G (v := (-2)) (by decide) d_R_send_71 ?_
            refine sr_iret G d_R_send_73 ?_
            unfold f_R_send
            rw [if_pos h5, if_pos h12, if_neg h21, if_neg h31, if_pos h44]
            exact ⟨rfl, rfl⟩
          · skip
            have v44 : vp_in x4 8 := in_wiR (lo := 0) (hi := 7) (by decide) (by decide) h44
            have i44 := ix_lt v44
            refine sr_iload G rfl d_R_send_47 ?_
            refine sr_iconst G (v := 1) (by decide) d_R_send_49 ?_
            refine sr_sipush G (v := 1000) (by decide) d_R_send_50 ?_
            refine sr_csi G ks_R_in (c_R_in) kc_R_in km_R_113 kn_R yy_R_in rfl ⟨rfl, rfl, by decide, by decide⟩ (Nat.le_of_ble_eq_true rfl) rfl d_R_send_53 ?_
            refine sr_if_eq G 71 d_R_send_56 rfl (fun h56 => ?_) (fun h56 => ?_)
            · skip
              refine sr_bipush G (v := (-2)) (by decide) d_R_send_71 ?_
              refine sr_iret G d_R_send_73 ?_
              unfold f_R_send
              rw [if_pos h5, if_pos h12, if_neg h21, if_neg h31, if_neg h44, if_pos h56]
              exact ⟨rfl, rfl⟩
            · skip
              have v56 : vp_in x6 1001 := in_wiR (lo := 1) (hi := 1000) (by decide) (by decide) h56
              have i56 := ix_lt v56
              refine sr_iload G rfl d_R_send_59 ?_
              refine sr_iconst G (v := 1) (by decide) d_R_send_61 ?_
              refine sr_sipush G (v := 200) (by decide) d_R_send_62 ?_
              refine sr_csi G ks_R_in (c_R_in) kc_R_in km_R_113 kn_R yy_R_in rfl ⟨rfl, rfl, by decide, by decide⟩ (Nat.le_of_ble_eq_true rfl) rfl d_R_send_65 ?_
              refine sr_if_ne G 74 d_R_send_68 rfl (fun h68 => ?_) (fun h68 => ?_)
              · skip
                have v68 : vp_in x7 201 := in_wiR (lo := 1) (hi := 200) (by decide) (by decide) h68
                have i68 := ix_lt v68
                refine sr_iconst G (v := 2) (by decide) d_R_send_74 ?_
                refine sr_iload_n G rfl d_R_send_75 ?_
                refine sr_imul G d_R_send_76 ?_
                refine sr_iload_n G rfl d_R_send_77 ?_
                refine sr_iadd G d_R_send_78 ?_
                refine sr_istore G (by decide) d_R_send_79 ?_
                have ve := in_e v5 v12
                refine sr_aload_n G rfl d_R_send_81 ?_
                refine sr_get G (vv_20 hn) rfl ku_R rfl 6 (by decide) kf_R_26 rfl rfl d_R_send_82 ?_
                refine sr_iload G rfl d_R_send_85 ?_
                refine sr_iald G (vv_21 hn (by decide)) rfl (in_e (by assumption) (by assumption)) d_R_send_87 ?_
                refine sr_iconst G (v := 3) (by decide) d_R_send_88 ?_
                refine sr_icmp_ne G 106 d_R_send_89 rfl (fun h89 => ?_) (fun h89 => ?_)
                · skip
                  refine sr_bipush G (v := (-3)) (by decide) d_R_send_106 ?_
                  refine sr_iret G d_R_send_108 ?_
                  unfold f_R_send
                  rw [if_pos h5, if_pos h12, if_neg h21, if_neg h31, if_neg h44, if_neg h56, if_neg h68, if_neg h89]
                  exact ⟨rfl, rfl⟩
                · skip
                  refine sr_aload_n G rfl d_R_send_92 ?_
                  refine sr_iload G rfl d_R_send_93 ?_
                  refine sr_iload_n G rfl d_R_send_95 ?_
                  refine sr_iload G rfl d_R_send_96 ?_
                  refine sr_cvi G (vv_20 hn) rfl rfl ki_R_has kx_R_has (c_R_has hn (by first | assumption | omega | decide | (unfold vp_in; decide)) (by first | assumption | omega | decide | (unfold vp_in; decide))) kc_R_has km_R_145 kn_R yy_R_has rfl ⟨rfl, rfl, by decide, by decide⟩ (Nat.le_of_ble_eq_true rfl) rfl d_R_send_98 ?_
                  refine sr_iload G rfl d_R_send_101 ?_
                  refine sr_icmp_ge G 109 d_R_send_103 rfl (fun h103 => ?_) (fun h103 => ?_)
                  · skip
                    refine sr_aload_n G rfl d_R_send_109 ?_
                    refine sr_get G (vv_20 hn) rfl ku_R rfl 2 (by decide) kf_R_16 rfl rfl d_R_send_110 ?_
                    refine sr_iload_n G rfl d_R_send_113 ?_
                    refine sr_zald G (vv_21 hn (by decide)) rfl (by assumption) d_R_send_114 ?_
                    refine sr_if_eq G 121 d_R_send_115 rfl (fun h115 => ?_) (fun h115 => ?_)
                    · skip
                      refine sr_aload_n G rfl d_R_send_121 ?_
                      refine sr_iload_n G rfl d_R_send_122 ?_
                      refine sr_cvi G (vv_20 hn) rfl rfl ki_R_highest kx_R_highest (c_R_highest hn (by first | assumption | omega | decide | (unfold vp_in; decide))) kc_R_highest km_R_121 kn_R yy_R_highest rfl ⟨rfl, rfl, by decide, by decide⟩ (Nat.le_of_ble_eq_true rfl) rfl d_R_send_123 ?_
                      refine sr_iload G rfl d_R_send_126 ?_
                      refine sr_icmp_lt G 134 d_R_send_128 rfl (fun h128 => ?_) (fun h128 => ?_)
                      · skip
                        refine sr_aload_n G rfl d_R_send_134 ?_
                        refine sr_get G (vv_20 hn) rfl ku_R rfl 15 (by decide) kf_R_102 rfl rfl d_R_send_135 ?_
                        refine sr_bipush G (v := 60) (by decide) d_R_send_138 ?_
                        refine sr_icmp_ne G 146 d_R_send_140 rfl (fun h140 => ?_) (fun h140 => ?_)
                        · skip
                          have v9 := in_l60R hI h140
                          have i9 := ix_lt v9
                          refine sr_aload_n G rfl d_R_send_146 ?_
                          refine sr_get G (vv_20 hn) rfl ku_R rfl 15 (by decide) kf_R_102 rfl rfl d_R_send_147 ?_
                          refine sr_istore G (by decide) d_R_send_150 ?_
                          refine sr_aload_n G rfl d_R_send_152 ?_
                          refine sr_iload G rfl d_R_send_153 ?_
                          refine sr_iload_n G rfl d_R_send_155 ?_
                          refine sr_iload G rfl d_R_send_156 ?_
                          refine sr_iload G rfl d_R_send_158 ?_
                          refine sr_ineg G d_R_send_160 ?_
                          refine sr_cvv G (vv_20 hn) rfl rfl ki_R_give kx_R_give (c_R_give hn (by first | assumption | omega | decide | (unfold vp_in; decide)) (by first | assumption | omega | decide | (unfold vp_in; decide))) kc_R_give km_R_148 kn_R yy_R_give rfl ⟨rfl, rfl, by decide, by decide⟩ (Nat.le_of_ble_eq_true rfl) rfl d_R_send_161 ?_
                          refine sr_aload_n G rfl d_R_send_164 ?_
                          refine sr_get G (vv_20 hn) rfl ku_R rfl 16 (by decide) kf_R_53 rfl rfl d_R_send_165 ?_
                          refine sr_iload G rfl d_R_send_168 ?_
                          refine sr_iload_n G rfl d_R_send_170 ?_
                          refine sr_iast G (vv_21 hn (by decide)) (fun _ => rfl) (by assumption) d_R_send_171 ?_
                          refine sr_aload_n G rfl d_R_send_172 ?_
                          refine sr_get G (vv_20 hn) rfl ku_R rfl 17 (by decide) kf_R_56 rfl rfl d_R_send_173 ?_
                          refine sr_iload G rfl d_R_send_176 ?_
                          refine sr_iload_n G rfl d_R_send_178 ?_
                          refine sr_iast G (vv_21 hn (by decide)) (fun _ => rfl) (by assumption) d_R_send_179 ?_
                          refine sr_aload_n G rfl d_R_send_180 ?_
                          refine sr_get G (vv_20 hn) rfl ku_R rfl 18 (by decide) kf_R_59 rfl rfl d_R_send_181 ?_
                          refine sr_iload G rfl d_R_send_184 ?_
                          refine sr_aload_n G rfl d_R_send_186 ?_
                          refine sr_get G (vv_20 hn) rfl ku_R rfl 10 (by decide) kf_R_38 rfl rfl d_R_send_187 ?_
                          refine sr_iload G rfl d_R_send_190 ?_
                          refine sr_iald G (vv_21 hn (by decide)) rfl (in_e (by assumption) (by assumption)) d_R_send_192 ?_
                          refine sr_iast G (vv_21 hn (by decide)) (fun _ => rfl) (by assumption) d_R_send_193 ?_
                          refine sr_aload_n G rfl d_R_send_194 ?_
                          refine sr_get G (vv_20 hn) rfl ku_R rfl 19 (by decide) kf_R_62 rfl rfl d_R_send_195 ?_
                          refine sr_iload G rfl d_R_send_198 ?_
                          refine sr_iload G rfl d_R_send_200 ?_
                          refine sr_iast G (vv_21 hn (by decide)) (fun _ => rfl) (by assumption) d_R_send_202 ?_
                          refine sr_aload_n G rfl d_R_send_203 ?_
                          refine sr_get G (vv_20 hn) rfl ku_R rfl 20 (by decide) kf_R_65 rfl rfl d_R_send_204 ?_
                          refine sr_iload G rfl d_R_send_207 ?_
                          refine sr_iload G rfl d_R_send_209 ?_
                          refine sr_iast G (vv_21 hn (by decide)) (fun _ => rfl) (by assumption) d_R_send_211 ?_
                          refine sr_aload_n G rfl d_R_send_212 ?_
                          refine sr_get G (vv_20 hn) rfl ku_R rfl 21 (by decide) kf_R_68 rfl rfl d_R_send_213 ?_
                          refine sr_iload G rfl d_R_send_216 ?_
                          refine sr_iload_n G rfl d_R_send_218 ?_
                          refine sr_iast G (vv_21 hn (by decide)) (fun _ => rfl) (by assumption) d_R_send_219 ?_
                          refine sr_aload_n G rfl d_R_send_220 ?_
                          refine sr_get G (vv_20 hn) rfl ku_R rfl 22 (by decide) kf_R_71 rfl rfl d_R_send_221 ?_
                          refine sr_iload G rfl d_R_send_224 ?_
                          refine sr_iload G rfl d_R_send_226 ?_
                          refine sr_iast G (vv_21 hn (by decide)) (fun _ => rfl) (by assumption) d_R_send_228 ?_
                          refine sr_aload_n G rfl d_R_send_229 ?_
                          refine sr_get G (vv_20 hn) rfl ku_R rfl 23 (by decide) kf_R_74 rfl rfl d_R_send_230 ?_
                          refine sr_iload G rfl d_R_send_233 ?_
                          refine sr_iload G rfl d_R_send_235 ?_
                          refine sr_iast G (vv_21 hn (by decide)) (fun _ => rfl) (by assumption) d_R_send_237 ?_
                          refine sr_aload_n G rfl d_R_send_238 ?_
                          refine sr_get G (vv_20 hn) rfl ku_R rfl 24 (by decide) kf_R_77 rfl rfl d_R_send_239 ?_
                          refine sr_iload G rfl d_R_send_242 ?_
                          refine sr_iconst G (v := 1) (by decide) d_R_send_244 ?_
                          refine sr_zast G (vv_21 hn (by decide)) (fun _ => rfl) (by decide) (by assumption) d_R_send_245 ?_
                          refine sr_aload_n G rfl d_R_send_246 ?_
                          refine sr_get G (vv_20 hn) rfl ku_R rfl 25 (by decide) kf_R_80 rfl rfl d_R_send_247 ?_
                          refine sr_iload G rfl d_R_send_250 ?_
                          refine sr_aload_n G rfl d_R_send_252 ?_
                          refine sr_get G (vv_20 hn) rfl ku_R rfl 0 (by decide) kf_R_7 rfl rfl d_R_send_253 ?_
                          refine sr_iload_n G rfl d_R_send_256 ?_
                          refine sr_iald G (vv_21 hn (by decide)) rfl (by assumption) d_R_send_257 ?_
                          refine sr_iconst G (v := 1) (by decide) d_R_send_258 ?_
                          refine sr_iadd G d_R_send_259 ?_
                          refine sr_iast G (vv_21 hn (by decide)) (fun _ => rfl) (by assumption) d_R_send_260 ?_
                          refine sr_aload_n G rfl d_R_send_261 ?_
                          refine sr_get G (vv_20 hn) rfl ku_R rfl 26 (by decide) kf_R_83 rfl rfl d_R_send_262 ?_
                          refine sr_iload G rfl d_R_send_265 ?_
                          refine sr_sipush G (v := 202) (by decide) d_R_send_267 ?_
                          refine sr_iast G (vv_21 hn (by decide)) (fun _ => rfl) (by assumption) d_R_send_270 ?_
                          refine sr_aload_n G rfl d_R_send_271 ?_
                          refine sr_get G (vv_20 hn) rfl ku_R rfl 27 (by decide) kf_R_86 rfl rfl d_R_send_272 ?_
                          refine sr_iload G rfl d_R_send_275 ?_
                          refine sr_iconst G (v := 0) (by decide) d_R_send_277 ?_
                          refine sr_iast G (vv_21 hn (by decide)) (fun _ => rfl) (by assumption) d_R_send_278 ?_
                          refine sr_aload_n G rfl d_R_send_279 ?_
                          refine sr_get G (vv_20 hn) rfl ku_R rfl 28 (by decide) kf_R_89 rfl rfl d_R_send_280 ?_
                          refine sr_iload G rfl d_R_send_283 ?_
                          refine sr_sipush G (v := 202) (by decide) d_R_send_285 ?_
                          refine sr_iast G (vv_21 hn (by decide)) (fun _ => rfl) (by assumption) d_R_send_288 ?_
                          refine sr_aload_n G rfl d_R_send_289 ?_
                          refine sr_get G (vv_20 hn) rfl ku_R rfl 29 (by decide) kf_R_92 rfl rfl d_R_send_290 ?_
                          refine sr_iload G rfl d_R_send_293 ?_
                          refine sr_iconst G (v := 0) (by decide) d_R_send_295 ?_
                          refine sr_zast G (vv_21 hn (by decide)) (fun _ => rfl) (by decide) (by assumption) d_R_send_296 ?_
                          refine sr_aload_n G rfl d_R_send_297 ?_
                          refine sr_get G (vv_20 hn) rfl ku_R rfl 10 (by decide) kf_R_38 rfl rfl d_R_send_298 ?_
                          refine sr_iload G rfl d_R_send_301 ?_
                          refine sr_dup2 G rfl rfl d_R_send_303 ?_
                          refine sr_iald G (vv_21 hn (by decide)) rfl (in_e (by assumption) (by assumption)) d_R_send_304 ?_
                          refine sr_iconst G (v := 1) (by decide) d_R_send_305 ?_
                          refine sr_iadd G d_R_send_306 ?_
                          refine sr_iast G (vv_21 hn (by decide)) (fun _ => rfl) (in_e (by assumption) (by assumption)) d_R_send_307 ?_
                          refine sr_aload_n G rfl d_R_send_308 ?_
                          refine sr_dup G rfl d_R_send_309 ?_
                          refine sr_get G (vv_20 hn) rfl ku_R rfl 15 (by decide) kf_R_102 rfl rfl d_R_send_310 ?_
                          refine sr_iconst G (v := 1) (by decide) d_R_send_313 ?_
                          refine sr_iadd G d_R_send_314 ?_
                          refine sr_put G (vv_20 hn) rfl ku_R rfl 15 (by decide) t_R ty_R nm_R kf_R_102 rfl rfl (ty := .int) (by decide +kernel) rfl rfl (Nat.le_of_ble_eq_true rfl) rfl d_R_send_315 ?_
                          refine sr_iload G rfl d_R_send_318 ?_
                          refine sr_iret G d_R_send_320 ?_
                          unfold f_R_send
                          rw [if_pos h5, if_pos h12, if_neg h21, if_neg h31, if_neg h44, if_neg h56, if_neg h68, if_pos h89, if_pos h103, if_pos h115, if_pos h128, if_neg h140]
                          exact ⟨rfl, rfl⟩
                        · skip
                          refine sr_bipush G (v := (-10)) (by decide) d_R_send_143 ?_
                          refine sr_iret G d_R_send_145 ?_
                          unfold f_R_send
                          rw [if_pos h5, if_pos h12, if_neg h21, if_neg h31, if_neg h44, if_neg h56, if_neg h68, if_pos h89, if_pos h103, if_pos h115, if_pos h128, if_pos h140]
                          exact ⟨rfl, rfl⟩
                      · skip
                        refine sr_bipush G (v := (-7)) (by decide) d_R_send_131 ?_
                        refine sr_iret G d_R_send_133 ?_
                        unfold f_R_send
                        rw [if_pos h5, if_pos h12, if_neg h21, if_neg h31, if_neg h44, if_neg h56, if_neg h68, if_pos h89, if_pos h103, if_pos h115, if_neg h128]
                        exact ⟨rfl, rfl⟩
                    · skip
                      refine sr_bipush G (v := (-4)) (by decide) d_R_send_118 ?_
                      refine sr_iret G d_R_send_120 ?_
                      unfold f_R_send
                      rw [if_pos h5, if_pos h12, if_neg h21, if_neg h31, if_neg h44, if_neg h56, if_neg h68, if_pos h89, if_pos h103, if_neg h115]
                      exact ⟨rfl, rfl⟩
                  · skip
                    refine sr_bipush G (v := (-3)) (by decide) d_R_send_106 ?_
                    refine sr_iret G d_R_send_108 ?_
                    unfold f_R_send
                    rw [if_pos h5, if_pos h12, if_neg h21, if_neg h31, if_neg h44, if_neg h56, if_neg h68, if_pos h89, if_neg h103]
                    exact ⟨rfl, rfl⟩
              · skip
                refine sr_bipush G (v := (-2)) (by decide) d_R_send_71 ?_
                refine sr_iret G d_R_send_73 ?_
                unfold f_R_send
                rw [if_pos h5, if_pos h12, if_neg h21, if_neg h31, if_neg h44, if_neg h56, if_pos h68]
                exact ⟨rfl, rfl⟩
        · skip
          refine sr_iconst G (v := (-1)) (by decide) d_R_send_34 ?_
          refine sr_iret G d_R_send_35 ?_
          unfold f_R_send
          rw [if_pos h5, if_pos h12, if_neg h21, if_pos h31]
          exact ⟨rfl, rfl⟩
def g_R_isBehind (M : Mem) (x1 x2 : Int32) (j : Nat) (ACC : Int32) : Int32 := (if (M 21 14 (Int32.toNatClampNeg (nI j))) = (M 21 14 (Int32.toNatClampNeg x1)) then (if (M 21 15 (Int32.toNatClampNeg (nI j))) = (M 21 15 (Int32.toNatClampNeg x1)) then (if ACC = 0 then (if x2 = 0 then (if (M 21 25 (Int32.toNatClampNeg (nI j))) = 0 then 1 else 0) else (if (M 21 22 (Int32.toNatClampNeg (nI j))) = 0 then 0 else 1)) else 1) else (if ACC = 0 then 0 else 1)) else (if ACC = 0 then 0 else 1))
theorem eg_R_isBehind (M : Mem) (x1 x2 : Int32) (j : Nat) (ACC : Int32) : g_R_isBehind M x1 x2 j ACC = (if (M 21 14 (Int32.toNatClampNeg (nI j))) = (M 21 14 (Int32.toNatClampNeg x1)) then (if (M 21 15 (Int32.toNatClampNeg (nI j))) = (M 21 15 (Int32.toNatClampNeg x1)) then (if ACC = 0 then (if x2 = 0 then (if (M 21 25 (Int32.toNatClampNeg (nI j))) = 0 then 1 else 0) else (if (M 21 22 (Int32.toNatClampNeg (nI j))) = 0 then 0 else 1)) else 1) else (if ACC = 0 then 0 else 1)) else (if ACC = 0 then 0 else 1)) := rfl
theorem nb_isBehind (M : Mem) (x1 x2 : Int32) (k : Nat) : narrow .boolean (.int (fd_ (g_R_isBehind M x1 x2) 0 k)) = .int (fd_ (g_R_isBehind M x1 x2) 0 k) := by
  refine nb_fd (fun j a => ?_) k
  unfold g_R_isBehind
  repeat' split
  all_goals first | exact Or.inl rfl | exact Or.inr rfl
def f_R_isBehind (M : Mem) (x1 : Int32) (x2 : Int32) : Int32 := (fd_ (g_R_isBehind M x1 x2) 0 (Int32.toNatClampNeg x1))
set_option maxHeartbeats 4000000 in
set_option maxRecDepth 100000 in
theorem c_R_isBehind {l : Launch} {D : va_G} {t6 : Nat → ClassId} {b n : Nat} (hn : 133 ≤ n) {M : Mem} {x1 : Int32} {x2 : Int32} (v1 : vp_in x1 60) : CI l D t6 b n y_R_isBehind cd_R_isBehind 6 .boolean (rk 0 0) [.ref (ad b 20 0), .int x1, .int x2] M (f_R_isBehind M x1 x2) M := by
  refine en_i (by decide) (by simp [Value.category]) (Nat.le_of_ble_eq_true rfl) (fun p e s m below meth c G => ?_)
  have i1 := ix_lt v1
  obtain ⟨eL, hL⟩ := in_nI v1 (by decide)
  refine sr_iconst G (v := 0) (by decide) d_R_isBehind_0 ?_
  refine sr_istore_n G (by decide) d_R_isBehind_1 ?_
  refine sr_iconst G (v := (nI 0)) (by decide) d_R_isBehind_2 ?_
  refine sr_istore G (by decide) d_R_isBehind_3 ?_
  refine sr_loop (Int32.toNatClampNeg x1) (fun j => M) (fun j => [some (.ref (ad b 20 0)), some (.int x1), some (.int x2), some (.int (fd_ (g_R_isBehind M x1 x2) 0 j)), some (.int (nI j)), none]) (fun _ => True) 0 (Nat.zero_le _) trivial rfl rfl (fun j hj0 hj hi ih => ?_) (fun hi => ?_)
  · skip
    have ij : (nI j).toNatClampNeg = j := nI_clamp (by omega)
    refine sr_iload G rfl d_R_isBehind_5 ?_
    refine sr_iload_n G rfl d_R_isBehind_7 ?_
    refine sr_icmp_ge G 98 d_R_isBehind_8 rfl (fun h => absurd h (by rw [eL]; exact nI_ge hj (by omega))) (fun _ => ?_)
    refine sr_aload_n G rfl d_R_isBehind_11 ?_
    refine sr_get G (vv_20 hn) rfl ku_R rfl 16 (by decide) kf_R_53 rfl rfl d_R_isBehind_12 ?_
    refine sr_iload G rfl d_R_isBehind_15 ?_
    refine sr_iald G (vv_21 hn (by decide)) rfl (vp_in_nI (N := 60) (by omega) (by decide)) d_R_isBehind_17 ?_
    refine sr_aload_n G rfl d_R_isBehind_18 ?_
    refine sr_get G (vv_20 hn) rfl ku_R rfl 16 (by decide) kf_R_53 rfl rfl d_R_isBehind_19 ?_
    refine sr_iload_n G rfl d_R_isBehind_22 ?_
    refine sr_iald G (vv_21 hn (by decide)) rfl (by assumption) d_R_isBehind_23 ?_
    refine sr_icmp_ne G 47 d_R_isBehind_24 rfl (fun h24 => ?_) (fun h24 => ?_)
    · skip
      refine sr_iconst G (v := 0) (by decide) d_R_isBehind_47 ?_
      refine sr_istore G (by decide) d_R_isBehind_48 ?_
      refine sr_iload_n G rfl d_R_isBehind_50 ?_
      refine sr_if_ne G 86 d_R_isBehind_51 rfl (fun h51 => ?_) (fun h51 => ?_)
      · skip
        refine sr_iconst G (v := 1) (by decide) d_R_isBehind_86 ?_
        refine sr_goto G 91 d_R_isBehind_87 rfl ?_
        refine sr_istore_n G (by decide) d_R_isBehind_91 ?_
        refine sr_iinc G (v := nI (j + 1)) rfl (nI_1 j) (by decide) d_R_isBehind_92 ?_
        refine sr_goto G 5 d_R_isBehind_95 rfl ?_
        refine sr_dropL 5 ?_
        have e9 : fd_ (g_R_isBehind M x1 x2) 0 (j + 1) = 1 := by
          show g_R_isBehind M x1 x2 j (fd_ (g_R_isBehind M x1 x2) 0 j) = _
          rw [eg_R_isBehind, if_neg h24, if_neg h51]
        have ih9 := ih trivial
        try dsimp only at ih9
        rw [e9] at ih9
        exact ih9
      · skip
        refine sr_iload G rfl d_R_isBehind_54 ?_
        refine sr_if_eq G 90 d_R_isBehind_56 rfl (fun _ => ?_) (fun h => absurd (by decide) h)
        refine sr_iconst G (v := 0) (by decide) d_R_isBehind_90 ?_
        refine sr_istore_n G (by decide) d_R_isBehind_91 ?_
        refine sr_iinc G (v := nI (j + 1)) rfl (nI_1 j) (by decide) d_R_isBehind_92 ?_
        refine sr_goto G 5 d_R_isBehind_95 rfl ?_
        refine sr_dropL 5 ?_
        have e9 : fd_ (g_R_isBehind M x1 x2) 0 (j + 1) = 0 := by
          show g_R_isBehind M x1 x2 j (fd_ (g_R_isBehind M x1 x2) 0 j) = _
          rw [eg_R_isBehind, if_neg h24, if_pos h51]
        have ih9 := ih trivial
        try dsimp only at ih9
        rw [e9] at ih9
        exact ih9
    · skip
      refine sr_aload_n G rfl d_R_isBehind_27 ?_
      refine sr_get G (vv_20 hn) rfl ku_R rfl 17 (by decide) kf_R_56 rfl rfl d_R_isBehind_28 ?_
      refine sr_iload G rfl d_R_isBehind_31 ?_
      refine sr_iald G (vv_21 hn (by decide)) rfl (vp_in_nI (N := 60) (by omega) (by decide)) d_R_isBehind_33 ?_
      refine sr_aload_n G rfl d_R_isBehind_34 ?_
      refine sr_get G (vv_20 hn) rfl ku_R rfl 17 (by decide) kf_R_56 rfl rfl d_R_isBehind_35 ?_
      refine sr_iload_n G rfl d_R_isBehind_38 ?_
      refine sr_iald G (vv_21 hn (by decide)) rfl (by assumption) d_R_isBehind_39 ?_
      refine sr_icmp_ne G 47 d_R_isBehind_40 rfl (fun h40 => ?_) (fun h40 => ?_)
      · skip
        refine sr_iconst G (v := 0) (by decide) d_R_isBehind_47 ?_
        refine sr_istore G (by decide) d_R_isBehind_48 ?_
        refine sr_iload_n G rfl d_R_isBehind_50 ?_
        refine sr_if_ne G 86 d_R_isBehind_51 rfl (fun h51 => ?_) (fun h51 => ?_)
        · skip
          refine sr_iconst G (v := 1) (by decide) d_R_isBehind_86 ?_
          refine sr_goto G 91 d_R_isBehind_87 rfl ?_
          refine sr_istore_n G (by decide) d_R_isBehind_91 ?_
          refine sr_iinc G (v := nI (j + 1)) rfl (nI_1 j) (by decide) d_R_isBehind_92 ?_
          refine sr_goto G 5 d_R_isBehind_95 rfl ?_
          refine sr_dropL 5 ?_
          have e9 : fd_ (g_R_isBehind M x1 x2) 0 (j + 1) = 1 := by
            show g_R_isBehind M x1 x2 j (fd_ (g_R_isBehind M x1 x2) 0 j) = _
            rw [eg_R_isBehind, if_pos h24, if_neg h40, if_neg h51]
          have ih9 := ih trivial
          try dsimp only at ih9
          rw [e9] at ih9
          exact ih9
        · skip
          refine sr_iload G rfl d_R_isBehind_54 ?_
          refine sr_if_eq G 90 d_R_isBehind_56 rfl (fun _ => ?_) (fun h => absurd (by decide) h)
          refine sr_iconst G (v := 0) (by decide) d_R_isBehind_90 ?_
          refine sr_istore_n G (by decide) d_R_isBehind_91 ?_
          refine sr_iinc G (v := nI (j + 1)) rfl (nI_1 j) (by decide) d_R_isBehind_92 ?_
          refine sr_goto G 5 d_R_isBehind_95 rfl ?_
          refine sr_dropL 5 ?_
          have e9 : fd_ (g_R_isBehind M x1 x2) 0 (j + 1) = 0 := by
            show g_R_isBehind M x1 x2 j (fd_ (g_R_isBehind M x1 x2) 0 j) = _
            rw [eg_R_isBehind, if_pos h24, if_neg h40, if_pos h51]
          have ih9 := ih trivial
          try dsimp only at ih9
          rw [e9] at ih9
          exact ih9
      · skip
        refine sr_iconst G (v := 1) (by decide) d_R_isBehind_43 ?_
        refine sr_goto G 48 d_R_isBehind_44 rfl ?_
        refine sr_istore G (by decide) d_R_isBehind_48 ?_
        refine sr_iload_n G rfl d_R_isBehind_50 ?_
        refine sr_if_ne G 86 d_R_isBehind_51 rfl (fun h51 => ?_) (fun h51 => ?_)
        · skip
          refine sr_iconst G (v := 1) (by decide) d_R_isBehind_86 ?_
          refine sr_goto G 91 d_R_isBehind_87 rfl ?_
          refine sr_istore_n G (by decide) d_R_isBehind_91 ?_
          refine sr_iinc G (v := nI (j + 1)) rfl (nI_1 j) (by decide) d_R_isBehind_92 ?_
          refine sr_goto G 5 d_R_isBehind_95 rfl ?_
          refine sr_dropL 5 ?_
          have e9 : fd_ (g_R_isBehind M x1 x2) 0 (j + 1) = 1 := by
            show g_R_isBehind M x1 x2 j (fd_ (g_R_isBehind M x1 x2) 0 j) = _
            rw [eg_R_isBehind, if_pos h24, if_pos h40, if_neg h51]
          have ih9 := ih trivial
          try dsimp only at ih9
          rw [e9] at ih9
          exact ih9
        · skip
          refine sr_iload G rfl d_R_isBehind_54 ?_
          refine sr_if_eq G 90 d_R_isBehind_56 rfl (fun h => absurd h (by decide)) (fun _ => ?_)
          refine sr_iload_n G rfl d_R_isBehind_59 ?_
          refine sr_if_eq G 76 d_R_isBehind_60 rfl (fun h60 => ?_) (fun h60 => ?_)
          · skip
            refine sr_aload_n G rfl d_R_isBehind_76 ?_
            refine sr_get G (vv_20 hn) rfl ku_R rfl 27 (by decide) kf_R_86 rfl rfl d_R_isBehind_77 ?_
            refine sr_iload G rfl d_R_isBehind_80 ?_
            refine sr_iald G (vv_21 hn (by decide)) rfl (vp_in_nI (N := 60) (by omega) (by decide)) d_R_isBehind_82 ?_
            refine sr_if_ne G 90 d_R_isBehind_83 rfl (fun h83 => ?_) (fun h83 => ?_)
            · skip
              refine sr_iconst G (v := 0) (by decide) d_R_isBehind_90 ?_
              refine sr_istore_n G (by decide) d_R_isBehind_91 ?_
              refine sr_iinc G (v := nI (j + 1)) rfl (nI_1 j) (by decide) d_R_isBehind_92 ?_
              refine sr_goto G 5 d_R_isBehind_95 rfl ?_
              refine sr_dropL 5 ?_
              have e9 : fd_ (g_R_isBehind M x1 x2) 0 (j + 1) = 0 := by
                show g_R_isBehind M x1 x2 j (fd_ (g_R_isBehind M x1 x2) 0 j) = _
                rw [eg_R_isBehind, if_pos h24, if_pos h40, if_pos h51, if_pos h60, if_neg h83]
              have ih9 := ih trivial
              try dsimp only at ih9
              rw [e9] at ih9
              exact ih9
            · skip
              refine sr_iconst G (v := 1) (by decide) d_R_isBehind_86 ?_
              refine sr_goto G 91 d_R_isBehind_87 rfl ?_
              refine sr_istore_n G (by decide) d_R_isBehind_91 ?_
              refine sr_iinc G (v := nI (j + 1)) rfl (nI_1 j) (by decide) d_R_isBehind_92 ?_
              refine sr_goto G 5 d_R_isBehind_95 rfl ?_
              refine sr_dropL 5 ?_
              have e9 : fd_ (g_R_isBehind M x1 x2) 0 (j + 1) = 1 := by
                show g_R_isBehind M x1 x2 j (fd_ (g_R_isBehind M x1 x2) 0 j) = _
                rw [eg_R_isBehind, if_pos h24, if_pos h40, if_pos h51, if_pos h60, if_pos h83]
              have ih9 := ih trivial
              try dsimp only at ih9
              rw [e9] at ih9
              exact ih9
          · skip
            refine sr_aload_n G rfl d_R_isBehind_63 ?_
            refine sr_get G (vv_20 hn) rfl ku_R rfl 24 (by decide) kf_R_77 rfl rfl d_R_isBehind_64 ?_
            refine sr_iload G rfl d_R_isBehind_67 ?_
            refine sr_zald G (vv_21 hn (by decide)) rfl (vp_in_nI (N := 60) (by omega) (by decide)) d_R_isBehind_69 ?_
            refine sr_if_eq G 90 d_R_isBehind_70 rfl (fun h70 => ?_) (fun h70 => ?_)
            · skip
              refine sr_iconst G (v := 0) (by decide) d_R_isBehind_90 ?_
              refine sr_istore_n G (by decide) d_R_isBehind_91 ?_
              refine sr_iinc G (v := nI (j + 1)) rfl (nI_1 j) (by decide) d_R_isBehind_92 ?_
              refine sr_goto G 5 d_R_isBehind_95 rfl ?_
              refine sr_dropL 5 ?_
              have e9 : fd_ (g_R_isBehind M x1 x2) 0 (j + 1) = 0 := by
                show g_R_isBehind M x1 x2 j (fd_ (g_R_isBehind M x1 x2) 0 j) = _
                rw [eg_R_isBehind, if_pos h24, if_pos h40, if_pos h51, if_neg h60, if_pos h70]
              have ih9 := ih trivial
              try dsimp only at ih9
              rw [e9] at ih9
              exact ih9
            · skip
              refine sr_goto G 86 d_R_isBehind_73 rfl ?_
              refine sr_iconst G (v := 1) (by decide) d_R_isBehind_86 ?_
              refine sr_goto G 91 d_R_isBehind_87 rfl ?_
              refine sr_istore_n G (by decide) d_R_isBehind_91 ?_
              refine sr_iinc G (v := nI (j + 1)) rfl (nI_1 j) (by decide) d_R_isBehind_92 ?_
              refine sr_goto G 5 d_R_isBehind_95 rfl ?_
              refine sr_dropL 5 ?_
              have e9 : fd_ (g_R_isBehind M x1 x2) 0 (j + 1) = 1 := by
                show g_R_isBehind M x1 x2 j (fd_ (g_R_isBehind M x1 x2) 0 j) = _
                rw [eg_R_isBehind, if_pos h24, if_pos h40, if_pos h51, if_neg h60, if_neg h70]
              have ih9 := ih trivial
              try dsimp only at ih9
              rw [e9] at ih9
              exact ih9
  · skip
    refine sr_iload G rfl d_R_isBehind_5 ?_
    refine sr_iload_n G rfl d_R_isBehind_7 ?_
    refine sr_icmp_ge G 98 d_R_isBehind_8 rfl (fun _ => ?_) (fun h => absurd (by rw [eL, nI_clamp (by omega)]; exact nI_le (Nat.le_refl _) (by omega)) h)
    refine sr_iload_n G rfl d_R_isBehind_98 ?_
    refine sr_zret G (nb_isBehind M x1 x2 _) d_R_isBehind_99 ?_
    unfold f_R_isBehind
    exact ⟨rfl, rfl⟩
def f_R_finish (M : Mem) (x1 : Int32) (x2 : Int32) : Mem := (if x2 = 0 then (u3 (u3 M 21 22 (Int32.toNatClampNeg x1) 0) 21 24 (Int32.toNatClampNeg x1) (((u3 M 21 22 (Int32.toNatClampNeg x1) 0) 21 0 (Int32.toNatClampNeg (M 21 15 (Int32.toNatClampNeg x1)))) + 1)) else (u3 (f_R_give (u3 (u3 M 21 22 (Int32.toNatClampNeg x1) 0) 21 24 (Int32.toNatClampNeg x1) (((u3 M 21 22 (Int32.toNatClampNeg x1) 0) 21 0 (Int32.toNatClampNeg (M 21 15 (Int32.toNatClampNeg x1)))) + 1)) ((2 * ((u3 (u3 M 21 22 (Int32.toNatClampNeg x1) 0) 21 24 (Int32.toNatClampNeg x1) (((u3 M 21 22 (Int32.toNatClampNeg x1) 0) 21 0 (Int32.toNatClampNeg (M 21 15 (Int32.toNatClampNeg x1)))) + 1)) 21 14 (Int32.toNatClampNeg x1))) + (M 21 15 (Int32.toNatClampNeg x1))) ((u3 (u3 M 21 22 (Int32.toNatClampNeg x1) 0) 21 24 (Int32.toNatClampNeg x1) (((u3 M 21 22 (Int32.toNatClampNeg x1) 0) 21 0 (Int32.toNatClampNeg (M 21 15 (Int32.toNatClampNeg x1)))) + 1)) 21 19 (Int32.toNatClampNeg x1)) ((u3 (u3 M 21 22 (Int32.toNatClampNeg x1) 0) 21 24 (Int32.toNatClampNeg x1) (((u3 M 21 22 (Int32.toNatClampNeg x1) 0) 21 0 (Int32.toNatClampNeg (M 21 15 (Int32.toNatClampNeg x1)))) + 1)) 21 18 (Int32.toNatClampNeg x1)) ((u3 (u3 M 21 22 (Int32.toNatClampNeg x1) 0) 21 24 (Int32.toNatClampNeg x1) (((u3 M 21 22 (Int32.toNatClampNeg x1) 0) 21 0 (Int32.toNatClampNeg (M 21 15 (Int32.toNatClampNeg x1)))) + 1)) 21 17 (Int32.toNatClampNeg x1))) 21 27 (Int32.toNatClampNeg x1) 1))
set_option maxHeartbeats 4000000 in
set_option maxRecDepth 100000 in
theorem c_R_finish {l : Launch} {D : va_G} {t6 : Nat → ClassId} {b n : Nat} (hn : 133 ≤ n) {M : Mem} {x1 : Int32} {x2 : Int32} (v1 : vp_in x1 60) (hI : ri_ M) : CV l D t6 b n y_R_finish cd_R_finish 4  (rk 1 25) [.ref (ad b 20 0), .int x1, .int x2] M (f_R_finish M x1 x2) := by
  refine en_v (by decide) (by simp [Value.category]) (Nat.le_of_ble_eq_true rfl) (fun p e s m below meth c G => ?_)
  have i1 := ix_lt v1
  obtain ⟨s0, s1, s2, s3⟩ := ri_mg hI i1
  have s4 := ix_lt s1
  refine sr_aload_n G rfl d_R_finish_0 ?_
  refine sr_get G (vv_20 hn) rfl ku_R rfl 17 (by decide) kf_R_56 rfl rfl d_R_finish_1 ?_
  refine sr_iload_n G rfl d_R_finish_4 ?_
  refine sr_iald G (vv_21 hn (by decide)) rfl (by assumption) d_R_finish_5 ?_
  refine sr_istore_n G (by decide) d_R_finish_6 ?_
  refine sr_aload_n G rfl d_R_finish_7 ?_
  refine sr_get G (vv_20 hn) rfl ku_R rfl 24 (by decide) kf_R_77 rfl rfl d_R_finish_8 ?_
  refine sr_iload_n G rfl d_R_finish_11 ?_
  refine sr_iconst G (v := 0) (by decide) d_R_finish_12 ?_
  refine sr_zast G (vv_21 hn (by decide)) (fun _ => rfl) (by decide) (by assumption) d_R_finish_13 ?_
  refine sr_aload_n G rfl d_R_finish_14 ?_
  refine sr_get G (vv_20 hn) rfl ku_R rfl 26 (by decide) kf_R_83 rfl rfl d_R_finish_15 ?_
  refine sr_iload_n G rfl d_R_finish_18 ?_
  refine sr_aload_n G rfl d_R_finish_19 ?_
  refine sr_get G (vv_20 hn) rfl ku_R rfl 0 (by decide) kf_R_7 rfl rfl d_R_finish_20 ?_
  refine sr_iload_n G rfl d_R_finish_23 ?_
  refine sr_iald G (vv_21 hn (by decide)) rfl (by assumption) d_R_finish_24 ?_
  refine sr_iconst G (v := 1) (by decide) d_R_finish_25 ?_
  refine sr_iadd G d_R_finish_26 ?_
  refine sr_iast G (vv_21 hn (by decide)) (fun _ => rfl) (by assumption) d_R_finish_27 ?_
  refine sr_iload_n G rfl d_R_finish_28 ?_
  refine sr_if_eq G 71 d_R_finish_29 rfl (fun h29 => ?_) (fun h29 => ?_)
  · skip
    refine sr_vret G d_R_finish_71 ?_
    unfold f_R_finish
    rw [if_pos h29]
    try rfl
  · skip
    refine sr_aload_n G rfl d_R_finish_32 ?_
    refine sr_iconst G (v := 2) (by decide) d_R_finish_33 ?_
    refine sr_aload_n G rfl d_R_finish_34 ?_
    refine sr_get G (vv_20 hn) rfl ku_R rfl 16 (by decide) kf_R_53 rfl rfl d_R_finish_35 ?_
    refine sr_iload_n G rfl d_R_finish_38 ?_
    have hI2 : ri_ (u3 (u3 M 21 22 (Int32.toNatClampNeg x1) 0) 21 24 (Int32.toNatClampNeg x1) (((u3 M 21 22 (Int32.toNatClampNeg x1) 0) 21 0 (Int32.toNatClampNeg (M 21 15 (Int32.toNatClampNeg x1)))) + 1)) := ri_u3 (ri_u3 hI _ (by decide) (by omega)) _ (by decide) (by omega)
    obtain ⟨t0, t1, t2, t3⟩ := ri_mg hI2 i1
    have ve := in_e t0 s1
    refine sr_iald G (vv_21 hn (by decide)) rfl (by assumption) d_R_finish_39 ?_
    refine sr_imul G d_R_finish_40 ?_
    refine sr_iload_n G rfl d_R_finish_41 ?_
    refine sr_iadd G d_R_finish_42 ?_
    refine sr_aload_n G rfl d_R_finish_43 ?_
    refine sr_get G (vv_20 hn) rfl ku_R rfl 21 (by decide) kf_R_68 rfl rfl d_R_finish_44 ?_
    refine sr_iload_n G rfl d_R_finish_47 ?_
    refine sr_iald G (vv_21 hn (by decide)) rfl (by assumption) d_R_finish_48 ?_
    refine sr_aload_n G rfl d_R_finish_49 ?_
    refine sr_get G (vv_20 hn) rfl ku_R rfl 20 (by decide) kf_R_65 rfl rfl d_R_finish_50 ?_
    refine sr_iload_n G rfl d_R_finish_53 ?_
    refine sr_iald G (vv_21 hn (by decide)) rfl (by assumption) d_R_finish_54 ?_
    refine sr_aload_n G rfl d_R_finish_55 ?_
    refine sr_get G (vv_20 hn) rfl ku_R rfl 19 (by decide) kf_R_62 rfl rfl d_R_finish_56 ?_
    refine sr_iload_n G rfl d_R_finish_59 ?_
    refine sr_iald G (vv_21 hn (by decide)) rfl (by assumption) d_R_finish_60 ?_
    refine sr_cvv G (vv_20 hn) rfl rfl ki_R_give kx_R_give (c_R_give hn (by first | assumption | omega | decide | (unfold vp_in; decide)) (by first | assumption | omega | decide | (unfold vp_in; decide))) kc_R_give km_R_148 kn_R yy_R_give rfl ⟨rfl, rfl, by decide, by decide⟩ (Nat.le_of_ble_eq_true rfl) rfl d_R_finish_61 ?_
    refine sr_aload_n G rfl d_R_finish_64 ?_
    refine sr_get G (vv_20 hn) rfl ku_R rfl 29 (by decide) kf_R_92 rfl rfl d_R_finish_65 ?_
    refine sr_iload_n G rfl d_R_finish_68 ?_
    refine sr_iconst G (v := 1) (by decide) d_R_finish_69 ?_
    refine sr_zast G (vv_21 hn (by decide)) (fun _ => rfl) (by decide) (by assumption) d_R_finish_70 ?_
    refine sr_vret G d_R_finish_71 ?_
    unfold f_R_finish
    rw [if_neg h29]
    try rfl
theorem ri_fin {M : Mem} {x1 x2 : Int32} (h : ri_ M) : ri_ (f_R_finish M x1 x2) := by
  unfold f_R_finish
  have h2 : ∀ v, ri_ (u3 (u3 M 21 22 (Int32.toNatClampNeg x1) 0) 21 24 (Int32.toNatClampNeg x1) v) := fun v => ri_u3 (ri_u3 h _ (by decide) (by omega)) _ (by decide) (by omega)
  split
  · exact h2 _
  · exact ri_u3 (ri_give (h2 _)) _ (by decide) (by omega)
