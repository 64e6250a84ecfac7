theorem u3_self (M : Mem) (k i j : Nat) (v : Int32) : u3 M k i j v k i j = v := if_pos ⟨rfl, rfl, rfl⟩
theorem in_h1 {x : Int32} (h : vp_in x 201) (hne : ¬ x = 200) : vp_in (x + 1) 201 := by
  obtain ⟨j, hj, rfl⟩ := vp_in_of h (by decide)
  have : ¬ j = 200 := fun q => hne (by rw [q]; rfl)
  rw [nI_1]
  exact vp_in_nI (by omega) (by decide)
theorem in_l60R {M : Mem} (hI : ri_ M) (h : ¬ M 20 0 15 = 60) : vp_in (M 20 0 15) 60 := by
  obtain ⟨e, hk⟩ := ri_ml hI
  have : ¬ Int32.toNatClampNeg (M 20 0 15) = 60 := fun q => h (by rw [e, q]; rfl)
  rw [e]
  exact vp_in_nI (by omega) (by decide)
theorem in_l4R {M : Mem} (hI : ri_ M) (h : ¬ M 20 0 3 = 4) : vp_in (M 20 0 3) 4 := by
  obtain ⟨e, hk⟩ := ri_cl hI
  have : ¬ Int32.toNatClampNeg (M 20 0 3) = 4 := fun q => h (by rw [e, q]; rfl)
  rw [e]
  exact vp_in_nI (by omega) (by decide)
theorem in_lt4 {x : Int32} (h : vp_in x 8) (h4 : ¬ 4 ≤ x) : vp_in x 4 := by
  obtain ⟨j, hj, rfl⟩ := vp_in_of h (by decide)
  have : j < 4 := by
    rcases Nat.lt_or_ge j 4 with q | q
    · exact q
    · exact absurd (nI_le (a := 4) (b := j) q (by omega)) h4
  exact vp_in_nI this (by decide)
theorem nb_fd {g : Nat → Int32 → Int32} (h : ∀ j a, g j a = 0 ∨ g j a = 1) : ∀ k, narrow .boolean (.int (fd_ g 0 k)) = .int (fd_ g 0 k)
  | 0 => (show narrow .boolean (.int 0) = .int 0 by decide)
  | k + 1 => by
    show narrow .boolean (.int (g k (fd_ g 0 k))) = .int (g k (fd_ g 0 k))
    rcases h k (fd_ g 0 k) with q | q <;> (rw [q]; decide)
def g_R_tick (x1 H : Int32) (j : Nat) (N : Mem) : Mem := u3 N 21 11 (Int32.toNatClampNeg (201 * (2 * nI j + x1) + H)) (N 21 5 (Int32.toNatClampNeg (2 * nI j + x1)))
def f_R_forget (M : Mem) (x1 : Int32) : Mem := (fo_ (u3 M 21 2 (Int32.toNatClampNeg x1) 0) 1 (201 * Int32.toNatClampNeg x1) 201 (-1))
set_option maxHeartbeats 4000000 in
set_option maxRecDepth 100000 in
theorem c_R_forget {l : Launch} {D : va_G} {t6 : Nat → ClassId} {b n : Nat} (hn : 133 ≤ n) {M : Mem} {x1 : Int32} (v1 : vp_in x1 2) : CV l D t6 b n y_R_forget cd_R_forget 3  (rk 0 0) [.ref (ad b 20 0), .int x1] M (f_R_forget M x1) := by
  refine en_v (by decide) (by simp [Value.category]) (Nat.le_of_ble_eq_true rfl) (fun p e s m below meth c G => ?_)
  have i1 := ix_lt v1
  refine sr_aload_n G rfl d_R_forget_0 ?_
  refine sr_get G (vv_20 hn) rfl ku_R rfl 2 (by decide) kf_R_16 rfl rfl d_R_forget_1 ?_
  refine sr_iload_n G rfl d_R_forget_4 ?_
  refine sr_iconst G (v := 0) (by decide) d_R_forget_5 ?_
  refine sr_zast G (vv_21 hn (by decide)) (fun _ => rfl) (by decide) (by assumption) d_R_forget_6 ?_
  refine sr_iconst G (v := (nI 0)) (by decide) d_R_forget_7 ?_
  refine sr_istore_n G (by decide) d_R_forget_8 ?_
  refine sr_loop 201 (fun j => fo_ (u3 M 21 2 (Int32.toNatClampNeg x1) 0) 1 (201 * Int32.toNatClampNeg x1) j (-1)) (fun j => [some (.ref (ad b 20 0)), some (.int x1), some (.int (nI j))]) (fun _ => True) 0 (Nat.zero_le _) trivial (fo_0 _ _ _ _) rfl (fun j hj0 hj hi ih => ?_) (fun hi => ?_)
  · skip
    have ij : (nI j).toNatClampNeg = j := nI_clamp (by omega)
    refine sr_iload_n G rfl d_R_forget_9 ?_
    refine sr_sipush G (v := 200) (by decide) d_R_forget_10 ?_
    refine sr_icmp_gt G 35 d_R_forget_13 rfl (fun h => absurd h (nI_nlt (a := 200) (b := j) (by omega) (by decide))) (fun _ => ?_)
    refine sr_aload_n G rfl d_R_forget_16 ?_
    refine sr_get G (vv_20 hn) rfl ku_R rfl 1 (by decide) kf_R_13 rfl rfl d_R_forget_17 ?_
    refine sr_sipush G (v := 201) (by decide) d_R_forget_20 ?_
    refine sr_iload_n G rfl d_R_forget_23 ?_
    refine sr_imul G d_R_forget_24 ?_
    refine sr_iload_n G rfl d_R_forget_25 ?_
    refine sr_iadd G d_R_forget_26 ?_
    refine sr_iconst G (v := (-1)) (by decide) d_R_forget_27 ?_
    refine sr_iast G (vv_21 hn (by decide)) (fun _ => rfl) (in_h (by assumption) (vp_in_nI (by omega) (by decide))) d_R_forget_28 ?_
    refine sr_iinc G (v := nI (j + 1)) rfl (nI_1 j) (by decide) d_R_forget_29 ?_
    refine sr_goto G 9 d_R_forget_32 rfl ?_
    refine sr_eqM ?_ (ih trivial)
    rw [(ix_h v1 (vp_in_nI (n := j) (N := 201) (by omega) (by decide))).1, nI_clamp (by omega), ij]
    exact fo_s _ _ _ _ _
  · skip
    refine sr_iload_n G rfl d_R_forget_9 ?_
    refine sr_sipush G (v := 200) (by decide) d_R_forget_10 ?_
    refine sr_icmp_gt G 35 d_R_forget_13 rfl (fun _ => ?_) (fun h => absurd (by decide) h)
    refine sr_vret G d_R_forget_35 ?_
    unfold f_R_forget
    rfl
def f_R_begin (M : Mem)  : Mem := (u3 (u3 (u3 (u3 (f_R_forget (u3 (u3 (u3 (u3 (u3 (f_R_forget (u3 (u3 (u3 M 20 0 3 0) 20 0 15 0) 21 0 (Int32.toNatClampNeg 0) 0) 0) 21 12 (Int32.toNatClampNeg ((4 * 0) + 0)) 1000) 21 12 (Int32.toNatClampNeg ((4 * 0) + 1)) 1000) 21 12 (Int32.toNatClampNeg ((4 * 0) + 2)) 1000) 21 12 (Int32.toNatClampNeg ((4 * 0) + 3)) 1000) 21 0 (Int32.toNatClampNeg 1) 0) 1) 21 12 (Int32.toNatClampNeg ((4 * 1) + 0)) 1000) 21 12 (Int32.toNatClampNeg ((4 * 1) + 1)) 1000) 21 12 (Int32.toNatClampNeg ((4 * 1) + 2)) 1000) 21 12 (Int32.toNatClampNeg ((4 * 1) + 3)) 1000)
set_option maxHeartbeats 4000000 in
set_option maxRecDepth 100000 in
theorem c_R_begin {l : Launch} {D : va_G} {t6 : Nat → ClassId} {b n : Nat} (hn : 133 ≤ n) {M : Mem} : CV l D t6 b n y_R_begin cd_R_begin 3  (rk 1 22) [.ref (ad b 20 0)] M (f_R_begin M) := by
  refine en_v (by decide) (by simp [Value.category]) (Nat.le_of_ble_eq_true rfl) (fun p e s m below meth c G => ?_)
  refine sr_aload_n G rfl d_R_begin_0 ?_
  refine sr_iconst G (v := 0) (by decide) d_R_begin_1 ?_
  refine sr_put G (vv_20 hn) rfl ku_R rfl 3 (by decide) t_R ty_R nm_R kf_R_98 rfl rfl (ty := .int) (by decide +kernel) rfl rfl (Nat.le_of_ble_eq_true rfl) rfl d_R_begin_2 ?_
  refine sr_aload_n G rfl d_R_begin_5 ?_
  refine sr_iconst G (v := 0) (by decide) d_R_begin_6 ?_
  refine sr_put G (vv_20 hn) rfl ku_R rfl 15 (by decide) t_R ty_R nm_R kf_R_102 rfl rfl (ty := .int) (by decide +kernel) rfl rfl (Nat.le_of_ble_eq_true rfl) rfl d_R_begin_7 ?_
  refine sr_iconst G (v := 0) (by decide) d_R_begin_10 ?_
  refine sr_istore_n G (by decide) d_R_begin_11 ?_
  refine sr_iload_n G rfl d_R_begin_12 ?_
  refine sr_iconst G (v := 2) (by decide) d_R_begin_13 ?_
  refine sr_icmp_ge G 61 d_R_begin_14 rfl (fun h => absurd h (by decide)) (fun _ => ?_)
  refine sr_aload_n G rfl d_R_begin_17 ?_
  refine sr_get G (vv_20 hn) rfl ku_R rfl 0 (by decide) kf_R_7 rfl rfl d_R_begin_18 ?_
  refine sr_iload_n G rfl d_R_begin_21 ?_
  refine sr_iconst G (v := 0) (by decide) d_R_begin_22 ?_
  refine sr_iast G (vv_21 hn (by decide)) (fun _ => rfl) (by unfold vp_in; decide) d_R_begin_23 ?_
  refine sr_aload_n G rfl d_R_begin_24 ?_
  refine sr_iload_n G rfl d_R_begin_25 ?_
  refine sr_cvv G (vv_20 hn) rfl rfl ki_R_forget kx_R_forget (c_R_forget hn (by first | assumption | omega | decide | (unfold vp_in; decide))) kc_R_forget km_R_105 kn_R yy_R_forget rfl ⟨rfl, rfl, by decide, by decide⟩ (Nat.le_of_ble_eq_true rfl) rfl d_R_begin_26 ?_
  refine sr_iconst G (v := 0) (by decide) d_R_begin_29 ?_
  refine sr_istore_n G (by decide) d_R_begin_30 ?_
  refine sr_iload_n G rfl d_R_begin_31 ?_
  refine sr_iconst G (v := 4) (by decide) d_R_begin_32 ?_
  refine sr_icmp_ge G 55 d_R_begin_33 rfl (fun h => absurd h (by decide)) (fun _ => ?_)
  refine sr_aload_n G rfl d_R_begin_36 ?_
  refine sr_get G (vv_20 hn) rfl ku_R rfl 13 (by decide) kf_R_47 rfl rfl d_R_begin_37 ?_
  refine sr_iconst G (v := 4) (by decide) d_R_begin_40 ?_
  refine sr_iload_n G rfl d_R_begin_41 ?_
  refine sr_imul G d_R_begin_42 ?_
  refine sr_iload_n G rfl d_R_begin_43 ?_
  refine sr_iadd G d_R_begin_44 ?_
  refine sr_sipush G (v := 1000) (by decide) d_R_begin_45 ?_
  refine sr_iast G (vv_21 hn (by decide)) (fun _ => rfl) (by unfold vp_in; decide) d_R_begin_48 ?_
  refine sr_iinc G (v := 1) rfl (by decide) (by decide) d_R_begin_49 ?_
  refine sr_goto G 31 d_R_begin_52 rfl ?_
  refine sr_iload_n G rfl d_R_begin_31 ?_
  refine sr_iconst G (v := 4) (by decide) d_R_begin_32 ?_
  refine sr_icmp_ge G 55 d_R_begin_33 rfl (fun h => absurd h (by decide)) (fun _ => ?_)
  refine sr_aload_n G rfl d_R_begin_36 ?_
  refine sr_get G (vv_20 hn) rfl ku_R rfl 13 (by decide) kf_R_47 rfl rfl d_R_begin_37 ?_
  refine sr_iconst G (v := 4) (by decide) d_R_begin_40 ?_
  refine sr_iload_n G rfl d_R_begin_41 ?_
  refine sr_imul G d_R_begin_42 ?_
  refine sr_iload_n G rfl d_R_begin_43 ?_
  refine sr_iadd G d_R_begin_44 ?_
  refine sr_sipush G (v := 1000) (by decide) d_R_begin_45 ?_
  refine sr_iast G (vv_21 hn (by decide)) (fun _ => rfl) (by unfold vp_in; decide) d_R_begin_48 ?_
  refine sr_iinc G (v := 2) rfl (by decide) (by decide) d_R_begin_49 ?_
  refine sr_goto G 31 d_R_begin_52 rfl ?_
  refine sr_iload_n G rfl d_R_begin_31 ?_
  refine sr_iconst G (v := 4) (by decide) d_R_begin_32 ?_
  refine sr_icmp_ge G 55 d_R_begin_33 rfl (fun h => absurd h (by decide)) (fun _ => ?_)
  refine sr_aload_n G rfl d_R_begin_36 ?_
  refine sr_get G (vv_20 hn) rfl ku_R rfl 13 (by decide) kf_R_47 rfl rfl d_R_begin_37 ?_
  refine sr_iconst G (v := 4) (by decide) d_R_begin_40 ?_
  refine sr_iload_n G rfl d_R_begin_41 ?_
  refine sr_imul G d_R_begin_42 ?_
  refine sr_iload_n G rfl d_R_begin_43 ?_
  refine sr_iadd G d_R_begin_44 ?_
  refine sr_sipush G (v := 1000) (by decide) d_R_begin_45 ?_
  refine sr_iast G (vv_21 hn (by decide)) (fun _ => rfl) (by unfold vp_in; decide) d_R_begin_48 ?_
  refine sr_iinc G (v := 3) rfl (by decide) (by decide) d_R_begin_49 ?_
  refine sr_goto G 31 d_R_begin_52 rfl ?_
  refine sr_iload_n G rfl d_R_begin_31 ?_
  refine sr_iconst G (v := 4) (by decide) d_R_begin_32 ?_
  refine sr_icmp_ge G 55 d_R_begin_33 rfl (fun h => absurd h (by decide)) (fun _ => ?_)
  refine sr_aload_n G rfl d_R_begin_36 ?_
  refine sr_get G (vv_20 hn) rfl ku_R rfl 13 (by decide) kf_R_47 rfl rfl d_R_begin_37 ?_
  refine sr_iconst G (v := 4) (by decide) d_R_begin_40 ?_
  refine sr_iload_n G rfl d_R_begin_41 ?_
  refine sr_imul G d_R_begin_42 ?_
  refine sr_iload_n G rfl d_R_begin_43 ?_
  refine sr_iadd G d_R_begin_44 ?_
  refine sr_sipush G (v := 1000) (by decide) d_R_begin_45 ?_
  refine sr_iast G (vv_21 hn (by decide)) (fun _ => rfl) (by unfold vp_in; decide) d_R_begin_48 ?_
  refine sr_iinc G (v := 4) rfl (by decide) (by decide) d_R_begin_49 ?_
  refine sr_goto G 31 d_R_begin_52 rfl ?_
  refine sr_iload_n G rfl d_R_begin_31 ?_
  refine sr_iconst G (v := 4) (by decide) d_R_begin_32 ?_
  refine sr_icmp_ge G 55 d_R_begin_33 rfl (fun _ => ?_) (fun h => absurd (by decide) h)
  refine sr_iinc G (v := 1) rfl (by decide) (by decide) d_R_begin_55 ?_
  refine sr_goto G 12 d_R_begin_58 rfl ?_
  refine sr_iload_n G rfl d_R_begin_12 ?_
  refine sr_iconst G (v := 2) (by decide) d_R_begin_13 ?_
  refine sr_icmp_ge G 61 d_R_begin_14 rfl (fun h => absurd h (by decide)) (fun _ => ?_)
  refine sr_aload_n G rfl d_R_begin_17 ?_
  refine sr_get G (vv_20 hn) rfl ku_R rfl 0 (by decide) kf_R_7 rfl rfl d_R_begin_18 ?_
  refine sr_iload_n G rfl d_R_begin_21 ?_
  refine sr_iconst G (v := 0) (by decide) d_R_begin_22 ?_
  refine sr_iast G (vv_21 hn (by decide)) (fun _ => rfl) (by unfold vp_in; decide) d_R_begin_23 ?_
  refine sr_aload_n G rfl d_R_begin_24 ?_
  refine sr_iload_n G rfl d_R_begin_25 ?_
  refine sr_cvv G (vv_20 hn) rfl rfl ki_R_forget kx_R_forget (c_R_forget hn (by first | assumption | omega | decide | (unfold vp_in; decide))) kc_R_forget km_R_105 kn_R yy_R_forget rfl ⟨rfl, rfl, by decide, by decide⟩ (Nat.le_of_ble_eq_true rfl) rfl d_R_begin_26 ?_
  refine sr_iconst G (v := 0) (by decide) d_R_begin_29 ?_
  refine sr_istore_n G (by decide) d_R_begin_30 ?_
  refine sr_iload_n G rfl d_R_begin_31 ?_
  refine sr_iconst G (v := 4) (by decide) d_R_begin_32 ?_
  refine sr_icmp_ge G 55 d_R_begin_33 rfl (fun h => absurd h (by decide)) (fun _ => ?_)
  refine sr_aload_n G rfl d_R_begin_36 ?_
  refine sr_get G (vv_20 hn) rfl ku_R rfl 13 (by decide) kf_R_47 rfl rfl d_R_begin_37 ?_
  refine sr_iconst G (v := 4) (by decide) d_R_begin_40 ?_
  refine sr_iload_n G rfl d_R_begin_41 ?_
  refine sr_imul G d_R_begin_42 ?_
  refine sr_iload_n G rfl d_R_begin_43 ?_
  refine sr_iadd G d_R_begin_44 ?_
  refine sr_sipush G (v := 1000) (by decide) d_R_begin_45 ?_
  refine sr_iast G (vv_21 hn (by decide)) (fun _ => rfl) (by unfold vp_in; decide) d_R_begin_48 ?_
  refine sr_iinc G (v := 1) rfl (by decide) (by decide) d_R_begin_49 ?_
  refine sr_goto G 31 d_R_begin_52 rfl ?_
  refine sr_iload_n G rfl d_R_begin_31 ?_
  refine sr_iconst G (v := 4) (by decide) d_R_begin_32 ?_
  refine sr_icmp_ge G 55 d_R_begin_33 rfl (fun h => absurd h (by decide)) (fun _ => ?_)
  refine sr_aload_n G rfl d_R_begin_36 ?_
  refine sr_get G (vv_20 hn) rfl ku_R rfl 13 (by decide) kf_R_47 rfl rfl d_R_begin_37 ?_
  refine sr_iconst G (v := 4) (by decide) d_R_begin_40 ?_
  refine sr_iload_n G rfl d_R_begin_41 ?_
  refine sr_imul G d_R_begin_42 ?_
  refine sr_iload_n G rfl d_R_begin_43 ?_
  refine sr_iadd G d_R_begin_44 ?_
  refine sr_sipush G (v := 1000) (by decide) d_R_begin_45 ?_
  refine sr_iast G (vv_21 hn (by decide)) (fun _ => rfl) (by unfold vp_in; decide) d_R_begin_48 ?_
  refine sr_iinc G (v := 2) rfl (by decide) (by decide) d_R_begin_49 ?_
  refine sr_goto G 31 d_R_begin_52 rfl ?_
  refine sr_iload_n G rfl d_R_begin_31 ?_
  refine sr_iconst G (v := 4) (by decide) d_R_begin_32 ?_
  refine sr_icmp_ge G 55 d_R_begin_33 rfl (fun h => absurd h (by decide)) (fun _ => ?_)
  refine sr_aload_n G rfl d_R_begin_36 ?_
  refine sr_get G (vv_20 hn) rfl ku_R rfl 13 (by decide) kf_R_47 rfl rfl d_R_begin_37 ?_
  refine sr_iconst G (v := 4) (by decide) d_R_begin_40 ?_
  refine sr_iload_n G rfl d_R_begin_41 ?_
  refine sr_imul G d_R_begin_42 ?_
  refine sr_iload_n G rfl d_R_begin_43 ?_
  refine sr_iadd G d_R_begin_44 ?_
  refine sr_sipush G (v := 1000) (by decide) d_R_begin_45 ?_
  refine sr_iast G (vv_21 hn (by decide)) (fun _ => rfl) (by unfold vp_in; decide) d_R_begin_48 ?_
  refine sr_iinc G (v := 3) rfl (by decide) (by decide) d_R_begin_49 ?_
  refine sr_goto G 31 d_R_begin_52 rfl ?_
  refine sr_iload_n G rfl d_R_begin_31 ?_
  refine sr_iconst G (v := 4) (by decide) d_R_begin_32 ?_
  refine sr_icmp_ge G 55 d_R_begin_33 rfl (fun h => absurd h (by decide)) (fun _ => ?_)
  refine sr_aload_n G rfl d_R_begin_36 ?_
  refine sr_get G (vv_20 hn) rfl ku_R rfl 13 (by decide) kf_R_47 rfl rfl d_R_begin_37 ?_
  refine sr_iconst G (v := 4) (by decide) d_R_begin_40 ?_
  refine sr_iload_n G rfl d_R_begin_41 ?_
  refine sr_imul G d_R_begin_42 ?_
  refine sr_iload_n G rfl d_R_begin_43 ?_
  refine sr_iadd G d_R_begin_44 ?_
  refine sr_sipush G (v := 1000) (by decide) d_R_begin_45 ?_
  refine sr_iast G (vv_21 hn (by decide)) (fun _ => rfl) (by unfold vp_in; decide) d_R_begin_48 ?_
  refine sr_iinc G (v := 4) rfl (by decide) (by decide) d_R_begin_49 ?_
  refine sr_goto G 31 d_R_begin_52 rfl ?_
  refine sr_iload_n G rfl d_R_begin_31 ?_
  refine sr_iconst G (v := 4) (by decide) d_R_begin_32 ?_
  refine sr_icmp_ge G 55 d_R_begin_33 rfl (fun _ => ?_) (fun h => absurd (by decide) h)
  refine sr_iinc G (v := 2) rfl (by decide) (by decide) d_R_begin_55 ?_
  refine sr_goto G 12 d_R_begin_58 rfl ?_
  refine sr_iload_n G rfl d_R_begin_12 ?_
  refine sr_iconst G (v := 2) (by decide) d_R_begin_13 ?_
  refine sr_icmp_ge G 61 d_R_begin_14 rfl (fun _ => ?_) (fun h => absurd (by decide) h)
  refine sr_vret G d_R_begin_61 ?_
  unfold f_R_begin
  rfl
def f_R_tick (M : Mem) (x1 : Int32) : Int32 × Mem := (if (f_R_noSide x1) = 0 then (if (M 21 0 (Int32.toNatClampNeg x1)) = 200 then ((-10), M) else (((u3 M 21 0 (Int32.toNatClampNeg x1) ((M 21 0 (Int32.toNatClampNeg x1)) + 1)) 21 0 (Int32.toNatClampNeg x1)), (md_ (g_R_tick x1 ((u3 M 21 0 (Int32.toNatClampNeg x1) ((M 21 0 (Int32.toNatClampNeg x1)) + 1)) 21 0 (Int32.toNatClampNeg x1))) (u3 M 21 0 (Int32.toNatClampNeg x1) ((M 21 0 (Int32.toNatClampNeg x1)) + 1)) (Int32.toNatClampNeg (M 20 0 3))))) else ((-1), M))
set_option maxHeartbeats 4000000 in
set_option maxRecDepth 100000 in
theorem c_R_tick {l : Launch} {D : va_G} {t6 : Nat → ClassId} {b n : Nat} (hn : 133 ≤ n) {M : Mem} {x1 : Int32} (hI : ri_ M) : CI l D t6 b n y_R_tick cd_R_tick 4 .int (rk 1 20) [.ref (ad b 20 0), .int x1] M (f_R_tick M x1).1 (f_R_tick M x1).2 := by
  refine en_i (by decide) (by simp [Value.category]) (Nat.le_of_ble_eq_true rfl) (fun p e s m below meth c G => ?_)
  refine sr_iload_n G rfl d_R_tick_0 ?_
  refine sr_csi G ks_R_noSide (c_R_noSide) kc_R_noSide km_R_109 kn_R yy_R_noSide rfl ⟨rfl, rfl, by decide, by decide⟩ (Nat.le_of_ble_eq_true rfl) rfl d_R_tick_1 ?_
  refine sr_if_eq G 9 d_R_tick_4 rfl (fun h4 => ?_) (fun h4 => ?_)
  · skip
    have v4 : vp_in x1 2 := in_nos h4
    have i4 := ix_lt v4
    have w4 := in_1 v4
    have j4 := ix_lt w4
    refine sr_aload_n G rfl d_R_tick_9 ?_
    refine sr_get G (vv_20 hn) rfl ku_R rfl 0 (by decide) kf_R_7 rfl rfl d_R_tick_10 ?_
    refine sr_iload_n G rfl d_R_tick_13 ?_
    refine sr_iald G (vv_21 hn (by decide)) rfl (by assumption) d_R_tick_14 ?_
    refine sr_sipush G (v := 200) (by decide) d_R_tick_15 ?_
    refine sr_icmp_ne G 24 d_R_tick_18 rfl (fun h18 => ?_) (fun h18 => ?_)
    · skip
      refine sr_aload_n G rfl d_R_tick_24 ?_
      refine sr_get G (vv_20 hn) rfl ku_R rfl 0 (by decide) kf_R_7 rfl rfl d_R_tick_25 ?_
      refine sr_iload_n G rfl d_R_tick_28 ?_
      refine sr_dup2 G rfl rfl d_R_tick_29 ?_
      refine sr_iald G (vv_21 hn (by decide)) rfl (by assumption) d_R_tick_30 ?_
      refine sr_iconst G (v := 1) (by decide) d_R_tick_31 ?_
      refine sr_iadd G d_R_tick_32 ?_
      refine sr_iast G (vv_21 hn (by decide)) (fun _ => rfl) (by assumption) d_R_tick_33 ?_
      refine sr_aload_n G rfl d_R_tick_34 ?_
      refine sr_get G (vv_20 hn) rfl ku_R rfl 0 (by decide) kf_R_7 rfl rfl d_R_tick_35 ?_
      refine sr_iload_n G rfl d_R_tick_38 ?_
      refine sr_iald G (vv_21 hn (by decide)) rfl (by assumption) d_R_tick_39 ?_
      refine sr_istore_n G (by decide) d_R_tick_40 ?_
      have vH : vp_in ((u3 M 21 0 (Int32.toNatClampNeg x1) ((M 21 0 (Int32.toNatClampNeg x1)) + 1)) 21 0 (Int32.toNatClampNeg x1)) 201 := by rw [u3_self]; exact in_h1 (ri_h hI i4) h18
      refine sr_iconst G (v := (nI 0)) (by decide) d_R_tick_41 ?_
      refine sr_istore_n G (by decide) d_R_tick_42 ?_
      obtain ⟨eL, hL⟩ := ri_cl hI
      refine sr_loop (Int32.toNatClampNeg (M 20 0 3)) (fun j => md_ (g_R_tick x1 ((u3 M 21 0 (Int32.toNatClampNeg x1) ((M 21 0 (Int32.toNatClampNeg x1)) + 1)) 21 0 (Int32.toNatClampNeg x1))) (u3 M 21 0 (Int32.toNatClampNeg x1) ((M 21 0 (Int32.toNatClampNeg x1)) + 1)) j) (fun j => [some (.ref (ad b 20 0)), some (.int x1), some (.int ((u3 M 21 0 (Int32.toNatClampNeg x1) ((M 21 0 (Int32.toNatClampNeg x1)) + 1)) 21 0 (Int32.toNatClampNeg x1))), some (.int (nI j))]) (fun _ => True) 0 (Nat.zero_le _) trivial rfl rfl (fun j hj0 hj hi ih => ?_) (fun hi => ?_)
      · skip
        have ij : (nI j).toNatClampNeg = j := nI_clamp (by omega)
        refine sr_iload_n G rfl d_R_tick_43 ?_
        refine sr_aload_n G rfl d_R_tick_44 ?_
        refine sr_get G (vv_20 hn) rfl ku_R rfl 3 (by decide) kf_R_98 rfl rfl d_R_tick_45 ?_
        refine sr_icmp_ge G 83 d_R_tick_48 rfl (fun h => absurd h (by rw [md_keep (g := g_R_tick x1 _) (a := 20) (b := 0) (c := 3) (fun _ _ => rfl)]; show ¬ M 20 0 3 ≤ nI j; rw [eL]; exact nI_ge hj (by omega))) (fun _ => ?_)
        refine sr_aload_n G rfl d_R_tick_51 ?_
        refine sr_get G (vv_20 hn) rfl ku_R rfl 12 (by decide) kf_R_44 rfl rfl d_R_tick_52 ?_
        refine sr_sipush G (v := 201) (by decide) d_R_tick_55 ?_
        refine sr_iconst G (v := 2) (by decide) d_R_tick_58 ?_
        refine sr_iload_n G rfl d_R_tick_59 ?_
        refine sr_imul G d_R_tick_60 ?_
        refine sr_iload_n G rfl d_R_tick_61 ?_
        refine sr_iadd G d_R_tick_62 ?_
        refine sr_imul G d_R_tick_63 ?_
        refine sr_iload_n G rfl d_R_tick_64 ?_
        refine sr_iadd G d_R_tick_65 ?_
        refine sr_aload_n G rfl d_R_tick_66 ?_
        refine sr_get G (vv_20 hn) rfl ku_R rfl 6 (by decide) kf_R_26 rfl rfl d_R_tick_67 ?_
        refine sr_iconst G (v := 2) (by decide) d_R_tick_70 ?_
        refine sr_iload_n G rfl d_R_tick_71 ?_
        refine sr_imul G d_R_tick_72 ?_
        refine sr_iload_n G rfl d_R_tick_73 ?_
        refine sr_iadd G d_R_tick_74 ?_
        refine sr_iald G (vv_21 hn (by decide)) rfl (in_e (vp_in_nI (by omega) (by decide)) (by assumption)) d_R_tick_75 ?_
        refine sr_iast G (vv_21 hn (by decide)) (fun _ => rfl) (in_t (in_e (vp_in_nI (by omega) (by decide)) (by assumption)) (by assumption)) d_R_tick_76 ?_
        refine sr_iinc G (v := nI (j + 1)) rfl (nI_1 j) (by decide) d_R_tick_77 ?_
        refine sr_goto G 43 d_R_tick_80 rfl ?_
        refine sr_eqM ?_ (ih trivial)
        rfl
      · skip
        refine sr_iload_n G rfl d_R_tick_43 ?_
        refine sr_aload_n G rfl d_R_tick_44 ?_
        refine sr_get G (vv_20 hn) rfl ku_R rfl 3 (by decide) kf_R_98 rfl rfl d_R_tick_45 ?_
        refine sr_icmp_ge G 83 d_R_tick_48 rfl (fun _ => ?_) (fun h => absurd (by rw [md_keep (g := g_R_tick x1 _) (a := 20) (b := 0) (c := 3) (fun _ _ => rfl)]; show M 20 0 3 ≤ nI (Int32.toNatClampNeg (M 20 0 3)); rw [eL, nI_clamp (by omega)]; exact nI_le (Nat.le_refl _) (by omega)) h)
        refine sr_iload_n G rfl d_R_tick_83 ?_
        refine sr_iret G d_R_tick_84 ?_
        unfold f_R_tick
        rw [if_pos h4, if_neg h18]
        exact ⟨rfl, rfl⟩
    · skip
      refine sr_bipush G (v := (-10)) (by decide) d_R_tick_21 ?_
      refine sr_iret G d_R_tick_23 ?_
      unfold f_R_tick
      rw [if_pos h4, if_pos h18]
      exact ⟨rfl, rfl⟩
  · skip
    refine sr_iconst G (v := (-1)) (by decide) d_R_tick_7 ?_
    refine sr_iret G d_R_tick_8 ?_
    unfold f_R_tick
    rw [if_neg h4]
    exact ⟨rfl, rfl⟩
def f_R_follow (M : Mem) (x1 : Int32) (x2 : Int32) (x3 : Int32) : Int32 × Mem := (if (f_R_noSide x1) = 0 then (if (f_R_in x2 1 (M 21 0 (Int32.toNatClampNeg (1 - x1)))) = 0 then ((-2), M) else (if (f_R_in x3 0 9) = 0 then ((-2), M) else (if (M 21 1 (Int32.toNatClampNeg ((201 * x1) + x2))) = x3 then ((-3), M) else (if (M 21 2 (Int32.toNatClampNeg x1)) = 0 then (if (M 21 1 (Int32.toNatClampNeg ((201 * x1) + x2))) < 0 then (1, (u3 M 21 1 (Int32.toNatClampNeg ((201 * x1) + x2)) x3)) else (2, (u3 M 21 2 (Int32.toNatClampNeg x1) 1))) else ((-4), M))))) else ((-1), M))
set_option maxHeartbeats 4000000 in
set_option maxRecDepth 100000 in
theorem c_R_follow {l : Launch} {D : va_G} {t6 : Nat → ClassId} {b n : Nat} (hn : 133 ≤ n) {M : Mem} {x1 : Int32} {x2 : Int32} {x3 : Int32} (hI : ri_ M) : CI l D t6 b n y_R_follow cd_R_follow 5 .int (rk 1 22) [.ref (ad b 20 0), .int x1, .int x2, .int x3] M (f_R_follow M x1 x2 x3).1 (f_R_follow M x1 x2 x3).2 := by
  refine en_i (by decide) (by simp [Value.category]) (Nat.le_of_ble_eq_true rfl) (fun p e s m below meth c G => ?_)
  refine sr_iload_n G rfl d_R_follow_0 ?_
  refine sr_csi G ks_R_noSide (c_R_noSide) kc_R_noSide km_R_109 kn_R yy_R_noSide rfl ⟨rfl, rfl, by decide, by decide⟩ (Nat.le_of_ble_eq_true rfl) rfl d_R_follow_1 ?_
  refine sr_if_eq G 9 d_R_follow_4 rfl (fun h4 => ?_) (fun h4 => ?_)
  · skip
    have v4 : vp_in x1 2 := in_nos h4
    have i4 := ix_lt v4
    have w4 := in_1 v4
    have j4 := ix_lt w4
    refine sr_iload_n G rfl d_R_follow_9 ?_
    refine sr_iconst G (v := 1) (by decide) d_R_follow_10 ?_
    refine sr_aload_n G rfl d_R_follow_11 ?_
    refine sr_get G (vv_20 hn) rfl ku_R rfl 0 (by decide) kf_R_7 rfl rfl d_R_follow_12 ?_
    refine sr_iconst G (v := 1) (by decide) d_R_follow_15 ?_
    refine sr_iload_n G rfl d_R_follow_16 ?_
    refine sr_isub G d_R_follow_17 ?_
    refine sr_iald G (vv_21 hn (by decide)) rfl (in_1 (by assumption)) d_R_follow_18 ?_
    refine sr_csi G ks_R_in (c_R_in) kc_R_in km_R_113 kn_R yy_R_in rfl ⟨rfl, rfl, by decide, by decide⟩ (Nat.le_of_ble_eq_true rfl) rfl d_R_follow_19 ?_
    refine sr_if_eq G 35 d_R_follow_22 rfl (fun h22 => ?_) (fun h22 => ?_)
    · skip
      refine sr_bipush G (v := (-2)) (by decide) d_R_follow_35 ?_
      refine sr_iret G d_R_follow_37 ?_
      unfold f_R_follow
      rw [if_pos h4, if_pos h22]
      exact ⟨rfl, rfl⟩
    · skip
      refine sr_iload_n G rfl d_R_follow_25 ?_
      refine sr_iconst G (v := 0) (by decide) d_R_follow_26 ?_
      refine sr_bipush G (v := 9) (by decide) d_R_follow_27 ?_
      refine sr_csi G ks_R_in (c_R_in) kc_R_in km_R_113 kn_R yy_R_in rfl ⟨rfl, rfl, by decide, by decide⟩ (Nat.le_of_ble_eq_true rfl) rfl d_R_follow_29 ?_
      refine sr_if_ne G 38 d_R_follow_32 rfl (fun h32 => ?_) (fun h32 => ?_)
      · skip
        have v32 : vp_in x3 10 := in_wiR (lo := 0) (hi := 9) (by decide) (by decide) h32
        have i32 := ix_lt v32
        have v22 : vp_in x2 201 := in_wiR (by decide) (vp_in_iff.mp (ri_h hI j4)).2 h22
        have i22 := ix_lt v22
        refine sr_sipush G (v := 201) (by decide) d_R_follow_38 ?_
        refine sr_iload_n G rfl d_R_follow_41 ?_
        refine sr_imul G d_R_follow_42 ?_
        refine sr_iload_n G rfl d_R_follow_43 ?_
        refine sr_iadd G d_R_follow_44 ?_
        refine sr_istore G (by decide) d_R_follow_45 ?_
        refine sr_aload_n G rfl d_R_follow_47 ?_
        refine sr_get G (vv_20 hn) rfl ku_R rfl 1 (by decide) kf_R_13 rfl rfl d_R_follow_48 ?_
        refine sr_iload G rfl d_R_follow_51 ?_
        refine sr_iald G (vv_21 hn (by decide)) rfl (in_h (by assumption) (by assumption)) d_R_follow_53 ?_
        refine sr_iload_n G rfl d_R_follow_54 ?_
        refine sr_icmp_ne G 61 d_R_follow_55 rfl (fun h55 => ?_) (fun h55 => ?_)
        · skip
          refine sr_aload_n G rfl d_R_follow_61 ?_
          refine sr_get G (vv_20 hn) rfl ku_R rfl 2 (by decide) kf_R_16 rfl rfl d_R_follow_62 ?_
          refine sr_iload_n G rfl d_R_follow_65 ?_
          refine sr_zald G (vv_21 hn (by decide)) rfl (by assumption) d_R_follow_66 ?_
          refine sr_if_eq G 73 d_R_follow_67 rfl (fun h67 => ?_) (fun h67 => ?_)
          · skip
            refine sr_aload_n G rfl d_R_follow_73 ?_
            refine sr_get G (vv_20 hn) rfl ku_R rfl 1 (by decide) kf_R_13 rfl rfl d_R_follow_74 ?_
            refine sr_iload G rfl d_R_follow_77 ?_
            refine sr_iald G (vv_21 hn (by decide)) rfl (in_h (by assumption) (by assumption)) d_R_follow_79 ?_
            refine sr_if_lt G 92 d_R_follow_80 rfl (fun h80 => ?_) (fun h80 => ?_)
            · skip
              refine sr_aload_n G rfl d_R_follow_92 ?_
              refine sr_get G (vv_20 hn) rfl ku_R rfl 1 (by decide) kf_R_13 rfl rfl d_R_follow_93 ?_
              refine sr_iload G rfl d_R_follow_96 ?_
              refine sr_iload_n G rfl d_R_follow_98 ?_
              refine sr_iast G (vv_21 hn (by decide)) (fun _ => rfl) (in_h (by assumption) (by assumption)) d_R_follow_99 ?_
              refine sr_iconst G (v := 1) (by decide) d_R_follow_100 ?_
              refine sr_iret G d_R_follow_101 ?_
              unfold f_R_follow
              rw [if_pos h4, if_neg h22, if_neg h32, if_neg h55, if_pos h67, if_pos h80]
              exact ⟨rfl, rfl⟩
            · skip
              refine sr_aload_n G rfl d_R_follow_83 ?_
              refine sr_get G (vv_20 hn) rfl ku_R rfl 2 (by decide) kf_R_16 rfl rfl d_R_follow_84 ?_
              refine sr_iload_n G rfl d_R_follow_87 ?_
              refine sr_iconst G (v := 1) (by decide) d_R_follow_88 ?_
              refine sr_zast G (vv_21 hn (by decide)) (fun _ => rfl) (by decide) (by assumption) d_R_follow_89 ?_
              refine sr_iconst G (v := 2) (by decide) d_R_follow_90 ?_
              refine sr_iret G d_R_follow_91 ?_
              unfold f_R_follow
              rw [if_pos h4, if_neg h22, if_neg h32, if_neg h55, if_pos h67, if_neg h80]
              exact ⟨rfl, rfl⟩
          · skip
            refine sr_bipush G (v := (-4)) (by decide) d_R_follow_70 ?_
            refine sr_iret G d_R_follow_72 ?_
            unfold f_R_follow
            rw [if_pos h4, if_neg h22, if_neg h32, if_neg h55, if_neg h67]
            exact ⟨rfl, rfl⟩
        · skip
          refine sr_bipush G (v := (-3)) (by decide) d_R_follow_58 ?_
          refine sr_iret G d_R_follow_60 ?_
          unfold f_R_follow
          rw [if_pos h4, if_neg h22, if_neg h32, if_pos h55]
          exact ⟨rfl, rfl⟩
      · skip
        refine sr_bipush G (v := (-2)) (by decide) d_R_follow_35 ?_
        refine sr_iret G d_R_follow_37 ?_
        unfold f_R_follow
        rw [if_pos h4, if_neg h22, if_pos h32]
        exact ⟨rfl, rfl⟩
  · skip
    refine sr_iconst G (v := (-1)) (by decide) d_R_follow_7 ?_
    refine sr_iret G d_R_follow_8 ?_
    unfold f_R_follow
    rw [if_neg h4]
    exact ⟨rfl, rfl⟩
def g_R_followedMany (M : Mem) (x1 : Int32) (j : Nat) (ACC : Int32) : Int32 := (if (M 21 1 (Int32.toNatClampNeg ((201 * x1) + (nI (j + 1))))) < 0 then (ACC + 0) else (ACC + 1))
theorem eg_R_followedMany (M : Mem) (x1 : Int32) (j : Nat) (ACC : Int32) : g_R_followedMany M x1 j ACC = (if (M 21 1 (Int32.toNatClampNeg ((201 * x1) + (nI (j + 1))))) < 0 then (ACC + 0) else (ACC + 1)) := rfl
def f_R_followedMany (M : Mem) (x1 : Int32) : Int32 := (fd_ (g_R_followedMany M x1) 0 200)
set_option maxHeartbeats 4000000 in
set_option maxRecDepth 100000 in
theorem c_R_followedMany {l : Launch} {D : va_G} {t6 : Nat → ClassId} {b n : Nat} (hn : 133 ≤ n) {M : Mem} {x1 : Int32} (v1 : vp_in x1 2) : CI l D t6 b n y_R_followedMany cd_R_followedMany 4 .int (rk 0 0) [.ref (ad b 20 0), .int x1] M (f_R_followedMany M x1) M := by
  refine en_i (by decide) (by simp [Value.category]) (Nat.le_of_ble_eq_true rfl) (fun p e s m below meth c G => ?_)
  have i1 := ix_lt v1
  refine sr_iconst G (v := 0) (by decide) d_R_followedMany_0 ?_
  refine sr_istore_n G (by decide) d_R_followedMany_1 ?_
  refine sr_iconst G (v := (nI (0 + 1))) (by decide) d_R_followedMany_2 ?_
  refine sr_istore_n G (by decide) d_R_followedMany_3 ?_
  refine sr_loop 200 (fun j => M) (fun j => [some (.ref (ad b 20 0)), some (.int x1), some (.int (fd_ (g_R_followedMany M x1) 0 j)), some (.int (nI (j + 1)))]) (fun _ => True) 0 (Nat.zero_le _) trivial rfl rfl (fun j hj0 hj hi ih => ?_) (fun hi => ?_)
  · skip
    have ij : (nI (j + 1)).toNatClampNeg = j + 1 := nI_clamp (by omega)
    refine sr_iload_n G rfl d_R_followedMany_4 ?_
    refine sr_sipush G (v := 200) (by decide) d_R_followedMany_5 ?_
    refine sr_icmp_gt G 40 d_R_followedMany_8 rfl (fun h => absurd h (nI_nlt (a := 200) (b := j + 1) (by omega) (by decide))) (fun _ => ?_)
    refine sr_iload_n G rfl d_R_followedMany_11 ?_
    refine sr_aload_n G rfl d_R_followedMany_12 ?_
    refine sr_get G (vv_20 hn) rfl ku_R rfl 1 (by decide) kf_R_13 rfl rfl d_R_followedMany_13 ?_
    refine sr_sipush G (v := 201) (by decide) d_R_followedMany_16 ?_
    refine sr_iload_n G rfl d_R_followedMany_19 ?_
    refine sr_imul G d_R_followedMany_20 ?_
    refine sr_iload_n G rfl d_R_followedMany_21 ?_
    refine sr_iadd G d_R_followedMany_22 ?_
    refine sr_iald G (vv_21 hn (by decide)) rfl (in_h (by assumption) (vp_in_nI (by omega) (by decide))) d_R_followedMany_23 ?_
    refine sr_if_lt G 31 d_R_followedMany_24 rfl (fun h24 => ?_) (fun h24 => ?_)
    · skip
      refine sr_iconst G (v := 0) (by decide) d_R_followedMany_31 ?_
      refine sr_iadd G d_R_followedMany_32 ?_
      refine sr_istore_n G (by decide) d_R_followedMany_33 ?_
      refine sr_iinc G (v := nI (j + 1 + 1)) rfl (nI_1 (j + 1)) (by decide) d_R_followedMany_34 ?_
      refine sr_goto G 4 d_R_followedMany_37 rfl ?_
      have e9 : fd_ (g_R_followedMany M x1) 0 (j + 1) = ((fd_ (g_R_followedMany M x1) 0 j) + 0) := by
        show g_R_followedMany M x1 j (fd_ (g_R_followedMany M x1) 0 j) = _
        rw [eg_R_followedMany, if_pos h24]
      have ih9 := ih trivial
      try dsimp only at ih9
      rw [e9] at ih9
      exact ih9
    · skip
      refine sr_iconst G (v := 1) (by decide) d_R_followedMany_27 ?_
      refine sr_goto G 32 d_R_followedMany_28 rfl ?_
      refine sr_iadd G d_R_followedMany_32 ?_
      refine sr_istore_n G (by decide) d_R_followedMany_33 ?_
      refine sr_iinc G (v := nI (j + 1 + 1)) rfl (nI_1 (j + 1)) (by decide) d_R_followedMany_34 ?_
      refine sr_goto G 4 d_R_followedMany_37 rfl ?_
      have e9 : fd_ (g_R_followedMany M x1) 0 (j + 1) = ((fd_ (g_R_followedMany M x1) 0 j) + 1) := by
        show g_R_followedMany M x1 j (fd_ (g_R_followedMany M x1) 0 j) = _
        rw [eg_R_followedMany, if_neg h24]
      have ih9 := ih trivial
      try dsimp only at ih9
      rw [e9] at ih9
      exact ih9
  · skip
    refine sr_iload_n G rfl d_R_followedMany_4 ?_
    refine sr_sipush G (v := 200) (by decide) d_R_followedMany_5 ?_
    refine sr_icmp_gt G 40 d_R_followedMany_8 rfl (fun _ => ?_) (fun h => absurd (by decide) h)
    refine sr_iload_n G rfl d_R_followedMany_40 ?_
    refine sr_iret G d_R_followedMany_41 ?_
    unfold f_R_followedMany
    exact ⟨rfl, rfl⟩
def g_R_highest (M : Mem) (x1 : Int32) (j : Nat) (ACC : Int32) : Int32 := (if (M 21 1 (Int32.toNatClampNeg ((201 * x1) + (nI (j + 1))))) < 0 then ACC else (nI (j + 1)))
theorem eg_R_highest (M : Mem) (x1 : Int32) (j : Nat) (ACC : Int32) : g_R_highest M x1 j ACC = (if (M 21 1 (Int32.toNatClampNeg ((201 * x1) + (nI (j + 1))))) < 0 then ACC else (nI (j + 1))) := rfl
def f_R_highest (M : Mem) (x1 : Int32) : Int32 := (fd_ (g_R_highest M x1) 0 200)
set_option maxHeartbeats 4000000 in
set_option maxRecDepth 100000 in
theorem c_R_highest {l : Launch} {D : va_G} {t6 : Nat → ClassId} {b n : Nat} (hn : 133 ≤ n) {M : Mem} {x1 : Int32} (v1 : vp_in x1 2) : CI l D t6 b n y_R_highest cd_R_highest 4 .int (rk 0 0) [.ref (ad b 20 0), .int x1] M (f_R_highest M x1) M := by
  refine en_i (by decide) (by simp [Value.category]) (Nat.le_of_ble_eq_true rfl) (fun p e s m below meth c G => ?_)
  have i1 := ix_lt v1
  refine sr_iconst G (v := 0) (by decide) d_R_highest_0 ?_
  refine sr_istore_n G (by decide) d_R_highest_1 ?_
  refine sr_iconst G (v := (nI (0 + 1))) (by decide) d_R_highest_2 ?_
  refine sr_istore_n G (by decide) d_R_highest_3 ?_
  refine sr_loop 200 (fun j => M) (fun j => [some (.ref (ad b 20 0)), some (.int x1), some (.int (fd_ (g_R_highest M x1) 0 j)), some (.int (nI (j + 1)))]) (fun _ => True) 0 (Nat.zero_le _) trivial rfl rfl (fun j hj0 hj hi ih => ?_) (fun hi => ?_)
  · skip
    have ij : (nI (j + 1)).toNatClampNeg = j + 1 := nI_clamp (by omega)
    refine sr_iload_n G rfl d_R_highest_4 ?_
    refine sr_sipush G (v := 200) (by decide) d_R_highest_5 ?_
    refine sr_icmp_gt G 38 d_R_highest_8 rfl (fun h => absurd h (nI_nlt (a := 200) (b := j + 1) (by omega) (by decide))) (fun _ => ?_)
    refine sr_aload_n G rfl d_R_highest_11 ?_
    refine sr_get G (vv_20 hn) rfl ku_R rfl 1 (by decide) kf_R_13 rfl rfl d_R_highest_12 ?_
    refine sr_sipush G (v := 201) (by decide) d_R_highest_15 ?_
    refine sr_iload_n G rfl d_R_highest_18 ?_
    refine sr_imul G d_R_highest_19 ?_
    refine sr_iload_n G rfl d_R_highest_20 ?_
    refine sr_iadd G d_R_highest_21 ?_
    refine sr_iald G (vv_21 hn (by decide)) rfl (in_h (by assumption) (vp_in_nI (by omega) (by decide))) d_R_highest_22 ?_
    refine sr_if_lt G 30 d_R_highest_23 rfl (fun h23 => ?_) (fun h23 => ?_)
    · skip
      refine sr_iload_n G rfl d_R_highest_30 ?_
      refine sr_istore_n G (by decide) d_R_highest_31 ?_
      refine sr_iinc G (v := nI (j + 1 + 1)) rfl (nI_1 (j + 1)) (by decide) d_R_highest_32 ?_
      refine sr_goto G 4 d_R_highest_35 rfl ?_
      have e9 : fd_ (g_R_highest M x1) 0 (j + 1) = (fd_ (g_R_highest M x1) 0 j) := by
        show g_R_highest M x1 j (fd_ (g_R_highest M x1) 0 j) = _
        rw [eg_R_highest, if_pos h23]
      have ih9 := ih trivial
      try dsimp only at ih9
      rw [e9] at ih9
      exact ih9
    · skip
      refine sr_iload_n G rfl d_R_highest_26 ?_
      refine sr_goto G 31 d_R_highest_27 rfl ?_
      refine sr_istore_n G (by decide) d_R_highest_31 ?_
      refine sr_iinc G (v := nI (j + 1 + 1)) rfl (nI_1 (j + 1)) (by decide) d_R_highest_32 ?_
      refine sr_goto G 4 d_R_highest_35 rfl ?_
      have e9 : fd_ (g_R_highest M x1) 0 (j + 1) = (nI (j + 1)) := by
        show g_R_highest M x1 j (fd_ (g_R_highest M x1) 0 j) = _
        rw [eg_R_highest, if_neg h23]
      have ih9 := ih trivial
      try dsimp only at ih9
      rw [e9] at ih9
      exact ih9
  · skip
    refine sr_iload_n G rfl d_R_highest_4 ?_
    refine sr_sipush G (v := 200) (by decide) d_R_highest_5 ?_
    refine sr_icmp_gt G 38 d_R_highest_8 rfl (fun _ => ?_) (fun h => absurd (by decide) h)
    refine sr_iload_n G rfl d_R_highest_38 ?_
    refine sr_iret G d_R_highest_39 ?_
    unfold f_R_highest
    exact ⟨rfl, rfl⟩
def f_R_renew (M : Mem) (x1 : Int32) : Int32 × Mem := (if (f_R_noSide x1) = 0 then (if (M 21 2 (Int32.toNatClampNeg x1)) = 0 then ((-3), M) else ((f_R_followedMany M x1), (f_R_forget M x1))) else ((-1), M))
set_option maxHeartbeats 4000000 in
set_option maxRecDepth 100000 in
theorem c_R_renew {l : Launch} {D : va_G} {t6 : Nat → ClassId} {b n : Nat} (hn : 133 ≤ n) {M : Mem} {x1 : Int32} : CI l D t6 b n y_R_renew cd_R_renew 3 .int (rk 1 23) [.ref (ad b 20 0), .int x1] M (f_R_renew M x1).1 (f_R_renew M x1).2 := by
  refine en_i (by decide) (by simp [Value.category]) (Nat.le_of_ble_eq_true rfl) (fun p e s m below meth c G => ?_)
  refine sr_iload_n G rfl d_R_renew_0 ?_
  refine sr_csi G ks_R_noSide (c_R_noSide) kc_R_noSide km_R_109 kn_R yy_R_noSide rfl ⟨rfl, rfl, by decide, by decide⟩ (Nat.le_of_ble_eq_true rfl) rfl d_R_renew_1 ?_
  refine sr_if_eq G 9 d_R_renew_4 rfl (fun h4 => ?_) (fun h4 => ?_)
  · skip
    have v4 : vp_in x1 2 := in_nos h4
    have i4 := ix_lt v4
    have w4 := in_1 v4
    have j4 := ix_lt w4
    refine sr_aload_n G rfl d_R_renew_9 ?_
    refine sr_get G (vv_20 hn) rfl ku_R rfl 2 (by decide) kf_R_16 rfl rfl d_R_renew_10 ?_
    refine sr_iload_n G rfl d_R_renew_13 ?_
    refine sr_zald G (vv_21 hn (by decide)) rfl (by assumption) d_R_renew_14 ?_
    refine sr_if_ne G 21 d_R_renew_15 rfl (fun h15 => ?_) (fun h15 => ?_)
    · skip
      refine sr_aload_n G rfl d_R_renew_21 ?_
      refine sr_iload_n G rfl d_R_renew_22 ?_
      refine sr_cvi G (vv_20 hn) rfl rfl ki_R_followedMany kx_R_followedMany (c_R_followedMany hn (by first | assumption | omega | decide | (unfold vp_in; decide))) kc_R_followedMany km_R_117 kn_R yy_R_followedMany rfl ⟨rfl, rfl, by decide, by decide⟩ (Nat.le_of_ble_eq_true rfl) rfl d_R_renew_23 ?_
      refine sr_istore_n G (by decide) d_R_renew_26 ?_
      refine sr_aload_n G rfl d_R_renew_27 ?_
      refine sr_iload_n G rfl d_R_renew_28 ?_
      refine sr_cvv G (vv_20 hn) rfl rfl ki_R_forget kx_R_forget (c_R_forget hn (by first | assumption | omega | decide | (unfold vp_in; decide))) kc_R_forget km_R_105 kn_R yy_R_forget rfl ⟨rfl, rfl, by decide, by decide⟩ (Nat.le_of_ble_eq_true rfl) rfl d_R_renew_29 ?_
      refine sr_iload_n G rfl d_R_renew_32 ?_
      refine sr_iret G d_R_renew_33 ?_
      unfold f_R_renew
      rw [if_pos h4, if_neg h15]
      exact ⟨rfl, rfl⟩
    · skip
      refine sr_bipush G (v := (-3)) (by decide) d_R_renew_18 ?_
      refine sr_iret G d_R_renew_20 ?_
      unfold f_R_renew
      rw [if_pos h4, if_pos h15]
      exact ⟨rfl, rfl⟩
  · skip
    refine sr_iconst G (v := (-1)) (by decide) d_R_renew_7 ?_
    refine sr_iret G d_R_renew_8 ?_
    unfold f_R_renew
    rw [if_neg h4]
    exact ⟨rfl, rfl⟩
def f_R_client (M : Mem) (x1 : Int32) (x2 : Int32) : Int32 := (if (f_R_noSide x1) = 0 then (if x2 = 0 then (if (M 21 2 (Int32.toNatClampNeg x1)) = 0 then 0 else 1) else (if x2 = 1 then (f_R_highest M x1) else (if x2 = 2 then (f_R_followedMany M x1) else (-2)))) else (-1))
set_option maxHeartbeats 4000000 in
set_option maxRecDepth 100000 in
theorem c_R_client {l : Launch} {D : va_G} {t6 : Nat → ClassId} {b n : Nat} (hn : 133 ≤ n) {M : Mem} {x1 : Int32} {x2 : Int32} : CI l D t6 b n y_R_client cd_R_client 3 .int (rk 1 23) [.ref (ad b 20 0), .int x1, .int x2] M (f_R_client M x1 x2) M := by
  refine en_i (by decide) (by simp [Value.category]) (Nat.le_of_ble_eq_true rfl) (fun p e s m below meth c G => ?_)
  refine sr_iload_n G rfl d_R_client_0 ?_
  refine sr_csi G ks_R_noSide (c_R_noSide) kc_R_noSide km_R_109 kn_R yy_R_noSide rfl ⟨rfl, rfl, by decide, by decide⟩ (Nat.le_of_ble_eq_true rfl) rfl d_R_client_1 ?_
  refine sr_if_eq G 9 d_R_client_4 rfl (fun h4 => ?_) (fun h4 => ?_)
  · skip
    have v4 : vp_in x1 2 := in_nos h4
    have i4 := ix_lt v4
    have w4 := in_1 v4
    have j4 := ix_lt w4
    refine sr_iload_n G rfl d_R_client_9 ?_
    by_cases h10_0 : x2 = 0
    · skip
      refine sr_tabIn G 36 d_R_client_10 (by rw [h10_0]; decide) (by rw [h10_0]; decide) (by rw [h10_0]; rfl) rfl ?_
      refine sr_aload_n G rfl d_R_client_36 ?_
      refine sr_get G (vv_20 hn) rfl ku_R rfl 2 (by decide) kf_R_16 rfl rfl d_R_client_37 ?_
      refine sr_iload_n G rfl d_R_client_40 ?_
      refine sr_zald G (vv_21 hn (by decide)) rfl (by assumption) d_R_client_41 ?_
      refine sr_if_eq G 49 d_R_client_42 rfl (fun h42 => ?_) (fun h42 => ?_)
      · skip
        refine sr_iconst G (v := 0) (by decide) d_R_client_49 ?_
        refine sr_iret G d_R_client_50 ?_
        unfold f_R_client
        rw [if_pos h4, if_pos h10_0, if_pos h42]
        exact ⟨rfl, rfl⟩
      · skip
        refine sr_iconst G (v := 1) (by decide) d_R_client_45 ?_
        refine sr_goto G 50 d_R_client_46 rfl ?_
        refine sr_iret G d_R_client_50 ?_
        unfold f_R_client
        rw [if_pos h4, if_pos h10_0, if_neg h42]
        exact ⟨rfl, rfl⟩
    · skip
      by_cases h10_1 : x2 = 1
      · skip
        refine sr_tabIn G 51 d_R_client_10 (by rw [h10_1]; decide) (by rw [h10_1]; decide) (by rw [h10_1]; rfl) rfl ?_
        refine sr_aload_n G rfl d_R_client_51 ?_
        refine sr_iload_n G rfl d_R_client_52 ?_
        refine sr_cvi G (vv_20 hn) rfl rfl ki_R_highest kx_R_highest (c_R_highest hn (by first | assumption | omega | decide | (unfold vp_in; decide))) kc_R_highest km_R_121 kn_R yy_R_highest rfl ⟨rfl, rfl, by decide, by decide⟩ (Nat.le_of_ble_eq_true rfl) rfl d_R_client_53 ?_
        refine sr_iret G d_R_client_56 ?_
        unfold f_R_client
        rw [if_pos h4, if_neg h10_0, if_pos h10_1]
        exact ⟨rfl, rfl⟩
      · skip
        by_cases h10_2 : x2 = 2
        · skip
          refine sr_tabIn G 57 d_R_client_10 (by rw [h10_2]; decide) (by rw [h10_2]; decide) (by rw [h10_2]; rfl) rfl ?_
          refine sr_aload_n G rfl d_R_client_57 ?_
          refine sr_iload_n G rfl d_R_client_58 ?_
          refine sr_cvi G (vv_20 hn) rfl rfl ki_R_followedMany kx_R_followedMany (c_R_followedMany hn (by first | assumption | omega | decide | (unfold vp_in; decide))) kc_R_followedMany km_R_117 kn_R yy_R_followedMany rfl ⟨rfl, rfl, by decide, by decide⟩ (Nat.le_of_ble_eq_true rfl) rfl d_R_client_59 ?_
          refine sr_iret G d_R_client_62 ?_
          unfold f_R_client
          rw [if_pos h4, if_neg h10_0, if_neg h10_1, if_pos h10_2]
          exact ⟨rfl, rfl⟩
        · skip
          refine sr_tabOut G 63 d_R_client_10 (by have := lv_neT h10_0 (show (0 : Int32).toInt = 0 by decide); have := lv_neT h10_1 (show (1 : Int32).toInt = 1 by decide); have := lv_neT h10_2 (show (2 : Int32).toInt = 2 by decide); omega) rfl ?_
          refine sr_bipush G (v := (-2)) (by decide) d_R_client_63 ?_
          refine sr_iret G d_R_client_65 ?_
          unfold f_R_client
          rw [if_pos h4, if_neg h10_0, if_neg h10_1, if_neg h10_2]
          exact ⟨rfl, rfl⟩
  · skip
    refine sr_iconst G (v := (-1)) (by decide) d_R_client_7 ?_
    refine sr_iret G d_R_client_8 ?_
    unfold f_R_client
    rw [if_neg h4]
    exact ⟨rfl, rfl⟩
def f_R_follows (M : Mem) (x1 : Int32) (x2 : Int32) : Int32 := (if (f_R_noSide x1) = 0 then (if (f_R_in x2 1 200) = 0 then (-2) else (if 0 ≤ (M 21 1 (Int32.toNatClampNeg ((201 * x1) + x2))) then (if (M 21 1 (Int32.toNatClampNeg ((201 * x1) + x2))) = 0 then 1 else 2) else 0)) else (-1))
set_option maxHeartbeats 4000000 in
set_option maxRecDepth 100000 in
theorem c_R_follows {l : Launch} {D : va_G} {t6 : Nat → ClassId} {b n : Nat} (hn : 133 ≤ n) {M : Mem} {x1 : Int32} {x2 : Int32} : CI l D t6 b n y_R_follows cd_R_follows 4 .int (rk 1 22) [.ref (ad b 20 0), .int x1, .int x2] M (f_R_follows M x1 x2) M := by
  refine en_i (by decide) (by simp [Value.category]) (Nat.le_of_ble_eq_true rfl) (fun p e s m below meth c G => ?_)
  refine sr_iload_n G rfl d_R_follows_0 ?_
  refine sr_csi G ks_R_noSide (c_R_noSide) kc_R_noSide km_R_109 kn_R yy_R_noSide rfl ⟨rfl, rfl, by decide, by decide⟩ (Nat.le_of_ble_eq_true rfl) rfl d_R_follows_1 ?_
  refine sr_if_eq G 9 d_R_follows_4 rfl (fun h4 => ?_) (fun h4 => ?_)
  · skip
    have v4 : vp_in x1 2 := in_nos h4
    have i4 := ix_lt v4
    have w4 := in_1 v4
    have j4 := ix_lt w4
    refine sr_iload_n G rfl d_R_follows_9 ?_
    refine sr_iconst G (v := 1) (by decide) d_R_follows_10 ?_
    refine sr_sipush G (v := 200) (by decide) d_R_follows_11 ?_
    refine sr_csi G ks_R_in (c_R_in) kc_R_in km_R_113 kn_R yy_R_in rfl ⟨rfl, rfl, by decide, by decide⟩ (Nat.le_of_ble_eq_true rfl) rfl d_R_follows_14 ?_
    refine sr_if_ne G 23 d_R_follows_17 rfl (fun h17 => ?_) (fun h17 => ?_)
    · skip
      have v17 : vp_in x2 201 := in_wiR (lo := 1) (hi := 200) (by decide) (by decide) h17
      have i17 := ix_lt v17
      refine sr_sipush G (v := 201) (by decide) d_R_follows_23 ?_
      refine sr_iload_n G rfl d_R_follows_26 ?_
      refine sr_imul G d_R_follows_27 ?_
      refine sr_iload_n G rfl d_R_follows_28 ?_
      refine sr_iadd G d_R_follows_29 ?_
      refine sr_istore_n G (by decide) d_R_follows_30 ?_
      refine sr_aload_n G rfl d_R_follows_31 ?_
      refine sr_get G (vv_20 hn) rfl ku_R rfl 1 (by decide) kf_R_13 rfl rfl d_R_follows_32 ?_
      refine sr_iload_n G rfl d_R_follows_35 ?_
      refine sr_iald G (vv_21 hn (by decide)) rfl (in_h (by assumption) (by assumption)) d_R_follows_36 ?_
      refine sr_if_ge G 44 d_R_follows_37 rfl (fun h37 => ?_) (fun h37 => ?_)
      · skip
        refine sr_aload_n G rfl d_R_follows_44 ?_
        refine sr_get G (vv_20 hn) rfl ku_R rfl 1 (by decide) kf_R_13 rfl rfl d_R_follows_45 ?_
        refine sr_iload_n G rfl d_R_follows_48 ?_
        refine sr_iald G (vv_21 hn (by decide)) rfl (in_h (by assumption) (by assumption)) d_R_follows_49 ?_
        refine sr_if_ne G 57 d_R_follows_50 rfl (fun h50 => ?_) (fun h50 => ?_)
        · skip
          refine sr_iconst G (v := 2) (by decide) d_R_follows_57 ?_
          refine sr_iret G d_R_follows_58 ?_
          unfold f_R_follows
          rw [if_pos h4, if_neg h17, if_pos h37, if_neg h50]
          exact ⟨rfl, rfl⟩
        · skip
          refine sr_iconst G (v := 1) (by decide) d_R_follows_53 ?_
          refine sr_goto G 58 d_R_follows_54 rfl ?_
          refine sr_iret G d_R_follows_58 ?_
          unfold f_R_follows
          rw [if_pos h4, if_neg h17, if_pos h37, if_pos h50]
          exact ⟨rfl, rfl⟩
      · skip
        refine sr_iconst G (v := 0) (by decide) d_R_follows_40 ?_
        refine sr_goto G 58 d_R_follows_41 rfl ?_
        refine sr_iret G d_R_follows_58 ?_
        unfold f_R_follows
        rw [if_pos h4, if_neg h17, if_neg h37]
        exact ⟨rfl, rfl⟩
    · skip
      refine sr_bipush G (v := (-2)) (by decide) d_R_follows_20 ?_
      refine sr_iret G d_R_follows_22 ?_
      unfold f_R_follows
      rw [if_pos h4, if_pos h17]
      exact ⟨rfl, rfl⟩
  · skip
    refine sr_iconst G (v := (-1)) (by decide) d_R_follows_7 ?_
    refine sr_iret G d_R_follows_8 ?_
    unfold f_R_follows
    rw [if_neg h4]
    exact ⟨rfl, rfl⟩
def f_R_unproved (M : Mem) (x1 : Int32) (x2 : Int32) : Int32 := (if (M 21 2 (Int32.toNatClampNeg x1)) = 0 then (if (f_R_in x2 1 200) = 0 then (-5) else (if (f_R_follows M x1 x2) = 1 then 0 else (-5))) else (-4))
set_option maxHeartbeats 4000000 in
set_option maxRecDepth 100000 in
theorem c_R_unproved {l : Launch} {D : va_G} {t6 : Nat → ClassId} {b n : Nat} (hn : 133 ≤ n) {M : Mem} {x1 : Int32} {x2 : Int32} (v1 : vp_in x1 2) : CI l D t6 b n y_R_unproved cd_R_unproved 3 .int (rk 2 45) [.ref (ad b 20 0), .int x1, .int x2] M (f_R_unproved M x1 x2) M := by
  refine en_i (by decide) (by simp [Value.category]) (Nat.le_of_ble_eq_true rfl) (fun p e s m below meth c G => ?_)
  have i1 := ix_lt v1
  refine sr_aload_n G rfl d_R_unproved_0 ?_
  refine sr_get G (vv_20 hn) rfl ku_R rfl 2 (by decide) kf_R_16 rfl rfl d_R_unproved_1 ?_
  refine sr_iload_n G rfl d_R_unproved_4 ?_
  refine sr_zald G (vv_21 hn (by decide)) rfl (by assumption) d_R_unproved_5 ?_
  refine sr_if_eq G 12 d_R_unproved_6 rfl (fun h6 => ?_) (fun h6 => ?_)
  · skip
    refine sr_iload_n G rfl d_R_unproved_12 ?_
    refine sr_iconst G (v := 1) (by decide) d_R_unproved_13 ?_
    refine sr_sipush G (v := 200) (by decide) d_R_unproved_14 ?_
    refine sr_csi G ks_R_in (c_R_in) kc_R_in km_R_113 kn_R yy_R_in rfl ⟨rfl, rfl, by decide, by decide⟩ (Nat.le_of_ble_eq_true rfl) rfl d_R_unproved_17 ?_
    refine sr_if_eq G 37 d_R_unproved_20 rfl (fun h20 => ?_) (fun h20 => ?_)
    · skip
      refine sr_bipush G (v := (-5)) (by decide) d_R_unproved_37 ?_
      refine sr_iret G d_R_unproved_39 ?_
      unfold f_R_unproved
      rw [if_pos h6, if_pos h20]
      exact ⟨rfl, rfl⟩
    · skip
      have v20 : vp_in x2 201 := in_wiR (lo := 1) (hi := 200) (by decide) (by decide) h20
      have i20 := ix_lt v20
      refine sr_aload_n G rfl d_R_unproved_23 ?_
      refine sr_iload_n G rfl d_R_unproved_24 ?_
      refine sr_iload_n G rfl d_R_unproved_25 ?_
      refine sr_cvi G (vv_20 hn) rfl rfl ki_R_follows kx_R_follows (c_R_follows hn) kc_R_follows km_R_124 kn_R yy_R_follows rfl ⟨rfl, rfl, by decide, by decide⟩ (Nat.le_of_ble_eq_true rfl) rfl d_R_unproved_26 ?_
      refine sr_iconst G (v := 1) (by decide) d_R_unproved_29 ?_
      refine sr_icmp_ne G 37 d_R_unproved_30 rfl (fun h30 => ?_) (fun h30 => ?_)
      · skip
        refine sr_bipush G (v := (-5)) (by decide) d_R_unproved_37 ?_
        refine sr_iret G d_R_unproved_39 ?_
        unfold f_R_unproved
        rw [if_pos h6, if_neg h20, if_neg h30]
        exact ⟨rfl, rfl⟩
      · skip
        refine sr_iconst G (v := 0) (by decide) d_R_unproved_33 ?_
        refine sr_goto G 39 d_R_unproved_34 rfl ?_
        refine sr_iret G d_R_unproved_39 ?_
        unfold f_R_unproved
        rw [if_pos h6, if_neg h20, if_pos h30]
        exact ⟨rfl, rfl⟩
  · skip
    refine sr_bipush G (v := (-4)) (by decide) d_R_unproved_9 ?_
    refine sr_iret G d_R_unproved_11 ?_
    unfold f_R_unproved
    rw [if_neg h6]
    exact ⟨rfl, rfl⟩
theorem in_unp {M : Mem} {x1 x2 : Int32} (h : f_R_unproved M x1 x2 = 0) : vp_in x2 201 := by
  unfold f_R_unproved at h
  by_cases h2 : f_R_in x2 1 200 = 0
  · simp [h2] at h
    split at h <;> exact absurd h (by decide)
  · exact in_wiR (by decide) (by decide) h2
def f_R_stepOf (M : Mem) (x1 : Int32) (x2 : Int32) (x3 : Int32) : Int32 := (M 21 11 (Int32.toNatClampNeg ((201 * ((2 * x1) + x2)) + x3)))
set_option maxHeartbeats 4000000 in
set_option maxRecDepth 100000 in
theorem c_R_stepOf {l : Launch} {D : va_G} {t6 : Nat → ClassId} {b n : Nat} (hn : 133 ≤ n) {M : Mem} {x1 : Int32} {x2 : Int32} {x3 : Int32} (v1 : vp_in x1 4) (v2 : vp_in x2 2) (v3 : vp_in x3 201) : CI l D t6 b n y_R_stepOf cd_R_stepOf 4 .int (rk 0 0) [.ref (ad b 20 0), .int x1, .int x2, .int x3] M (f_R_stepOf M x1 x2 x3) M := by
  refine en_i (by decide) (by simp [Value.category]) (Nat.le_of_ble_eq_true rfl) (fun p e s m below meth c G => ?_)
  refine sr_aload_n G rfl d_R_stepOf_0 ?_
  refine sr_get G (vv_20 hn) rfl ku_R rfl 12 (by decide) kf_R_44 rfl rfl d_R_stepOf_1 ?_
  refine sr_sipush G (v := 201) (by decide) d_R_stepOf_4 ?_
  refine sr_iconst G (v := 2) (by decide) d_R_stepOf_7 ?_
  refine sr_iload_n G rfl d_R_stepOf_8 ?_
  refine sr_imul G d_R_stepOf_9 ?_
  refine sr_iload_n G rfl d_R_stepOf_10 ?_
  refine sr_iadd G d_R_stepOf_11 ?_
  refine sr_imul G d_R_stepOf_12 ?_
  refine sr_iload_n G rfl d_R_stepOf_13 ?_
  refine sr_iadd G d_R_stepOf_14 ?_
  refine sr_iald G (vv_21 hn (by decide)) rfl (in_t (in_e (by assumption) (by assumption)) (by assumption)) d_R_stepOf_15 ?_
  refine sr_iret G d_R_stepOf_16 ?_
  unfold f_R_stepOf
  exact ⟨rfl, rfl⟩
def f_R_unprovedStep (M : Mem) (x1 : Int32) (x2 : Int32) (x3 : Int32) (x4 : Int32) : Int32 := (if (f_R_unproved M x2 x3) = 0 then (if (f_R_stepOf M x1 (1 - x2) x3) = x4 then 0 else (-6)) else (f_R_unproved M x2 x3))
set_option maxHeartbeats 4000000 in
set_option maxRecDepth 100000 in
theorem c_R_unprovedStep {l : Launch} {D : va_G} {t6 : Nat → ClassId} {b n : Nat} (hn : 133 ≤ n) {M : Mem} {x1 : Int32} {x2 : Int32} {x3 : Int32} {x4 : Int32} (v1 : vp_in x1 4) (v2 : vp_in x2 2) : CI l D t6 b n y_R_unprovedStep cd_R_unprovedStep 6 .int (rk 3 67) [.ref (ad b 20 0), .int x1, .int x2, .int x3, .int x4] M (f_R_unprovedStep M x1 x2 x3 x4) M := by
  refine en_i (by decide) (by simp [Value.category]) (Nat.le_of_ble_eq_true rfl) (fun p e s m below meth c G => ?_)
  have i1 := ix_lt v1
  have i2 := ix_lt v2
  have w2 := in_1 v2
  have j2 := ix_lt w2
  refine sr_aload_n G rfl d_R_unprovedStep_0 ?_
  refine sr_iload_n G rfl d_R_unprovedStep_1 ?_
  refine sr_iload_n G rfl d_R_unprovedStep_2 ?_
  refine sr_cvi G (vv_20 hn) rfl rfl ki_R_unproved kx_R_unproved (c_R_unproved hn (by first | assumption | omega | decide | (unfold vp_in; decide))) kc_R_unproved km_R_128 kn_R yy_R_unproved rfl ⟨rfl, rfl, by decide, by decide⟩ (Nat.le_of_ble_eq_true rfl) rfl d_R_unprovedStep_3 ?_
  refine sr_istore G (by decide) d_R_unprovedStep_6 ?_
  refine sr_iload G rfl d_R_unprovedStep_8 ?_
  refine sr_if_eq G 18 d_R_unprovedStep_10 rfl (fun h10 => ?_) (fun h10 => ?_)
  · skip
    refine sr_aload_n G rfl d_R_unprovedStep_18 ?_
    refine sr_iload_n G rfl d_R_unprovedStep_19 ?_
    refine sr_iconst G (v := 1) (by decide) d_R_unprovedStep_20 ?_
    refine sr_iload_n G rfl d_R_unprovedStep_21 ?_
    refine sr_isub G d_R_unprovedStep_22 ?_
    refine sr_iload_n G rfl d_R_unprovedStep_23 ?_
    have v3 := in_unp h10
    refine sr_cvi G (vv_20 hn) rfl rfl ki_R_stepOf kx_R_stepOf (c_R_stepOf hn (by first | assumption | omega | decide | (unfold vp_in; decide)) (by first | assumption | omega | decide | (unfold vp_in; decide)) (by first | assumption | omega | decide | (unfold vp_in; decide))) kc_R_stepOf km_R_131 kn_R yy_R_stepOf rfl ⟨rfl, rfl, by decide, by decide⟩ (Nat.le_of_ble_eq_true rfl) rfl d_R_unprovedStep_24 ?_
    refine sr_iload G rfl d_R_unprovedStep_27 ?_
    refine sr_icmp_ne G 36 d_R_unprovedStep_29 rfl (fun h29 => ?_) (fun h29 => ?_)
    · skip
      refine sr_bipush G (v := (-6)) (by decide) d_R_unprovedStep_36 ?_
      refine sr_iret G d_R_unprovedStep_38 ?_
      unfold f_R_unprovedStep
      rw [if_pos h10, if_neg h29]
      exact ⟨rfl, rfl⟩
    · skip
      refine sr_iconst G (v := 0) (by decide) d_R_unprovedStep_32 ?_
      refine sr_goto G 38 d_R_unprovedStep_33 rfl ?_
      refine sr_iret G d_R_unprovedStep_38 ?_
      unfold f_R_unprovedStep
      rw [if_pos h10, if_pos h29]
      exact ⟨rfl, rfl⟩
  · skip
    refine sr_iload G rfl d_R_unprovedStep_13 ?_
    refine sr_goto G 38 d_R_unprovedStep_15 rfl ?_
    refine sr_iret G d_R_unprovedStep_38 ?_
    unfold f_R_unprovedStep
    rw [if_neg h10]
    exact ⟨rfl, rfl⟩
def f_R_greatestOf (x1 : Int32) : Int32 := (if x1 ≤ 3 then (if x1 ≤ 1 then x1 else 2) else 3)
set_option maxHeartbeats 4000000 in
set_option maxRecDepth 100000 in
theorem c_R_greatestOf {l : Launch} {D : va_G} {t6 : Nat → ClassId} {b n : Nat} {M : Mem} {x1 : Int32} : CI l D t6 b n y_R_greatestOf cd_R_greatestOf 1 .int (rk 0 0) [.int x1] M (f_R_greatestOf x1) M := by
  refine en_i (by decide) (by simp [Value.category]) (Nat.le_of_ble_eq_true rfl) (fun p e s m below meth c G => ?_)
  refine sr_iload_n G rfl d_R_greatestOf_0 ?_
  refine sr_iconst G (v := 3) (by decide) d_R_greatestOf_1 ?_
  refine sr_icmp_le G 9 d_R_greatestOf_2 rfl (fun h2 => ?_) (fun h2 => ?_)
  · skip
    refine sr_iload_n G rfl d_R_greatestOf_9 ?_
    refine sr_iconst G (v := 1) (by decide) d_R_greatestOf_10 ?_
    refine sr_icmp_le G 18 d_R_greatestOf_11 rfl (fun h11 => ?_) (fun h11 => ?_)
    · skip
      refine sr_iload_n G rfl d_R_greatestOf_18 ?_
      refine sr_iret G d_R_greatestOf_19 ?_
      unfold f_R_greatestOf
      rw [if_pos h2, if_pos h11]
      exact ⟨rfl, rfl⟩
    · skip
      refine sr_iconst G (v := 2) (by decide) d_R_greatestOf_14 ?_
      refine sr_goto G 19 d_R_greatestOf_15 rfl ?_
      refine sr_iret G d_R_greatestOf_19 ?_
      unfold f_R_greatestOf
      rw [if_pos h2, if_neg h11]
      exact ⟨rfl, rfl⟩
  · skip
    refine sr_iconst G (v := 3) (by decide) d_R_greatestOf_5 ?_
    refine sr_goto G 19 d_R_greatestOf_6 rfl ?_
    refine sr_iret G d_R_greatestOf_19 ?_
    unfold f_R_greatestOf
    rw [if_neg h2]
    exact ⟨rfl, rfl⟩
