/-! send -/
def cB_ (P : Mem) (i e : Nat) (pl H k x1 x2 x3 x4 x5 x6 x7 : Int32) : Mem := u3 (u3 (u3 (u3 (u3 (u3 (u3 (u3 (u3 (u3 (u3 (u3 (u3 (u3 (u3 (u3 P 9 i 0 x1) 9 i 1 x2) 9 i 2 pl) 9 i 3 x3) 9 i 4 x4) 9 i 5 x5) 9 i 6 x6) 9 i 7 x7) 9 i 8 1) 9 i 9 0) 9 i 10 0) 9 i 11 H) 9 i 12 201) 9 i 13 201) 6 e 6 (pl + 1)) 0 0 4 k
def cR_ (G : Mem) (i e : Nat) (pl H k x1 x2 x3 x4 x5 x6 x7 : Int32) : Mem := u3 (u3 (u3 (u3 (u3 (u3 (u3 (u3 (u3 (u3 (u3 (u3 (u3 (u3 (u3 (u3 G 21 14 i x1) 21 15 i x2) 21 16 i pl) 21 17 i x6) 21 18 i x5) 21 19 i x3) 21 20 i x4) 21 21 i x7) 21 22 i 1) 21 23 i H) 21 24 i 202) 21 25 i 0) 21 26 i 202) 21 27 i 0) 21 9 e (pl + 1)) 20 0 15 k
theorem wB_ (P : Mem) (x1 x2 x3 x4 x5 x6 x7 : Int32) : f_B_write P x1 x2 x3 x4 x5 x6 x7 = cB_ P (Int32.toNatClampNeg (P 0 0 4)) (2 * Int32.toNatClampNeg x1 + Int32.toNatClampNeg x2) (P 6 (2 * Int32.toNatClampNeg x1 + Int32.toNatClampNeg x2) 6) (P 1 (Int32.toNatClampNeg x2) 2) (P 0 0 4 + 1) x1 x2 x3 x4 x5 x6 x7 := rfl
theorem sR_ (N : Mem) (x1 x2 x3 x4 x5 x6 x7 : Int32) : f_R_send N x1 x2 x3 x4 x5 x6 x7 = (if (f_R_noChannel N x1) = 0 then (if (f_R_noSide x2) = 0 then (if (f_R_in x3 0 3) = 0 then ((-1), N) else (if (f_R_in x5 0 1) = 0 then ((-1), N) else (if (f_R_in x4 0 7) = 0 then ((-2), N) else (if (f_R_in x6 1 1000) = 0 then ((-2), N) else (if (f_R_in x7 1 200) = 0 then ((-2), N) else (if (N 21 5 (Int32.toNatClampNeg ((2 * x1) + x2))) = 3 then (if x6 ≤ (f_R_has N ((2 * x1) + x2) x3 x5) then (if (N 21 2 (Int32.toNatClampNeg x2)) = 0 then (if (f_R_highest N x2) < x7 then (if (N 20 0 15) = 60 then ((-10), N) else ((N 20 0 15), cR_ (f_R_give N ((2 * x1) + x2) x3 x5 (-x6)) (Int32.toNatClampNeg (N 20 0 15)) (Int32.toNatClampNeg ((2 * x1) + x2)) ((f_R_give N ((2 * x1) + x2) x3 x5 (-x6)) 21 9 (Int32.toNatClampNeg ((2 * x1) + x2))) ((f_R_give N ((2 * x1) + x2) x3 x5 (-x6)) 21 0 (Int32.toNatClampNeg x2) + 1) ((f_R_give N ((2 * x1) + x2) x3 x5 (-x6)) 20 0 15 + 1) x1 x2 x3 x4 x5 x6 x7)) else ((-7), N)) else ((-4), N)) else ((-3), N)) else ((-3), N))))))) else ((-1), N)) else ((-1), N)) := rfl
theorem gv_cB (P : Mem) (i e : Nat) (pl H k x1 x2 x3 x4 x5 x6 x7 z1 z2 z3 z4 : Int32) : f_R_give (cB_ P i e pl H k x1 x2 x3 x4 x5 x6 x7) z1 z2 z3 z4 = cB_ (f_R_give P z1 z2 z3 z4) i e pl H k x1 x2 x3 x4 x5 x6 x7 := by
  unfold cB_
  rw [gv_cm (by decide), gv_cm (by decide), gv_cm (by decide), gv_cm (by decide), gv_cm (by decide), gv_cm (by decide), gv_cm (by decide), gv_cm (by decide), gv_cm (by decide), gv_cm (by decide), gv_cm (by decide), gv_cm (by decide), gv_cm (by decide), gv_cm (by decide), gv_cm (by decide), gv_cm (by decide)]
theorem n9_ (Q : Mem) (i e : Nat) (pl H K k x1 x2 x3 x4 x5 x6 x7 : Int32) {i2 : Nat} (h : ¬ i2 = i) : cR_ (cB_ Q i e pl H k x1 x2 x3 x4 x5 x6 x7) i e pl K k x1 x2 x3 x4 x5 x6 x7 9 i2 = Q 9 i2 := by
  funext j
  simp [cR_, cB_, u3, h]
theorem n21_ (Q : Mem) (i e : Nat) (pl H K k x1 x2 x3 x4 x5 x6 x7 : Int32) {b i2 : Nat} (h : ¬ i2 = i) (hb : ¬ b = 9) : cR_ (cB_ Q i e pl H k x1 x2 x3 x4 x5 x6 x7) i e pl K k x1 x2 x3 x4 x5 x6 x7 21 b i2 = Q 21 b i2 := by
  simp [cR_, cB_, u3, h, hb]
theorem m9_ (Q : Mem) (i e : Nat) (pl H K k x1 x2 x3 x4 x5 x6 x7 : Int32) : let N := cR_ (cB_ Q i e pl H k x1 x2 x3 x4 x5 x6 x7) i e pl K k x1 x2 x3 x4 x5 x6 x7
    (N 9 i 0 = x1 ∧ N 9 i 1 = x2 ∧ N 9 i 2 = pl ∧ N 9 i 3 = x3 ∧ N 9 i 4 = x4 ∧ N 9 i 5 = x5 ∧ N 9 i 6 = x6 ∧ N 9 i 7 = x7 ∧ N 9 i 8 = 1 ∧ N 9 i 9 = 0 ∧ N 9 i 10 = 0) ∧ N 9 i 11 = H ∧ N 9 i 12 = 201 ∧ N 9 i 13 = 201 := by
  simp [cR_, cB_, u3]
theorem m21_ (Q : Mem) (i e : Nat) (pl H K k x1 x2 x3 x4 x5 x6 x7 : Int32) : let N := cR_ (cB_ Q i e pl H k x1 x2 x3 x4 x5 x6 x7) i e pl K k x1 x2 x3 x4 x5 x6 x7
    (N 21 14 i = x1 ∧ N 21 15 i = x2 ∧ N 21 16 i = pl ∧ N 21 17 i = x6 ∧ N 21 18 i = x5 ∧ N 21 19 i = x3 ∧ N 21 20 i = x4 ∧ N 21 21 i = x7 ∧ N 21 22 i = 1 ∧ N 21 23 i = K ∧ N 21 24 i = 202) ∧ N 21 25 i = 0 ∧ N 21 26 i = 202 ∧ N 21 27 i = 0 := by
  simp [cR_, cB_, u3]
theorem noc_k {N M : Mem} (h : N 20 = M 20) (i : Int32) : f_R_noChannel N i = f_R_noChannel M i := by
  unfold f_R_noChannel
  rw [h]
theorem has_k {N M : Mem} (h : N 21 = M 21) (x1 x2 x3 : Int32) : f_R_has N x1 x2 x3 = f_R_has M x1 x2 x3 := by
  unfold f_R_has
  rw [h]
section
variable {nc nm : Nat} {hh : Nat → Nat} {M : Mem}
/-- a new message on both sides -/
theorem rl_msg {Q : Mem} (R : rl_ nc nm hh Q) (hn : nm < 60) {c s a : Nat} (hc : c < nc) (hs : s < 2) (ha : a < 4) {x4 : Int32} (h4 : vp_in x4 8) (pl x5 x6 x7 : Int32) : rl_ nc (nm + 1) hh (cR_ (cB_ Q nm (2 * c + s) pl (nI (hh s)) (nI (nm + 1)) (nI c) (nI s) (nI a) x4 x5 x6 x7) nm (2 * c + s) pl (nI (hh s + 1)) (nI (nm + 1)) (nI c) (nI s) (nI a) x4 x5 x6 x7) := by
  have hn4 : nc ≤ 4 := R.1.1
  have g := (R.2.1 s hs).1
  have R1 := rl_fld R (e0 := 2 * c + s) (j := 6) (a := 9) (pl + 1) (by omega) (by omega)
  obtain ⟨⟨p0, p1, p2, p3, p4, p5, p6, p7, p8, p9, p10⟩, p11, p12, p13⟩ := m9_ Q nm (2 * c + s) pl (nI (hh s)) (nI (hh s + 1)) (nI (nm + 1)) (nI c) (nI s) (nI a) x4 x5 x6 x7
  obtain ⟨⟨q14, q15, q16, q17, q18, q19, q20, q21, q22, q23, q24⟩, q25, q26, q27⟩ := m21_ Q nm (2 * c + s) pl (nI (hh s)) (nI (hh s + 1)) (nI (nm + 1)) (nI c) (nI s) (nI a) x4 x5 x6 x7
  have N9 := fun i2 => @n9_ Q nm (2 * c + s) pl (nI (hh s)) (nI (hh s + 1)) (nI (nm + 1)) (nI c) (nI s) (nI a) x4 x5 x6 x7 i2
  have N21 := fun b i2 => @n21_ Q nm (2 * c + s) pl (nI (hh s)) (nI (hh s + 1)) (nI (nm + 1)) (nI c) (nI s) (nI a) x4 x5 x6 x7 b i2
  refine ⟨⟨hn4, by omega, R.1.2.2.1, R.1.2.2.2.1, rfl, rfl⟩, R.2.1, R.2.2.1, R.2.2.2.1, R.2.2.2.2.1, R.2.2.2.2.2.1, R1.2.2.2.2.2.2.1, R1.2.2.2.2.2.2.2.1, fun i hi => ?_, fun i hi => ?_⟩
  · by_cases q : i = nm
    · subst q
      rw [p0, p1, p3, q14, q15, q19, q20]
      have v1 : vp_in (nI c) 4 := vp_in_nI (by omega) (by decide)
      have v2 : vp_in (nI s) 2 := vp_in_nI hs (by decide)
      have v3 : vp_in (nI a) 4 := vp_in_nI ha (by decide)
      exact ⟨⟨v1, v2, v3⟩, v1, v2, v3, h4⟩
    · rw [N9 i q, N21 14 i q (by decide), N21 15 i q (by decide), N21 19 i q (by decide), N21 20 i q (by decide)]
      exact R.2.2.2.2.2.2.2.2.1 i hi
  · by_cases q : i = nm
    · subst q
      rw [q14, q15, q16, q17, q18, q19, q20, q21, q22, q23, q24, q25, q26, q27]
      exact ⟨⟨p0, p1, p2, p3, p4, p5, p6, p7, p8, p9, p10⟩, ⟨c, hc, p0⟩, Or.inr p8, Or.inl p9, ⟨hh s, by omega, p11, rfl⟩, ⟨201, by omega, p12, rfl⟩, ⟨201, by omega, p13, rfl⟩⟩
    · rw [N9 i q, N21 14 i q (by decide), N21 15 i q (by decide), N21 16 i q (by decide), N21 17 i q (by decide), N21 18 i q (by decide), N21 19 i q (by decide), N21 20 i q (by decide), N21 21 i q (by decide), N21 22 i q (by decide), N21 23 i q (by decide), N21 24 i q (by decide), N21 25 i q (by decide), N21 26 i q (by decide), N21 27 i q (by decide)]
      exact R.2.2.2.2.2.2.2.2.2 i (by omega)
theorem if_2 {α : Type} {p a b : Prop} [Decidable p] [Decidable a] [Decidable b] {x y : Int32} (A B : Int32) (h : a ↔ y ≤ A) (h2 : b ↔ y ≤ B) (T F : α) : (if p then (if a then T else F) else (if b then T else F)) = if y ≤ (if p then A else B) then T else F := by
  by_cases z : p
  · simp [z, h]
  · simp [z, h2]
theorem st_send (R : rl_ nc nm hh M) (x1 x2 x3 x4 y v u : Int32) : ok_ (f_B_send M x1 x2 x3 x4 y v u) (fun N => f_R_send N x1 x2 x3 x4 y v u) := by
  have hn4 : nc ≤ 4 := R.1.1
  have hn60 : nm ≤ 60 := R.1.2.1
  rcases ch_ R x1 with ⟨p, q⟩ | ⟨c, hc, rfl, p, q⟩
  · refine ok_same (r := -1) R ?_ ?_
    · unfold f_B_send; rw [if_pos p]
    · show f_R_send M _ _ _ _ _ _ _ = _
      rw [sR_, if_neg q]
  · rcases sd_ x2 with ⟨p2, q2⟩ | ⟨s, hs, rfl, p2, q2⟩
    · refine ok_same (r := -1) R ?_ ?_
      · unfold f_B_send; rw [if_neg p, if_pos p2]
      · show f_R_send M _ _ _ _ _ _ _ = _
        rw [sR_, if_pos q, if_neg q2]
    · rcases ac_ x3 with p3 | ⟨a, ha, rfl, p3⟩
      · refine ok_same (r := -1) R ?_ ?_
        · unfold f_B_send; rw [if_neg p, if_neg p2, if_pos p3]
        · show f_R_send M _ _ _ _ _ _ _ = _
          rw [sR_, if_pos q, if_pos q2, if_pos (show f_R_in x3 0 3 = 0 from p3)]
      · obtain ⟨g1, g2, g3⟩ := R.2.1 s hs
        obtain ⟨⟨e5, -, -, -, e9, -⟩, ev, -⟩ := R.2.2.2.2.2.2.1 (2 * c + s) (by omega)
        have ec : M 2 s a = M 21 12 (4 * s + a) := R.2.2.2.1 s a hs ha
        obtain ⟨-, c2, -, c4, -⟩ := R.2.2.1 s hs
        obtain ⟨-, -, k3, k4, k5, k6⟩ := R.1
        have c4' : M 3 s 2 = f_R_highest M (nI s) := by rw [hi_eq M hs]; exact c4
        generalize hHAS : (if y = nI s then M 21 12 (4 * s + a) else M 21 13 (4 * (2 * c + s) + a)) = HAS
        have eH : f_R_has M (nI (2 * c + s)) (nI a) y = HAS := by
          unfold f_R_has
          rw [ir_ (by omega) hs, ix_a2 hs ha, ix_v2 (by omega) ha]
          exact hHAS
        generalize hP : f_B_giveOut M (nI c) (nI s) (nI a) y (-v) = P
        have P0 : P 0 = M 0 := by rw [← hP, go_k (by decide)]
        have P1 : P 1 = M 1 := by rw [← hP, go_k (by decide)]
        have P6 : ∀ b, P 6 b 6 = M 6 b 6 := fun b => by rw [← hP, go_6 (by decide)]
        have P20 : P 20 = M 20 := by rw [← hP, go_k (by decide)]
        have P21 : P 21 = M 21 := by rw [← hP, go_k (by decide)]
        have eB : f_B_send M (nI c) (nI s) (nI a) x4 y v u = (if f_R_in y 0 1 = 0 then (-1, M) else (if f_R_in x4 0 7 = 0 then (-2, M) else (if f_R_in v 1 1000 = 0 then (-2, M) else (if f_R_in u 1 200 = 0 then (-2, M) else (if M 21 5 (2 * c + s) = 3 then (if v ≤ HAS then (if M 21 2 s = 0 then (if f_R_highest M (nI s) < u then (if nI nm < 60 then (nI nm, cB_ P nm (2 * c + s) (M 6 (2 * c + s) 6) (nI (hh s)) (nI (nm + 1)) (nI c) (nI s) (nI a) x4 y v u) else (-10, M)) else (-7, M)) else (-4, M)) else (-3, M)) else (-3, M)))))) := by
          unfold f_B_send
          rw [if_neg p, if_neg p2, if_neg p3, ti_go, hP, wB_, P0, P1, k5, nI_clamp (by omega), nI_clamp (by omega), nI_clamp (by omega), nI_clamp (by omega), P6, g2, c2, c4', e5, nI_1]
          rw [show cB_ P nm (2 * c + s) (M 6 (2 * c + s) 6) (nI (hh s)) (nI (nm + 1)) (nI c) (nI s) (nI a) x4 y v u 0 0 4 = nI (nm + 1) from rfl, show (1 : Int32) = nI 1 from rfl, pk_sub (by omega), show nm + 1 - 1 = nm by omega]
          rw [if_2 (M 21 12 (4 * s + a)) (M 21 13 (4 * (2 * c + s) + a)) (by rw [ec]) (by rw [ev a ha]), hHAS]
          rfl
          exact 0
        have eR : ∀ N : Mem, N 20 = M 20 → N 21 = M 21 → f_R_send N (nI c) (nI s) (nI a) x4 y v u = (if f_R_in y 0 1 = 0 then (-1, N) else (if f_R_in x4 0 7 = 0 then (-2, N) else (if f_R_in v 1 1000 = 0 then (-2, N) else (if f_R_in u 1 200 = 0 then (-2, N) else (if M 21 5 (2 * c + s) = 3 then (if v ≤ HAS then (if M 21 2 s = 0 then (if f_R_highest M (nI s) < u then (if nI nm = 60 then (-10, N) else (nI nm, cR_ (f_R_give N (nI (2 * c + s)) (nI a) y (-v)) nm (2 * c + s) (M 6 (2 * c + s) 6) (nI (hh s + 1)) (nI (nm + 1)) (nI c) (nI s) (nI a) x4 y v u)) else (-7, N)) else (-4, N)) else (-3, N)) else (-3, N)))))) := by
          intro N h20 h21
          have eh : f_R_highest N (nI s) = f_R_highest M (nI s) := by rw [hi_eq N hs, hi_eq M hs, h21]
          rw [sR_, ie_, noc_k h20, if_pos q, if_pos q2, has_k h21, eH, eh, gv_21 (by decide), gv_21 (by decide), gv_k (by decide), h20, h21, k6, nI_clamp (by omega), nI_clamp (by omega), nI_clamp (by omega), g3, ← e9, nI_1, nI_1]
          rw [if_neg (show ¬ f_R_in (nI a) 0 3 = 0 from p3)]
        rw [eB]
        by_cases z1 : f_R_in y 0 1 = 0
        · rw [if_pos z1]
          exact ok_same R rfl ((eR M rfl rfl).trans (if_pos z1))
        rw [if_neg z1]
        by_cases z2 : f_R_in x4 0 7 = 0
        · rw [if_pos z2]
          exact ok_same R rfl ((eR M rfl rfl).trans (by rw [if_neg z1, if_pos z2]))
        rw [if_neg z2]
        by_cases z3 : f_R_in v 1 1000 = 0
        · rw [if_pos z3]
          exact ok_same R rfl ((eR M rfl rfl).trans (by rw [if_neg z1, if_neg z2, if_pos z3]))
        rw [if_neg z3]
        by_cases z4 : f_R_in u 1 200 = 0
        · rw [if_pos z4]
          exact ok_same R rfl ((eR M rfl rfl).trans (by rw [if_neg z1, if_neg z2, if_neg z3, if_pos z4]))
        rw [if_neg z4]
        by_cases z5n : ¬ (M 21 5 (2 * c + s) = 3)
        · rw [if_neg z5n]
          exact ok_same R rfl ((eR M rfl rfl).trans (by rw [if_neg z1, if_neg z2, if_neg z3, if_neg z4, if_neg z5n]))
        have z5 := Decidable.not_not.mp z5n
        rw [if_pos z5]
        by_cases z6n : ¬ (v ≤ HAS)
        · rw [if_neg z6n]
          exact ok_same R rfl ((eR M rfl rfl).trans (by rw [if_neg z1, if_neg z2, if_neg z3, if_neg z4, if_pos z5, if_neg z6n]))
        have z6 := Decidable.not_not.mp z6n
        rw [if_pos z6]
        by_cases z7n : ¬ (M 21 2 s = 0)
        · rw [if_neg z7n]
          exact ok_same R rfl ((eR M rfl rfl).trans (by rw [if_neg z1, if_neg z2, if_neg z3, if_neg z4, if_pos z5, if_pos z6, if_neg z7n]))
        have z7 := Decidable.not_not.mp z7n
        rw [if_pos z7]
        by_cases z8n : ¬ (f_R_highest M (nI s) < u)
        · rw [if_neg z8n]
          exact ok_same R rfl ((eR M rfl rfl).trans (by rw [if_neg z1, if_neg z2, if_neg z3, if_neg z4, if_pos z5, if_pos z6, if_pos z7, if_neg z8n]))
        have z8 := Decidable.not_not.mp z8n
        rw [if_pos z8]
        by_cases z9 : nm = 60
        · rw [if_neg (show ¬ nI nm < 60 by rw [z9]; decide)]
          exact ok_same R rfl ((eR M rfl rfl).trans (by rw [if_neg z1, if_neg z2, if_neg z3, if_neg z4, if_pos z5, if_pos z6, if_pos z7, if_pos z8, z9, if_pos (by decide)]))
        rw [if_pos (show nI nm < 60 from nI_lt (a := nm) (b := 60) (by omega) (by decide))]
        have nz : ¬ nI nm = 60 := fun w => z9 ((nI_eq (a := nm) (b := 60) (by omega) (by decide)).mp w)
        have h20 : cB_ P nm (2 * c + s) (M 6 (2 * c + s) 6) (nI (hh s)) (nI (nm + 1)) (nI c) (nI s) (nI a) x4 y v u 20 = M 20 := P20
        have h21 : cB_ P nm (2 * c + s) (M 6 (2 * c + s) 6) (nI (hh s)) (nI (nm + 1)) (nI c) (nI s) (nI a) x4 y v u 21 = M 21 := P21
        refine ok_by (M2 := cR_ (f_R_give (cB_ P nm (2 * c + s) (M 6 (2 * c + s) 6) (nI (hh s)) (nI (nm + 1)) (nI c) (nI s) (nI a) x4 y v u) (nI (2 * c + s)) (nI a) y (-v)) nm (2 * c + s) (M 6 (2 * c + s) 6) (nI (hh s + 1)) (nI (nm + 1)) (nI c) (nI s) (nI a) x4 y v u) rfl (ri_of (rl_ri R) h20 h21) ((eR _ h20 h21).trans ?_) ⟨nc, nm + 1, hh, ?_⟩
        · rw [if_neg z1, if_neg z2, if_neg z3, if_neg z4, if_pos z5, if_pos z6, if_pos z7, if_pos z8, if_neg nz]
        · rw [gv_cB, ← hP]
          exact rl_msg (rl_give R hc hs ha y (-v)) (by omega) hc hs ha (in_wi (lo := 0) (hi := 7) (k := 8) (by decide) (by decide) z2) _ _ _ _
end
