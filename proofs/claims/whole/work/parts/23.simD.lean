theorem gv_tab : ∀ a, a < 8 → ∀ b, b < 8 → f_B_greatestVersion (nI a &&& nI b) = f_R_greatestOf (nI a &&& nI b) := by decide +kernel
theorem gv_7 : ∀ a, a < 8 → nI a &&& 7 = nI a := by decide +kernel
theorem gv_ {a : Nat} (ha : a < 8) (y : Int32) : f_B_greatestVersion (nI a &&& y) = f_R_greatestOf (nI a &&& y) := by
  obtain ⟨b, hb, e⟩ := pk_andE y (m := 7) 3 (by decide)
  have h : nI a &&& y = nI a &&& nI b := by
    rw [← e]
    conv => lhs; rw [← gv_7 a ha]
    rw [Int32.and_assoc, Int32.and_comm 7 y]
  rw [h]
  exact gv_tab a ha b (by omega)
section
variable {nc nm : Nat} {hh : Nat → Nat} {M : Mem}
theorem st_meet (R : rl_ nc nm hh M) (x1 x2 x3 : Int32) : ok_ (f_B_meet M x1 x2 x3) (fun N => f_R_meet N x1 x2 x3) := by
  have hn4 : nc ≤ 4 := R.1.1
  rcases ch_ R x1 with ⟨p, q⟩ | ⟨c, hc, rfl, p, q⟩
  · refine ok_same (r := -1) R ?_ ?_
    · unfold f_B_meet; rw [if_pos p]
    · show f_R_meet M _ _ _ = _
      unfold f_R_meet; rw [if_neg q]
  · by_cases w : f_B_isWithin x2 1 7 = 0
    · refine ok_same (r := -2) R ?_ ?_
      · unfold f_B_meet; rw [if_neg p, if_pos w]
      · show f_R_meet M _ _ _ = _
        unfold f_R_meet; rw [if_pos q, wi_R, if_pos w]
    · obtain ⟨a, ha1, ha7, rfl⟩ := wi_nI (a := 1) (b := 7) (by decide) (by decide) w
      obtain ⟨f, hf, e1, e2⟩ := fs_ R hc
      have hs : 1 - f < 2 := by omega
      have er := rs_ R hc hs 0 1 x3
      obtain ⟨⟨-, e6, -⟩, -⟩ := R.2.2.2.2.2.2.1 (2 * c + f) (by omega)
      have i2 : 1 - nI (1 - f) = nI f := by rw [i1_ hs]; congr 1; omega
      have i3 : 2 * nI c + 1 - nI (1 - f) = nI (2 * c + f) := by rw [ie2_ hs]; congr 1; omega
      by_cases h3 : M 21 5 (2 * c + (1 - f)) = 0
      · rw [if_pos h3] at er
        by_cases h4 : f_R_unprovedStep M (nI c) (nI (1 - f)) x3 1 = 0
        · have gv := gv_ (a := a) (by omega) (M 21 6 (2 * c + f))
          generalize hv : f_R_greatestOf (nI a &&& M 21 6 (2 * c + f)) = v at gv
          by_cases h5 : v = 0
          · refine ok_same (r := -9) R ?_ ?_
            · unfold f_B_meet
              rw [if_neg p, if_neg w, nI_clamp (by omega), e1, i1_ hf, er, if_pos h4, i2, nI_clamp (by omega), nI_clamp (by omega), e6, gv, if_pos h5]
            · show f_R_meet M _ _ _ = _
              unfold f_R_meet
              rw [if_pos q, wi_R, if_neg w, nI_clamp (by omega), e2, i1_ hf, ie_, nI_clamp (by omega), if_pos h3, if_pos h4, i3, nI_clamp (by omega), hv, if_pos h5]
          · refine ok_by (r := v) (M1 := u3 (u3 (u3 (u3 M 6 (2 * c + (1 - f)) 3 (nI a)) 6 (2 * c + (1 - f)) 4 v) 6 (2 * c + (1 - f)) 2 (nI 2)) 7 (2 * c + (1 - f)) 2 (nI (hh (1 - f)))) (M2 := u3 (u3 (u3 (u3 (u3 (u3 (u3 M 6 (2 * c + (1 - f)) 3 (nI a)) 6 (2 * c + (1 - f)) 4 v) 6 (2 * c + (1 - f)) 2 (nI 2)) 7 (2 * c + (1 - f)) 2 (nI (hh (1 - f)))) 21 5 (2 * c + (1 - f)) (nI 2)) 21 6 (2 * c + (1 - f)) (nI a)) 21 7 (2 * c + (1 - f)) v) ?_ (rl_ri R : ri_ M) ?_ ?_
            · unfold f_B_meet
              rw [if_neg p, if_neg w, nI_clamp (by omega), e1, i1_ hf, er, if_pos h4, i2, nI_clamp (by omega), nI_clamp (by omega), e6, gv, if_neg h5, show (2 : Int32) = nI 2 from rfl, ec_eq _ _ _ (by decide) (by decide), show u3 (u3 M 6 (2 * c + (1 - f)) 3 (nI a)) 6 (2 * c + (1 - f)) 4 v 1 (1 - f) 2 = nI (hh (1 - f)) from (R.2.1 (1 - f) hs).2.1]
            · show f_R_meet _ _ _ _ = _
              generalize hN : u3 (u3 (u3 (u3 M 6 (2 * c + (1 - f)) 3 (nI a)) 6 (2 * c + (1 - f)) 4 v) 6 (2 * c + (1 - f)) 2 (nI 2)) 7 (2 * c + (1 - f)) 2 (nI (hh (1 - f))) = N
              have q1 : f_R_noChannel N (nI c) = 0 := by rw [← hN]; exact q
              have q2 : N 21 3 c = nI f := by rw [← hN]; exact e2
              have q3 : N 21 5 (2 * c + (1 - f)) = 0 := by rw [← hN]; exact h3
              have q4 : f_R_unprovedStep N (nI c) (nI (1 - f)) x3 1 = 0 := by rw [← hN]; exact h4
              have q5 : N 21 6 (2 * c + f) = M 21 6 (2 * c + f) := by rw [← hN]; rfl
              unfold f_R_meet
              rw [if_pos q1, wi_R, if_neg w, nI_clamp (by omega), q2, i1_ hf, ie_, nI_clamp (by omega), if_pos q3, if_pos q4, i3, nI_clamp (by omega), q5, hv, if_neg h5]
              rfl
            · have R1 := rl_fld R (e0 := 2 * c + (1 - f)) (j := 3) (a := 6) (nI a) (by omega) (by omega)
              have R2 := rl_fld R1 (e0 := 2 * c + (1 - f)) (j := 4) (a := 7) v (by omega) (by omega)
              have := rl_step R2 (e0 := 2 * c + (1 - f)) (k := 0) (k2 := 2) (by omega) (by decide) (by decide) h3
              rw [show (2 * c + (1 - f)) % 2 = 1 - f by omega] at this
              refine ⟨nc, nm, hh, ?_⟩
              generalize 2 * c + (1 - f) = e at this ⊢
              refine cast (congrArg (rl_ nc nm hh) ?_) this
              funext x y z
              simp only [u3]
              grind
        · refine ok_same (r := f_R_unprovedStep M (nI c) (nI (1 - f)) x3 1) R ?_ ?_
          · unfold f_B_meet; rw [if_neg p, if_neg w, nI_clamp (by omega), e1, i1_ hf, er, if_neg h4]
          · show f_R_meet M _ _ _ = _
            unfold f_R_meet; rw [if_pos q, wi_R, if_neg w, nI_clamp (by omega), e2, i1_ hf, ie_, nI_clamp (by omega), if_pos h3, if_neg h4]
      · rw [if_neg h3] at er
        refine ok_same (r := -3) R ?_ ?_
        · unfold f_B_meet; rw [if_neg p, if_neg w, nI_clamp (by omega), e1, i1_ hf, er, if_neg (by decide)]
        · show f_R_meet M _ _ _ = _
          unfold f_R_meet; rw [if_pos q, wi_R, if_neg w, nI_clamp (by omega), e2, i1_ hf, ie_, nI_clamp (by omega), if_neg h3]
end
/-! ticks -/
theorem eg_R_tick (x1 H : Int32) (j : Nat) (N : Mem) : g_R_tick x1 H j N = u3 N 21 11 (Int32.toNatClampNeg (201 * (2 * nI j + x1) + H)) (N 21 5 (Int32.toNatClampNeg (2 * nI j + x1))) := rfl
theorem md_tick {s h : Nat} (hs : s < 2) (hh : h ≤ 200) (N0 : Mem) : ∀ k, k ≤ 4 → (∀ a b, ¬ (a = 21 ∧ b = 11) → md_ (g_R_tick (nI s) (nI h)) N0 k a b = N0 a b) ∧ (∀ c, (∀ j, j < k → ¬ c = 201 * (2 * j + s) + h) → md_ (g_R_tick (nI s) (nI h)) N0 k 21 11 c = N0 21 11 c) ∧ (∀ j, j < k → md_ (g_R_tick (nI s) (nI h)) N0 k 21 11 (201 * (2 * j + s) + h) = N0 21 5 (2 * j + s)) := by
  intro k
  induction k with
  | zero => intro _; exact ⟨fun _ _ _ => rfl, fun _ _ => rfl, fun j hj => absurd hj (by omega)⟩
  | succ k ih =>
    intro hk
    obtain ⟨i1, i2, i3⟩ := ih (by omega)
    have e : md_ (g_R_tick (nI s) (nI h)) N0 (k + 1) = u3 (md_ (g_R_tick (nI s) (nI h)) N0 k) 21 11 (201 * (2 * k + s) + h) (N0 21 5 (2 * k + s)) := by
      show g_R_tick (nI s) (nI h) k (md_ (g_R_tick (nI s) (nI h)) N0 k) = _
      rw [eg_R_tick, ie_, ix_t2 (by omega) hh, nI_clamp (by omega), i1 21 5 (by decide)]
    rw [e]
    refine ⟨fun a b q => ?_, fun c q => ?_, fun j hj => ?_⟩
    · rw [← i1 a b q]
      funext c
      exact if_neg (fun w => q ⟨w.1, w.2.1⟩)
    · rw [u3_n3 _ _ (q k (by omega))]
      exact i2 c (fun j hj => q j (by omega))
    · by_cases z : j = k
      · subst z
        exact u3_self _ _ _ _ _
      · rw [u3_n3 _ _ (by omega)]
        exact i3 j (by omega)
section
variable {nc nm : Nat} {hh : Nat → Nat} {M : Mem}
theorem rl_tick (R : rl_ nc nm hh M) {s : Nat} (hs : s < 2) (hl : hh s < 200) : rl_ nc nm (fun t => if t = s then hh s + 1 else hh t) (md_ (g_R_tick (nI s) (nI (hh s + 1))) (u3 (u3 M 1 s 2 (nI (hh s + 1))) 21 0 s (nI (hh s + 1))) nc) := by
  have hn4 : nc ≤ 4 := R.1.1
  obtain ⟨i1, i2, i3⟩ := md_tick hs (h := hh s + 1) (by omega) (u3 (u3 M 1 s 2 (nI (hh s + 1))) 21 0 s (nI (hh s + 1))) nc hn4
  generalize md_ (g_R_tick (nI s) (nI (hh s + 1))) (u3 (u3 M 1 s 2 (nI (hh s + 1))) 21 0 s (nI (hh s + 1))) nc = N at i1 i2 i3 ⊢
  have k5 : ∀ z, N 21 5 z = M 21 5 z := fun z => by rw [i1 21 5 (by decide)]; rfl
  have g : ∀ a b, ¬ (a = 21 ∧ b = 11) → ¬ a = 1 → ¬ (a = 21 ∧ b = 0) → N a b = M a b := by
    intro a b h1 h2 h3
    rw [i1 a b h1]
    funext c
    unfold u3
    rw [if_neg (fun q => h3 ⟨q.1, q.2.1⟩)]
    exact if_neg (fun q => h2 q.1)
  refine ⟨?_, fun t ht => ?_, fun t ht => ?_, fun t a ht ha => ?_, fun c hc => ?_, fun c hc => ?_, fun e he => ?_, fun e h1 h2 => ?_, fun i hi => ?_, fun i hi => ?_⟩
  · rw [g 0 0 (by decide) (by decide) (by decide), g 20 0 (by decide) (by decide) (by decide)]
    exact R.1
  · rw [i1 1 t (by omega), i1 21 0 (by decide)]
    by_cases q : t = s
    · subst q
      show (if t = t then hh t + 1 else hh t) ≤ 200 ∧ u3 (u3 M 1 t 2 (nI (hh t + 1))) 21 0 t (nI (hh t + 1)) 1 t 2 = nI (if t = t then hh t + 1 else hh t) ∧ u3 (u3 M 1 t 2 (nI (hh t + 1))) 21 0 t (nI (hh t + 1)) 21 0 t = nI (if t = t then hh t + 1 else hh t)
      rw [if_pos rfl, u3_self]
      exact ⟨by omega, u3_self M 1 t 2 _, rfl⟩
    · show (if t = s then hh s + 1 else hh t) ≤ 200 ∧ u3 M 1 s 2 (nI (hh s + 1)) 1 t 2 = nI (if t = s then hh s + 1 else hh t) ∧ u3 (u3 M 1 s 2 (nI (hh s + 1))) 21 0 s (nI (hh s + 1)) 21 0 t = nI (if t = s then hh s + 1 else hh t)
      rw [if_neg q, u3_n2 _ _ q, u3_n3 _ _ q]
      exact R.2.1 t ht
  · rw [g 4 t (by omega) (by decide) (by omega), g 3 t (by omega) (by decide) (by omega), g 21 2 (by decide) (by decide) (by decide), g 21 1 (by decide) (by decide) (by decide)]
    refine cr_congr (R.2.2.1 t ht) (fun _ _ _ => rfl) ?_
    show _ ≤ (if 1 - t = s then hh s + 1 else hh (1 - t))
    split
    · rename_i q; rw [q]; omega
    · exact Nat.le_refl _
  · rw [g 2 t (by omega) (by decide) (by omega), g 21 12 (by decide) (by decide) (by decide)]
    exact R.2.2.2.1 t a ht ha
  · rw [g 5 c (by omega) (by decide) (by omega), g 21 3 (by decide) (by decide) (by decide)]
    exact R.2.2.2.2.1 c hc
  · rw [g 5 c (by omega) (by decide) (by omega), g 21 3 (by decide) (by decide) (by decide), g 21 4 (by decide) (by decide) (by decide)]
    exact R.2.2.2.2.2.1 c hc
  · rw [g 6 e (by omega) (by decide) (by omega), g 7 e (by omega) (by decide) (by omega), g 8 e (by omega) (by decide) (by omega), g 21 5 (by decide) (by decide) (by decide), g 21 6 (by decide) (by decide) (by decide), g 21 7 (by decide) (by decide) (by decide), g 21 8 (by decide) (by decide) (by decide), g 21 9 (by decide) (by decide) (by decide), g 21 10 (by decide) (by decide) (by decide), g 21 13 (by decide) (by decide) (by decide)]
    obtain ⟨w1, w2, ⟨k, z1, z2, z3, z4⟩, hist⟩ := R.2.2.2.2.2.2.1 e he
    refine ⟨w1, w2, ⟨k, z1, z2, z3, fun q => ?_⟩, fun h hle => ?_⟩
    · obtain ⟨t, ht, et⟩ := z4 q
      refine ⟨t, Nat.le_trans ht ?_, et⟩
      show _ ≤ (if e % 2 = s then hh s + 1 else hh (e % 2))
      split
      · rename_i q; rw [q]; omega
      · exact Nat.le_refl _
    · show si_ (M 7 e) (nI h) = N 21 11 (201 * e + h)
      have hle : h ≤ (if e % 2 = s then hh s + 1 else hh (e % 2)) := hle
      by_cases q : e % 2 = s
      · rw [if_pos q] at hle
        by_cases q2 : h = hh s + 1
        · subst q2
          have := i3 (e / 2) (by omega)
          rw [show 201 * (2 * (e / 2) + s) + (hh s + 1) = 201 * e + (hh s + 1) by omega, show 2 * (e / 2) + s = e by omega] at this
          rw [this]
          rw [si_top (H := hh s) (by omega) z1 z3 (fun w => by rw [← q]; exact z4 w), ← z2, w1.1]
          rfl
        · rw [i2 _ (fun j hj => by omega)]
          exact hist h (by rw [q]; omega)
      · rw [if_neg q] at hle
        have : hh (e % 2) ≤ 200 := (R.2.1 (e % 2) (by omega)).1
        rw [i2 _ (fun j hj => by omega)]
        exact hist h hle
  · rw [g 6 e (by omega) (by decide) (by omega), g 7 e (by omega) (by decide) (by omega), g 8 e (by omega) (by decide) (by omega)]
    exact R.2.2.2.2.2.2.2.1 e h1 h2
  · rw [g 9 i (by omega) (by decide) (by omega), g 21 14 (by decide) (by decide) (by decide), g 21 15 (by decide) (by decide) (by decide), g 21 19 (by decide) (by decide) (by decide), g 21 20 (by decide) (by decide) (by decide)]
    exact R.2.2.2.2.2.2.2.2.1 i hi
  · rw [g 9 i (by omega) (by decide) (by omega), g 21 14 (by decide) (by decide) (by decide), g 21 15 (by decide) (by decide) (by decide), g 21 16 (by decide) (by decide) (by decide), g 21 17 (by decide) (by decide) (by decide), g 21 18 (by decide) (by decide) (by decide), g 21 19 (by decide) (by decide) (by decide), g 21 20 (by decide) (by decide) (by decide), g 21 21 (by decide) (by decide) (by decide), g 21 22 (by decide) (by decide) (by decide), g 21 23 (by decide) (by decide) (by decide), g 21 24 (by decide) (by decide) (by decide), g 21 25 (by decide) (by decide) (by decide), g 21 26 (by decide) (by decide) (by decide), g 21 27 (by decide) (by decide) (by decide)]
    exact R.2.2.2.2.2.2.2.2.2 i hi
theorem st_tick (R : rl_ nc nm hh M) (x1 : Int32) : ok_ (f_B_tick M x1) (fun N => f_R_tick N x1) := by
  have hn4 : nc ≤ 4 := R.1.1
  rcases sd_ x1 with ⟨p, q⟩ | ⟨s, hs, rfl, p, q⟩
  · refine ok_same (r := -1) R ?_ ?_
    · unfold f_B_tick; rw [if_pos p]
    · show f_R_tick M _ = _
      unfold f_R_tick; rw [if_neg q]
  · obtain ⟨g1, g2, g3⟩ := R.2.1 s hs
    by_cases hl : hh s < 200
    · refine ok_by (r := nI (hh s + 1)) (M1 := u3 M 1 s 2 (nI (hh s + 1))) (M2 := md_ (g_R_tick (nI s) (nI (hh s + 1))) (u3 (u3 M 1 s 2 (nI (hh s + 1))) 21 0 s (nI (hh s + 1))) nc) ?_ (rl_ri R : ri_ M) ?_ ?_
      · unfold f_B_tick
        rw [if_neg p, nI_clamp (by omega), g2, if_pos (show nI (hh s) < 200 from nI_lt (a := hh s) (b := 200) hl (by decide)), nI_1, u3_self]
      · show f_R_tick _ _ = _
        unfold f_R_tick
        rw [if_pos q, nI_clamp (by omega), show u3 M 1 s 2 (nI (hh s + 1)) 21 0 s = nI (hh s) from g3, if_neg (fun z => by have := (nI_eq (a := hh s) (b := 200) (by omega) (by decide)).mp z; omega), nI_1, u3_self, show u3 M 1 s 2 (nI (hh s + 1)) 20 0 3 = nI nc from R.1.2.2.2.1, nI_clamp (by omega)]
      · exact ⟨_, _, _, rl_tick R hs hl⟩
    · have e : hh s = 200 := by omega
      refine ok_same (r := -10) R ?_ ?_
      · unfold f_B_tick
        rw [if_neg p, nI_clamp (by omega), g2, if_neg (show ¬ nI (hh s) < 200 from nI_nlt (a := hh s) (b := 200) (by omega) (by omega))]
      · show f_R_tick M _ = _
        unfold f_R_tick
        rw [if_pos q, nI_clamp (by omega), g3, e, if_pos (show nI 200 = 200 from rfl)]
end
