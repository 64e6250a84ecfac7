/-! timeout -/
section
variable {nc nm : Nat} {hh : Nat → Nat} {M : Mem}
theorem me_t (P : Mem) (e i : Nat) (K T T2 : Int32) : u3 (u3 (u3 (u3 (u3 (u3 (u3 (u3 (u3 P 9 i 8 0) 9 i 12 T) 9 i 9 1) 21 22 i 0) 21 24 i T2) 21 27 i 1) 6 e 2 K) 7 e 4 T) 21 5 e K = u3 (u3 (u3 (u3 (u3 (u3 (u3 (u3 (u3 P 9 i 8 0) 9 i 12 T) 9 i 9 1) 6 e 2 K) 7 e 4 T) 21 22 i 0) 21 24 i T2) 21 27 i 1) 21 5 e K := by
  funext x y z
  simp only [u3]
  grind (splits := 60)
theorem st_timeout (R : rl_ nc nm hh M) (x1 x2 : Int32) : ok_ (f_B_timeout M x1 x2) (fun N => f_R_timeout N x1 x2) := by
  have hn4 : nc ≤ 4 := R.1.1
  have hn60 : nm ≤ 60 := R.1.2.1
  rcases ms_ R x1 with ⟨p, q⟩ | ⟨i, hi, rfl, p, q⟩
  · refine ok_same (r := -1) R ?_ ?_
    · unfold f_B_timeout; rw [if_pos p]
    · show f_R_timeout M _ _ = _
      unfold f_R_timeout; rw [if_neg q]
  · obtain ⟨⟨m0, m1, m2, m3, m4, m5, m6, m7, m8, m9, m10⟩, -, w8, w9, -, -, ⟨t3, ht3, a3, b3⟩⟩ := R.2.2.2.2.2.2.2.2.2 i hi
    obtain ⟨c, t, a, hc, ht, ha, mc, e14, mt, e15, ma, e19⟩ := mg_ R hi
    obtain ⟨g1, g2, g3⟩ := R.2.1 t ht
    obtain ⟨-, o1, -⟩ := R.2.2.2.2.2.1 c hc
    obtain ⟨⟨e5, -⟩, -⟩ := R.2.2.2.2.2.2.1 (2 * c + t) (by omega)
    have rf := rf_ R ht x2
    generalize hG : u3 (u3 (u3 (f_B_giveOut M (nI c) (nI t) (nI a) (M 21 18 i) (M 21 17 i)) 9 i 8 0) 9 i 12 (nI (hh t))) 9 i 9 1 = G
    have G9 : ∀ j, ¬ j = 8 → ¬ j = 12 → ¬ j = 9 → G 9 i j = M 9 i j := fun j h1 h2 h3 => by rw [← hG, u3_nc _ _ h3, u3_nc _ _ h2, u3_nc _ _ h1, go_k (by decide)]
    have Gk : ∀ b, ¬ (b = 2 ∨ b = 6 ∨ b = 8 ∨ b = 9) → G b = M b := fun b h => by rw [← hG, u3_na _ _ (by omega), u3_na _ _ (by omega), u3_na _ _ (by omega), go_k (by omega)]
    have G6 : ∀ b, G 6 b 2 = M 6 b 2 := fun b => by rw [← hG, u3_na _ _ (by decide), u3_na _ _ (by decide), u3_na _ _ (by decide), go_6 (by decide)]
    have eG : f_B_giveBack (f_B_finish M i) i = G := by rw [fb_ ht mt g2, gb_ mc mt ma, m5, m6]; exact hG
    have eB : f_B_timeout M (nI i) x2 = if M 21 22 i = 0 then (-3, M) else (if f_R_unproved M (nI t) x2 = 0 then (if f_Me_isReceivedIn M i x2 = 0 then (if M 21 21 i ≤ x2 then (if M 21 4 c = 0 then (M 21 17 i, G) else (if M 21 5 (2 * c + t) = 3 then (M 21 17 i, u3 (u3 G 6 (2 * c + t) 2 (nI 4)) 7 (2 * c + t) 4 (nI (hh t))) else (M 21 17 i, G))) else (-7, M)) else (-6, M)) else (f_R_unproved M (nI t) x2, M)) := by
      unfold f_B_timeout f_B_refusalAtSender
      rw [if_neg p, nI_clamp (by omega), eG, G9 0 (by decide) (by decide) (by decide), G9 1 (by decide) (by decide) (by decide), G9 6 (by decide) (by decide) (by decide), mc, mt, nI_clamp (by omega), nI_clamp (by omega), Gk 5 (by decide), Gk 1 (by decide), G6, m8, rf.1, o1, e5, m6, m7, g2, show (4 : Int32) = nI 4 from rfl, ec_eq _ _ _ (by decide) (by decide)]
      rw [show u3 (u3 G 6 (2 * c + t) 2 (nI 4)) 7 (2 * c + t) 4 (nI (hh t)) 9 i 6 = M 21 17 i from (G9 6 (by decide) (by decide) (by decide)).trans m6]
      by_cases y : M 21 22 i = 0
      · simp only [if_pos y]
        rw [if_neg (by decide)]
      · simp only [if_neg y]
    have eR : ∀ N : Mem, N 20 = M 20 → N 21 = M 21 → f_R_timeout N (nI i) x2 = if M 21 22 i = 0 then (-3, N) else (if f_R_unproved M (nI t) x2 = 0 then (if x2 < M 21 26 i then (if M 21 21 i ≤ x2 then (if M 21 4 c = 0 then (M 21 17 i, u3 (u3 (u3 (f_R_give N (nI (2 * c + t)) (nI a) (M 21 18 i) (M 21 17 i)) 21 22 i 0) 21 24 i (nI (hh t) + 1)) 21 27 i 1) else (if M 21 5 (2 * c + t) = 3 then (M 21 17 i, u3 (u3 (u3 (u3 (f_R_give N (nI (2 * c + t)) (nI a) (M 21 18 i) (M 21 17 i)) 21 22 i 0) 21 24 i (nI (hh t) + 1)) 21 27 i 1) 21 5 (2 * c + t) (nI 4)) else (M 21 17 i, u3 (u3 (u3 (f_R_give N (nI (2 * c + t)) (nI a) (M 21 18 i) (M 21 17 i)) 21 22 i 0) 21 24 i (nI (hh t) + 1)) 21 27 i 1))) else (-7, N)) else (-6, N)) else (f_R_unproved M (nI t) x2, N)) := by
      intro N h20 h21
      have q1 : f_R_noMessage N (nI i) = 0 := by rw [nom_k h20]; exact q
      unfold f_R_timeout
      rw [fr_1 (c := c) (t := t) (a := a) (H := nI (hh t)) (y := M 21 18 i) (v := M 21 17 i) (by omega) ht (by rw [h21]; exact e14) (by rw [h21]; exact e15) (by rw [h21]; exact e19) (by rw [h21]) (by rw [h21]) (by rw [h21]; exact g3)]
      generalize hK : u3 (u3 (u3 (f_R_give N (nI (2 * c + t)) (nI a) (M 21 18 i) (M 21 17 i)) 21 22 i 0) 21 24 i (nI (hh t) + 1)) 21 27 i 1 = K
      have Kb : ∀ b, ¬ (b = 8 ∨ b = 12 ∨ b = 13 ∨ b = 22 ∨ b = 24 ∨ b = 27) → K 21 b = M 21 b := fun b h => by rw [← hK, u3_nb _ _ (by omega), u3_nb _ _ (by omega), u3_nb _ _ (by omega), gv_21 (by omega), h21]
      rw [if_pos q1, nI_clamp (by omega), unp_k h21, h21, e15, Kb 4 (by decide), Kb 14 (by decide), Kb 15 (by decide), e14, e15, ie_, nI_clamp (by omega), nI_clamp (by omega), u3_nb _ _ (show ¬ 17 = 5 by decide), u3_nb _ _ (show ¬ 17 = 5 by decide), Kb 17 (by decide), u3_id, Kb 5 (by decide)]
      rfl
    rw [eB]
    by_cases y : M 21 22 i = 0
    · rw [if_pos y]
      exact ok_same (r := -3) R rfl ((eR M rfl rfl).trans (by rw [if_pos y]))
    · rw [if_neg y]
      by_cases zU : f_R_unproved M (nI t) x2 = 0
      · rw [if_pos zU]
        obtain ⟨h, h1, h2, h3, rfl⟩ := rf.2 (by rw [rf.1]; exact zU)
        by_cases z : t3 < h
        · have cB : ¬ f_Me_isReceivedIn M i (nI h) = 0 := by
            unfold f_Me_isReceivedIn
            rw [a3, if_neg (nI_ge z (by omega))]
            decide
          have cR : ¬ nI h < M 21 26 i := by rw [b3]; exact nI_nlt (by omega) (by omega)
          rw [if_neg cB]
          exact ok_same (r := -6) R rfl ((eR M rfl rfl).trans (by rw [if_neg y, if_pos zU, if_neg cR]))
        · have cB : f_Me_isReceivedIn M i (nI h) = 0 := by
            unfold f_Me_isReceivedIn
            rw [a3, if_pos (nI_le (by omega) (by omega))]
          have cR : nI h < M 21 26 i := by rw [b3]; exact nI_lt (by omega) (by omega)
          rw [if_pos cB]
          by_cases zl : M 21 21 i ≤ nI h
          · rw [if_pos zl]
            have RB := rl_bck R hi hc ht ha (M 21 18 i) (M 21 17 i)
            rw [hG] at RB
            have okG : M 21 4 c = 0 ∨ ¬ M 21 5 (2 * c + t) = 3 → ok_ (M 21 17 i, G) (fun N => f_R_timeout N (nI i) (nI h)) := by
              intro zz
              refine ok_by rfl (ri_of (rl_ri R) (Gk 20 (by decide)) (Gk 21 (by decide))) ((eR G (Gk 20 (by decide)) (Gk 21 (by decide))).trans ?_) ⟨nc, nm, hh, RB⟩
              rw [if_neg y, if_pos zU, if_pos cR, if_pos zl]
              rcases zz with zz | zz
              · rw [if_pos zz]
              · rw [if_neg zz]
                split <;> rfl
            by_cases zo : M 21 4 c = 0
            · rw [if_pos zo]
              exact okG (Or.inl zo)
            · rw [if_neg zo]
              by_cases z5 : M 21 5 (2 * c + t) = 3
              · rw [if_pos z5]
                have k20 : u3 (u3 G 6 (2 * c + t) 2 (nI 4)) 7 (2 * c + t) 4 (nI (hh t)) 20 = M 20 := by rw [u3_na _ _ (by decide), u3_na _ _ (by decide)]; exact Gk 20 (by decide)
                have k21 : u3 (u3 G 6 (2 * c + t) 2 (nI 4)) 7 (2 * c + t) 4 (nI (hh t)) 21 = M 21 := by rw [u3_na _ _ (by decide), u3_na _ _ (by decide)]; exact Gk 21 (by decide)
                refine ok_by (M2 := u3 (u3 (u3 (u3 (f_R_give (u3 (u3 G 6 (2 * c + t) 2 (nI 4)) 7 (2 * c + t) 4 (nI (hh t))) (nI (2 * c + t)) (nI a) (M 21 18 i) (M 21 17 i)) 21 22 i 0) 21 24 i (nI (hh t) + 1)) 21 27 i 1) 21 5 (2 * c + t) (nI 4)) rfl (ri_of (rl_ri R) k20 k21) ((eR _ k20 k21).trans ?_) ⟨nc, nm, hh, ?_⟩
                · rw [if_neg y, if_pos zU, if_pos cR, if_pos zl, if_neg zo, if_pos z5]
                · have h5 : u3 (u3 (u3 (f_R_give G (nI (2 * c + t)) (nI a) (M 21 18 i) (M 21 17 i)) 21 22 i 0) 21 24 i (nI (hh t) + 1)) 21 27 i 1 21 5 (2 * c + t) = nI 3 := by
                    rw [u3_nb _ _ (by decide), u3_nb _ _ (by decide), u3_nb _ _ (by decide), gv_21 (by decide), Gk 21 (by decide)]
                    exact z5
                  have RS := rl_step RB (e0 := 2 * c + t) (k := 3) (k2 := 4) (by omega) (by decide) (by decide) h5
                  rw [show (2 * c + t) % 2 = t by omega] at RS
                  rw [gv_cm (by decide), gv_cm (by decide)]
                  rw [← hG] at RS ⊢
                  rw [gv_cm (by decide), gv_cm (by decide), gv_cm (by decide)] at RS ⊢
                  exact cast (congrArg (rl_ nc nm hh) (me_t _ _ _ _ _ _)) RS
              · rw [if_neg z5]
                exact okG (Or.inr z5)
          · rw [if_neg zl]
            exact ok_same (r := -7) R rfl ((eR M rfl rfl).trans (by rw [if_neg y, if_pos zU, if_pos cR, if_neg zl]))
      · rw [if_neg zU]
        exact ok_same R rfl ((eR M rfl rfl).trans (by rw [if_neg y, if_neg zU]))
end
