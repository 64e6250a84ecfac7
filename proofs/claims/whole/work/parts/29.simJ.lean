/-! acknowledge and timeout -/
theorem go_cm {M : Mem} {x1 x2 x3 x4 x5 v : Int32} {i j : Nat} : f_B_giveOut (u3 M 9 i j v) x1 x2 x3 x4 x5 = u3 (f_B_giveOut M x1 x2 x3 x4 x5) 9 i j v := by
  have cm : ∀ (N : Mem) (k b c : Nat) (w : Int32), ¬ k = 9 → u3 (u3 N 9 i j v) k b c w = u3 (u3 N k b c w) 9 i j v := fun N k b c w h => u3_comm N v w (by omega)
  have e2 : ∀ N : Mem, u3 N 9 i j v 2 = N 2 := fun N => u3_na N v (by decide)
  have e6 : ∀ N : Mem, u3 N 9 i j v 6 = N 6 := fun N => u3_na N v (by decide)
  have e8 : ∀ N : Mem, u3 N 9 i j v 8 = N 8 := fun N => u3_na N v (by decide)
  unfold f_B_giveOut
  split
  · rw [e2, cm _ 2 _ _ _ (by decide), e6, cm _ 6 _ _ _ (by decide)]
  · rw [e8, cm _ 8 _ _ _ (by decide)]
theorem me_f2 (P : Mem) (i : Nat) (T T2 : Int32) : u3 (u3 (u3 (u3 (u3 (u3 P 9 i 8 0) 21 22 i 0) 9 i 12 T) 21 24 i T2) 9 i 9 1) 21 27 i 1 = u3 (u3 (u3 (u3 (u3 (u3 P 9 i 8 0) 9 i 12 T) 9 i 9 1) 21 22 i 0) 21 24 i T2) 21 27 i 1 := by
  funext x y z
  simp only [u3]
  grind (splits := 40)
section
variable {nc nm : Nat} {hh : Nat → Nat} {M : Mem}
/-- what a message of the sender has -/
theorem mg_ (R : rl_ nc nm hh M) {i : Nat} (hi : i < nm) : ∃ c t a, c < nc ∧ t < 2 ∧ a < 4 ∧ M 9 i 0 = nI c ∧ M 21 14 i = nI c ∧ M 9 i 1 = nI t ∧ M 21 15 i = nI t ∧ M 9 i 3 = nI a ∧ M 21 19 i = nI a := by
  have hn60 : nm ≤ 60 := R.1.2.1
  obtain ⟨⟨m0, m1, m2, m3, -⟩, ⟨c, hc, mc⟩, -⟩ := R.2.2.2.2.2.2.2.2.2 i hi
  obtain ⟨⟨r0, r1, r3⟩, -⟩ := R.2.2.2.2.2.2.2.2.1 i (by omega)
  obtain ⟨t, ht, mt⟩ := vp_in_of r1 (by decide)
  obtain ⟨a, ha, ma⟩ := vp_in_of r3 (by decide)
  exact ⟨c, t, a, hc, ht, ha, mc, m0.symm.trans mc, mt, m1.symm.trans mt, ma, m3.symm.trans ma⟩
theorem fb_ {i t : Nat} {T : Int32} (ht : t < 2) (mt : M 9 i 1 = nI t) (g : M 1 t 2 = T) : f_B_finish M i = u3 (u3 M 9 i 8 0) 9 i 12 T := by
  unfold f_B_finish
  rw [show u3 M 9 i 8 0 9 i 1 = nI t from (u3_nc _ _ (by decide)).trans mt, nI_clamp (by omega), show u3 M 9 i 8 0 1 t 2 = T from g]
theorem gb_ {i c t a : Nat} {T : Int32} (mc : M 9 i 0 = nI c) (mt : M 9 i 1 = nI t) (ma : M 9 i 3 = nI a) : f_B_giveBack (u3 (u3 M 9 i 8 0) 9 i 12 T) i = u3 (u3 (u3 (f_B_giveOut M (nI c) (nI t) (nI a) (M 9 i 5) (M 9 i 6)) 9 i 8 0) 9 i 12 T) 9 i 9 1 := by
  unfold f_B_giveBack
  have e : ∀ j, ¬ j = 8 → ¬ j = 12 → u3 (u3 M 9 i 8 0) 9 i 12 T 9 i j = M 9 i j := fun j h1 h2 => (u3_nc _ _ h2).trans (u3_nc _ _ h1)
  rw [e 0 (by decide) (by decide), e 1 (by decide) (by decide), e 3 (by decide) (by decide), e 5 (by decide) (by decide), e 6 (by decide) (by decide), mc, mt, ma, go_cm, go_cm]
theorem fr_0 {N : Mem} {i t : Nat} {H : Int32} (hi : i < 60) (ht : t < 2) (e15 : N 21 15 i = nI t) (g : N 21 0 t = H) : f_R_finish N (nI i) 0 = u3 (u3 N 21 22 i 0) 21 24 i (H + 1) := by
  unfold f_R_finish
  rw [if_pos rfl, nI_clamp (by omega), e15, nI_clamp (by omega), u3_nb _ _ (by decide), g]
theorem fr_1 {N : Mem} {i c t a : Nat} {H y v : Int32} (hi : i < 60) (ht : t < 2) (e14 : N 21 14 i = nI c) (e15 : N 21 15 i = nI t) (e19 : N 21 19 i = nI a) (e18 : N 21 18 i = y) (e17 : N 21 17 i = v) (g : N 21 0 t = H) : f_R_finish N (nI i) 1 = u3 (u3 (u3 (f_R_give N (nI (2 * c + t)) (nI a) y v) 21 22 i 0) 21 24 i (H + 1)) 21 27 i 1 := by
  unfold f_R_finish
  rw [if_neg (by decide), nI_clamp (by omega), e15, nI_clamp (by omega), u3_nb _ _ (show ¬ 0 = 22 by decide), g]
  have e : ∀ b, ¬ b = 22 → ¬ b = 24 → u3 (u3 N 21 22 i 0) 21 24 i (H + 1) 21 b = N 21 b := fun b h1 h2 => (u3_nb _ _ h2).trans (u3_nb _ _ h1)
  rw [e 14 (by decide) (by decide), e 17 (by decide) (by decide), e 18 (by decide) (by decide), e 19 (by decide) (by decide), e14, e17, e18, e19, ie_, gv_cm2 (by decide), gv_cm2 (by decide)]
/-- it is finished -/
theorem rl_fin (R : rl_ nc nm hh M) {i t : Nat} (hi : i < nm) (ht : t < 2) : rl_ nc nm hh (u3 (u3 (u3 (u3 M 9 i 8 0) 9 i 12 (nI (hh t))) 21 22 i 0) 21 24 i (nI (hh t) + 1)) := by
  have g1 := (R.2.1 t ht).1
  have R1 := rl_mf R (i0 := i) (j := 8) (a := 22) (v := 0) (w := 0) hi (Or.inl ⟨rfl, rfl, rfl, Or.inl rfl⟩)
  have R2 := rl_mf R1 (i0 := i) (j := 12) (a := 24) (v := nI (hh t)) (w := nI (hh t) + 1) hi (Or.inr (Or.inr (Or.inr (Or.inl ⟨rfl, rfl, ⟨hh t, by omega, rfl, nI_1 _⟩⟩))))
  refine cast (congrArg (rl_ nc nm hh) ?_) R2
  congr 1
  exact u3_comm _ _ _ (by omega)
/-- it is finished, and the amount is back -/
theorem rl_bck (R : rl_ nc nm hh M) {i c t a : Nat} (hi : i < nm) (hc : c < nc) (ht : t < 2) (ha : a < 4) (y v : Int32) : rl_ nc nm hh (u3 (u3 (u3 (f_R_give (u3 (u3 (u3 (f_B_giveOut M (nI c) (nI t) (nI a) y v) 9 i 8 0) 9 i 12 (nI (hh t))) 9 i 9 1) (nI (2 * c + t)) (nI a) y v) 21 22 i 0) 21 24 i (nI (hh t) + 1)) 21 27 i 1) := by
  have g1 := (R.2.1 t ht).1
  have R0 := rl_give R hc ht ha y v
  have R1 := rl_mf R0 (i0 := i) (j := 8) (a := 22) (v := 0) (w := 0) hi (Or.inl ⟨rfl, rfl, rfl, Or.inl rfl⟩)
  have R2 := rl_mf R1 (i0 := i) (j := 12) (a := 24) (v := nI (hh t)) (w := nI (hh t) + 1) hi (Or.inr (Or.inr (Or.inr (Or.inl ⟨rfl, rfl, ⟨hh t, by omega, rfl, nI_1 _⟩⟩))))
  have R3 := rl_mf R2 (i0 := i) (j := 9) (a := 27) (v := 1) (w := 1) hi (Or.inr (Or.inl ⟨rfl, rfl, rfl, Or.inr rfl⟩))
  rw [gv_cm (by decide), gv_cm (by decide), gv_cm (by decide)]
  exact cast (congrArg (rl_ nc nm hh) (me_f2 _ _ _ _)) R3
theorem ri_of {N M : Mem} (h : ri_ M) (h20 : N 20 = M 20) (h21 : N 21 = M 21) : ri_ N := by
  unfold ri_ at h ⊢
  rw [h20, h21]
  exact h
theorem st_ack (R : rl_ nc nm hh M) (x1 x2 : Int32) : ok_ (f_B_acknowledge M x1 x2) (fun N => f_R_acknowledge N x1 x2) := by
  have hn4 : nc ≤ 4 := R.1.1
  have hn60 : nm ≤ 60 := R.1.2.1
  rcases ms_ R x1 with ⟨p, q⟩ | ⟨i, hi, rfl, p, q⟩
  · refine ok_same (r := -1) R ?_ ?_
    · unfold f_B_acknowledge; rw [if_pos p]
    · show f_R_acknowledge M _ _ = _
      unfold f_R_acknowledge; rw [if_neg q]
  · obtain ⟨⟨m0, m1, m2, m3, m4, m5, m6, m7, m8, m9, m10⟩, -, w8, w9, -, -, ⟨t3, ht3, a3, b3⟩⟩ := R.2.2.2.2.2.2.2.2.2 i hi
    obtain ⟨c, t, a, hc, ht, ha, mc, e14, mt, e15, ma, e19⟩ := mg_ R hi
    obtain ⟨g1, g2, g3⟩ := R.2.1 t ht
    obtain ⟨-, o1, -⟩ := R.2.2.2.2.2.1 c hc
    have rf := rf_ R ht x2
    have e0 : ∀ j, ¬ j = 8 → ¬ j = 12 → u3 (u3 M 9 i 8 0) 9 i 12 (nI (hh t)) 9 i j = M 9 i j := fun j h1 h2 => (u3_nc _ _ h2).trans (u3_nc _ _ h1)
    -- the last part on both sides
    have FB : ∀ z : Int32 × Mem, z = (if M 21 25 i = 2 then ((0 : Int32), u3 (u3 (u3 (f_B_giveOut M (nI c) (nI t) (nI a) (M 21 18 i) (M 21 17 i)) 9 i 8 0) 9 i 12 (nI (hh t))) 9 i 9 1) else (if M 21 25 i = 1 then (1, u3 (u3 M 9 i 8 0) 9 i 12 (nI (hh t))) else (0, u3 (u3 M 9 i 8 0) 9 i 12 (nI (hh t))))) →
        ok_ z (fun N => if M 21 25 i = 2 then (0, f_R_finish N (nI i) 1) else (if M 21 25 i = 1 then (1, f_R_finish N (nI i) 0) else (0, f_R_finish N (nI i) 0))) := by
      intro z hz
      subst hz
      by_cases y2 : M 21 25 i = 2
      · refine ok_by (r := 0) (M1 := u3 (u3 (u3 (f_B_giveOut M (nI c) (nI t) (nI a) (M 21 18 i) (M 21 17 i)) 9 i 8 0) 9 i 12 (nI (hh t))) 9 i 9 1) (if_pos y2) ?_ (if_pos y2) ⟨nc, nm, hh, ?_⟩
        · exact ri_of (rl_ri R) (by rw [u3_na _ _ (by decide), u3_na _ _ (by decide), u3_na _ _ (by decide), go_k (by decide)]) (by rw [u3_na _ _ (by decide), u3_na _ _ (by decide), u3_na _ _ (by decide), go_k (by decide)])
        · have k21 : u3 (u3 (u3 (f_B_giveOut M (nI c) (nI t) (nI a) (M 21 18 i) (M 21 17 i)) 9 i 8 0) 9 i 12 (nI (hh t))) 9 i 9 1 21 = M 21 := by rw [u3_na _ _ (by decide), u3_na _ _ (by decide), u3_na _ _ (by decide), go_k (by decide)]
          rw [fr_1 (c := c) (t := t) (a := a) (H := nI (hh t)) (y := M 21 18 i) (v := M 21 17 i) (by omega) ht (by rw [k21]; exact e14) (by rw [k21]; exact e15) (by rw [k21]; exact e19) (by rw [k21]) (by rw [k21]) (by rw [k21]; exact g3)]
          exact rl_bck R hi hc ht ha _ _
      · by_cases y1 : M 21 25 i = 1
        · refine ok_by (r := 1) (M1 := u3 (u3 M 9 i 8 0) 9 i 12 (nI (hh t))) ((if_neg y2).trans (if_pos y1)) (rl_ri R : ri_ M) ((if_neg y2).trans (if_pos y1)) ⟨nc, nm, hh, ?_⟩
          rw [fr_0 (N := u3 (u3 M 9 i 8 0) 9 i 12 (nI (hh t))) (t := t) (H := nI (hh t)) (by omega) ht e15 g3]
          exact rl_fin R hi ht
        · refine ok_by (r := 0) (M1 := u3 (u3 M 9 i 8 0) 9 i 12 (nI (hh t))) ((if_neg y2).trans (if_neg y1)) (rl_ri R : ri_ M) ((if_neg y2).trans (if_neg y1)) ⟨nc, nm, hh, ?_⟩
          rw [fr_0 (N := u3 (u3 M 9 i 8 0) 9 i 12 (nI (hh t))) (t := t) (H := nI (hh t)) (by omega) ht e15 g3]
          exact rl_fin R hi ht
    have eFB : (if (f_B_finish M i) 9 i 10 = 2 then (if (f_B_giveBack (f_B_finish M i) i) 9 i 10 = 1 then (f_B_oneIf 1, f_B_giveBack (f_B_finish M i) i) else (f_B_oneIf 0, f_B_giveBack (f_B_finish M i) i)) else (if (f_B_finish M i) 9 i 10 = 1 then (f_B_oneIf 1, f_B_finish M i) else (f_B_oneIf 0, f_B_finish M i))) = (if M 21 25 i = 2 then ((0 : Int32), u3 (u3 (u3 (f_B_giveOut M (nI c) (nI t) (nI a) (M 21 18 i) (M 21 17 i)) 9 i 8 0) 9 i 12 (nI (hh t))) 9 i 9 1) else (if M 21 25 i = 1 then (1, u3 (u3 M 9 i 8 0) 9 i 12 (nI (hh t))) else (0, u3 (u3 M 9 i 8 0) 9 i 12 (nI (hh t))))) := by
      rw [fb_ ht mt g2, e0 10 (by decide) (by decide), m10, gb_ mc mt ma, m5, m6]
      rw [show u3 (u3 (u3 (f_B_giveOut M (nI c) (nI t) (nI a) (M 21 18 i) (M 21 17 i)) 9 i 8 0) 9 i 12 (nI (hh t))) 9 i 9 1 9 i 10 = M 21 25 i from by rw [u3_nc _ _ (by decide), u3_nc _ _ (by decide), u3_nc _ _ (by decide), go_k (by decide)]; exact m10]
      by_cases y2 : M 21 25 i = 2
      · rw [if_pos y2, if_pos y2, y2, if_neg (by decide)]
        rfl
      · rw [if_neg y2, if_neg y2]
        rfl
    have eFR : ∀ N : Mem, N 21 = M 21 → (if (M 21 25 i) = 2 then (if ((f_R_finish N (nI i) 1) 21 25 i) = 1 then ((1 : Int32), (f_R_finish N (nI i) 1)) else (0, (f_R_finish N (nI i) 1))) else (if ((f_R_finish N (nI i) 0) 21 25 i) = 1 then (1, (f_R_finish N (nI i) 0)) else (0, (f_R_finish N (nI i) 0)))) = (if M 21 25 i = 2 then (0, f_R_finish N (nI i) 1) else (if M 21 25 i = 1 then (1, f_R_finish N (nI i) 0) else (0, f_R_finish N (nI i) 0))) := by
      intro N h21
      have k1 : f_R_finish N (nI i) 1 21 25 i = M 21 25 i := by
        rw [fr_1 (c := c) (t := t) (a := a) (H := nI (hh t)) (y := M 21 18 i) (v := M 21 17 i) (by omega) ht (by rw [h21]; exact e14) (by rw [h21]; exact e15) (by rw [h21]; exact e19) (by rw [h21]) (by rw [h21]) (by rw [h21]; exact g3)]
        rw [u3_nb _ _ (by decide), u3_nb _ _ (by decide), u3_nb _ _ (by decide), gv_21 (by decide), h21]
      have k0 : f_R_finish N (nI i) 0 21 25 i = M 21 25 i := by
        rw [fr_0 (t := t) (H := nI (hh t)) (by omega) ht (by rw [h21]; exact e15) (by rw [h21]; exact g3)]
        rw [u3_nb _ _ (by decide), u3_nb _ _ (by decide), h21]
      rw [k1, k0]
      by_cases y2 : M 21 25 i = 2
      · rw [if_pos y2, if_pos y2, y2, if_neg (by decide)]
      · rw [if_neg y2, if_neg y2]
    have eB : f_B_acknowledge M (nI i) x2 = if M 21 22 i = 0 then (-3, M) else (if f_R_unproved M (nI t) x2 = 0 then (if f_Me_isReceivedIn M i x2 = 0 then (-6, M) else (if M 21 4 c = 0 then (if M 21 25 i = 2 then ((0 : Int32), u3 (u3 (u3 (f_B_giveOut M (nI c) (nI t) (nI a) (M 21 18 i) (M 21 17 i)) 9 i 8 0) 9 i 12 (nI (hh t))) 9 i 9 1) else (if M 21 25 i = 1 then (1, u3 (u3 M 9 i 8 0) 9 i 12 (nI (hh t))) else (0, u3 (u3 M 9 i 8 0) 9 i 12 (nI (hh t))))) else (if f_B_standsOneBefore M (nI i) = 0 then (if M 21 25 i = 2 then ((0 : Int32), u3 (u3 (u3 (f_B_giveOut M (nI c) (nI t) (nI a) (M 21 18 i) (M 21 17 i)) 9 i 8 0) 9 i 12 (nI (hh t))) 9 i 9 1) else (if M 21 25 i = 1 then (1, u3 (u3 M 9 i 8 0) 9 i 12 (nI (hh t))) else (0, u3 (u3 M 9 i 8 0) 9 i 12 (nI (hh t))))) else (-8, M)))) else (f_R_unproved M (nI t) x2, M)) := by
      unfold f_B_acknowledge f_B_refusalAtSender
      rw [if_neg p, nI_clamp (by omega), eFB, mc, mt, nI_clamp (by omega), nI_clamp (by omega), m8, rf.1, o1]
      by_cases y : M 21 22 i = 0
      · simp only [if_pos y]
        rw [if_neg (by decide)]
      · simp only [if_neg y]
    have eR : ∀ N : Mem, N 20 = M 20 → N 21 = M 21 → f_R_acknowledge N (nI i) x2 = if M 21 22 i = 0 then (-3, N) else (if f_R_unproved M (nI t) x2 = 0 then (if M 21 26 i ≤ x2 then (if M 21 4 c = 0 then (if M 21 25 i = 2 then (0, f_R_finish N (nI i) 1) else (if M 21 25 i = 1 then (1, f_R_finish N (nI i) 0) else (0, f_R_finish N (nI i) 0))) else (if f_R_isBehind M (nI i) 1 = 0 then (if M 21 25 i = 2 then (0, f_R_finish N (nI i) 1) else (if M 21 25 i = 1 then (1, f_R_finish N (nI i) 0) else (0, f_R_finish N (nI i) 0))) else (-8, N))) else (-6, N)) else (f_R_unproved M (nI t) x2, N)) := by
      intro N h20 h21
      have q1 : f_R_noMessage N (nI i) = 0 := by rw [nom_k h20]; exact q
      unfold f_R_acknowledge
      rw [if_pos q1, nI_clamp (by omega), unp_k h21, beh_k h21, h21, eFR N h21, e14, e15, nI_clamp (by omega)]
    rw [eB]
    by_cases y : M 21 22 i = 0
    · rw [if_pos y]
      exact ok_same (r := -3) R rfl ((eR M rfl rfl).trans (by rw [if_pos y]))
    · rw [if_neg y]
      by_cases zU : f_R_unproved M (nI t) x2 = 0
      · rw [if_pos zU]
        obtain ⟨h, h1, h2, h3, rfl⟩ := rf.2 (by rw [rf.1]; exact zU)
        by_cases z : t3 < h
        · have cB : ¬ f_Me_isReceivedIn M i (nI h) = 0 := by
            unfold f_Me_isReceivedIn
            rw [a3, if_neg (nI_ge z (by omega))]
            decide
          have cR : M 21 26 i ≤ nI h := by rw [b3]; exact nI_le (by omega) (by omega)
          rw [if_neg cB]
          obtain ⟨f1, f2, f3⟩ := FB _ rfl
          have f20 : (if M 21 25 i = 2 then ((0 : Int32), u3 (u3 (u3 (f_B_giveOut M (nI c) (nI t) (nI a) (M 21 18 i) (M 21 17 i)) 9 i 8 0) 9 i 12 (nI (hh t))) 9 i 9 1) else (if M 21 25 i = 1 then (1, u3 (u3 M 9 i 8 0) 9 i 12 (nI (hh t))) else (0, u3 (u3 M 9 i 8 0) 9 i 12 (nI (hh t))))).2 20 = M 20 := by
            split
            · dsimp only
              rw [u3_na _ _ (by decide), u3_na _ _ (by decide), u3_na _ _ (by decide), go_k (by decide)]
            · split <;> rfl
          have f21 : (if M 21 25 i = 2 then ((0 : Int32), u3 (u3 (u3 (f_B_giveOut M (nI c) (nI t) (nI a) (M 21 18 i) (M 21 17 i)) 9 i 8 0) 9 i 12 (nI (hh t))) 9 i 9 1) else (if M 21 25 i = 1 then (1, u3 (u3 M 9 i 8 0) 9 i 12 (nI (hh t))) else (0, u3 (u3 M 9 i 8 0) 9 i 12 (nI (hh t))))).2 21 = M 21 := by
            split
            · dsimp only
              rw [u3_na _ _ (by decide), u3_na _ _ (by decide), u3_na _ _ (by decide), go_k (by decide)]
            · split <;> rfl
          by_cases zo : M 21 4 c = 0
          · rw [if_pos zo]
            have e := eR _ f20 f21
            rw [if_neg y, if_pos zU, if_pos cR, if_pos zo] at e
            unfold ok_
            dsimp only
            rw [e]
            exact ⟨f1, f2, f3⟩
          · rw [if_neg zo]
            by_cases zb : f_B_standsOneBefore M (nI i) = 0
            · rw [if_pos zb]
              have e := eR _ f20 f21
              rw [if_neg y, if_pos zU, if_pos cR, if_neg zo, be_s R hi, if_pos zb] at e
              unfold ok_
              dsimp only
              rw [e]
              exact ⟨f1, f2, f3⟩
            · rw [if_neg zb]
              exact ok_same (r := -8) R rfl ((eR M rfl rfl).trans (by rw [if_neg y, if_pos zU, if_pos cR, if_neg zo, be_s R hi, if_neg zb]))
        · have cB : f_Me_isReceivedIn M i (nI h) = 0 := by
            unfold f_Me_isReceivedIn
            rw [a3, if_pos (nI_le (by omega) (by omega))]
          have cR : ¬ M 21 26 i ≤ nI h := by rw [b3]; exact nI_ge (by omega) (by omega)
          rw [if_pos cB]
          exact ok_same (r := -6) R rfl ((eR M rfl rfl).trans (by rw [if_neg y, if_pos zU, if_neg cR]))
      · rw [if_neg zU]
        exact ok_same R rfl ((eR M rfl rfl).trans (by rw [if_neg y, if_neg zU]))
end
