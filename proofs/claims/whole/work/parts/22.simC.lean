/-! ends: the steps -/
def ok_ (b : Int32 × Mem) (f : Mem → Int32 × Mem) : Prop := ri_ b.2 ∧ (f b.2).1 = b.1 ∧ Rl (f b.2).2
theorem ok_same {nc nm : Nat} {hh : Nat → Nat} {M : Mem} {r : Int32} {b : Int32 × Mem} {f : Mem → Int32 × Mem} (R : rl_ nc nm hh M) (hb : b = (r, M)) (h : f M = (r, M)) : ok_ b f := by
  subst hb
  refine ⟨rl_ri R, ?_, ?_⟩
  · show (f M).1 = r
    rw [h]
  · show Rl (f M).2
    rw [h]
    exact ⟨_, _, _, R⟩
theorem ok_by {M1 M2 : Mem} {r : Int32} {b : Int32 × Mem} {f : Mem → Int32 × Mem} (hb : b = (r, M1)) (hI : ri_ M1) (h : f M1 = (r, M2)) (hR : Rl M2) : ok_ b f := by
  subst hb
  refine ⟨hI, ?_, ?_⟩
  · show (f M1).1 = r
    rw [h]
  · show Rl (f M1).2
    rw [h]
    exact hR
theorem ec_eq (N : Mem) (z : Nat) {k : Nat} (v : Int32) (h1 : 1 ≤ k) (h4 : k ≤ 4) : f_En_comeTo N z (nI k) v = u3 (u3 N 6 z 2 (nI k)) 7 z k v := by
  unfold f_En_comeTo
  rw [if_neg (by rw [show f_B_isWithin (nI k) 1 4 = 1 from wi_in (a := 1) (b := 4) h1 h4 (by decide)]; decide), nI_clamp (by omega)]
section
variable {nc nm : Nat} {hh : Nat → Nat} {M : Mem}
theorem st_close (R : rl_ nc nm hh M) (x1 x2 : Int32) : ok_ (f_B_close M x1 x2) (fun N => f_R_close N x1 x2) := by
  have hn4 : nc ≤ 4 := R.1.1
  rcases ch_ R x1 with ⟨p, q⟩ | ⟨c, hc, rfl, p, q⟩
  · refine ok_same (r := -1) R ?_ ?_
    · unfold f_B_close; rw [if_pos p]
    · show f_R_close M _ _ = _
      unfold f_R_close; rw [if_neg q]
  · rcases sd_ x2 with ⟨p2, q2⟩ | ⟨s, hs, rfl, p2, q2⟩
    · refine ok_same (r := -1) R ?_ ?_
      · unfold f_B_close; rw [if_neg p, if_pos p2]
      · show f_R_close M _ _ = _
        unfold f_R_close; rw [if_pos q, if_neg q2]
    · obtain ⟨⟨e5, -⟩, -⟩ := R.2.2.2.2.2.2.1 (2 * c + s) (by omega)
      by_cases h3 : M 21 5 (2 * c + s) = 3
      · refine ok_by (r := 1) (M1 := u3 (u3 M 6 (2 * c + s) 2 (nI 4)) 7 (2 * c + s) 4 (nI (hh s))) (M2 := u3 (u3 (u3 M 6 (2 * c + s) 2 (nI 4)) 7 (2 * c + s) 4 (nI (hh s))) 21 5 (2 * c + s) (nI 4)) ?_ (rl_ri R : ri_ M) ?_ ?_
        · unfold f_B_close
          rw [if_neg p, if_neg p2, nI_clamp (by omega), nI_clamp (by omega), e5, if_pos h3, show (4 : Int32) = nI 4 from rfl, ec_eq _ _ _ (by decide) (by decide), (R.2.1 s hs).2.1]
        · show f_R_close _ _ _ = _
          unfold f_R_close
          rw [if_pos (show f_R_noChannel (u3 (u3 M 6 (2 * c + s) 2 (nI 4)) 7 (2 * c + s) 4 (nI (hh s))) (nI c) = 0 from q), if_pos q2, ie_, nI_clamp (by omega), if_pos (show u3 (u3 M 6 (2 * c + s) 2 (nI 4)) 7 (2 * c + s) 4 (nI (hh s)) 21 5 (2 * c + s) = 3 from h3)]
          rfl
        · have := rl_step R (e0 := 2 * c + s) (k := 3) (k2 := 4) (by omega) (by decide) (by decide) h3
          rw [show (2 * c + s) % 2 = s by omega] at this
          exact ⟨_, _, _, this⟩
      · refine ok_same (r := -3) R ?_ ?_
        · unfold f_B_close; rw [if_neg p, if_neg p2, nI_clamp (by omega), nI_clamp (by omega), e5, if_neg h3]
        · show f_R_close M _ _ = _
          unfold f_R_close; rw [if_pos q, if_pos q2, ie_, nI_clamp (by omega), if_neg h3]
theorem st_shut (R : rl_ nc nm hh M) (x1 x2 x3 : Int32) : ok_ (f_B_shut M x1 x2 x3) (fun N => f_R_shut N x1 x2 x3) := by
  have hn4 : nc ≤ 4 := R.1.1
  rcases ch_ R x1 with ⟨p, q⟩ | ⟨c, hc, rfl, p, q⟩
  · refine ok_same (r := -1) R ?_ ?_
    · unfold f_B_shut; rw [if_pos p]
    · show f_R_shut M _ _ _ = _
      unfold f_R_shut; rw [if_neg q]
  · rcases sd_ x2 with ⟨p2, q2⟩ | ⟨s, hs, rfl, p2, q2⟩
    · refine ok_same (r := -1) R ?_ ?_
      · unfold f_B_shut; rw [if_neg p, if_pos p2]
      · show f_R_shut M _ _ _ = _
        unfold f_R_shut; rw [if_pos q, if_neg q2]
    · have er := rs_ R hc hs 3 4 x3
      by_cases h3 : M 21 5 (2 * c + s) = 3
      · rw [if_pos h3] at er
        by_cases h4 : f_R_unprovedStep M (nI c) (nI s) x3 4 = 0
        · refine ok_by (r := 1) (M1 := u3 (u3 M 6 (2 * c + s) 2 (nI 4)) 7 (2 * c + s) 4 (nI (hh s))) (M2 := u3 (u3 (u3 M 6 (2 * c + s) 2 (nI 4)) 7 (2 * c + s) 4 (nI (hh s))) 21 5 (2 * c + s) (nI 4)) ?_ (rl_ri R : ri_ M) ?_ ?_
          · unfold f_B_shut
            rw [if_neg p, if_neg p2, er, if_pos h4, nI_clamp (by omega), nI_clamp (by omega), show (4 : Int32) = nI 4 from rfl, ec_eq _ _ _ (by decide) (by decide), (R.2.1 s hs).2.1]
          · show f_R_shut _ _ _ _ = _
            unfold f_R_shut
            rw [if_pos (show f_R_noChannel (u3 (u3 M 6 (2 * c + s) 2 (nI 4)) 7 (2 * c + s) 4 (nI (hh s))) (nI c) = 0 from q), if_pos q2, ie_, nI_clamp (by omega), if_pos (show u3 (u3 M 6 (2 * c + s) 2 (nI 4)) 7 (2 * c + s) 4 (nI (hh s)) 21 5 (2 * c + s) = 3 from h3), if_pos (show f_R_unprovedStep (u3 (u3 M 6 (2 * c + s) 2 (nI 4)) 7 (2 * c + s) 4 (nI (hh s))) (nI c) (nI s) x3 4 = 0 from h4)]
            rfl
          · have := rl_step R (e0 := 2 * c + s) (k := 3) (k2 := 4) (by omega) (by decide) (by decide) h3
            rw [show (2 * c + s) % 2 = s by omega] at this
            exact ⟨_, _, _, this⟩
        · refine ok_same (r := f_R_unprovedStep M (nI c) (nI s) x3 4) R ?_ ?_
          · unfold f_B_shut; rw [if_neg p, if_neg p2, er, if_neg h4]
          · show f_R_shut M _ _ _ = _
            unfold f_R_shut; rw [if_pos q, if_pos q2, ie_, nI_clamp (by omega), if_pos h3, if_neg h4]
      · rw [if_neg h3] at er
        refine ok_same (r := -3) R ?_ ?_
        · unfold f_B_shut; rw [if_neg p, if_neg p2, er, if_neg (by decide)]
        · show f_R_shut M _ _ _ = _
          unfold f_R_shut; rw [if_pos q, if_pos q2, ie_, nI_clamp (by omega), if_neg h3]
/-- the side that began, as a number -/
theorem fs_ (R : rl_ nc nm hh M) {c : Nat} (hc : c < nc) : ∃ f, f < 2 ∧ M 5 c 2 = nI f ∧ M 21 3 c = nI f := by
  have hn4 : nc ≤ 4 := R.1.1
  obtain ⟨f, hf, e⟩ := vp_in_of (R.2.2.2.2.1 c (by omega)).1 (by decide)
  exact ⟨f, hf, e, by rw [← (R.2.2.2.2.2.1 c hc).1]; exact e⟩
theorem st_confirm (R : rl_ nc nm hh M) (x1 x2 : Int32) : ok_ (f_B_confirm M x1 x2) (fun N => f_R_confirm N x1 x2) := by
  have hn4 : nc ≤ 4 := R.1.1
  rcases ch_ R x1 with ⟨p, q⟩ | ⟨c, hc, rfl, p, q⟩
  · refine ok_same (r := -1) R ?_ ?_
    · unfold f_B_confirm; rw [if_pos p]
    · show f_R_confirm M _ _ = _
      unfold f_R_confirm; rw [if_neg q]
  · obtain ⟨f, hf, e1, e2⟩ := fs_ R hc
    have hs : 1 - f < 2 := by omega
    have er := rs_ R hc hs 2 3 x2
    obtain ⟨⟨-, -, e7, -⟩, -⟩ := R.2.2.2.2.2.2.1 (2 * c + (1 - f)) (by omega)
    by_cases h3 : M 21 5 (2 * c + (1 - f)) = 2
    · rw [if_pos h3] at er
      by_cases h4 : f_R_unprovedStep M (nI c) (nI (1 - f)) x2 3 = 0
      · refine ok_by (r := M 21 7 (2 * c + (1 - f))) (M1 := u3 (u3 M 6 (2 * c + (1 - f)) 2 (nI 3)) 7 (2 * c + (1 - f)) 3 (nI (hh (1 - f)))) (M2 := u3 (u3 (u3 M 6 (2 * c + (1 - f)) 2 (nI 3)) 7 (2 * c + (1 - f)) 3 (nI (hh (1 - f)))) 21 5 (2 * c + (1 - f)) (nI 3)) ?_ (rl_ri R : ri_ M) ?_ ?_
        · unfold f_B_confirm
          rw [if_neg p, nI_clamp (by omega), e1, i1_ hf, er, if_pos h4, nI_clamp (by omega), show (3 : Int32) = nI 3 from rfl, ec_eq _ _ _ (by decide) (by decide), (R.2.1 (1 - f) hs).2.1, ← e7]
          congr 1
          exact u3_n3 M _ (by decide)
        · show f_R_confirm _ _ _ = _
          unfold f_R_confirm
          rw [if_pos (show f_R_noChannel (u3 (u3 M 6 (2 * c + (1 - f)) 2 (nI 3)) 7 (2 * c + (1 - f)) 3 (nI (hh (1 - f)))) (nI c) = 0 from q), nI_clamp (by omega), show u3 (u3 M 6 (2 * c + (1 - f)) 2 (nI 3)) 7 (2 * c + (1 - f)) 3 (nI (hh (1 - f))) 21 3 c = nI f from e2, i1_ hf, ie_, nI_clamp (by omega), if_pos (show u3 (u3 M 6 (2 * c + (1 - f)) 2 (nI 3)) 7 (2 * c + (1 - f)) 3 (nI (hh (1 - f))) 21 5 (2 * c + (1 - f)) = 2 from h3), if_pos (show f_R_unprovedStep (u3 (u3 M 6 (2 * c + (1 - f)) 2 (nI 3)) 7 (2 * c + (1 - f)) 3 (nI (hh (1 - f)))) (nI c) (nI (1 - f)) x2 3 = 0 from h4)]
          rfl
        · have := rl_step R (e0 := 2 * c + (1 - f)) (k := 2) (k2 := 3) (by omega) (by decide) (by decide) h3
          rw [show (2 * c + (1 - f)) % 2 = 1 - f by omega] at this
          exact ⟨_, _, _, this⟩
      · refine ok_same (r := f_R_unprovedStep M (nI c) (nI (1 - f)) x2 3) R ?_ ?_
        · unfold f_B_confirm; rw [if_neg p, nI_clamp (by omega), e1, i1_ hf, er, if_neg h4]
        · show f_R_confirm M _ _ = _
          unfold f_R_confirm; rw [if_pos q, nI_clamp (by omega), e2, i1_ hf, ie_, nI_clamp (by omega), if_pos h3, if_neg h4]
    · rw [if_neg h3] at er
      refine ok_same (r := -3) R ?_ ?_
      · unfold f_B_confirm; rw [if_neg p, nI_clamp (by omega), e1, i1_ hf, er, if_neg (by decide)]
      · show f_R_confirm M _ _ = _
        unfold f_R_confirm; rw [if_pos q, nI_clamp (by omega), e2, i1_ hf, ie_, nI_clamp (by omega), if_neg h3]
theorem ie2_ {c f : Nat} (hf : f < 2) : 2 * nI c + 1 - nI f = nI (2 * c + (1 - f)) := by
  rw [show (2 : Int32) = nI 2 from rfl, show (1 : Int32) = nI 1 from rfl, pk_mul, nI_add, pk_sub (by omega)]
  congr 1
  omega
theorem st_agree (R : rl_ nc nm hh M) (x1 x2 : Int32) : ok_ (f_B_agree M x1 x2) (fun N => f_R_agree N x1 x2) := by
  have hn4 : nc ≤ 4 := R.1.1
  rcases ch_ R x1 with ⟨p, q⟩ | ⟨c, hc, rfl, p, q⟩
  · refine ok_same (r := -1) R ?_ ?_
    · unfold f_B_agree; rw [if_pos p]
    · show f_R_agree M _ _ = _
      unfold f_R_agree; rw [if_neg q]
  · obtain ⟨f, hf, e1, e2⟩ := fs_ R hc
    have er := rs_ R hc hf 1 2 x2
    obtain ⟨⟨-, -, e7, -⟩, -⟩ := R.2.2.2.2.2.2.1 (2 * c + (1 - f)) (by omega)
    by_cases h3 : M 21 5 (2 * c + f) = 1
    · rw [if_pos h3] at er
      by_cases h4 : f_R_unprovedStep M (nI c) (nI f) x2 2 = 0
      · generalize hv : M 21 7 (2 * c + (1 - f)) = v at *
        refine ok_by (r := v) (M1 := u3 (u3 (u3 M 6 (2 * c + f) 4 v) 6 (2 * c + f) 2 (nI 3)) 7 (2 * c + f) 3 (nI (hh f))) (M2 := u3 (u3 (u3 (u3 (u3 M 6 (2 * c + f) 4 v) 6 (2 * c + f) 2 (nI 3)) 7 (2 * c + f) 3 (nI (hh f))) 21 5 (2 * c + f) (nI 3)) 21 7 (2 * c + f) v) ?_ (rl_ri R : ri_ M) ?_ ?_
        · unfold f_B_agree
          rw [if_neg p, nI_clamp (by omega), e1, i1_ hf, er, if_pos h4, nI_clamp (by omega), nI_clamp (by omega), e7, show (3 : Int32) = nI 3 from rfl, ec_eq _ _ _ (by decide) (by decide), show u3 M 6 (2 * c + f) 4 v 1 f 2 = nI (hh f) from (R.2.1 f hf).2.1]
          congr 1
          show u3 (u3 M 6 (2 * c + f) 4 v) 6 (2 * c + f) 2 (nI 3) 6 (2 * c + f) 4 = v
          rw [u3_n3 _ _ (by decide), u3_self]
        · show f_R_agree _ _ _ = _
          unfold f_R_agree
          rw [if_pos (show f_R_noChannel (u3 (u3 (u3 M 6 (2 * c + f) 4 v) 6 (2 * c + f) 2 (nI 3)) 7 (2 * c + f) 3 (nI (hh f))) (nI c) = 0 from q), nI_clamp (by omega), show u3 (u3 (u3 M 6 (2 * c + f) 4 v) 6 (2 * c + f) 2 (nI 3)) 7 (2 * c + f) 3 (nI (hh f)) 21 3 c = nI f from e2, ie_, ie2_ hf, nI_clamp (by omega), nI_clamp (by omega), if_pos (show u3 (u3 (u3 M 6 (2 * c + f) 4 v) 6 (2 * c + f) 2 (nI 3)) 7 (2 * c + f) 3 (nI (hh f)) 21 5 (2 * c + f) = 1 from h3), if_pos (show f_R_unprovedStep (u3 (u3 (u3 M 6 (2 * c + f) 4 v) 6 (2 * c + f) 2 (nI 3)) 7 (2 * c + f) 3 (nI (hh f))) (nI c) (nI f) x2 2 = 0 from h4)]
          rw [u3_self]
          rw [show u3 (u3 (u3 (u3 M 6 (2 * c + f) 4 v) 6 (2 * c + f) 2 (nI 3)) 7 (2 * c + f) 3 (nI (hh f))) 21 5 (2 * c + f) 3 21 7 (2 * c + (1 - f)) = v from hv]
          rfl
        · have R1 := rl_fld R (e0 := 2 * c + f) (j := 4) (a := 7) v (by omega) (by omega)
          have := rl_step R1 (e0 := 2 * c + f) (k := 1) (k2 := 3) (by omega) (by decide) (by decide) h3
          rw [show (2 * c + f) % 2 = f by omega] at this
          refine ⟨nc, nm, hh, ?_⟩
          · rw [u3_comm _ (nI 3) v (show ¬ (21 = 21 ∧ 5 = 7 ∧ 2 * c + f = 2 * c + f) by omega), u3_comm _ (nI (hh f)) v (by omega), u3_comm _ (nI 3) v (show ¬ (6 = 21 ∧ 2 * c + f = 7 ∧ 2 = 2 * c + f) by omega)]
            exact this
      · refine ok_same (r := f_R_unprovedStep M (nI c) (nI f) x2 2) R ?_ ?_
        · unfold f_B_agree; rw [if_neg p, nI_clamp (by omega), e1, er, if_neg h4]
        · show f_R_agree M _ _ = _
          unfold f_R_agree; rw [if_pos q, nI_clamp (by omega), e2, ie_, nI_clamp (by omega), if_pos h3, if_neg h4]
    · rw [if_neg h3] at er
      refine ok_same (r := -3) R ?_ ?_
      · unfold f_B_agree; rw [if_neg p, nI_clamp (by omega), e1, er, if_neg (by decide)]
      · show f_R_agree M _ _ = _
        unfold f_R_agree; rw [if_pos q, nI_clamp (by omega), e2, ie_, nI_clamp (by omega), if_neg h3]
end
