/-! the calls that ask only -/
theorem fd_ext {g g2 : Nat → Int32 → Int32} {a : Int32} : ∀ k, (∀ j, j < k → ∀ x, g j x = g2 j x) → fd_ g a k = fd_ g2 a k
  | 0, _ => rfl
  | k + 1, h => by
    show g k (fd_ g a k) = g2 k (fd_ g2 a k)
    rw [fd_ext k (fun j hj => h j (by omega)), h k (by omega)]
theorem hi_eq (M : Mem) {s : Nat} (hs : s < 2) : f_R_highest M (nI s) = hi_ (fun h => M 21 1 (201 * s + h)) 200 := by
  have key : ∀ k, k ≤ 200 → fd_ (g_R_highest M (nI s)) 0 k = hi_ (fun h => M 21 1 (201 * s + h)) k := by
    intro k
    induction k with
    | zero => intro _; rfl
    | succ k ih =>
      intro hk
      show g_R_highest M (nI s) k (fd_ (g_R_highest M (nI s)) 0 k) = _
      rw [ih (by omega)]
      unfold g_R_highest
      rw [ix_h2 hs hk]
      rfl
  exact key 200 (Nat.le_refl _)
theorem cn_eq (M : Mem) {s : Nat} (hs : s < 2) : f_R_followedMany M (nI s) = cn_ (fun h => M 21 1 (201 * s + h)) 200 := by
  have key : ∀ k, k ≤ 200 → fd_ (g_R_followedMany M (nI s)) 0 k = cn_ (fun h => M 21 1 (201 * s + h)) k := by
    intro k
    induction k with
    | zero => intro _; rfl
    | succ k ih =>
      intro hk
      show g_R_followedMany M (nI s) k (fd_ (g_R_followedMany M (nI s)) 0 k) = _
      rw [ih (by omega)]
      unfold g_R_followedMany
      rw [ix_h2 hs hk, Int32.add_zero]
      rfl
  exact key 200 (Nat.le_refl _)
section
variable {nc nm : Nat} {hh : Nat → Nat} {M : Mem}
theorem sm_client (R : rl_ nc nm hh M) (x1 x2 : Int32) : f_B_client M x1 x2 = f_R_client M x1 x2 := by
  unfold f_B_client f_R_client
  rcases sd_ x1 with ⟨p, q⟩ | ⟨s, hs, rfl, p, q⟩
  · rw [if_pos p, if_neg q]
  · obtain ⟨-, c2, -, c4, c5⟩ := R.2.2.1 s hs
    rw [if_neg p, if_pos q, nI_clamp (by omega), c2, c4, c5, hi_eq M hs, cn_eq M hs]
    rfl
theorem sm_follows (R : rl_ nc nm hh M) (x1 x2 : Int32) : f_B_follows M x1 x2 = f_R_follows M x1 x2 := by
  rcases sd_ x1 with ⟨p, q⟩ | ⟨s, hs, rfl, p, q⟩
  · unfold f_B_follows f_R_follows
    rw [if_pos p, if_neg q]
  · obtain ⟨c1, -⟩ := R.2.2.1 s hs
    rcases wi_h x2 with z | ⟨h, h1, h2, rfl, z⟩
    · unfold f_B_follows f_R_follows
      rw [if_neg p, if_pos q, wi_R, if_pos z, if_pos z]
    · have z0 : ¬ f_B_isWithin (nI h) 1 200 = 0 := by rw [z]; decide
      obtain ⟨k, hk, e1, e2, -⟩ := c1 h h1 h2
      unfold f_B_follows
      rw [if_neg p, if_neg z0, nI_clamp (by omega), cl_how R h1 h2 hk e1, cl_fol hs h1 h2 hk e2]
theorem sm_end (R : rl_ nc nm hh M) (x1 x2 x3 : Int32) : f_B_end M x1 x2 x3 = f_R_end M x1 x2 x3 := by
  have hn4 : nc ≤ 4 := R.1.1
  unfold f_B_end f_R_end
  rcases ch_ R x1 with ⟨p, q⟩ | ⟨c, hc, rfl, p, q⟩
  · rw [if_pos p, if_neg q]
  · rcases sd_ x2 with ⟨p2, q2⟩ | ⟨s, hs, rfl, p2, q2⟩
    · rw [if_neg p, if_pos p2, if_pos q, if_neg q2]
    · obtain ⟨⟨e5, e6, e7, e8, e9, e10⟩, -⟩ := R.2.2.2.2.2.2.1 (2 * c + s) (by omega)
      rw [if_neg p, if_neg p2, if_pos q, if_pos q2, nI_clamp (by omega), nI_clamp (by omega), ie_, nI_clamp (by omega), e5, e6, e7, e8, e9, e10, (R.2.2.2.2.2.1 c hc).2.1]
      rfl
theorem sm_stepAt (R : rl_ nc nm hh M) (x1 x2 x3 : Int32) : f_B_stepAt M x1 x2 x3 = f_R_stepAt M x1 x2 x3 := by
  have hn4 : nc ≤ 4 := R.1.1
  unfold f_B_stepAt f_R_stepAt f_R_stepOf
  rcases ch_ R x1 with ⟨p, q⟩ | ⟨c, hc, rfl, p, q⟩
  · rw [if_pos p, if_neg q]
  · rcases sd_ x2 with ⟨p2, q2⟩ | ⟨s, hs, rfl, p2, q2⟩
    · rw [if_neg p, if_pos p2, if_pos q, if_neg q2]
    · obtain ⟨g1, g2, g3⟩ := R.2.1 s hs
      rw [if_neg p, if_neg p2, if_pos q, if_pos q2, nI_clamp (by omega), nI_clamp (by omega), wi_R, g2, g3]
      by_cases z : f_B_isWithin x3 0 (nI (hh s)) = 0
      · rw [if_pos z, if_pos z]
      · obtain ⟨h, h1, h2, rfl⟩ := wi_nI (a := 0) (b := hh s) (by omega) (Nat.zero_le _) z
        obtain ⟨-, -, -, hist⟩ := R.2.2.2.2.2.2.1 (2 * c + s) (by omega)
        rw [if_neg z, if_neg z, si_eq, hist h (by rw [show (2 * c + s) % 2 = s by omega]; exact h2), ie_, ix_t2 (by omega) (by omega)]
theorem sm_message (R : rl_ nc nm hh M) (x1 x2 : Int32) : f_B_message M x1 x2 = f_R_message M x1 x2 := by
  have hn60 : nm ≤ 60 := R.1.2.1
  unfold f_B_message f_R_message
  rcases ms_ R x1 with ⟨p, q⟩ | ⟨i, hi, rfl, p, q⟩
  · rw [if_pos p, if_neg q]
  · obtain ⟨⟨m0, m1, m2, m3, m4, m5, m6, m7, m8, m9, m10⟩, -⟩ := R.2.2.2.2.2.2.2.2.2 i hi
    rw [if_neg p, if_pos q, nI_clamp (by omega), m0, m1, m2, m3, m4, m5, m6, m7, m8, m9, m10]
    rfl
theorem ix_a2 {s a : Nat} (hs : s < 2) (ha : a < 4) : Int32.toNatClampNeg (4 * nI s + nI a) = 4 * s + a := by
  rw [show (4 : Int32) = nI 4 from rfl, pk_mul, nI_add, nI_clamp (by omega)]
theorem ix_v2 {e a : Nat} (he : e < 8) (ha : a < 4) : Int32.toNatClampNeg (4 * nI e + nI a) = 4 * e + a := by
  rw [show (4 : Int32) = nI 4 from rfl, pk_mul, nI_add, nI_clamp (by omega)]
theorem sm_vouchers (R : rl_ nc nm hh M) (x1 x2 x3 : Int32) : f_B_vouchers M x1 x2 x3 = f_R_vouchers M x1 x2 x3 := by
  have hn4 : nc ≤ 4 := R.1.1
  unfold f_B_vouchers f_R_vouchers
  rcases ch_ R x1 with ⟨p, q⟩ | ⟨c, hc, rfl, p, q⟩
  · rw [if_pos p, if_neg q]
  · rcases sd_ x2 with ⟨p2, q2⟩ | ⟨s, hs, rfl, p2, q2⟩
    · rw [if_neg p, if_pos p2, if_pos q, if_neg q2]
    · rw [if_neg p, if_neg p2, if_pos q, if_pos q2, wi_R, show f_B_isWithin x3 0 3 = f_B_isAccount x3 from rfl]
      rcases ac_ x3 with z | ⟨a, ha, rfl, z⟩
      · rw [if_pos z, if_pos z]
      · obtain ⟨-, v, -⟩ := R.2.2.2.2.2.2.1 (2 * c + s) (by omega)
        rw [if_neg z, if_neg z, ie_, ix_v2 (by omega) ha, nI_clamp (by omega), nI_clamp (by omega), nI_clamp (by omega)]
        exact v a ha
theorem fd_z (a : Int32) : ∀ k, fd_ (fun _ x => x + 0) a k = a
  | 0 => rfl
  | k + 1 => by
    show fd_ (fun _ x => x + 0) a k + 0 = a
    rw [fd_z a k, Int32.add_zero]
theorem bal_r (R : rl_ nc nm hh M) {s a z : Nat} (hs : s < 2) (ha : a < 4) (hz : z < 2) : f_R_balance M (nI s) (nI a) (nI z) = if z = s then M 21 12 (4 * s + a) else fd_ (fun j x => x + M 21 13 (4 * (2 * j + s) + a)) 0 nc := by
  have hn4 : nc ≤ 4 := R.1.1
  have e3 : M 20 0 3 = nI nc := R.1.2.2.2.1
  unfold f_R_balance
  rw [if_pos (by rcases (show s = 0 ∨ s = 1 by omega) with rfl | rfl <;> decide), if_neg (by rw [wi_R, show f_B_isWithin (nI a) 0 3 = 1 from wi_in (a := 0) (b := 3) (Nat.zero_le _) (by omega) (by decide)]; decide), if_neg (by rw [wi_R, show f_B_isWithin (nI z) 0 1 = 1 from wi_in (a := 0) (b := 1) (Nat.zero_le _) (by omega) (by decide)]; decide), e3, nI_clamp (by omega)]
  by_cases h : z = s
  · subst h
    rw [if_pos rfl, if_pos rfl, ix_a2 hs ha]
    exact fd_z _ nc
  · rw [if_neg (fun q => h ((nI_eq (by omega) (by omega)).mp q)), if_neg h]
    refine fd_ext nc (fun j hj x => ?_)
    show x + _ = x + _
    rw [ie_, ix_v2 (by omega) ha]
theorem sm_balance (R : rl_ nc nm hh M) (x1 x2 x3 : Int32) : f_B_balance M x1 x2 x3 = f_R_balance M x1 x2 x3 := by
  have hn4 : nc ≤ 4 := R.1.1
  have e3 : M 0 0 3 = nI nc := R.1.2.2.1
  rcases sd_ x1 with ⟨p, q⟩ | ⟨s, hs, rfl, p, q⟩
  · unfold f_B_balance f_R_balance
    rw [if_pos p, if_neg q]
  · rcases ac_ x2 with z | ⟨a, ha, rfl, z⟩
    · unfold f_B_balance f_R_balance
      rw [if_neg p, if_pos q, wi_R, show f_B_isWithin x2 0 3 = f_B_isAccount x2 from rfl, if_pos z, if_pos z]
    · rcases co_ x3 with w | ⟨y, hy, rfl, w⟩
      · unfold f_B_balance f_R_balance
        rw [if_neg p, if_pos q, if_neg z, if_pos w, if_neg (by rw [wi_R]; exact z), if_pos (by rw [wi_R]; exact w)]
      · rw [bal_r R hs ha hy]
        unfold f_B_balance
        rw [if_neg p, if_neg z, if_neg w, e3, nI_clamp (by omega), nI_clamp (by omega), nI_clamp (by omega)]
        by_cases h : y = s
        · subst h
          rw [if_pos rfl, if_pos rfl]
          exact R.2.2.2.1 y a hs ha
        · rw [if_neg (fun q => h ((nI_eq (by omega) (by omega)).mp q)), if_neg h]
          refine fd_ext nc (fun j hj x => ?_)
          obtain ⟨-, v, -⟩ := R.2.2.2.2.2.2.1 (2 * j + s) (by omega)
          unfold g_B_balance
          rw [nI_clamp (by omega), nI_clamp (by omega), nI_clamp (by omega), v a ha]
theorem fd_4 (v : Nat → Nat → Int32) : ∀ k, fd_ (fun j x => x + (0 + v j 0 + v j 1 + v j 2 + v j 3)) 0 k = 0 + fd_ (fun j x => x + v j 0) 0 k + fd_ (fun j x => x + v j 1) 0 k + fd_ (fun j x => x + v j 2) 0 k + fd_ (fun j x => x + v j 3) 0 k
  | 0 => (show (0 : Int32) = 0 + 0 + 0 + 0 + 0 by decide)
  | k + 1 => by
    show fd_ (fun j x => x + (0 + v j 0 + v j 1 + v j 2 + v j 3)) 0 k + (0 + v k 0 + v k 1 + v k 2 + v k 3) = 0 + (fd_ (fun j x => x + v j 0) 0 k + v k 0) + (fd_ (fun j x => x + v j 1) 0 k + v k 1) + (fd_ (fun j x => x + v j 2) 0 k + v k 2) + (fd_ (fun j x => x + v j 3) 0 k + v k 3)
    rw [fd_4 v k]
    generalize fd_ (fun j x => x + v j 0) 0 k = A
    generalize fd_ (fun j x => x + v j 1) 0 k = B
    generalize fd_ (fun j x => x + v j 2) 0 k = C
    generalize fd_ (fun j x => x + v j 3) 0 k = D
    rw [Int32.zero_add, Int32.zero_add, Int32.zero_add]
    ac_rfl
theorem held_r (R : rl_ nc nm hh M) {s z : Nat} (hs : s < 2) (hz : z < 2) : f_R_held M (nI s) (nI z) = if z = s then 0 + M 21 12 (4 * s + 0) + M 21 12 (4 * s + 1) + M 21 12 (4 * s + 2) + M 21 12 (4 * s + 3) else fd_ (fun j x => x + (0 + M 21 13 (4 * (2 * j + s) + 0) + M 21 13 (4 * (2 * j + s) + 1) + M 21 13 (4 * (2 * j + s) + 2) + M 21 13 (4 * (2 * j + s) + 3))) 0 nc := by
  unfold f_R_held
  rw [show (0 : Int32) = nI 0 from rfl, show (1 : Int32) = nI 1 from rfl, show (2 : Int32) = nI 2 from rfl, show (3 : Int32) = nI 3 from rfl, bal_r R hs (by decide) hz, bal_r R hs (by decide) hz, bal_r R hs (by decide) hz, bal_r R hs (by decide) hz]
  by_cases h : z = s
  · simp only [if_pos h]
  · simp only [if_neg h]
    exact (fd_4 (fun j a => M 21 13 (4 * (2 * j + s) + a)) nc).symm
theorem sm_sum (R : rl_ nc nm hh M) (x1 x2 : Int32) : f_B_sum M x1 x2 = f_R_sum M x1 x2 := by
  have hn4 : nc ≤ 4 := R.1.1
  have hn60 : nm ≤ 60 := R.1.2.1
  obtain ⟨-, -, a3, a4, a5, a6⟩ := R.1
  unfold f_B_sum f_R_sum
  rw [wi_R, show f_B_isWithin x1 0 1 = f_B_isCoin x1 from rfl]
  rcases co_ x1 with w | ⟨z, hz, rfl, w⟩
  · rw [if_pos w, if_pos w]
  · rw [if_neg w, if_neg w]
    by_cases h0 : x2 = 0
    · rw [if_pos h0, if_pos h0, held_r R hz hz, if_pos rfl, nI_clamp (by omega)]
      unfold f_B_total_2
      rw [show Int32.toNatClampNeg 0 = 0 by decide, show Int32.toNatClampNeg 1 = 1 by decide, show Int32.toNatClampNeg 2 = 2 by decide, show Int32.toNatClampNeg 3 = 3 by decide, R.2.2.2.1 z 0 hz (by decide), R.2.2.2.1 z 1 hz (by decide), R.2.2.2.1 z 2 hz (by decide), R.2.2.2.1 z 3 hz (by decide)]
    · rw [if_neg h0, if_neg h0]
      by_cases h1 : x2 = 1
      · rw [if_pos h1, if_pos h1]
        unfold f_B_allEscrows
        rw [a3, a4, nI_clamp (by omega)]
        refine fd_ext nc (fun j hj x => ?_)
        obtain ⟨⟨-, -, -, e8, -⟩, -⟩ := R.2.2.2.2.2.2.1 (2 * j + z) (by omega)
        unfold g_B_allEscrows g_R_sum_a
        rw [ie_, nI_clamp (by omega), nI_clamp (by omega), nI_clamp (by omega), e8]
      · rw [if_neg h1, if_neg h1]
        by_cases h2 : x2 = 2
        · rw [if_pos h2, if_pos h2, i1_ hz, held_r R (by omega) hz, if_neg (by omega)]
          unfold f_B_allVouchers
          rw [a3, nI_clamp (by omega)]
          refine fd_ext nc (fun j hj x => ?_)
          obtain ⟨-, v, -⟩ := R.2.2.2.2.2.2.1 (2 * j + (1 - z)) (by omega)
          unfold g_B_allVouchers f_B_total_8
          rw [show Int32.toNatClampNeg 0 = 0 by decide, show Int32.toNatClampNeg 1 = 1 by decide, show Int32.toNatClampNeg 2 = 2 by decide, show Int32.toNatClampNeg 3 = 3 by decide, nI_clamp (by omega), nI_clamp (by omega), v 0 (by decide), v 1 (by decide), v 2 (by decide), v 3 (by decide)]
        · rw [if_neg h2, if_neg h2]
          by_cases h3 : x2 = 3
          · rw [if_pos h3, if_pos h3]
            unfold f_B_onTheWay
            rw [a5, a6, nI_clamp (by omega)]
            refine fd_ext nm (fun j hj x => ?_)
            obtain ⟨⟨m0, m1, m2, m3, m4, m5, m6, m7, m8, m9, m10⟩, -⟩ := R.2.2.2.2.2.2.2.2.2 j hj
            unfold g_B_onTheWay g_R_sum_b
            rw [nI_clamp (by omega), m5, m6, m9, m10, Int32.add_zero]
          · rw [if_neg h3, if_neg h3]
theorem sm_count (R : rl_ nc nm hh M) (x1 : Int32) : f_B_count M x1 = f_R_count M x1 := by
  have hn60 : nm ≤ 60 := R.1.2.1
  obtain ⟨-, -, a3, a4, a5, a6⟩ := R.1
  unfold f_B_count f_R_count
  rw [show Int32.toNatClampNeg 0 = 0 by decide, show Int32.toNatClampNeg 1 = 1 by decide, (R.2.1 0 (by decide)).2.1, (R.2.1 0 (by decide)).2.2, (R.2.1 1 (by decide)).2.1, (R.2.1 1 (by decide)).2.2, a3, a4, a5, a6]
  have e : f_B_howManyStand M = fd_ (g_R_count M) 0 (Int32.toNatClampNeg (nI nm)) := by
    unfold f_B_howManyStand
    rw [a5, nI_clamp (by omega)]
    refine fd_ext nm (fun j hj x => ?_)
    obtain ⟨⟨m0, m1, m2, m3, m4, m5, m6, m7, m8, m9, m10⟩, -⟩ := R.2.2.2.2.2.2.2.2.2 j hj
    unfold g_B_howManyStand g_R_count f_B_oneIf
    rw [nI_clamp (by omega), m8]
    by_cases h : M 21 22 j = 0
    · rw [if_pos h, if_pos h]
    · rw [if_neg h, if_neg h]
  rw [e]
end
