/-! coins and messages: pieces -/
theorem u3_nc (M : Mem) {k i j a b c : Nat} (v : Int32) (h : ¬ c = j) : u3 M k i j v a b c = M a b c := if_neg (fun q => h q.2.2)
theorem u3_na (M : Mem) {k i j a : Nat} (v : Int32) (h : ¬ a = k) : u3 M k i j v a = M a := by
  funext b c
  exact if_neg (fun q => h q.1)
theorem u3_nb (M : Mem) {k i j b : Nat} (v : Int32) (h : ¬ b = i) : u3 M k i j v k b = M k b := u3_n2 M v h
theorem ir_ {c s : Nat} (hc : c < 4) (hs : s < 2) : nI (2 * c + s) - nI (2 * c + s) / 2 * 2 = nI s := by
  rw [show (2 : Int32) = nI 2 from rfl, pk_rem (by omega) (by decide) (by decide)]
  congr 1
  omega
/-- the reference's give, in its two ways -/
theorem gv_h {N : Mem} {c s a : Nat} (hc : c < 4) (hs : s < 2) (ha : a < 4) {y v : Int32} (h : y = nI s) : f_R_give N (nI (2 * c + s)) (nI a) y v = u3 (u3 N 21 12 (4 * s + a) (N 21 12 (4 * s + a) + v)) 21 8 (2 * c + s) (N 21 8 (2 * c + s) - v) := by
  unfold f_R_give
  rw [ir_ hc hs, if_pos h, ix_a2 hs ha, ix_v2 (by omega) ha, nI_clamp (by omega), Int32.add_zero, u3_id]
  rfl
theorem gv_o {N : Mem} {c s a : Nat} (hc : c < 4) (hs : s < 2) (ha : a < 4) {y v : Int32} (h : ¬ y = nI s) : f_R_give N (nI (2 * c + s)) (nI a) y v = u3 N 21 13 (4 * (2 * c + s) + a) (N 21 13 (4 * (2 * c + s) + a) + v) := by
  unfold f_R_give
  rw [ir_ hc hs, if_neg h, ix_a2 hs ha, ix_v2 (by omega) ha, nI_clamp (by omega), Int32.add_zero, Int32.sub_zero, u3_id, u3_id]
theorem go_h {M : Mem} {c s a : Nat} (hc : c < 4) (hs : s < 2) (ha : a < 4) {y v : Int32} (h : y = nI s) : f_B_giveOut M (nI c) (nI s) (nI a) y v = u3 (u3 M 2 s a (M 2 s a + v)) 6 (2 * c + s) 5 (M 6 (2 * c + s) 5 - v) := by
  unfold f_B_giveOut
  rw [if_pos h, nI_clamp (by omega), nI_clamp (by omega), nI_clamp (by omega)]
  rfl
theorem go_o {M : Mem} {c s a : Nat} (hc : c < 4) (hs : s < 2) (ha : a < 4) {y v : Int32} (h : ¬ y = nI s) : f_B_giveOut M (nI c) (nI s) (nI a) y v = u3 M 8 (2 * c + s) a (M 8 (2 * c + s) a + v) := by
  unfold f_B_giveOut
  rw [if_neg h, nI_clamp (by omega), nI_clamp (by omega), nI_clamp (by omega)]
theorem ti_go (M : Mem) (x1 x2 x3 x4 v : Int32) : f_B_takeIn M x1 x2 x3 x4 v = f_B_giveOut M x1 x2 x3 x4 (-v) := by
  unfold f_B_takeIn f_B_giveOut
  simp only [Int32.sub_eq_add_neg, Int32.neg_neg]
section
variable {nc nm : Nat} {hh : Nat → Nat} {M : Mem}
theorem rl_give (R : rl_ nc nm hh M) {c s a : Nat} (hc : c < nc) (hs : s < 2) (ha : a < 4) (y v : Int32) : rl_ nc nm hh (f_R_give (f_B_giveOut M (nI c) (nI s) (nI a) y v) (nI (2 * c + s)) (nI a) y v) := by
  have hn4 : nc ≤ 4 := R.1.1
  by_cases h : y = nI s
  · rw [gv_h (by omega) hs ha h, go_h (by omega) hs ha h]
    have e1 : M 2 s a = M 21 12 (4 * s + a) := R.2.2.2.1 s a hs ha
    obtain ⟨⟨-, -, -, e8, -⟩, -⟩ := R.2.2.2.2.2.2.1 (2 * c + s) (by omega)
    have R1 := rl_coin R (M 2 s a + v) hs ha
    have R2 := rl_fld R1 (e0 := 2 * c + s) (j := 5) (a := 8) (M 6 (2 * c + s) 5 - v) (by omega) (by omega)
    refine cast (congrArg (rl_ nc nm hh) ?_) R2
    rw [show u3 (u3 M 2 s a (M 2 s a + v)) 6 (2 * c + s) 5 (M 6 (2 * c + s) 5 - v) 21 12 (4 * s + a) = M 2 s a from e1.symm, show u3 (u3 M 2 s a (M 2 s a + v)) 6 (2 * c + s) 5 (M 6 (2 * c + s) 5 - v) 21 8 (2 * c + s) = M 6 (2 * c + s) 5 from e8.symm]
    congr 1
    exact u3_comm _ _ _ (by omega)
  · rw [gv_o (by omega) hs ha h, go_o (by omega) hs ha h]
    obtain ⟨-, w, -⟩ := R.2.2.2.2.2.2.1 (2 * c + s) (by omega)
    rw [show u3 M 8 (2 * c + s) a (M 8 (2 * c + s) a + v) 21 13 (4 * (2 * c + s) + a) = M 8 (2 * c + s) a from (w a ha).symm]
    exact rl_vou R _ (by omega) ha
end
theorem go_k {M : Mem} {x1 x2 x3 x4 x5 : Int32} {a : Nat} (h : ¬ (a = 2 ∨ a = 6 ∨ a = 8)) : f_B_giveOut M x1 x2 x3 x4 x5 a = M a := by
  unfold f_B_giveOut
  split
  · rw [u3_na _ _ (by omega), u3_na _ _ (by omega)]
  · rw [u3_na _ _ (by omega)]
theorem go_6 {M : Mem} {x1 x2 x3 x4 x5 : Int32} {b c : Nat} (h : ¬ c = 5) : f_B_giveOut M x1 x2 x3 x4 x5 6 b c = M 6 b c := by
  unfold f_B_giveOut
  split
  · rw [u3_nc _ _ h]; rfl
  · rfl
theorem gv_k {N : Mem} {x1 x2 x3 x4 : Int32} {a : Nat} (h : ¬ a = 21) : f_R_give N x1 x2 x3 x4 a = N a := by
  unfold f_R_give
  split <;> rw [u3_na _ _ h, u3_na _ _ h, u3_na _ _ h]
theorem gv_21 {N : Mem} {x1 x2 x3 x4 : Int32} {b : Nat} (h : ¬ (b = 8 ∨ b = 12 ∨ b = 13)) : f_R_give N x1 x2 x3 x4 21 b = N 21 b := by
  unfold f_R_give
  split <;> rw [u3_nb _ _ (by omega), u3_nb _ _ (by omega), u3_nb _ _ (by omega)]
theorem gv_cm {N : Mem} {x1 x2 x3 x4 v : Int32} {k i j : Nat} (h : ¬ k = 21) : f_R_give (u3 N k i j v) x1 x2 x3 x4 = u3 (f_R_give N x1 x2 x3 x4) k i j v := by
  have e : ∀ M : Mem, u3 M k i j v 21 = M 21 := fun M => u3_na M v (fun q => h q.symm)
  have cm : ∀ (M : Mem) (b c : Nat) (w : Int32), u3 (u3 M k i j v) 21 b c w = u3 (u3 M 21 b c w) k i j v := fun M b c w => u3_comm M v w (fun q => h q.1)
  unfold f_R_give
  split
  · simp only [cm, e]
  · simp only [cm, e]
theorem gv_cm2 {N : Mem} {x1 x2 x3 x4 v : Int32} {b i : Nat} (h : ¬ (b = 8 ∨ b = 12 ∨ b = 13)) : f_R_give (u3 N 21 b i v) x1 x2 x3 x4 = u3 (f_R_give N x1 x2 x3 x4) 21 b i v := by
  have e : ∀ (M : Mem) (d : Nat), (d = 8 ∨ d = 12 ∨ d = 13) → u3 M 21 b i v 21 d = M 21 d := fun M d hd => u3_nb M v (by omega)
  have cm : ∀ (M : Mem) (d c : Nat) (w : Int32), (d = 8 ∨ d = 12 ∨ d = 13) → u3 (u3 M 21 b i v) 21 d c w = u3 (u3 M 21 d c w) 21 b i v := fun M d c w hd => u3_comm M v w (by omega)
  unfold f_R_give
  split
  · rw [e _ 12 (by omega), cm _ 12 _ _ (by omega), e _ 13 (by omega), cm _ 13 _ _ (by omega), e _ 8 (by omega), cm _ 8 _ _ (by omega)]
  · rw [e _ 12 (by omega), cm _ 12 _ _ (by omega), e _ 13 (by omega), cm _ 13 _ _ (by omega), e _ 8 (by omega), cm _ 8 _ _ (by omega)]
section
variable {nc nm : Nat} {hh : Nat → Nat} {M : Mem}
/-- a number of a message changes on both sides -/
theorem rl_mf (R : rl_ nc nm hh M) {i0 j a : Nat} {v w : Int32} (hi0 : i0 < nm) (hj : (j = 8 ∧ a = 22 ∧ v = w ∧ (v = 0 ∨ v = 1)) ∨ (j = 9 ∧ a = 27 ∧ v = w ∧ (v = 0 ∨ v = 1)) ∨ (j = 10 ∧ a = 25 ∧ v = w) ∨ (j = 12 ∧ a = 24 ∧ tm_ v w) ∨ (j = 13 ∧ a = 26 ∧ tm_ v w)) : rl_ nc nm hh (u3 (u3 M 9 i0 j v) 21 a i0 w) := by
  have E : ∀ i, u3 (u3 M 9 i0 j v) 21 a i0 w 9 i = u3 M 9 i0 j v 9 i := fun i => rfl
  rcases hj with ⟨rfl, rfl, hv, hz⟩ | ⟨rfl, rfl, hv, hz⟩ | ⟨rfl, rfl, hv⟩ | ⟨rfl, rfl, hv⟩ | ⟨rfl, rfl, hv⟩
  all_goals
    refine ⟨R.1, R.2.1, R.2.2.1, R.2.2.2.1, R.2.2.2.2.1, R.2.2.2.2.2.1, R.2.2.2.2.2.2.1, R.2.2.2.2.2.2.2.1, fun i hi => ?_, fun i hi => ?_⟩
    · rw [E, u3_nc _ _ (by decide), u3_nc _ _ (by decide), u3_nc _ _ (by decide)]
      exact R.2.2.2.2.2.2.2.2.1 i hi
    · by_cases q : i = i0
      · subst q
        obtain ⟨⟨m0, m1, m2, m3, m4, m5, m6, m7, m8, m9, m10⟩, w1, w2, w3, w4, w5, w6⟩ := R.2.2.2.2.2.2.2.2.2 i hi
        rw [E, u3_at, u3_self]
        refine ⟨⟨m0, m1, m2, m3, m4, m5, m6, m7, ?_, ?_, ?_⟩, w1, ?_, ?_, w4, ?_, ?_⟩ <;> first | assumption | exact hv | exact hz
      · rw [E, u3_nb _ _ q, u3_n3 _ _ q]
        exact R.2.2.2.2.2.2.2.2.2 i hi
/-- the order of messages -/
theorem fd_be {g : Nat → Int32 → Int32} {b : Nat → Int32} : ∀ k, (∀ j, j < k → (b j = 0 ∨ b j = 1) ∧ ∀ a, g j a = if a = 0 then b j else 1) → fd_ g 0 k = if (∀ j, j < k → b j = 0) then 0 else 1
  | 0, _ => by rw [if_pos (fun j hj => absurd hj (by omega))]; rfl
  | k + 1, h => by
    have ih := fd_be (g := g) (b := b) k (fun j hj => h j (by omega))
    obtain ⟨h1, h2⟩ := h k (by omega)
    show g k (fd_ g 0 k) = _
    rw [h2, ih]
    by_cases z : ∀ j, j < k → b j = 0
    · rw [if_pos z, if_pos rfl]
      by_cases y : b k = 0
      · rw [if_pos (fun j hj => by rcases (show j < k ∨ j = k by omega) with w | w; exact z j w; rw [w]; exact y)]
        exact y
      · rw [if_neg (fun w => y (w k (by omega)))]
        rcases h1 with w | w
        · exact absurd w y
        · exact w
    · rw [if_neg z, if_neg (by decide), if_neg (fun w => z (fun j hj => w j (by omega)))]
theorem be_r (R : rl_ nc nm hh M) {i : Nat} (hi : i < nm) : f_R_isBehind M (nI i) 0 = if f_B_areAllBeforeReceived M (nI i) = 0 then 1 else 0 := by
  have hn60 : nm ≤ 60 := R.1.2.1
  have key : f_R_isBehind M (nI i) 0 = if (∀ j, j < i → g_B_areAllBeforeReceived M (nI i) j = 0) then 0 else 1 := by
    unfold f_R_isBehind
    rw [nI_clamp (by omega)]
    refine fd_be i (fun j hj => ⟨?_, fun a => ?_⟩)
    · unfold g_B_areAllBeforeReceived
      repeat' split
      all_goals first | exact Or.inl rfl | exact Or.inr rfl
    · obtain ⟨⟨m0, m1, -, -, -, -, -, -, -, -, m10⟩, -⟩ := R.2.2.2.2.2.2.2.2.2 j (by omega)
      obtain ⟨⟨n0, n1, -⟩, -⟩ := R.2.2.2.2.2.2.2.2.2 i hi
      unfold g_R_isBehind g_B_areAllBeforeReceived f_Me_isOfSameEnd
      rw [nI_clamp (by omega), nI_clamp (by omega), m0, m1, n0, n1, m10]
      by_cases z1 : M 21 14 j = M 21 14 i
      · by_cases z2 : M 21 15 j = M 21 15 i
        · simp [z1, z2]
        · simp [z1, z2]
      · simp [z1]
  rw [key]
  unfold f_B_areAllBeforeReceived
  rw [nI_clamp (by omega)]
  by_cases z : ∀ j, j < i → g_B_areAllBeforeReceived M (nI i) j = 0
  · rw [if_pos z, if_pos z, if_neg (by decide)]
  · rw [if_neg z, if_neg z, if_pos rfl]
theorem be_s (R : rl_ nc nm hh M) {i : Nat} (hi : i < nm) : f_R_isBehind M (nI i) 1 = f_B_standsOneBefore M (nI i) := by
  have hn60 : nm ≤ 60 := R.1.2.1
  unfold f_R_isBehind f_B_standsOneBefore
  rw [nI_clamp (by omega)]
  refine fd_be i (fun j hj => ⟨?_, fun a => ?_⟩)
  · unfold g_B_standsOneBefore
    repeat' split
    all_goals first | exact Or.inl rfl | exact Or.inr rfl
  · obtain ⟨⟨m0, m1, -, -, -, -, -, -, m8, -⟩, -⟩ := R.2.2.2.2.2.2.2.2.2 j (by omega)
    obtain ⟨⟨n0, n1, -⟩, -⟩ := R.2.2.2.2.2.2.2.2.2 i hi
    unfold g_R_isBehind g_B_standsOneBefore f_Me_isOfSameEnd
    rw [nI_clamp (by omega), nI_clamp (by omega), m0, m1, n0, n1, m8]
    by_cases z1 : M 21 14 j = M 21 14 i
    · by_cases z2 : M 21 15 j = M 21 15 i
      · simp [z1, z2]
      · simp [z1, z2]
    · simp [z1]
end
theorem unp_k {N M : Mem} (h : N 21 = M 21) (s x : Int32) : f_R_unproved N s x = f_R_unproved M s x := by
  unfold f_R_unproved f_R_follows
  rw [h]
theorem beh_k {N M : Mem} (h : N 21 = M 21) (i x : Int32) : f_R_isBehind N i x = f_R_isBehind M i x := by
  unfold f_R_isBehind
  refine fd_ext _ (fun j _ a => ?_)
  unfold g_R_isBehind
  rw [h]
theorem nom_k {N M : Mem} (h : N 20 = M 20) (i : Int32) : f_R_noMessage N i = f_R_noMessage M i := by
  unfold f_R_noMessage
  rw [h]
