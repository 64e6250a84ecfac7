/-! the relation between the class's memory and the reference's -/
def hi_ (w : Nat → Int32) : Nat → Int32
  | 0 => 0
  | k + 1 => if w (k + 1) < 0 then hi_ w k else nI (k + 1)
def cn_ (w : Nat → Int32) : Nat → Int32
  | 0 => 0
  | k + 1 => if w (k + 1) < 0 then cn_ w k else cn_ w k + 1
def cr_ (t c : Nat → Int32) (fz : Int32) (w : Nat → Int32) (H : Nat) : Prop :=
  (∀ h, 1 ≤ h → h ≤ 200 → ∃ k, k ≤ 10 ∧ t h = nI k ∧ w h = nI k - 1 ∧ (H < h → k = 0)) ∧ c 1 = fz ∧ (fz = 0 ∨ fz = 1) ∧ c 2 = hi_ w 200 ∧ c 3 = cn_ w 200
def si_ (C : Nat → Int32) (x : Int32) : Int32 := if x ≤ C 4 then (if x ≤ C 3 then (if x ≤ C 2 then (if x ≤ C 1 then 0 else 1) else 2) else 3) else 4
def st_ (e2 : Int32) (C : Nat → Int32) (H : Nat) : Prop := ∃ k, k ≤ 4 ∧ e2 = nI k ∧ (∀ i, 1 ≤ i → i ≤ 4 → k < i → C i = 201) ∧ (1 ≤ k → ∃ t, t ≤ H ∧ C k = nI t)
def er_ (E C V : Nat → Int32) (s5 s6 s7 s8 s9 s10 : Int32) (X U : Nat → Int32) (H : Nat) : Prop :=
  (E 2 = s5 ∧ E 3 = s6 ∧ E 4 = s7 ∧ E 5 = s8 ∧ E 6 = s9 ∧ E 7 = s10) ∧ (∀ a, a < 4 → V a = U a) ∧ st_ (E 2) C H ∧ ∀ h, h ≤ H → si_ C (nI h) = X h
def bl_ (E C V : Nat → Int32) : Prop := (E 2 = 0 ∧ E 3 = 0 ∧ E 4 = 0 ∧ E 5 = 0 ∧ E 6 = 0 ∧ E 7 = 0) ∧ (∀ i, 1 ≤ i → i ≤ 4 → C i = 201) ∧ ∀ a, a < 4 → V a = 0
def tm_ (x y : Int32) : Prop := ∃ t, t ≤ 201 ∧ x = nI t ∧ y = nI (t + 1)
def mr_ (m : Nat → Int32) (q14 q15 q16 q17 q18 q19 q20 q21 q22 q23 q24 q25 q26 q27 : Int32) (nc : Nat) : Prop :=
  (m 0 = q14 ∧ m 1 = q15 ∧ m 2 = q16 ∧ m 3 = q19 ∧ m 4 = q20 ∧ m 5 = q18 ∧ m 6 = q17 ∧ m 7 = q21 ∧ m 8 = q22 ∧ m 9 = q27 ∧ m 10 = q25) ∧ (∃ c, c < nc ∧ m 0 = nI c) ∧ (m 8 = 0 ∨ m 8 = 1) ∧ (m 9 = 0 ∨ m 9 = 1) ∧ tm_ (m 11) q23 ∧ tm_ (m 12) q24 ∧ tm_ (m 13) q26
def rl_ (nc nm : Nat) (hh : Nat → Nat) (M : Mem) : Prop :=
  (nc ≤ 4 ∧ nm ≤ 60 ∧ M 0 0 3 = nI nc ∧ M 20 0 3 = nI nc ∧ M 0 0 4 = nI nm ∧ M 20 0 15 = nI nm) ∧
  (∀ s, s < 2 → hh s ≤ 200 ∧ M 1 s 2 = nI (hh s) ∧ M 21 0 s = nI (hh s)) ∧
  (∀ s, s < 2 → cr_ (M 4 s) (M 3 s) (M 21 2 s) (fun h => M 21 1 (201 * s + h)) (hh (1 - s))) ∧
  (∀ s a, s < 2 → a < 4 → M 2 s a = M 21 12 (4 * s + a)) ∧
  (∀ c, c < 4 → vp_in (M 5 c 2) 2 ∧ vp_in (M 21 3 c) 2) ∧
  (∀ c, c < nc → M 5 c 2 = M 21 3 c ∧ M 5 c 1 = M 21 4 c ∧ (M 5 c 1 = 0 ∨ M 5 c 1 = 1)) ∧
  (∀ e, e < 2 * nc → er_ (M 6 e) (M 7 e) (M 8 e) (M 21 5 e) (M 21 6 e) (M 21 7 e) (M 21 8 e) (M 21 9 e) (M 21 10 e) (fun h => M 21 11 (201 * e + h)) (fun a => M 21 13 (4 * e + a)) (hh (e % 2))) ∧
  (∀ e, 2 * nc ≤ e → e < 8 → bl_ (M 6 e) (M 7 e) (M 8 e)) ∧
  (∀ i, i < 60 → (vp_in (M 9 i 0) 4 ∧ vp_in (M 9 i 1) 2 ∧ vp_in (M 9 i 3) 4) ∧ vp_in (M 21 14 i) 4 ∧ vp_in (M 21 15 i) 2 ∧ vp_in (M 21 19 i) 4 ∧ vp_in (M 21 20 i) 8) ∧
  (∀ i, i < nm → mr_ (M 9 i) (M 21 14 i) (M 21 15 i) (M 21 16 i) (M 21 17 i) (M 21 18 i) (M 21 19 i) (M 21 20 i) (M 21 21 i) (M 21 22 i) (M 21 23 i) (M 21 24 i) (M 21 25 i) (M 21 26 i) (M 21 27 i) nc)
def Rl (M : Mem) : Prop := ∃ nc nm hh, rl_ nc nm hh M
theorem rl_ci {nc nm : Nat} {hh : Nat → Nat} {M : Mem} (h : rl_ nc nm hh M) : ci_ M := by
  obtain ⟨⟨a1, a2, a3, a4, a5, a6⟩, -, -, -, b, -, -, -, d, -⟩ := h
  exact ⟨⟨nc, a1, a3⟩, ⟨nm, a2, a5⟩, fun c hc => (b c hc).1, fun i hi => (d i hi).1⟩
theorem rl_ri {nc nm : Nat} {hh : Nat → Nat} {M : Mem} (h : rl_ nc nm hh M) : ri_ M := by
  obtain ⟨⟨a1, a2, a3, a4, a5, a6⟩, g, -, -, b, -, -, -, d, -⟩ := h
  exact ⟨⟨nc, a1, a4⟩, ⟨nm, a2, a6⟩, fun c hc => (b c hc).2, fun i hi => (d i hi).2, fun s hs => by rw [(g s hs).2.2]; exact vp_in_nI (by have := (g s hs).1; omega) (by decide)⟩
/-! numbers within bounds -/
theorem wi_mem {x lo hi : Int32} (h : ¬ f_B_isWithin x lo hi = 0) : ¬ x < lo ∧ ¬ hi < x := by
  unfold f_B_isWithin at h
  by_cases h1 : x < lo
  · rw [if_pos h1] at h; exact absurd rfl h
  · by_cases h2 : hi < x
    · rw [if_neg h1, if_pos h2] at h; exact absurd rfl h
    · exact ⟨h1, h2⟩
theorem wi_of {x lo hi : Int32} (h1 : ¬ x < lo) (h2 : ¬ hi < x) : f_B_isWithin x lo hi = 1 := by
  unfold f_B_isWithin
  rw [if_neg h1, if_neg h2]
theorem wi_R (x lo hi : Int32) : f_R_in x lo hi = f_B_isWithin x lo hi := rfl
theorem wi_nI {x : Int32} {a b : Nat} (hb : b < 2 ^ 31) (ha : a ≤ b) (h : ¬ f_B_isWithin x (nI a) (nI b) = 0) : ∃ k, a ≤ k ∧ k ≤ b ∧ x = nI k := by
  obtain ⟨h1, h2⟩ := wi_mem h
  rw [Int32.lt_iff_toInt_lt, nI_toInt (by omega)] at h1 h2
  have h0 : ¬ x < 0 := by rw [Int32.lt_iff_toInt_lt]; have : (0 : Int32).toInt = 0 := by decide
                          omega
  obtain ⟨k, hk, rfl⟩ := nI_of h0
  rw [nI_toInt hk] at h1 h2
  exact ⟨k, by omega, by omega, rfl⟩
theorem wi_in {k a b : Nat} (h1 : a ≤ k) (h2 : k ≤ b) (hb : b < 2 ^ 31) : f_B_isWithin (nI k) (nI a) (nI b) = 1 := wi_of (nI_nlt h1 (by omega)) (nI_nlt h2 hb)
/-- a side: it isn't one for either, or it is s -/
theorem sd_ (x : Int32) : (f_B_isSide x = 0 ∧ ¬ f_R_noSide x = 0) ∨ ∃ s, s < 2 ∧ x = nI s ∧ ¬ f_B_isSide x = 0 ∧ f_R_noSide x = 0 := by
  by_cases h : f_B_isSide x = 0
  · refine Or.inl ⟨h, fun q => ?_⟩
    obtain ⟨s, hs, rfl⟩ := vp_in_of (in_nos q) (by decide)
    rcases (show s = 0 ∨ s = 1 by omega) with rfl | rfl <;> exact absurd h (by decide)
  · obtain ⟨s, hs, rfl⟩ := vp_in_of (in_wi (lo := 0) (hi := 1) (k := 2) (by decide) (by decide) h) (by decide)
    refine Or.inr ⟨s, hs, rfl, h, ?_⟩
    rcases (show s = 0 ∨ s = 1 by omega) with rfl | rfl <;> decide
/-- a number below a count -/
theorem ct_ {x : Int32} {n : Nat} (hn : n < 2 ^ 30) : f_B_isWithin x 0 (nI n - 1) = 0 ∨ (¬ f_B_isWithin x 0 (nI n - 1) = 0 ∧ ∃ c, c < n ∧ x = nI c) := by
  by_cases h : f_B_isWithin x 0 (nI n - 1) = 0
  · exact Or.inl h
  · refine Or.inr ⟨h, ?_⟩
    obtain ⟨h1, h2⟩ := wi_mem h
    rw [Int32.lt_iff_toInt_lt, show (1 : Int32) = nI 1 from rfl, pk_sub_toInt (by omega) (by decide)] at h2
    obtain ⟨k, hk, rfl⟩ := nI_of h1
    rw [nI_toInt hk] at h2
    exact ⟨k, by omega, rfl⟩
theorem ch_ {nc nm : Nat} {hh : Nat → Nat} {M : Mem} (h : rl_ nc nm hh M) (x : Int32) : (f_B_isChannel M x = 0 ∧ ¬ f_R_noChannel M x = 0) ∨ ∃ c, c < nc ∧ x = nI c ∧ ¬ f_B_isChannel M x = 0 ∧ f_R_noChannel M x = 0 := by
  obtain ⟨⟨a1, a2, a3, a4, a5, a6⟩, -⟩ := h
  unfold f_B_isChannel f_R_noChannel
  rw [a3, a4, wi_R]
  rcases ct_ (x := x) (n := nc) (by omega) with q | ⟨q, c, hc, e⟩
  · exact Or.inl ⟨q, by rw [if_pos q]; decide⟩
  · exact Or.inr ⟨c, hc, e, q, by rw [if_neg q]⟩
theorem ms_ {nc nm : Nat} {hh : Nat → Nat} {M : Mem} (h : rl_ nc nm hh M) (x : Int32) : (f_B_isMessage M x = 0 ∧ ¬ f_R_noMessage M x = 0) ∨ ∃ i, i < nm ∧ x = nI i ∧ ¬ f_B_isMessage M x = 0 ∧ f_R_noMessage M x = 0 := by
  obtain ⟨⟨a1, a2, a3, a4, a5, a6⟩, -⟩ := h
  unfold f_B_isMessage f_R_noMessage
  rw [a5, a6, wi_R]
  rcases ct_ (x := x) (n := nm) (by omega) with q | ⟨q, c, hc, e⟩
  · exact Or.inl ⟨q, by rw [if_pos q]; decide⟩
  · exact Or.inr ⟨c, hc, e, q, by rw [if_neg q]⟩
theorem ac_ (x : Int32) : f_B_isAccount x = 0 ∨ ∃ a, a < 4 ∧ x = nI a ∧ ¬ f_B_isAccount x = 0 := by
  by_cases h : f_B_isAccount x = 0
  · exact Or.inl h
  · obtain ⟨s, hs, rfl⟩ := vp_in_of (in_wi (lo := 0) (hi := 3) (k := 4) (by decide) (by decide) h) (by decide)
    exact Or.inr ⟨s, hs, rfl, h⟩
theorem co_ (x : Int32) : f_B_isCoin x = 0 ∨ ∃ a, a < 2 ∧ x = nI a ∧ ¬ f_B_isCoin x = 0 := by
  by_cases h : f_B_isCoin x = 0
  · exact Or.inl h
  · obtain ⟨s, hs, rfl⟩ := vp_in_of (in_wi (lo := 0) (hi := 1) (k := 2) (by decide) (by decide) h) (by decide)
    exact Or.inr ⟨s, hs, rfl, h⟩
/-! the client -/
theorem wi_h (x : Int32) : f_B_isWithin x 1 200 = 0 ∨ ∃ h, 1 ≤ h ∧ h ≤ 200 ∧ x = nI h ∧ f_B_isWithin x 1 200 = 1 := by
  by_cases q : f_B_isWithin x 1 200 = 0
  · exact Or.inl q
  · obtain ⟨h, h1, h2, rfl⟩ := wi_nI (a := 1) (b := 200) (by decide) (by decide) q
    exact Or.inr ⟨h, h1, h2, rfl, wi_in h1 h2 (by decide)⟩
def hf_ (k : Nat) : Int32 := if k = 0 then 0 else if k = 1 then 1 else 2
theorem hf_c : ∀ k, k ≤ 10 → (if nI k = 0 then (0 : Int32) else if (if nI k = (0 : Int32) + 1 then (1 : Int32) else 0) = 0 then 2 else 1) = hf_ k := by decide +kernel
theorem hf_r : ∀ k, k ≤ 10 → (if 0 ≤ nI k - 1 then (if nI k - 1 = 0 then (1 : Int32) else 2) else 0) = hf_ k := by decide +kernel
theorem hf_0 : ∀ k, k ≤ 10 → (hf_ k = 0 ↔ k = 0) := by decide +kernel
theorem hf_1 : ∀ k, k ≤ 10 → (hf_ k = 1 ↔ k = 1) := by decide +kernel
theorem nk_neg : ∀ k, k ≤ 10 → (nI k - 1 < 0 ↔ k = 0) := by decide +kernel
theorem ix_h2 {s h : Nat} (hs : s < 2) (h2 : h ≤ 200) : Int32.toNatClampNeg (201 * nI s + nI h) = 201 * s + h := by
  rw [show (201 : Int32) = nI 201 from rfl, pk_mul, nI_add, nI_clamp (by omega)]
theorem cl_how {nc nm : Nat} {hh : Nat → Nat} {M : Mem} (R : rl_ nc nm hh M) {s h k : Nat} (h1 : 1 ≤ h) (h2 : h ≤ 200) (hk : k ≤ 10) (e : M 4 s h = nI k) : f_Cl_howFollowed M s (nI h) = hf_ k := by
  have q0 : ¬ f_B_isWithin (nI h) 1 200 = 0 := by rw [show f_B_isWithin (nI h) 1 200 = 1 from wi_in h1 h2 (by decide)]; decide
  unfold f_Cl_howFollowed f_Cl_isToldMark
  rw [if_neg q0, nI_clamp (by omega), e, if_neg q0]
  exact hf_c k hk
theorem cl_fol {M : Mem} {s h k : Nat} (hs : s < 2) (h1 : 1 ≤ h) (h2 : h ≤ 200) (hk : k ≤ 10) (e : M 21 1 (201 * s + h) = nI k - 1) : f_R_follows M (nI s) (nI h) = hf_ k := by
  unfold f_R_follows
  rw [if_pos (by rcases (show s = 0 ∨ s = 1 by omega) with rfl | rfl <;> decide), if_neg (by rw [wi_R, show f_B_isWithin (nI h) 1 200 = 1 from wi_in h1 h2 (by decide)]; decide), ix_h2 hs h2, e]
  exact hf_r k hk
/-- FROZEN, HEADER, or a height that the client follows by the right mark -/
theorem rf_ {nc nm : Nat} {hh : Nat → Nat} {M : Mem} (R : rl_ nc nm hh M) {s : Nat} (hs : s < 2) (x : Int32) : f_Cl_refusal M s x = f_R_unproved M (nI s) x ∧ (f_Cl_refusal M s x = 0 → ∃ h, 1 ≤ h ∧ h ≤ 200 ∧ h ≤ hh (1 - s) ∧ x = nI h) := by
  obtain ⟨c1, c2, c3, c4, c5⟩ := R.2.2.1 s hs
  unfold f_Cl_refusal f_R_unproved
  rw [nI_clamp (by omega), c2]
  by_cases hz : M 21 2 s = 0
  · rw [if_pos hz, if_pos hz]
    rcases wi_h x with q | ⟨h, h1, h2, rfl, q⟩
    · have e1 : f_Cl_howFollowed M s x = 0 := by unfold f_Cl_howFollowed; rw [if_pos q]
      rw [e1, wi_R, if_pos q]
      exact ⟨by decide, fun w => absurd w (by decide)⟩
    · obtain ⟨k, hk, e1, e2, e3⟩ := c1 h h1 h2
      have q0 : ¬ f_B_isWithin (nI h) 1 200 = 0 := by rw [q]; decide
      rw [cl_how R h1 h2 hk e1, wi_R, if_neg q0, cl_fol hs h1 h2 hk e2]
      refine ⟨rfl, fun w => ⟨h, h1, h2, ?_, rfl⟩⟩
      by_cases hk1 : hf_ k = 1
      · have := (hf_1 k hk).mp hk1
        rcases Nat.lt_or_ge (hh (1 - s)) h with z | z
        · have := e3 z; omega
        · exact z
      · rw [if_neg hk1] at w
        exact absurd w (by decide)
  · rw [if_neg hz, if_neg hz]
    exact ⟨rfl, fun w => absurd w (by decide)⟩
theorem si_eq (M : Mem) (e : Nat) (x : Int32) : f_En_stepIn M e x = si_ (M 7 e) x := rfl
theorem ix_t2 {e h : Nat} (he : e < 8) (h2 : h ≤ 200) : Int32.toNatClampNeg (201 * nI e + nI h) = 201 * e + h := by
  rw [show (201 : Int32) = nI 201 from rfl, pk_mul, nI_add, nI_clamp (by omega)]
theorem ie_ (c s : Nat) : 2 * nI c + nI s = nI (2 * c + s) := by rw [show (2 : Int32) = nI 2 from rfl, pk_mul, nI_add]
theorem i1_ {s : Nat} (hs : s < 2) : 1 - nI s = nI (1 - s) := by rw [show (1 : Int32) = nI 1 from rfl, pk_sub (by omega)]
/-- the proof of a step -/
theorem rs_ {nc nm : Nat} {hh : Nat → Nat} {M : Mem} (R : rl_ nc nm hh M) {c s : Nat} (hc : c < nc) (hs : s < 2) (a b x : Int32) : f_B_refusalOfStep M (nI c) (nI s) a b x = (if M 21 5 (2 * c + s) = a then f_R_unprovedStep M (nI c) (nI s) x b else -3) := by
  have hn4 : nc ≤ 4 := R.1.1
  unfold f_B_refusalOfStep f_R_unprovedStep f_R_stepOf
  obtain ⟨⟨e5, -⟩, -⟩ := R.2.2.2.2.2.2.1 (2 * c + s) (by omega)
  rw [nI_clamp (by omega), nI_clamp (by omega), i1_ hs, nI_clamp (by omega), e5, (rf_ R hs x).1]
  by_cases h1 : M 21 5 (2 * c + s) = a
  · rw [if_pos h1, if_pos h1]
    by_cases h2 : f_R_unproved M (nI s) x = 0
    · rw [if_pos h2, if_pos h2]
      obtain ⟨h, g1, g2, g3, rfl⟩ := (rf_ R hs x).2 (by rw [(rf_ R hs x).1]; exact h2)
      obtain ⟨-, -, -, hist⟩ := R.2.2.2.2.2.2.1 (2 * c + (1 - s)) (by omega)
      rw [si_eq, hist h (by rw [show (2 * c + (1 - s)) % 2 = 1 - s by omega]; exact g3), ie_, ix_t2 (by omega) g2]
    · rw [if_neg h2, if_neg h2]
  · rw [if_neg h1, if_neg h1]
