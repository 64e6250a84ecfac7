/-! all begins anew -/
theorem tn0 : Int32.toNatClampNeg 0 = 0 := by decide
theorem tn1 : Int32.toNatClampNeg 1 = 1 := by decide
theorem tn2 : Int32.toNatClampNeg 2 = 2 := by decide
theorem tn3 : Int32.toNatClampNeg 3 = 3 := by decide
theorem eb_o (N : Mem) (z a b c : Nat) (h : ¬ ((a = 6 ∨ a = 7 ∨ a = 8) ∧ b = z)) : f_En_beginAnew N z a b c = N a b c := by
  unfold f_En_beginAnew
  simp only [u3, fl_]
  grind (splits := 40)
theorem eb_6 (N : Mem) (z c : Nat) (h : 2 ≤ c ∧ c ≤ 7) : f_En_beginAnew N z 6 z c = 0 := by
  unfold f_En_beginAnew
  simp only [u3, fl_]
  grind (splits := 40)
theorem eb_7 (N : Mem) (z c : Nat) (h : c < 5) : f_En_beginAnew N z 7 z c = 201 := by
  unfold f_En_beginAnew
  simp only [u3, fl_]
  grind (splits := 40)
theorem eb_8 (N : Mem) (z c : Nat) (h : c < 4) : f_En_beginAnew N z 8 z c = 0 := by
  unfold f_En_beginAnew
  simp only [u3, fl_]
  grind (splits := 40)
theorem lb_o (N : Mem) (z a b c : Nat) (h : ¬ ((a = 1 ∨ a = 2 ∨ a = 3 ∨ a = 4) ∧ b = z)) : f_Le_beginAnew N z a b c = N a b c := by
  unfold f_Le_beginAnew f_Cl_forgetAll
  simp only [u3, fl_]
  grind (splits := 40)
theorem lb_1 (N : Mem) (z : Nat) : f_Le_beginAnew N z 1 z 2 = 0 := by
  unfold f_Le_beginAnew f_Cl_forgetAll
  simp only [u3, fl_]
  grind (splits := 40)
theorem lb_2 (N : Mem) (z c : Nat) (h : c < 4) : f_Le_beginAnew N z 2 z c = 1000 := by
  unfold f_Le_beginAnew f_Cl_forgetAll
  simp only [u3, fl_]
  grind (splits := 40)
theorem lb_3 (N : Mem) (z c : Nat) (h : 1 ≤ c ∧ c ≤ 3) : f_Le_beginAnew N z 3 z c = 0 := by
  unfold f_Le_beginAnew f_Cl_forgetAll
  simp only [u3, fl_]
  grind (splits := 40)
theorem lb_4 (N : Mem) (z c : Nat) (h : c ≤ 200) : f_Le_beginAnew N z 4 z c = 0 := by
  unfold f_Le_beginAnew f_Cl_forgetAll
  simp only [u3, fl_]
  grind (splits := 40)
theorem bA_eq (M : Mem) : f_B_beginAnew M = u3 (u3 (f_En_beginAnew (f_En_beginAnew (f_En_beginAnew (f_En_beginAnew (f_En_beginAnew (f_En_beginAnew (f_En_beginAnew (f_En_beginAnew (f_Le_beginAnew (f_Le_beginAnew M 0) 1) 0) 1) 2) 3) 4) 5) 6) 7) 0 0 3 0) 0 0 4 0 := by
  unfold f_B_beginAnew
  rw [tn0, tn1, tn2, tn3]
/-- the ends peel off one by one -/
theorem bA_en (M : Mem) (a c : Nat) (ha : a = 6 ∨ a = 7 ∨ a = 8) (v : Int32) (h : ∀ (N : Mem) (z : Nat), f_En_beginAnew N z a z c = v) : ∀ e, e < 8 → f_B_beginAnew M a e c = v := by
  intro e he
  rw [bA_eq]
  have u : ∀ N : Mem, u3 (u3 N 0 0 3 0) 0 0 4 0 a e c = N a e c := by
    intro N
    unfold u3
    rw [if_neg (by omega)]
    exact if_neg (by omega)
  rw [u]
  rcases (show e = 0 ∨ e = 1 ∨ e = 2 ∨ e = 3 ∨ e = 4 ∨ e = 5 ∨ e = 6 ∨ e = 7 by omega) with rfl | rfl | rfl | rfl | rfl | rfl | rfl | rfl
  · rw [eb_o _ _ _ _ _ (by omega), eb_o _ _ _ _ _ (by omega), eb_o _ _ _ _ _ (by omega), eb_o _ _ _ _ _ (by omega), eb_o _ _ _ _ _ (by omega), eb_o _ _ _ _ _ (by omega), eb_o _ _ _ _ _ (by omega), h]
  · rw [eb_o _ _ _ _ _ (by omega), eb_o _ _ _ _ _ (by omega), eb_o _ _ _ _ _ (by omega), eb_o _ _ _ _ _ (by omega), eb_o _ _ _ _ _ (by omega), eb_o _ _ _ _ _ (by omega), h]
  · rw [eb_o _ _ _ _ _ (by omega), eb_o _ _ _ _ _ (by omega), eb_o _ _ _ _ _ (by omega), eb_o _ _ _ _ _ (by omega), eb_o _ _ _ _ _ (by omega), h]
  · rw [eb_o _ _ _ _ _ (by omega), eb_o _ _ _ _ _ (by omega), eb_o _ _ _ _ _ (by omega), eb_o _ _ _ _ _ (by omega), h]
  · rw [eb_o _ _ _ _ _ (by omega), eb_o _ _ _ _ _ (by omega), eb_o _ _ _ _ _ (by omega), h]
  · rw [eb_o _ _ _ _ _ (by omega), eb_o _ _ _ _ _ (by omega), h]
  · rw [eb_o _ _ _ _ _ (by omega), h]
  · rw [h]
theorem bA_o (M : Mem) (a b c : Nat) (h : ¬ (a = 6 ∨ a = 7 ∨ a = 8)) (h0 : ¬ a = 0) : f_B_beginAnew M a b c = f_Le_beginAnew (f_Le_beginAnew M 0) 1 a b c := by
  rw [bA_eq]
  have u : ∀ N : Mem, u3 (u3 N 0 0 3 0) 0 0 4 0 a b c = N a b c := by
    intro N
    unfold u3
    rw [if_neg (by omega)]
    exact if_neg (by omega)
  rw [u, eb_o _ _ _ _ _ (by omega), eb_o _ _ _ _ _ (by omega), eb_o _ _ _ _ _ (by omega), eb_o _ _ _ _ _ (by omega), eb_o _ _ _ _ _ (by omega), eb_o _ _ _ _ _ (by omega), eb_o _ _ _ _ _ (by omega), eb_o _ _ _ _ _ (by omega)]
theorem bA_le (M : Mem) (a c : Nat) (ha : a = 1 ∨ a = 2 ∨ a = 3 ∨ a = 4) (v : Int32) (h : ∀ (N : Mem) (z : Nat), f_Le_beginAnew N z a z c = v) : ∀ s, s < 2 → f_B_beginAnew M a s c = v := by
  intro s hs
  rw [bA_o _ _ _ _ (by omega) (by omega)]
  rcases (show s = 0 ∨ s = 1 by omega) with rfl | rfl
  · rw [lb_o _ _ _ _ _ (by omega), h]
  · rw [h]
theorem bA_k (M : Mem) (a : Nat) (h : a = 5 ∨ a = 9 ∨ 20 ≤ a) : f_B_beginAnew M a = M a := by
  funext b c
  rw [bA_o _ _ _ _ (by omega) (by omega), lb_o _ _ _ _ _ (by omega), lb_o _ _ _ _ _ (by omega)]
/-- the reference begins -/
theorem rb_k (A : Mem) (a : Nat) (h : a < 20) : f_R_begin A a = A a := by
  funext b c
  unfold f_R_begin f_R_forget
  simp only [u3, fo_]
  grind (splits := 60)
theorem rb_m (A : Mem) (b : Nat) (h : ¬ (b = 0 ∨ b = 1 ∨ b = 2 ∨ b = 12)) : f_R_begin A 21 b = A 21 b := by
  funext c
  unfold f_R_begin f_R_forget
  simp only [u3, fo_]
  grind (splits := 60)
theorem rb_eq (A : Mem) : f_R_begin A = u3 (u3 (u3 (u3 (fo_ (u3 (u3 (u3 (u3 (u3 (u3 (fo_ (u3 (u3 (u3 (u3 A 20 0 3 0) 20 0 15 0) 21 0 0 0) 21 2 0 0) 1 0 201 (-1)) 21 12 0 1000) 21 12 1 1000) 21 12 2 1000) 21 12 3 1000) 21 0 1 0) 21 2 1 0) 1 201 201 (-1)) 21 12 4 1000) 21 12 5 1000) 21 12 6 1000) 21 12 7 1000 := by
  unfold f_R_begin f_R_forget
  rw [show Int32.toNatClampNeg (4 * 0 + 0) = 0 by decide, show Int32.toNatClampNeg (4 * 0 + 1) = 1 by decide, show Int32.toNatClampNeg (4 * 0 + 2) = 2 by decide, show Int32.toNatClampNeg (4 * 0 + 3) = 3 by decide, show Int32.toNatClampNeg (4 * 1 + 0) = 4 by decide, show Int32.toNatClampNeg (4 * 1 + 1) = 5 by decide, show Int32.toNatClampNeg (4 * 1 + 2) = 6 by decide, show Int32.toNatClampNeg (4 * 1 + 3) = 7 by decide, tn0, tn1]
theorem rb_0 (A : Mem) {s : Nat} (hs : s < 2) : f_R_begin A 21 0 s = 0 := by
  rw [rb_eq]
  simp only [u3, fo_]
  grind (splits := 60)
theorem rb_2 (A : Mem) {s : Nat} (hs : s < 2) : f_R_begin A 21 2 s = 0 := by
  rw [rb_eq]
  simp only [u3, fo_]
  grind (splits := 60)
theorem rb_1 (A : Mem) {s h : Nat} (hs : s < 2) (hl : h ≤ 200) : f_R_begin A 21 1 (201 * s + h) = -1 := by
  rw [rb_eq]
  simp only [u3, fo_]
  grind (splits := 60)
theorem rb_12 (A : Mem) {s a : Nat} (hs : s < 2) (ha : a < 4) : f_R_begin A 21 12 (4 * s + a) = 1000 := by
  rw [rb_eq]
  simp only [u3, fo_]
  grind (splits := 60)
theorem rb_20 (A : Mem) : f_R_begin A 20 0 3 = 0 ∧ f_R_begin A 20 0 15 = 0 := by
  rw [rb_eq]
  simp only [u3, fo_]
  grind (splits := 60)
theorem hc_0 {w : Nat → Int32} (h : ∀ q, 1 ≤ q → q ≤ 200 → w q = -1) : ∀ k, k ≤ 200 → hi_ w k = 0 ∧ cn_ w k = 0
  | 0, _ => ⟨rfl, rfl⟩
  | k + 1, hk => by
    obtain ⟨a, b⟩ := hc_0 h k (by omega)
    constructor
    · show (if w (k + 1) < 0 then hi_ w k else nI (k + 1)) = 0
      rw [h (k + 1) (by omega) hk, if_pos (by decide)]
      exact a
    · show (if w (k + 1) < 0 then cn_ w k else cn_ w k + 1) = 0
      rw [h (k + 1) (by omega) hk, if_pos (by decide)]
      exact b
/-- both begin anew, from any memory whose indices are in their bounds -/
theorem rl_anew {M : Mem} (h5 : ∀ c, c < 4 → vp_in (M 5 c 2) 2 ∧ vp_in (M 21 3 c) 2) (h9 : ∀ i, i < 60 → (vp_in (M 9 i 0) 4 ∧ vp_in (M 9 i 1) 2 ∧ vp_in (M 9 i 3) 4) ∧ vp_in (M 21 14 i) 4 ∧ vp_in (M 21 15 i) 2 ∧ vp_in (M 21 19 i) 4 ∧ vp_in (M 21 20 i) 8) : rl_ 0 0 (fun _ => 0) (f_R_begin (f_B_beginAnew M)) := by
  refine ⟨⟨by omega, by omega, ?_, (rb_20 _).1, ?_, (rb_20 _).2⟩, fun s hs => ⟨Nat.zero_le _, ?_, rb_0 _ hs⟩, fun s hs => ?_, fun s a hs ha => ?_, ?_, fun c hc => absurd hc (by omega), fun e he => absurd he (by omega), fun e _ he => ?_, ?_, fun i hi => absurd hi (by omega)⟩
  · rw [rb_k _ 0 (by decide), bA_eq]; rfl
  · rw [rb_k _ 0 (by decide), bA_eq]; rfl
  · rw [rb_k _ 1 (by decide)]
    exact bA_le M 1 2 (by omega) 0 (fun N z => lb_1 N z) s hs
  · rw [rb_k _ 4 (by decide), rb_k _ 3 (by decide), rb_2 _ hs]
    have hw : ∀ q, 1 ≤ q → q ≤ 200 → (fun h => f_R_begin (f_B_beginAnew M) 21 1 (201 * s + h)) q = -1 := fun q _ h2 => rb_1 _ hs h2
    refine ⟨fun h g1 g2 => ⟨0, by omega, bA_le M 4 h (by omega) 0 (fun N z => lb_4 N z h g2) s hs, (hw h g1 g2).trans (by decide), fun _ => rfl⟩, ?_, Or.inl rfl, ?_, ?_⟩
    · exact bA_le M 3 1 (by omega) 0 (fun N z => lb_3 N z 1 (by omega)) s hs
    · rw [(hc_0 hw 200 (Nat.le_refl _)).1]
      exact bA_le M 3 2 (by omega) 0 (fun N z => lb_3 N z 2 (by omega)) s hs
    · rw [(hc_0 hw 200 (Nat.le_refl _)).2]
      exact bA_le M 3 3 (by omega) 0 (fun N z => lb_3 N z 3 (by omega)) s hs
  · rw [rb_k _ 2 (by decide), rb_12 _ hs ha]
    exact bA_le M 2 a (by omega) 1000 (fun N z => lb_2 N z a ha) s hs
  · rw [rb_k _ 5 (by decide), bA_k M 5 (by omega), rb_m _ 3 (by omega), bA_k M 21 (by omega)]
    exact h5
  · rw [rb_k _ 6 (by decide), rb_k _ 7 (by decide), rb_k _ 8 (by decide)]
    refine ⟨⟨?_, ?_, ?_, ?_, ?_, ?_⟩, fun i g1 g2 => ?_, fun a ha => ?_⟩
    · exact bA_en M 6 2 (by omega) 0 (fun N z => eb_6 N z 2 (by omega)) e he
    · exact bA_en M 6 3 (by omega) 0 (fun N z => eb_6 N z 3 (by omega)) e he
    · exact bA_en M 6 4 (by omega) 0 (fun N z => eb_6 N z 4 (by omega)) e he
    · exact bA_en M 6 5 (by omega) 0 (fun N z => eb_6 N z 5 (by omega)) e he
    · exact bA_en M 6 6 (by omega) 0 (fun N z => eb_6 N z 6 (by omega)) e he
    · exact bA_en M 6 7 (by omega) 0 (fun N z => eb_6 N z 7 (by omega)) e he
    · exact bA_en M 7 i (by omega) 201 (fun N z => eb_7 N z i (by omega)) e he
    · exact bA_en M 8 a (by omega) 0 (fun N z => eb_8 N z a ha) e he
  · rw [rb_k _ 9 (by decide), bA_k M 9 (by omega), rb_m _ 14 (by omega), rb_m _ 15 (by omega), rb_m _ 19 (by omega), rb_m _ 20 (by omega), bA_k M 21 (by omega)]
    exact h9
theorem st_clear {nc nm : Nat} {hh : Nat → Nat} {M : Mem} (R : rl_ nc nm hh M) : ok_ (f_B_clear M) f_R_clear := by
  obtain ⟨-, -, a3, a4, a5, a6⟩ := R.1
  refine ok_by (r := nI nm) (M1 := f_B_beginAnew M) (M2 := f_R_begin (f_B_beginAnew M)) ?_ ?_ ?_ ⟨_, _, _, rl_anew R.2.2.2.2.1 R.2.2.2.2.2.2.2.2.1⟩
  · unfold f_B_clear; rw [a5]
  · have := rl_ri R
    unfold ri_ at this ⊢
    rw [bA_k M 20 (by omega), bA_k M 21 (by omega)]
    exact this
  · unfold f_R_clear
    rw [bA_k M 20 (by omega), a6]
