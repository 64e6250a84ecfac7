/-! what the calls change: pieces -/
theorem u3_id (M : Mem) (k i j : Nat) : u3 M k i j (M k i j) = M := by
  funext a b c
  unfold u3
  split
  · rename_i h; obtain ⟨rfl, rfl, rfl⟩ := h; rfl
  · rfl
theorem u3_comm (M : Mem) {k i j k2 i2 j2 : Nat} (v w : Int32) (h : ¬ (k = k2 ∧ i = i2 ∧ j = j2)) : u3 (u3 M k i j v) k2 i2 j2 w = u3 (u3 M k2 i2 j2 w) k i j v := by
  funext a b c
  unfold u3
  by_cases h1 : a = k2 ∧ b = i2 ∧ c = j2
  · rw [if_pos h1, if_neg (fun q => h ⟨q.1.symm.trans h1.1, q.2.1.symm.trans h1.2.1, q.2.2.symm.trans h1.2.2⟩)]
    exact (if_pos h1).symm
  · rw [if_neg h1]
    show (if a = k ∧ b = i ∧ c = j then v else M a b c) = if a = k ∧ b = i ∧ c = j then v else (if a = k2 ∧ b = i2 ∧ c = j2 then w else M a b c)
    rw [if_neg h1]
theorem u3_n2 (M : Mem) {k i j b : Nat} (v : Int32) (h : ¬ b = i) : u3 M k i j v k b = M k b := by
  funext c
  unfold u3
  rw [if_neg (fun q => h q.2.1)]
theorem u3_n3 (M : Mem) {k i j c : Nat} (v : Int32) (h : ¬ c = j) : u3 M k i j v k i c = M k i c := if_neg (fun q => h q.2.2)
theorem er_congr {E C V : Nat → Int32} {s5 s6 s7 s8 s9 s10 : Int32} {X X2 U U2 : Nat → Int32} {H : Nat} (h : er_ E C V s5 s6 s7 s8 s9 s10 X U H) (hX : ∀ q, q ≤ H → X2 q = X q) (hU : ∀ a, a < 4 → U2 a = U a) : er_ E C V s5 s6 s7 s8 s9 s10 X2 U2 H :=
  ⟨h.1, fun a ha => (h.2.1 a ha).trans (hU a ha).symm, h.2.2.1, fun q hq => (h.2.2.2 q hq).trans (hX q hq).symm⟩
theorem hi_congr {w w2 : Nat → Int32} : ∀ k, (∀ h, 1 ≤ h → h ≤ k → w2 h = w h) → hi_ w2 k = hi_ w k
  | 0, _ => rfl
  | k + 1, h => by
    show (if w2 (k + 1) < 0 then hi_ w2 k else nI (k + 1)) = (if w (k + 1) < 0 then hi_ w k else nI (k + 1))
    rw [h (k + 1) (by omega) (by omega), hi_congr k (fun q a b => h q a (by omega))]
theorem cn_congr {w w2 : Nat → Int32} : ∀ k, (∀ h, 1 ≤ h → h ≤ k → w2 h = w h) → cn_ w2 k = cn_ w k
  | 0, _ => rfl
  | k + 1, h => by
    show (if w2 (k + 1) < 0 then cn_ w2 k else cn_ w2 k + 1) = (if w (k + 1) < 0 then cn_ w k else cn_ w k + 1)
    rw [h (k + 1) (by omega) (by omega), cn_congr k (fun q a b => h q a (by omega))]
theorem cr_congr {t c : Nat → Int32} {fz : Int32} {w w2 : Nat → Int32} {H H2 : Nat} (h : cr_ t c fz w H) (hw : ∀ q, 1 ≤ q → q ≤ 200 → w2 q = w q) (hH : H ≤ H2) : cr_ t c fz w2 H2 := by
  obtain ⟨a, b, d, e, f⟩ := h
  refine ⟨fun q h1 h2 => ?_, b, d, by rw [hi_congr 200 hw]; exact e, by rw [cn_congr 200 hw]; exact f⟩
  obtain ⟨k, g1, g2, g3, g4⟩ := a q h1 h2
  exact ⟨k, g1, g2, by rw [hw q h1 h2]; exact g3, fun z => g4 (by omega)⟩
theorem si_top {k : Nat} {C : Nat → Int32} {H : Nat} (hH : H + 1 ≤ 200) (hk : k ≤ 4) (h1 : ∀ i, 1 ≤ i → i ≤ 4 → k < i → C i = 201) (h2 : 1 ≤ k → ∃ t, t ≤ H ∧ C k = nI t) : si_ C (nI (H + 1)) = nI k := by
  have up : nI (H + 1) ≤ 201 := nI_le (a := H + 1) (b := 201) (by omega) (by decide)
  have dn : ∀ t, t ≤ H → ¬ nI (H + 1) ≤ nI t := fun t ht => nI_ge (by omega) (by omega)
  unfold si_
  rcases (show k = 0 ∨ k = 1 ∨ k = 2 ∨ k = 3 ∨ k = 4 by omega) with rfl | rfl | rfl | rfl | rfl
  · rw [h1 4 (by omega) (by omega) (by omega), h1 3 (by omega) (by omega) (by omega), h1 2 (by omega) (by omega) (by omega), h1 1 (by omega) (by omega) (by omega), if_pos up, if_pos up, if_pos up, if_pos up]
    rfl
  · obtain ⟨t, ht, e⟩ := h2 (by omega)
    rw [h1 4 (by omega) (by omega) (by omega), h1 3 (by omega) (by omega) (by omega), h1 2 (by omega) (by omega) (by omega), e, if_pos up, if_pos up, if_pos up, if_neg (dn t ht)]
    rfl
  · obtain ⟨t, ht, e⟩ := h2 (by omega)
    rw [h1 4 (by omega) (by omega) (by omega), h1 3 (by omega) (by omega) (by omega), e, if_pos up, if_pos up, if_neg (dn t ht)]
    rfl
  · obtain ⟨t, ht, e⟩ := h2 (by omega)
    rw [h1 4 (by omega) (by omega) (by omega), e, if_pos up, if_neg (dn t ht)]
    rfl
  · obtain ⟨t, ht, e⟩ := h2 (by omega)
    rw [e, if_neg (dn t ht)]
    rfl
theorem si_upd {C : Nat → Int32} {k H h : Nat} (hh : h ≤ H) (hH : H ≤ 200) (hk : 1 ≤ k) (hk4 : k ≤ 4) (e : C k = 201) : si_ (upd C k (nI H)) (nI h) = si_ C (nI h) := by
  have up : nI h ≤ 201 := nI_le (a := h) (b := 201) (by omega) (by decide)
  have u2 : nI h ≤ nI H := nI_le hh (by omega)
  unfold si_ upd
  rcases (show k = 1 ∨ k = 2 ∨ k = 3 ∨ k = 4 by omega) with rfl | rfl | rfl | rfl <;> simp [e, up, u2]
section
variable {nc nm : Nat} {hh : Nat → Nat} {M : Mem}
/-- an end comes to a step -/
theorem rl_step (R : rl_ nc nm hh M) {e0 k k2 : Nat} (he : e0 < 2 * nc) (hk : k < k2) (hk4 : k2 ≤ 4) (h5 : M 21 5 e0 = nI k) : rl_ nc nm hh (u3 (u3 (u3 M 6 e0 2 (nI k2)) 7 e0 k2 (nI (hh (e0 % 2)))) 21 5 e0 (nI k2)) := by
  have hn4 : nc ≤ 4 := R.1.1
  have hH : hh (e0 % 2) ≤ 200 := (R.2.1 (e0 % 2) (by omega)).1
  refine ⟨R.1, R.2.1, R.2.2.1, R.2.2.2.1, R.2.2.2.2.1, R.2.2.2.2.2.1, fun e h => ?_, fun e h h8 => ?_, R.2.2.2.2.2.2.2.2.1, R.2.2.2.2.2.2.2.2.2⟩
  · have R7 := R.2.2.2.2.2.2.1 e h
    by_cases q : e = e0
    · subst q
      obtain ⟨⟨e5, e6, e7, e8, e9, e10⟩, v, ⟨k0, z1, z2, z3, z4⟩, hist⟩ := R7
      have : k0 = k := (nI_eq (by omega) (by omega)).mp (z2.symm.trans (e5.trans h5))
      subst this
      have E : u3 (u3 (u3 M 6 e 2 (nI k2)) 7 e k2 (nI (hh (e % 2)))) 21 5 e (nI k2) 6 e = upd (M 6 e) 2 (nI k2) := u3_at M 6 e 2 (nI k2)
      have C : u3 (u3 (u3 M 6 e 2 (nI k2)) 7 e k2 (nI (hh (e % 2)))) 21 5 e (nI k2) 7 e = upd (M 7 e) k2 (nI (hh (e % 2))) := u3_at (u3 M 6 e 2 (nI k2)) 7 e k2 _
      rw [E, C, show u3 (u3 (u3 M 6 e 2 (nI k2)) 7 e k2 (nI (hh (e % 2)))) 21 5 e (nI k2) 21 5 e = nI k2 from u3_self _ _ _ _ _]
      refine ⟨⟨by simp [upd], e6, e7, e8, e9, e10⟩, v, ⟨k2, hk4, by simp [upd], fun i g1 g2 g3 => ?_, fun _ => ⟨hh (e % 2), Nat.le_refl _, by simp [upd]⟩⟩, fun h2 g => ?_⟩
      · show (if i = k2 then _ else M 7 e i) = _
        rw [if_neg (by omega)]
        exact z3 i g1 g2 (by omega)
      · rw [si_upd g hH (by omega) hk4 (z3 k2 (by omega) hk4 hk)]
        exact hist h2 g
    · have E : u3 (u3 (u3 M 6 e0 2 (nI k2)) 7 e0 k2 (nI (hh (e0 % 2)))) 21 5 e0 (nI k2) 6 e = M 6 e := u3_n2 M (nI k2) q
      have C : u3 (u3 (u3 M 6 e0 2 (nI k2)) 7 e0 k2 (nI (hh (e0 % 2)))) 21 5 e0 (nI k2) 7 e = M 7 e := u3_n2 (u3 M 6 e0 2 (nI k2)) _ q
      rw [E, C, show u3 (u3 (u3 M 6 e0 2 (nI k2)) 7 e0 k2 (nI (hh (e0 % 2)))) 21 5 e0 (nI k2) 21 5 e = M 21 5 e from u3_n3 _ _ q]
      exact R7
  · have E : u3 (u3 (u3 M 6 e0 2 (nI k2)) 7 e0 k2 (nI (hh (e0 % 2)))) 21 5 e0 (nI k2) 6 e = M 6 e := u3_n2 M (nI k2) (by omega)
    have C : u3 (u3 (u3 M 6 e0 2 (nI k2)) 7 e0 k2 (nI (hh (e0 % 2)))) 21 5 e0 (nI k2) 7 e = M 7 e := u3_n2 (u3 M 6 e0 2 (nI k2)) _ (by omega)
    rw [E, C]
    exact R.2.2.2.2.2.2.2.1 e h h8
/-- a number of an end changes on both sides: offer, version, escrow, sent, received -/
theorem rl_fld (R : rl_ nc nm hh M) {e0 j a : Nat} (v : Int32) (he : e0 < 2 * nc) (hj : (j = 3 ∧ a = 6) ∨ (j = 4 ∧ a = 7) ∨ (j = 5 ∧ a = 8) ∨ (j = 6 ∧ a = 9) ∨ (j = 7 ∧ a = 10)) : rl_ nc nm hh (u3 (u3 M 6 e0 j v) 21 a e0 v) := by
  have E : ∀ e, u3 (u3 M 6 e0 j v) 21 a e0 v 6 e = u3 M 6 e0 j v 6 e := fun e => rfl
  rcases hj with ⟨rfl, rfl⟩ | ⟨rfl, rfl⟩ | ⟨rfl, rfl⟩ | ⟨rfl, rfl⟩ | ⟨rfl, rfl⟩
  all_goals
    refine ⟨R.1, R.2.1, R.2.2.1, R.2.2.2.1, R.2.2.2.2.1, R.2.2.2.2.2.1, fun e h => ?_, fun e h h8 => ?_, R.2.2.2.2.2.2.2.2.1, R.2.2.2.2.2.2.2.2.2⟩
    · have R7 := R.2.2.2.2.2.2.1 e h
      by_cases q : e = e0
      · subst q
        obtain ⟨⟨e5, e6, e7, e8, e9, e10⟩, w, z, hist⟩ := R7
        rw [E, u3_at, u3_self]
        exact ⟨by simp only [upd]; exact ⟨by first | exact e5 | rfl, by first | exact e6 | rfl, by first | exact e7 | rfl, by first | exact e8 | rfl, by first | exact e9 | rfl, by first | exact e10 | rfl⟩, w, z, hist⟩
      · rw [E, u3_n2 _ _ q, u3_n3 _ _ q]
        exact R7
    · rw [E, u3_n2 _ _ (by omega)]
      exact R.2.2.2.2.2.2.2.1 e h h8
/-- a coin of an account -/
theorem rl_coin (R : rl_ nc nm hh M) {s a : Nat} (v : Int32) (hs : s < 2) (ha : a < 4) : rl_ nc nm hh (u3 (u3 M 2 s a v) 21 12 (4 * s + a) v) := by
  refine ⟨R.1, R.2.1, R.2.2.1, fun t d ht hd => ?_, R.2.2.2.2.1, R.2.2.2.2.2.1, R.2.2.2.2.2.2.1, R.2.2.2.2.2.2.2.1, R.2.2.2.2.2.2.2.2.1, R.2.2.2.2.2.2.2.2.2⟩
  show u3 M 2 s a v 2 t d = u3 (u3 M 2 s a v) 21 12 (4 * s + a) v 21 12 (4 * t + d)
  by_cases q : t = s ∧ d = a
  · obtain ⟨rfl, rfl⟩ := q
    rw [u3_self, u3_self]
  · rw [u3_n3 _ _ (by omega)]
    have := R.2.2.2.1 t d ht hd
    rw [← show u3 M 2 s a v 21 12 (4 * t + d) = M 21 12 (4 * t + d) from rfl] at this
    rw [← this]
    exact if_neg (fun w => q ⟨w.2.1, w.2.2⟩)
/-- a voucher of an account -/
theorem rl_vou (R : rl_ nc nm hh M) {e0 a : Nat} (v : Int32) (he : e0 < 2 * nc) (ha : a < 4) : rl_ nc nm hh (u3 (u3 M 8 e0 a v) 21 13 (4 * e0 + a) v) := by
  have V : ∀ e, u3 (u3 M 8 e0 a v) 21 13 (4 * e0 + a) v 8 e = u3 M 8 e0 a v 8 e := fun e => rfl
  refine ⟨R.1, R.2.1, R.2.2.1, R.2.2.2.1, R.2.2.2.2.1, R.2.2.2.2.2.1, fun e h => ?_, fun e h h8 => ?_, R.2.2.2.2.2.2.2.2.1, R.2.2.2.2.2.2.2.2.2⟩
  · have R7 := R.2.2.2.2.2.2.1 e h
    obtain ⟨w1, w, z, hist⟩ := R7
    refine ⟨w1, fun d hd => ?_, z, hist⟩
    rw [V]
    show u3 M 8 e0 a v 8 e d = u3 (u3 M 8 e0 a v) 21 13 (4 * e0 + a) v 21 13 (4 * e + d)
    by_cases q : e = e0 ∧ d = a
    · obtain ⟨rfl, rfl⟩ := q
      rw [u3_self, u3_self]
    · rw [u3_n3 _ _ (by omega)]
      rw [show u3 M 8 e0 a v 21 13 (4 * e + d) = M 21 13 (4 * e + d) from rfl]
      exact (if_neg (fun w => q ⟨w.2.1, w.2.2⟩)).trans (w d hd)
  · rw [V, u3_n2 _ _ (by omega)]
    exact R.2.2.2.2.2.2.2.1 e h h8
end
