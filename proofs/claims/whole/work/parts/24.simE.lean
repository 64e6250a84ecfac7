/-! the client: a height is followed, two marks, renewed -/
def hn_ (w : Nat → Int32) : Nat → Nat
  | 0 => 0
  | k + 1 => if w (k + 1) < 0 then hn_ w k else k + 1
theorem hn_le (w : Nat → Int32) : ∀ k, hn_ w k ≤ k
  | 0 => Nat.le_refl _
  | k + 1 => by
    show (if w (k + 1) < 0 then hn_ w k else k + 1) ≤ k + 1
    split
    · have := hn_le w k; omega
    · exact Nat.le_refl _
theorem hi_hn (w : Nat → Int32) : ∀ k, hi_ w k = nI (hn_ w k)
  | 0 => rfl
  | k + 1 => by
    show (if w (k + 1) < 0 then hi_ w k else nI (k + 1)) = nI (if w (k + 1) < 0 then hn_ w k else k + 1)
    split
    · exact hi_hn w k
    · rfl
theorem hn_upd {w : Nat → Int32} {h : Nat} {v : Int32} (hv : ¬ v < 0) : ∀ k, hn_ (fun q => if q = h then v else w q) k = if k < h then hn_ w k else if h = 0 then hn_ w k else max (hn_ w k) h
  | 0 => by
    show 0 = _
    split
    · rfl
    · rw [if_pos (by omega)]; rfl
  | k + 1 => by
    have ih := hn_upd (w := w) (h := h) hv k
    have l := hn_le w k
    show (if (if k + 1 = h then v else w (k + 1)) < 0 then hn_ (fun q => if q = h then v else w q) k else k + 1) = _
    show _ = if k + 1 < h then (if w (k + 1) < 0 then hn_ w k else k + 1) else if h = 0 then (if w (k + 1) < 0 then hn_ w k else k + 1) else max (if w (k + 1) < 0 then hn_ w k else k + 1) h
    rw [ih]
    by_cases e : k + 1 = h
    · rw [if_pos e, if_neg hv, if_neg (by omega), if_neg (by omega)]
      split <;> omega
    · rw [if_neg e]
      by_cases z : w (k + 1) < 0
      · simp only [if_pos z]
        by_cases y : k + 1 < h
        · rw [if_pos (by omega), if_pos y]
        · rw [if_neg (by omega), if_neg y]
      · simp only [if_neg z]
        by_cases y : k + 1 < h
        · rw [if_pos y]
        · rw [if_neg y]
          split
          · rfl
          · omega
theorem cn_upd {w : Nat → Int32} {h : Nat} {v : Int32} (hv : ¬ v < 0) (hw : w h < 0) (h1 : 1 ≤ h) : ∀ k, cn_ (fun q => if q = h then v else w q) k = if k < h then cn_ w k else cn_ w k + 1
  | 0 => by
    show 0 = _
    rw [if_pos (by omega)]
    rfl
  | k + 1 => by
    have ih := cn_upd (w := w) (h := h) hv hw h1 k
    show (if (if k + 1 = h then v else w (k + 1)) < 0 then cn_ (fun q => if q = h then v else w q) k else cn_ (fun q => if q = h then v else w q) k + 1) = _
    show _ = if k + 1 < h then (if w (k + 1) < 0 then cn_ w k else cn_ w k + 1) else (if w (k + 1) < 0 then cn_ w k else cn_ w k + 1) + 1
    rw [ih]
    by_cases e : k + 1 = h
    · subst e
      rw [if_pos rfl, if_neg hv, if_pos (show k < k + 1 by omega), if_neg (show ¬ k + 1 < k + 1 by omega), if_pos hw]
    · rw [if_neg e]
      by_cases z : w (k + 1) < 0
      · simp only [if_pos z]
        by_cases y : k + 1 < h
        · rw [if_pos (by omega), if_pos y]
        · rw [if_neg (by omega), if_neg y]
      · simp only [if_neg z]
        by_cases y : k + 1 < h
        · rw [if_pos (by omega), if_pos y]
        · rw [if_neg (by omega), if_neg y]
theorem mx_nI {a b : Nat} (ha : a < 2 ^ 31) (hb : b < 2 ^ 31) : f_Ma_max (nI a) (nI b) = nI (max a b) := by
  unfold f_Ma_max
  by_cases h : a < b
  · rw [if_pos (nI_lt h hb), Nat.max_eq_right (by omega)]
  · rw [if_neg (nI_nlt (by omega) ha), Nat.max_eq_left (by omega)]
theorem nm_pos : ∀ m, m ≤ 9 → ¬ nI m < 0 := by decide +kernel
theorem nk_m : ∀ k, k ≤ 10 → ∀ m, m ≤ 9 → (nI k - 1 = nI m ↔ k = m + 1) := by decide +kernel
theorem nk_m2 : ∀ k, k ≤ 10 → ∀ m, m ≤ 9 → (nI k = nI m + 1 ↔ k = m + 1) := by decide +kernel
section
variable {nc nm : Nat} {hh : Nat → Nat} {M : Mem}
theorem rl_frz (R : rl_ nc nm hh M) {s : Nat} (hs : s < 2) : rl_ nc nm hh (u3 (u3 M 3 s 1 1) 21 2 s 1) := by
  refine ⟨R.1, R.2.1, fun t ht => ?_, R.2.2.2.1, R.2.2.2.2.1, R.2.2.2.2.2.1, R.2.2.2.2.2.2.1, R.2.2.2.2.2.2.2.1, R.2.2.2.2.2.2.2.2.1, R.2.2.2.2.2.2.2.2.2⟩
  by_cases q : t = s
  · subst q
    obtain ⟨a, b, d, e, f⟩ := R.2.2.1 t ht
    rw [show u3 (u3 M 3 t 1 1) 21 2 t 1 3 t = upd (M 3 t) 1 1 from u3_at M 3 t 1 1, u3_self]
    exact ⟨a, rfl, Or.inr rfl, e, f⟩
  · rw [show u3 (u3 M 3 s 1 1) 21 2 s 1 3 t = M 3 t from u3_n2 M _ q, u3_n3 _ _ q]
    exact R.2.2.1 t ht
theorem rl_fol (R : rl_ nc nm hh M) {s h m : Nat} (hs : s < 2) (h1 : 1 ≤ h) (h2 : h ≤ 200) (hH : h ≤ hh (1 - s)) (hm : m ≤ 9) (hz : M 4 s h = 0) : rl_ nc nm hh (u3 (u3 (u3 (u3 M 4 s h (nI m + 1)) 3 s 2 (f_Ma_max (M 3 s 2) (nI h))) 3 s 3 (M 3 s 3 + 1)) 21 1 (201 * s + h) (nI m)) := by
  refine ⟨R.1, R.2.1, fun t ht => ?_, R.2.2.2.1, R.2.2.2.2.1, R.2.2.2.2.2.1, R.2.2.2.2.2.2.1, R.2.2.2.2.2.2.2.1, R.2.2.2.2.2.2.2.2.1, R.2.2.2.2.2.2.2.2.2⟩
  by_cases q : t = s
  · subst q
    obtain ⟨a, b, d, e, f⟩ := R.2.2.1 t ht
    have hw : M 21 1 (201 * t + h) < 0 := by
      obtain ⟨k, g1, g2, g3, -⟩ := a h h1 h2
      have : k = 0 := (nI_eq (a := k) (b := 0) (by omega) (by decide)).mp (g2.symm.trans hz)
      subst this
      rw [show M 21 1 (201 * t + h) = nI 0 - 1 from g3]
      decide
    rw [show u3 (u3 (u3 (u3 M 4 t h (nI m + 1)) 3 t 2 (f_Ma_max (M 3 t 2) (nI h))) 3 t 3 (M 3 t 3 + 1)) 21 1 (201 * t + h) (nI m) 4 t = upd (M 4 t) h (nI m + 1) from u3_at M 4 t h _,
      show u3 (u3 (u3 (u3 M 4 t h (nI m + 1)) 3 t 2 (f_Ma_max (M 3 t 2) (nI h))) 3 t 3 (M 3 t 3 + 1)) 21 1 (201 * t + h) (nI m) 3 t = upd (upd (M 3 t) 2 (f_Ma_max (M 3 t 2) (nI h))) 3 (M 3 t 3 + 1) from by
        show u3 (u3 (u3 M 4 t h (nI m + 1)) 3 t 2 (f_Ma_max (M 3 t 2) (nI h))) 3 t 3 (M 3 t 3 + 1) 3 t = _
        rw [u3_at, u3_at]
        rfl]
    have ew : (fun x => u3 (u3 (u3 (u3 M 4 t h (nI m + 1)) 3 t 2 (f_Ma_max (M 3 t 2) (nI h))) 3 t 3 (M 3 t 3 + 1)) 21 1 (201 * t + h) (nI m) 21 1 (201 * t + x)) = fun x => if x = h then nI m else M 21 1 (201 * t + x) := by
      funext x
      by_cases z : x = h
      · subst z
        rw [u3_self, if_pos rfl]
      · rw [u3_n3 _ _ (by omega), if_neg z]
        rfl
    rw [ew]
    refine ⟨fun x g1 g2 => ?_, b, d, ?_, ?_⟩
    · by_cases z : x = h
      · subst z
        refine ⟨m + 1, by omega, ?_, ?_, fun w => by omega⟩
        · show (if x = x then nI m + 1 else _) = _
          rw [if_pos rfl, nI_1]
        · show (if x = x then nI m else _) = _
          rw [if_pos rfl, nI_pred]
      · obtain ⟨k, k1, k2, k3, k4⟩ := a x g1 g2
        refine ⟨k, k1, ?_, ?_, k4⟩
        · show (if x = h then nI m + 1 else M 4 t x) = _
          rw [if_neg z]; exact k2
        · show (if x = h then nI m else M 21 1 (201 * t + x)) = _
          rw [if_neg z]; exact k3
    · show f_Ma_max (M 3 t 2) (nI h) = _
      rw [e, hi_hn, hi_hn, hn_upd (nm_pos m hm) 200, if_neg (by omega), if_neg (by omega)]
      exact mx_nI (by have := hn_le (fun h => M 21 1 (201 * t + h)) 200; omega) (by omega)
    · show M 3 t 3 + 1 = _
      rw [f, cn_upd (w := fun x => M 21 1 (201 * t + x)) (h := h) (nm_pos m hm) hw h1 200, if_neg (by omega)]
  · rw [show u3 (u3 (u3 (u3 M 4 s h (nI m + 1)) 3 s 2 (f_Ma_max (M 3 s 2) (nI h))) 3 s 3 (M 3 s 3 + 1)) 21 1 (201 * s + h) (nI m) 4 t = M 4 t from u3_n2 M _ q,
      show u3 (u3 (u3 (u3 M 4 s h (nI m + 1)) 3 s 2 (f_Ma_max (M 3 s 2) (nI h))) 3 s 3 (M 3 s 3 + 1)) 21 1 (201 * s + h) (nI m) 3 t = M 3 t from by
        show u3 (u3 (u3 M 4 s h (nI m + 1)) 3 s 2 (f_Ma_max (M 3 s 2) (nI h))) 3 s 3 (M 3 s 3 + 1) 3 t = _
        rw [u3_n2 _ _ q, u3_n2 _ _ q]
        rfl]
    refine cr_congr (R.2.2.1 t ht) (fun x g1 g2 => ?_) (Nat.le_refl _)
    show u3 (u3 (u3 (u3 M 4 s h (nI m + 1)) 3 s 2 (f_Ma_max (M 3 s 2) (nI h))) 3 s 3 (M 3 s 3 + 1)) 21 1 (201 * s + h) (nI m) 21 1 (201 * t + x) = M 21 1 (201 * t + x)
    rw [u3_n3 _ _ (by omega)]
    rfl
theorem ad_eq {s h m : Nat} (h1 : 1 ≤ h) (h2 : h ≤ 200) : f_Cl_add M s (nI h) (nI m) = u3 (u3 (u3 M 4 s h (nI m + 1)) 3 s 2 (f_Ma_max (M 3 s 2) (nI h))) 3 s 3 (M 3 s 3 + 1) := by
  unfold f_Cl_add
  rw [if_neg (by rw [show f_B_isWithin (nI h) 1 200 = 1 from wi_in (a := 1) (b := 200) h1 h2 (by decide)]; decide), nI_clamp (by omega), u3_n3 _ _ (by decide)]
  rfl
theorem st_follow (R : rl_ nc nm hh M) (x1 x2 x3 : Int32) : ok_ (f_B_follow M x1 x2 x3) (fun N => f_R_follow N x1 x2 x3) := by
  rcases sd_ x1 with ⟨p, q⟩ | ⟨s, hs, rfl, p, q⟩
  · refine ok_same (r := -1) R ?_ ?_
    · unfold f_B_follow; rw [if_pos p]
    · show f_R_follow M _ _ _ = _
      unfold f_R_follow; rw [if_neg q]
  · obtain ⟨g1, g2, g3⟩ := R.2.1 (1 - s) (by omega)
    by_cases w : f_B_isWithin x2 1 (nI (hh (1 - s))) = 0
    · refine ok_same (r := -2) R ?_ ?_
      · unfold f_B_follow; rw [if_neg p, i1_ hs, nI_clamp (by omega), g2, if_pos w]
      · show f_R_follow M _ _ _ = _
        unfold f_R_follow; rw [if_pos q, i1_ hs, nI_clamp (by omega), g3, wi_R, if_pos w]
    · by_cases w2 : f_B_isWithin x3 0 9 = 0
      · refine ok_same (r := -2) R ?_ ?_
        · unfold f_B_follow; rw [if_neg p, i1_ hs, nI_clamp (by omega), g2, if_neg w, if_pos w2]
        · show f_R_follow M _ _ _ = _
          unfold f_R_follow; rw [if_pos q, i1_ hs, nI_clamp (by omega), g3, wi_R, if_neg w, wi_R, if_pos w2]
      · have hpos : 1 ≤ hh (1 - s) := by
          rcases Nat.eq_zero_or_pos (hh (1 - s)) with z | z
          · exfalso
            obtain ⟨a1, a2⟩ := wi_mem w
            rw [Int32.lt_iff_toInt_lt, show (1 : Int32).toInt = 1 by decide] at a1
            rw [z, Int32.lt_iff_toInt_lt, nI_toInt (by decide)] at a2
            omega
          · exact z
        obtain ⟨h, h1, h2, rfl⟩ := wi_nI (a := 1) (b := hh (1 - s)) (by omega) hpos w
        obtain ⟨m, -, hm, rfl⟩ := wi_nI (a := 0) (b := 9) (by decide) (by decide) w2
        obtain ⟨a, b, d, e, f⟩ := R.2.2.1 s hs
        obtain ⟨k, k1, k2, k3, k4⟩ := a h h1 (by omega)
        have k3 : M 21 1 (201 * s + h) = nI k - 1 := k3
        have ehf := cl_how R (s := s) h1 (by omega) k1 k2
        have etm : f_Cl_isToldMark M s (nI h) (nI m) = if k = m + 1 then 1 else 0 := by
          unfold f_Cl_isToldMark
          rw [if_neg (by rw [show f_B_isWithin (nI h) 1 200 = 1 from wi_in (a := 1) (b := 200) h1 (by omega) (by decide)]; decide), nI_clamp (by omega), k2]
          by_cases z : k = m + 1
          · rw [if_pos z, if_pos ((nk_m2 k k1 m hm).mpr z)]
          · rw [if_neg z, if_neg (fun y => z ((nk_m2 k k1 m hm).mp y))]
        have eB : f_B_follow M (nI s) (nI h) (nI m) = if k = 0 then (if M 21 2 s = 0 then (1, f_Cl_add M s (nI h) (nI m)) else (-4, M)) else (if k = m + 1 then (-3, M) else (if M 21 2 s = 0 then (2, u3 M 3 s 1 1) else (-4, M))) := by
          unfold f_B_follow
          rw [if_neg p, i1_ hs, nI_clamp (by omega), g2, if_neg w, if_neg w2, nI_clamp (by omega), ehf, etm, b]
          by_cases z : k = 0
          · rw [if_pos z, if_pos ((hf_0 k k1).mpr z)]
          · rw [if_neg z, if_neg (fun y => z ((hf_0 k k1).mp y))]
            by_cases z2 : k = m + 1
            · rw [if_pos z2, if_neg (by decide), if_pos z2]
            · rw [if_neg z2, if_pos rfl, if_neg z2]
        have eR : ∀ N : Mem, N 21 = M 21 → f_R_follow N (nI s) (nI h) (nI m) = if k = m + 1 then (-3, N) else (if M 21 2 s = 0 then (if k = 0 then (1, u3 N 21 1 (201 * s + h) (nI m)) else (2, u3 N 21 2 s 1)) else (-4, N)) := by
          intro N hN
          unfold f_R_follow
          rw [hN, if_pos q, i1_ hs, nI_clamp (by omega), g3, wi_R, if_neg w, wi_R, if_neg w2, ix_h2 hs (by omega), k3, nI_clamp (by omega)]
          by_cases z : k = m + 1
          · rw [if_pos z, if_pos ((nk_m k k1 m hm).mpr z)]
          · rw [if_neg z, if_neg (fun y => z ((nk_m k k1 m hm).mp y))]
            by_cases z2 : k = 0
            · simp only [if_pos z2, if_pos ((nk_neg k k1).mpr z2)]
            · simp only [if_neg z2, if_neg (fun y => z2 ((nk_neg k k1).mp y))]
        rw [eB]
        by_cases z : k = 0
        · rw [if_pos z]
          by_cases y : M 21 2 s = 0
          · rw [if_pos y]
            subst z
            refine ok_by (r := 1) rfl ?_ ((eR _ ?_).trans (by rw [if_neg (by omega), if_pos y, if_pos rfl])) ?_
            · rw [ad_eq h1 (by omega)]; exact (rl_ri R : ri_ M)
            · rw [ad_eq h1 (by omega)]; rfl
            · rw [ad_eq h1 (by omega)]
              exact ⟨_, _, _, rl_fol R hs h1 (by omega) h2 hm k2⟩
          · rw [if_neg y]
            exact ok_same R rfl ((eR M rfl).trans (by rw [if_neg (by omega), if_neg y]))
        · rw [if_neg z]
          by_cases z2 : k = m + 1
          · rw [if_pos z2]
            exact ok_same R rfl ((eR M rfl).trans (by rw [if_pos z2]))
          · rw [if_neg z2]
            by_cases y : M 21 2 s = 0
            · rw [if_pos y]
              exact ok_by (r := 2) (M1 := u3 M 3 s 1 1) rfl (rl_ri R : ri_ M) ((eR (u3 M 3 s 1 1) rfl).trans (by rw [if_neg z2, if_pos y, if_neg z])) ⟨_, _, _, rl_frz R hs⟩
            · rw [if_neg y]
              exact ok_same R rfl ((eR M rfl).trans (by rw [if_neg z2, if_neg y]))
/-- a client forgets -/
theorem rl_fgt (R : rl_ nc nm hh M) {s : Nat} (hs : s < 2) : rl_ nc nm hh (fo_ (u3 (f_Cl_forgetAll M s) 21 2 s 0) 1 (201 * s) 201 (-1)) := by
  refine ⟨R.1, R.2.1, fun t ht => ?_, R.2.2.2.1, R.2.2.2.2.1, R.2.2.2.2.2.1, R.2.2.2.2.2.2.1, R.2.2.2.2.2.2.2.1, R.2.2.2.2.2.2.2.2.1, R.2.2.2.2.2.2.2.2.2⟩
  by_cases q : t = s
  · subst q
    have e4 : ∀ h, h ≤ 200 → fo_ (u3 (f_Cl_forgetAll M t) 21 2 t 0) 1 (201 * t) 201 (-1) 4 t h = 0 := by
      intro h hl
      show fl_ M 4 t 201 0 4 t h = 0
      unfold fl_
      rw [if_pos ⟨rfl, rfl, by omega⟩]
    have e1 : ∀ h, h ≤ 200 → fo_ (u3 (f_Cl_forgetAll M t) 21 2 t 0) 1 (201 * t) 201 (-1) 21 1 (201 * t + h) = -1 := by
      intro h hl
      unfold fo_
      rw [if_pos ⟨rfl, rfl, by omega, by omega⟩]
    have e2 : fo_ (u3 (f_Cl_forgetAll M t) 21 2 t 0) 1 (201 * t) 201 (-1) 21 2 t = 0 := u3_self _ 21 2 t 0
    have e3 : fo_ (u3 (f_Cl_forgetAll M t) 21 2 t 0) 1 (201 * t) 201 (-1) 3 t = upd (upd (upd (M 3 t) 1 0) 2 0) 3 0 := by
      show f_Cl_forgetAll M t 3 t = _
      unfold f_Cl_forgetAll
      rw [u3_at, u3_at, u3_at]
      rfl
    have hz : ∀ k, k ≤ 200 → hi_ (fun h => fo_ (u3 (f_Cl_forgetAll M t) 21 2 t 0) 1 (201 * t) 201 (-1) 21 1 (201 * t + h)) k = 0 ∧ cn_ (fun h => fo_ (u3 (f_Cl_forgetAll M t) 21 2 t 0) 1 (201 * t) 201 (-1) 21 1 (201 * t + h)) k = 0 := by
      intro k
      induction k with
      | zero => intro _; exact ⟨rfl, rfl⟩
      | succ k ih =>
        intro hk
        obtain ⟨i1, i2⟩ := ih (by omega)
        constructor
        · show (if fo_ (u3 (f_Cl_forgetAll M t) 21 2 t 0) 1 (201 * t) 201 (-1) 21 1 (201 * t + (k + 1)) < 0 then hi_ _ k else nI (k + 1)) = 0
          rw [e1 (k + 1) hk, if_pos (by decide)]
          exact i1
        · show (if fo_ (u3 (f_Cl_forgetAll M t) 21 2 t 0) 1 (201 * t) 201 (-1) 21 1 (201 * t + (k + 1)) < 0 then cn_ _ k else cn_ _ k + 1) = 0
          rw [e1 (k + 1) hk, if_pos (by decide)]
          exact i2
    refine ⟨fun h h1 h2 => ⟨0, by omega, e4 h h2, (e1 h h2).trans (by decide), fun _ => rfl⟩, ?_, ?_, ?_, ?_⟩
    · rw [e3, e2]; rfl
    · rw [e2]; exact Or.inl rfl
    · rw [e3, (hz 200 (Nat.le_refl _)).1]; rfl
    · rw [e3, (hz 200 (Nat.le_refl _)).2]; rfl
  · have e4 : fo_ (u3 (f_Cl_forgetAll M s) 21 2 s 0) 1 (201 * s) 201 (-1) 4 t = M 4 t := by
      funext h
      show fl_ M 4 s 201 0 4 t h = _
      unfold fl_
      rw [if_neg (fun z => q z.2.1)]
    have e3 : fo_ (u3 (f_Cl_forgetAll M s) 21 2 s 0) 1 (201 * s) 201 (-1) 3 t = M 3 t := by
      show f_Cl_forgetAll M s 3 t = _
      unfold f_Cl_forgetAll
      rw [u3_n2 _ _ q, u3_n2 _ _ q, u3_n2 _ _ q]
      rfl
    have e2 : fo_ (u3 (f_Cl_forgetAll M s) 21 2 s 0) 1 (201 * s) 201 (-1) 21 2 t = M 21 2 t := by
      show u3 (f_Cl_forgetAll M s) 21 2 s 0 21 2 t = _
      rw [u3_n3 _ _ q]
      rfl
    rw [e4, e3, e2]
    refine cr_congr (R.2.2.1 t ht) (fun x g1 g2 => ?_) (Nat.le_refl _)
    show fo_ (u3 (f_Cl_forgetAll M s) 21 2 s 0) 1 (201 * s) 201 (-1) 21 1 (201 * t + x) = M 21 1 (201 * t + x)
    unfold fo_
    rw [if_neg (by omega)]
    rfl
theorem st_renew (R : rl_ nc nm hh M) (x1 : Int32) : ok_ (f_B_renew M x1) (fun N => f_R_renew N x1) := by
  rcases sd_ x1 with ⟨p, q⟩ | ⟨s, hs, rfl, p, q⟩
  · refine ok_same (r := -1) R ?_ ?_
    · unfold f_B_renew; rw [if_pos p]
    · show f_R_renew M _ = _
      unfold f_R_renew; rw [if_neg q]
  · obtain ⟨a, b, d, e, f⟩ := R.2.2.1 s hs
    by_cases y : M 21 2 s = 0
    · refine ok_same (r := -3) R ?_ ?_
      · unfold f_B_renew; rw [if_neg p, nI_clamp (by omega), b, if_pos y]
      · show f_R_renew M _ = _
        unfold f_R_renew; rw [if_pos q, nI_clamp (by omega), if_pos y]
    · refine ok_by (r := M 3 s 3) (M1 := f_Cl_forgetAll M s) (M2 := fo_ (u3 (f_Cl_forgetAll M s) 21 2 s 0) 1 (201 * s) 201 (-1)) ?_ (rl_ri R : ri_ M) ?_ ?_
      · unfold f_B_renew; rw [if_neg p, nI_clamp (by omega), b, if_neg y]
      · show f_R_renew _ _ = _
        unfold f_R_renew f_R_forget
        rw [if_pos q, nI_clamp (by omega), if_neg (show ¬ f_Cl_forgetAll M s 21 2 s = 0 from y), f, cn_eq _ hs]
        rfl
      · exact ⟨_, _, _, rl_fgt R hs⟩
end
