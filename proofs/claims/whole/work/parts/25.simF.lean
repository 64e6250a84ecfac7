/-! a channel begins -/
theorem gi_ (x1 x3 : Int32) (nc o : Nat) (N : Mem) (ho : o < 2) (hn : nc < 4) (a b c : Nat) : g_R_init x1 x3 (nI nc) o N a b c =
    if a = 21 ∧ b = 5 ∧ c = 2 * nc + o then (if nI o = x1 then 1 else 0) else if a = 21 ∧ b = 6 ∧ c = 2 * nc + o then (if nI o = x1 then x3 else 0) else if a = 21 ∧ (b = 7 ∨ b = 8 ∨ b = 9 ∨ b = 10) ∧ c = 2 * nc + o then 0 else if a = 21 ∧ b = 11 ∧ 201 * (2 * nc + o) ≤ c ∧ c < 201 * (2 * nc + o) + 201 then 0 else if a = 21 ∧ b = 13 ∧ 4 * (2 * nc + o) ≤ c ∧ c < 4 * (2 * nc + o) + 4 then 0 else N a b c := by
  have i0 : Int32.toNatClampNeg (4 * nI (2 * nc + o) + 0) = 4 * (2 * nc + o) + 0 := ix_v2 (e := 2 * nc + o) (a := 0) (by omega) (by decide)
  have i1 : Int32.toNatClampNeg (4 * nI (2 * nc + o) + 1) = 4 * (2 * nc + o) + 1 := ix_v2 (e := 2 * nc + o) (a := 1) (by omega) (by decide)
  have i2 : Int32.toNatClampNeg (4 * nI (2 * nc + o) + 2) = 4 * (2 * nc + o) + 2 := ix_v2 (e := 2 * nc + o) (a := 2) (by omega) (by decide)
  have i3 : Int32.toNatClampNeg (4 * nI (2 * nc + o) + 3) = 4 * (2 * nc + o) + 3 := ix_v2 (e := 2 * nc + o) (a := 3) (by omega) (by decide)
  rw [eg_R_init]
  rw [ie_, nI_clamp (by omega), i0, i1, i2, i3]
  clear i0 i1 i2 i3
  generalize 2 * nc + o = e
  by_cases h : nI o = x1
  · simp only [if_pos h, u3, fo_]
    clear h
    grind (splits := 40)
  · simp only [if_neg h, u3, fo_]
    clear h
    grind (splits := 40)
section
variable {nc nm : Nat} {hh : Nat → Nat} {M : Mem}
theorem si_0 {C : Nat → Int32} {h : Nat} (hl : ∀ i, 1 ≤ i → i ≤ 4 → nI h ≤ C i) : si_ C (nI h) = 0 := by
  unfold si_
  rw [if_pos (hl 4 (by omega) (by omega)), if_pos (hl 3 (by omega) (by omega)), if_pos (hl 2 (by omega) (by omega)), if_pos (hl 1 (by omega) (by omega))]
/-- the memory behind init, as the relation wants it -/
theorem rl_new (R : rl_ nc nm hh M) (hc : nc < 4) {s : Nat} (hs : s < 2) {x2 x3 : Int32} (hb2 : x2 = 0 ∨ x2 = 1) {N : Mem}
    (h0 : N 0 0 3 = nI (nc + 1)) (h20 : N 20 0 3 = nI (nc + 1)) (h04 : N 0 0 4 = M 0 0 4) (h215 : N 20 0 15 = M 20 0 15)
    (hk : ∀ a, a = 1 ∨ a = 2 ∨ a = 3 ∨ a = 4 ∨ a = 8 ∨ a = 9 → N a = M a)
    (h5 : N 5 = u3 (u3 M 5 nc 2 (nI s)) 5 nc 1 x2 5)
    (h6 : N 6 = u3 (u3 M 6 (2 * nc + s) 3 x3) 6 (2 * nc + s) 2 1 6) (h7 : N 7 = u3 M 7 (2 * nc + s) 1 (nI (hh s)) 7)
    (hm : ∀ b, b = 0 ∨ b = 1 ∨ b = 2 ∨ b = 12 ∨ 14 ≤ b → N 21 b = M 21 b)
    (h213 : N 21 3 = u3 M 21 3 nc (nI s) 21 3) (h214 : N 21 4 = u3 M 21 4 nc x2 21 4)
    (he : ∀ b c, (5 ≤ b ∧ b ≤ 10) → N 21 b c = if c = 2 * nc + s then (if b = 5 then 1 else if b = 6 then x3 else 0) else if c = 2 * nc + (1 - s) then 0 else M 21 b c)
    (h11 : ∀ c, N 21 11 c = if 201 * (2 * nc) ≤ c ∧ c < 201 * (2 * nc) + 402 then 0 else M 21 11 c)
    (h13 : ∀ c, N 21 13 c = if 4 * (2 * nc) ≤ c ∧ c < 4 * (2 * nc) + 8 then 0 else M 21 13 c) : rl_ (nc + 1) nm hh N := by
  obtain ⟨⟨a1, a2, a3, a4, a5, a6⟩, R2, R3, R4, R5, R6, R7, R8, R9, R10⟩ := R
  have k1 := hk 1 (by omega); have k2 := hk 2 (by omega); have k3 := hk 3 (by omega); have k4 := hk 4 (by omega); have k8 := hk 8 (by omega); have k9 := hk 9 (by omega)
  refine ⟨⟨by omega, a2, h0, h20, h04.trans a5, h215.trans a6⟩, ?_, ?_, ?_, fun c hc4 => ?_, fun c hcn => ?_, fun e hen => ?_, fun e h1 h2 => ?_, ?_, fun i hi => ?_⟩
  · rw [k1, hm 0 (by omega)]; exact R2
  · rw [k3, k4, hm 1 (by omega), hm 2 (by omega)]; exact R3
  · rw [k2, hm 12 (by omega)]; exact R4
  · rw [h5, h213]
    by_cases q : c = nc
    · subst q
      rw [u3_n3 _ _ (by decide), u3_self, u3_self]
      exact ⟨vp_in_nI hs (by decide), vp_in_nI hs (by decide)⟩
    · rw [u3_n2 _ _ q, u3_n2 _ _ q, u3_n3 _ _ q]
      exact R5 c hc4
  · rw [h5, h213, h214]
    by_cases q : c = nc
    · subst q
      rw [u3_n3 _ _ (by decide), u3_self, u3_self, u3_self, u3_self]
      exact ⟨rfl, rfl, hb2⟩
    · rw [u3_n2 _ _ q, u3_n2 _ _ q, u3_n3 _ _ q, u3_n3 _ _ q]
      exact R6 c (by omega)
  · rw [h6, h7, k8, he 5 e (by omega), he 6 e (by omega), he 7 e (by omega), he 8 e (by omega), he 9 e (by omega), he 10 e (by omega)]
    have g1 : hh (e % 2) ≤ 200 := (R2 (e % 2) (by omega)).1
    by_cases q : e < 2 * nc
    · rw [if_neg (by omega), if_neg (by omega), if_neg (by omega), if_neg (by omega), if_neg (by omega), if_neg (by omega), if_neg (by omega), if_neg (by omega), if_neg (by omega), if_neg (by omega), if_neg (by omega), if_neg (by omega), u3_n2 _ _ (show ¬ e = 2 * nc + s by omega), u3_n2 _ _ (show ¬ e = 2 * nc + s by omega), u3_n2 _ _ (show ¬ e = 2 * nc + s by omega)]
      refine er_congr (R7 e q) (fun h hl => ?_) (fun a ha => ?_)
      · show N 21 11 (201 * e + h) = M 21 11 (201 * e + h)
        rw [h11, if_neg (by omega)]
      · show N 21 13 (4 * e + a) = M 21 13 (4 * e + a)
        rw [h13, if_neg (by omega)]
    · obtain ⟨⟨b2, b3, b4, b5, b6, b7⟩, bC, bV⟩ := R8 e (by omega) (by omega)
      have hX : ∀ h, h ≤ hh (e % 2) → N 21 11 (201 * e + h) = 0 := fun h hl => by rw [h11, if_pos (by omega)]
      have hU : ∀ a, a < 4 → N 21 13 (4 * e + a) = 0 := fun a ha => by rw [h13, if_pos (by omega)]
      by_cases q2 : e = 2 * nc + s
      · subst q2
        have em : (2 * nc + s) % 2 = s := by omega
        simp only [if_pos (rfl : 2 * nc + s = 2 * nc + s)]
        rw [u3_at, u3_at, u3_at, em]
        rw [em] at hX g1
        refine ⟨⟨rfl, rfl, b4, b5, b6, b7⟩, fun a ha => (bV a ha).trans (hU a ha).symm, ⟨1, by omega, rfl, fun i i1 i2 i3 => ?_, fun _ => ⟨hh s, Nat.le_refl _, rfl⟩⟩, fun h hl => ?_⟩
        · show (if i = 1 then _ else M 7 (2 * nc + s) i) = 201
          rw [if_neg (by omega)]
          exact bC i i1 i2
        · show _ = N 21 11 (201 * (2 * nc + s) + h)
          rw [hX h hl]
          refine si_0 (fun i i1 i2 => ?_)
          show nI h ≤ (if i = 1 then nI (hh s) else M 7 (2 * nc + s) i)
          split
          · exact nI_le hl (by omega)
          · rw [bC i i1 i2]
            exact nI_le (a := h) (b := 201) (by omega) (by decide)
      · have q3 : e = 2 * nc + (1 - s) := by omega
        rw [if_neg q2, if_pos q3, if_neg q2, if_pos q3, if_neg q2, if_pos q3, if_neg q2, if_pos q3, if_neg q2, if_pos q3, if_neg q2, if_pos q3, u3_n2 _ _ q2, u3_n2 _ _ q2, u3_n2 _ _ q2]
        refine ⟨⟨b2, b3, b4, b5, b6, b7⟩, fun a ha => (bV a ha).trans (hU a ha).symm, ⟨0, by omega, b2, fun i i1 i2 _ => bC i i1 i2, fun w => absurd w (by omega)⟩, fun h hl => ?_⟩
        show _ = N 21 11 (201 * e + h)
        rw [hX h hl]
        refine si_0 (fun i i1 i2 => ?_)
        rw [bC i i1 i2]
        exact nI_le (a := h) (b := 201) (by omega) (by decide)
  · rw [h6, h7, k8, u3_n2 _ _ (show ¬ e = 2 * nc + s by omega), u3_n2 _ _ (show ¬ e = 2 * nc + s by omega), u3_n2 _ _ (show ¬ e = 2 * nc + s by omega)]
    exact R8 e (by omega) h2
  · rw [k9, hm 14 (by omega), hm 15 (by omega), hm 19 (by omega), hm 20 (by omega)]
    exact R9
  · rw [k9, hm 14 (by omega), hm 15 (by omega), hm 16 (by omega), hm 17 (by omega), hm 18 (by omega), hm 19 (by omega), hm 20 (by omega), hm 21 (by omega), hm 22 (by omega), hm 23 (by omega), hm 24 (by omega), hm 25 (by omega), hm 26 (by omega), hm 27 (by omega)]
    obtain ⟨w1, ⟨c, g1, g2⟩, w2⟩ := R10 i hi
    exact ⟨w1, ⟨c, by omega, g2⟩, w2⟩
theorem st_init (R : rl_ nc nm hh M) (x1 x2 x3 : Int32) (hb2 : x2 = 0 ∨ x2 = 1) : ok_ (f_B_init M x1 x2 x3) (fun N => f_R_init N x1 x2 x3) := by
  have hn4 : nc ≤ 4 := R.1.1
  obtain ⟨-, -, a3, a4, -, -⟩ := R.1
  rcases sd_ x1 with ⟨p, q⟩ | ⟨s, hs, rfl, p, q⟩
  · refine ok_same (r := -1) R ?_ ?_
    · unfold f_B_init; rw [if_pos p]
    · show f_R_init M _ _ _ = _
      unfold f_R_init; rw [if_neg q]
  · by_cases w : f_B_isWithin x3 1 7 = 0
    · refine ok_same (r := -2) R ?_ ?_
      · unfold f_B_init; rw [if_neg p, if_pos w]
      · show f_R_init M _ _ _ = _
        unfold f_R_init; rw [if_pos q, wi_R, if_pos w]
    · by_cases hc : nc < 4
      · have eB : f_B_init M (nI s) x2 x3 = (nI nc, u3 (u3 (u3 (u3 (u3 (u3 M 5 nc 2 (nI s)) 5 nc 1 x2) 6 (2 * nc + s) 3 x3) 6 (2 * nc + s) 2 (nI 1)) 7 (2 * nc + s) 1 (nI (hh s))) 0 0 3 (nI (nc + 1))) := by
          unfold f_B_init
          rw [if_neg p, if_neg w, a3, if_pos (show nI nc < 4 from nI_lt (a := nc) (b := 4) hc (by decide)), nI_clamp (by omega), nI_clamp (by omega), u3_self, show (1 : Int32) = nI 1 from rfl, ec_eq _ _ _ (by decide) (by decide)]
          rw [show u3 (u3 (u3 M 5 nc 2 (nI s)) 5 nc 1 x2) 6 (2 * nc + s) 3 x3 1 s 2 = nI (hh s) from (R.2.1 s hs).2.1]
          rw [show u3 (u3 (u3 (u3 (u3 M 5 nc 2 (nI s)) 5 nc 1 x2) 6 (2 * nc + s) 3 x3) 6 (2 * nc + s) 2 (nI 1)) 7 (2 * nc + s) 1 (nI (hh s)) 0 0 3 = nI nc from a3, show nI nc + nI 1 = nI (nc + 1) from nI_1 nc, show nI (nc + 1) - nI 1 = nI nc from nI_pred nc]
        rw [eB]
        generalize hA : u3 (u3 (u3 (u3 (u3 (u3 M 5 nc 2 (nI s)) 5 nc 1 x2) 6 (2 * nc + s) 3 x3) 6 (2 * nc + s) 2 (nI 1)) 7 (2 * nc + s) 1 (nI (hh s))) 0 0 3 (nI (nc + 1)) = A
        have A20 : A 20 = M 20 := by rw [← hA]; rfl
        have A21 : A 21 = M 21 := by rw [← hA]; rfl
        have eR : f_R_init A (nI s) x2 x3 = (nI nc, u3 (g_R_init (nI s) x3 (nI nc) 1 (g_R_init (nI s) x3 (nI nc) 0 (u3 (u3 A 21 3 nc (nI s)) 21 4 nc x2))) 20 0 3 (nI (nc + 1))) := by
          unfold f_R_init
          rw [if_pos q, wi_R, if_neg w, A20, a4, if_neg (fun z => by have := (nI_eq (a := nc) (b := 4) (by omega) (by decide)).mp z; omega), nI_clamp (by omega)]
          show (nI nc, u3 (g_R_init (nI s) x3 (nI nc) 1 (g_R_init (nI s) x3 (nI nc) 0 (u3 (u3 A 21 3 nc (nI s)) 21 4 nc x2))) 20 0 3 (g_R_init (nI s) x3 (nI nc) 1 (g_R_init (nI s) x3 (nI nc) 0 (u3 (u3 A 21 3 nc (nI s)) 21 4 nc x2)) 20 0 3 + 1)) = _
          rw [gi_ _ _ _ _ _ (by decide) hc, if_neg (by omega), if_neg (by omega), if_neg (by omega), if_neg (by omega), if_neg (by omega), gi_ _ _ _ _ _ (by decide) hc, if_neg (by omega), if_neg (by omega), if_neg (by omega), if_neg (by omega), if_neg (by omega)]
          rw [show u3 (u3 A 21 3 nc (nI s)) 21 4 nc x2 20 0 3 = nI nc from by show A 20 0 3 = _; rw [A20]; exact a4, nI_1]
        refine ok_by (r := nI nc) rfl ?_ eR ⟨nc + 1, nm, hh, ?_⟩
        · rw [← hA]; exact (rl_ri R : ri_ M)
        · have gk : ∀ a b c, ¬ a = 21 → g_R_init (nI s) x3 (nI nc) 1 (g_R_init (nI s) x3 (nI nc) 0 (u3 (u3 A 21 3 nc (nI s)) 21 4 nc x2)) a b c = A a b c := by
            intro a b c h
            rw [gi_ _ _ _ _ _ (by decide) hc, if_neg (fun z => h z.1), if_neg (fun z => h z.1), if_neg (fun z => h z.1), if_neg (fun z => h z.1), if_neg (fun z => h z.1), gi_ _ _ _ _ _ (by decide) hc, if_neg (fun z => h z.1), if_neg (fun z => h z.1), if_neg (fun z => h z.1), if_neg (fun z => h z.1), if_neg (fun z => h z.1)]
            unfold u3
            rw [if_neg (fun z => h z.1)]
            exact if_neg (fun z => h z.1)
          have gA : ∀ a, ¬ a = 21 → ¬ a = 20 → u3 (g_R_init (nI s) x3 (nI nc) 1 (g_R_init (nI s) x3 (nI nc) 0 (u3 (u3 A 21 3 nc (nI s)) 21 4 nc x2))) 20 0 3 (nI (nc + 1)) a = A a := by
            intro a h1 h2
            funext b c
            rw [← gk a b c h1]
            exact if_neg (fun z => h2 z.1)
          have g21 : ∀ b c, u3 (g_R_init (nI s) x3 (nI nc) 1 (g_R_init (nI s) x3 (nI nc) 0 (u3 (u3 A 21 3 nc (nI s)) 21 4 nc x2))) 20 0 3 (nI (nc + 1)) 21 b c = g_R_init (nI s) x3 (nI nc) 1 (g_R_init (nI s) x3 (nI nc) 0 (u3 (u3 A 21 3 nc (nI s)) 21 4 nc x2)) 21 b c := fun b c => rfl
          have n1 : nI 1 = nI s ↔ s = 1 := ⟨fun z => ((nI_eq (by decide) (by omega)).mp z).symm, fun z => by rw [z]⟩
          have n0 : nI 0 = nI s ↔ s = 0 := ⟨fun z => ((nI_eq (by decide) (by omega)).mp z).symm, fun z => by rw [z]⟩
          refine rl_new (x3 := x3) R hc hs hb2 ?_ ?_ ?_ ?_ (fun a ha => ?_) ?_ ?_ ?_ (fun b hb => ?_) ?_ ?_ (fun b c hb => ?_) (fun c => ?_) (fun c => ?_)
          · rw [gA 0 (by decide) (by decide), ← hA]; rfl
          · exact u3_self _ _ _ _ _
          · rw [gA 0 (by decide) (by decide), ← hA]; rfl
          · show g_R_init (nI s) x3 (nI nc) 1 (g_R_init (nI s) x3 (nI nc) 0 (u3 (u3 A 21 3 nc (nI s)) 21 4 nc x2)) 20 0 15 = _
            rw [gk 20 0 15 (by decide), A20]
          · rw [gA a (by omega) (by omega), ← hA]
            rcases ha with rfl | rfl | rfl | rfl | rfl | rfl <;> rfl
          · rw [gA 5 (by decide) (by decide), ← hA]; rfl
          · rw [gA 6 (by decide) (by decide), ← hA]; rfl
          · rw [gA 7 (by decide) (by decide), ← hA]; rfl
          · funext c
            rw [g21, gi_ _ _ _ _ _ (by decide) hc, if_neg (by omega), if_neg (by omega), if_neg (by omega), if_neg (by omega), if_neg (by omega), gi_ _ _ _ _ _ (by decide) hc, if_neg (by omega), if_neg (by omega), if_neg (by omega), if_neg (by omega), if_neg (by omega)]
            unfold u3
            rw [if_neg (by omega)]
            show (if 21 = 21 ∧ b = 3 ∧ c = nc then nI s else A 21 b c) = _
            rw [if_neg (by omega), A21]
          · funext c
            rw [g21, gi_ _ _ _ _ _ (by decide) hc, if_neg (by omega), if_neg (by omega), if_neg (by omega), if_neg (by omega), if_neg (by omega), gi_ _ _ _ _ _ (by decide) hc, if_neg (by omega), if_neg (by omega), if_neg (by omega), if_neg (by omega), if_neg (by omega)]
            show u3 A 21 3 nc (nI s) 21 3 c = u3 M 21 3 nc (nI s) 21 3 c
            unfold u3
            rw [A21]
          · funext c
            rw [g21, gi_ _ _ _ _ _ (by decide) hc, if_neg (by omega), if_neg (by omega), if_neg (by omega), if_neg (by omega), if_neg (by omega), gi_ _ _ _ _ _ (by decide) hc, if_neg (by omega), if_neg (by omega), if_neg (by omega), if_neg (by omega), if_neg (by omega)]
            unfold u3
            rw [A21]
            rfl
          · rw [g21, gi_ _ _ _ _ _ (by decide) hc, gi_ _ _ _ _ _ (by decide) hc]
            simp only [n1, n0, u3, A21]
            clear g21 gA gk eR n1 n0 eB hA A20 A21 a3 a4 p q w hb2
            grind (splits := 60)
          · rw [g21, gi_ _ _ _ _ _ (by decide) hc, gi_ _ _ _ _ _ (by decide) hc]
            simp only [u3, A21]
            clear g21 gA gk eR n1 n0 eB hA A20 A21 a3 a4 p q w hb2
            grind (splits := 60)
          · rw [g21, gi_ _ _ _ _ _ (by decide) hc, gi_ _ _ _ _ _ (by decide) hc]
            simp only [u3, A21]
            clear g21 gA gk eR n1 n0 eB hA A20 A21 a3 a4 p q w hb2
            grind (splits := 60)
      · have e : nc = 4 := by omega
        refine ok_same (r := -10) R ?_ ?_
        · unfold f_B_init
          rw [if_neg p, if_neg w, a3, if_neg (show ¬ nI nc < 4 from nI_nlt (a := nc) (b := 4) (by omega) (by omega))]
        · show f_R_init M _ _ _ = _
          unfold f_R_init
          rw [if_pos q, wi_R, if_neg w, a4, e, if_pos (show nI 4 = 4 from rfl)]
end
