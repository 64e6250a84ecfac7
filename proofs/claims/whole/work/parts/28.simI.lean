/-! receive -/
theorem me_r1 (P : Mem) (e i : Nat) (V v T T2 : Int32) : u3 (u3 (u3 (u3 (u3 (u3 P 6 e 7 V) 21 10 e V) 9 i 10 v) 21 25 i v) 9 i 13 T) 21 26 i T2 = u3 (u3 (u3 (u3 (u3 (u3 P 6 e 7 V) 9 i 10 v) 9 i 13 T) 21 25 i v) 21 26 i T2) 21 10 e V := by
  funext x y z
  simp only [u3]
  grind (splits := 40)
section
variable {nc nm : Nat} {hh : Nat → Nat} {M : Mem}
theorem ac_8 : ∀ k, k < 8 → (f_B_isAccount (nI k) = 0 ↔ 4 ≤ nI k) := by decide +kernel
theorem st_receive (R : rl_ nc nm hh M) (x1 x2 : Int32) : ok_ (f_B_receive M x1 x2) (fun N => f_R_receive N x1 x2) := by
  have hn4 : nc ≤ 4 := R.1.1
  have hn60 : nm ≤ 60 := R.1.2.1
  rcases ms_ R x1 with ⟨p, q⟩ | ⟨i, hi, rfl, p, q⟩
  · refine ok_same (r := -1) R ?_ ?_
    · unfold f_B_receive; rw [if_pos p]
    · show f_R_receive M _ _ = _
      unfold f_R_receive; rw [if_neg q]
  · obtain ⟨⟨m0, m1, m2, m3, m4, m5, m6, m7, m8, m9, m10⟩, ⟨c, hc, mc⟩, w8, w9, ⟨t1, ht1, a1, b1⟩, ⟨t2, ht2, a2, b2⟩, w13⟩ := R.2.2.2.2.2.2.2.2.2 i hi
    obtain ⟨⟨r0, r1, r3⟩, r14, r15, r19, r20⟩ := R.2.2.2.2.2.2.2.2.1 i (by omega)
    obtain ⟨t, ht, mt⟩ := vp_in_of r1 (by decide)
    obtain ⟨k, hk, mk⟩ := vp_in_of r20 (by decide)
    have e14 : M 21 14 i = nI c := m0.symm.trans mc
    have e15 : M 21 15 i = nI t := m1.symm.trans mt
    have hs : 1 - t < 2 := by omega
    obtain ⟨⟨e5, -, -, -, -, e10⟩, -⟩ := R.2.2.2.2.2.2.1 (2 * c + (1 - t)) (by omega)
    obtain ⟨g1, g2, g3⟩ := R.2.1 (1 - t) hs
    obtain ⟨-, o1, -⟩ := R.2.2.2.2.2.1 c hc
    have rf := rf_ R hs x2
    have eB : f_B_receive M (nI i) x2 = if M 21 5 (2 * c + (1 - t)) = 3 then (if M 21 25 i = 0 then (if f_R_unproved M (nI (1 - t)) x2 = 0 then (if f_Me_standsIn M i x2 = 0 then (-6, M) else (if M 21 0 (1 - t) < M 21 21 i then (if M 21 4 c = 0 then (if f_B_isAccount (nI k) = 0 then (0, u3 (u3 (u3 M 6 (2 * c + (1 - t)) 7 (M 21 10 (2 * c + (1 - t)) + 1)) 9 i 10 2) 9 i 13 (nI (hh (1 - t)))) else (1, u3 (u3 (u3 (f_B_giveOut M (nI c) (nI (1 - t)) (nI k) (M 21 18 i) (M 21 17 i)) 6 (2 * c + (1 - t)) 7 (M 21 10 (2 * c + (1 - t)) + 1)) 9 i 10 1) 9 i 13 (nI (hh (1 - t))))) else (if f_B_areAllBeforeReceived M (nI i) = 0 then (-8, M) else (if f_B_isAccount (nI k) = 0 then (0, u3 (u3 (u3 M 6 (2 * c + (1 - t)) 7 (M 21 10 (2 * c + (1 - t)) + 1)) 9 i 10 2) 9 i 13 (nI (hh (1 - t)))) else (1, u3 (u3 (u3 (f_B_giveOut M (nI c) (nI (1 - t)) (nI k) (M 21 18 i) (M 21 17 i)) 6 (2 * c + (1 - t)) 7 (M 21 10 (2 * c + (1 - t)) + 1)) 9 i 10 1) 9 i 13 (nI (hh (1 - t))))))) else (-7, M))) else (f_R_unproved M (nI (1 - t)) x2, M)) else (-3, M)) else (-3, M) := by
      unfold f_B_receive
      rw [if_neg p, nI_clamp (by omega), mc, mt, i1_ ht, nI_clamp (by omega), nI_clamp (by omega), e5, m10, rf.1, m7, o1, m4, mk, m5, m6, e10, go_6 (by decide), e10, g2]
      rw [show ∀ v w : Int32, u3 (u3 M 6 (2 * c + (1 - t)) 7 v) 9 i 10 w 1 (1 - t) 2 = nI (hh (1 - t)) from fun v w => g2]
      rw [show ∀ v w : Int32, u3 (u3 (f_B_giveOut M (nI c) (nI (1 - t)) (nI k) (M 21 18 i) (M 21 17 i)) 6 (2 * c + (1 - t)) 7 v) 9 i 10 w 1 (1 - t) 2 = nI (hh (1 - t)) from fun v w => by
        show f_B_giveOut M (nI c) (nI (1 - t)) (nI k) (M 21 18 i) (M 21 17 i) 1 (1 - t) 2 = _
        rw [go_k (by decide)]; exact g2]
      rw [g3]
      by_cases z : f_B_isAccount (nI k) = 0
      · rw [z]; rfl
      · rw [show f_B_oneIf (f_B_isAccount (nI k)) = 1 from if_neg z]
        simp only [if_neg z]
    have eR : ∀ N : Mem, N 20 = M 20 → N 21 = M 21 → f_R_receive N (nI i) x2 = if M 21 5 (2 * c + (1 - t)) = 3 then (if M 21 25 i = 0 then (if f_R_unproved M (nI (1 - t)) x2 = 0 then (if x2 < M 21 23 i then (-6, N) else (if x2 < M 21 24 i then (if M 21 0 (1 - t) < M 21 21 i then (if M 21 4 c = 0 then (if 4 ≤ nI k then (0, u3 (u3 (u3 N 21 25 i 2) 21 26 i (nI (hh (1 - t)) + 1)) 21 10 (2 * c + (1 - t)) (M 21 10 (2 * c + (1 - t)) + 1)) else (1, u3 (u3 (u3 (f_R_give N (nI (2 * c + (1 - t))) (nI k) (M 21 18 i) (M 21 17 i)) 21 25 i 1) 21 26 i (nI (hh (1 - t)) + 1)) 21 10 (2 * c + (1 - t)) (M 21 10 (2 * c + (1 - t)) + 1))) else (if f_R_isBehind M (nI i) 0 = 0 then (if 4 ≤ nI k then (0, u3 (u3 (u3 N 21 25 i 2) 21 26 i (nI (hh (1 - t)) + 1)) 21 10 (2 * c + (1 - t)) (M 21 10 (2 * c + (1 - t)) + 1)) else (1, u3 (u3 (u3 (f_R_give N (nI (2 * c + (1 - t))) (nI k) (M 21 18 i) (M 21 17 i)) 21 25 i 1) 21 26 i (nI (hh (1 - t)) + 1)) 21 10 (2 * c + (1 - t)) (M 21 10 (2 * c + (1 - t)) + 1))) else (-8, N))) else (-7, N)) else (-6, N))) else (f_R_unproved M (nI (1 - t)) x2, N)) else (-3, N)) else (-3, N) := by
      intro N h20 h21
      have q1 : f_R_noMessage N (nI i) = 0 := by rw [nom_k h20]; exact q
      unfold f_R_receive
      rw [if_pos q1, nI_clamp (by omega), unp_k h21, beh_k h21]
      rw [show ∀ (v w : Int32), u3 (u3 N 21 25 i v) 21 26 i w 21 10 = M 21 10 from fun v w => by rw [u3_nb _ _ (by decide), u3_nb _ _ (by decide), h21]]
      rw [show ∀ (y1 y2 y3 y4 v w : Int32), u3 (u3 (f_R_give N y1 y2 y3 y4) 21 25 i v) 21 26 i w 21 10 = M 21 10 from fun y1 y2 y3 y4 v w => by rw [u3_nb _ _ (by decide), u3_nb _ _ (by decide), gv_21 (by decide), h21]]
      rw [show ∀ (v : Int32), u3 N 21 25 i v 21 0 = M 21 0 from fun v => by rw [u3_nb _ _ (by decide), h21]]
      rw [show ∀ (y1 y2 y3 y4 v : Int32), u3 (f_R_give N y1 y2 y3 y4) 21 25 i v 21 0 = M 21 0 from fun y1 y2 y3 y4 v => by rw [u3_nb _ _ (by decide), gv_21 (by decide), h21]]
      rw [h21, e14, e15, i1_ ht, ie_, nI_clamp (by omega), nI_clamp (by omega), nI_clamp (by omega), g3, mk]
    rw [eB]
    by_cases z5 : M 21 5 (2 * c + (1 - t)) = 3
    · rw [if_pos z5]
      by_cases z25 : M 21 25 i = 0
      · rw [if_pos z25]
        by_cases zU : f_R_unproved M (nI (1 - t)) x2 = 0
        · rw [if_pos zU]
          obtain ⟨h, h1, h2, h3, rfl⟩ := rf.2 (by rw [rf.1]; exact zU)
          have eS : f_Me_standsIn M i (nI h) = if t1 < h ∧ h ≤ t2 then 1 else 0 := by
            unfold f_Me_standsIn
            rw [a1, a2]
            by_cases y1 : h ≤ t1
            · rw [if_pos (nI_le y1 (by omega)), if_neg (by omega)]
            · rw [if_neg (nI_ge (by omega) (by omega))]
              by_cases y2 : t2 < h
              · rw [if_pos (nI_lt y2 (by omega)), if_neg (by omega)]
              · rw [if_neg (nI_nlt (by omega) (by omega)), if_pos (by omega)]
          by_cases y : t1 < h ∧ h ≤ t2
          · have c1 : ¬ nI h < M 21 23 i := by rw [b1]; exact nI_nlt (by omega) (by omega)
            have c2 : nI h < M 21 24 i := by rw [b2]; exact nI_lt (by omega) (by omega)
            rw [eS, if_pos y, if_neg (by decide)]
            by_cases zl : M 21 0 (1 - t) < M 21 21 i
            · rw [if_pos zl]
              have fin : ok_ (if f_B_isAccount (nI k) = 0 then (0, u3 (u3 (u3 M 6 (2 * c + (1 - t)) 7 (M 21 10 (2 * c + (1 - t)) + 1)) 9 i 10 2) 9 i 13 (nI (hh (1 - t)))) else (1, u3 (u3 (u3 (f_B_giveOut M (nI c) (nI (1 - t)) (nI k) (M 21 18 i) (M 21 17 i)) 6 (2 * c + (1 - t)) 7 (M 21 10 (2 * c + (1 - t)) + 1)) 9 i 10 1) 9 i 13 (nI (hh (1 - t))))) (fun N => if 4 ≤ nI k then (0, u3 (u3 (u3 N 21 25 i 2) 21 26 i (nI (hh (1 - t)) + 1)) 21 10 (2 * c + (1 - t)) (M 21 10 (2 * c + (1 - t)) + 1)) else (1, u3 (u3 (u3 (f_R_give N (nI (2 * c + (1 - t))) (nI k) (M 21 18 i) (M 21 17 i)) 21 25 i 1) 21 26 i (nI (hh (1 - t)) + 1)) 21 10 (2 * c + (1 - t)) (M 21 10 (2 * c + (1 - t)) + 1))) := by
                have tm : tm_ (nI (hh (1 - t))) (nI (hh (1 - t)) + 1) := ⟨hh (1 - t), by omega, rfl, nI_1 _⟩
                by_cases zk : f_B_isAccount (nI k) = 0
                · refine ok_by (r := 0) (M1 := u3 (u3 (u3 M 6 (2 * c + (1 - t)) 7 (M 21 10 (2 * c + (1 - t)) + 1)) 9 i 10 2) 9 i 13 (nI (hh (1 - t)))) (if_pos zk) (rl_ri R : ri_ M) (if_pos ((ac_8 k hk).mp zk)) ⟨nc, nm, hh, ?_⟩
                  have R1 := rl_fld R (e0 := 2 * c + (1 - t)) (j := 7) (a := 10) (M 21 10 (2 * c + (1 - t)) + 1) (by omega) (by omega)
                  have R2 := rl_mf R1 (i0 := i) (j := 10) (a := 25) (v := 2) (w := 2) hi (Or.inr (Or.inr (Or.inl ⟨rfl, rfl, rfl⟩)))
                  have R3 := rl_mf R2 (i0 := i) (j := 13) (a := 26) hi (Or.inr (Or.inr (Or.inr (Or.inr ⟨rfl, rfl, tm⟩))))
                  exact cast (congrArg (rl_ nc nm hh) (me_r1 _ _ _ _ _ _ _)) R3
                · have hk4 : k < 4 := by
                    rcases Nat.lt_or_ge k 4 with w | w
                    · exact w
                    · exact absurd ((ac_8 k hk).mpr (nI_le (a := 4) (b := k) w (by omega))) zk
                  refine ok_by (r := 1) (M1 := u3 (u3 (u3 (f_B_giveOut M (nI c) (nI (1 - t)) (nI k) (M 21 18 i) (M 21 17 i)) 6 (2 * c + (1 - t)) 7 (M 21 10 (2 * c + (1 - t)) + 1)) 9 i 10 1) 9 i 13 (nI (hh (1 - t)))) (if_neg zk) ?_ (if_neg (fun w => zk ((ac_8 k hk).mpr w))) ⟨nc, nm, hh, ?_⟩
                  · have := rl_ri R
                    unfold ri_ at this ⊢
                    rw [u3_na _ _ (by decide), u3_na _ _ (by decide), u3_na _ _ (by decide), go_k (by decide), u3_na _ _ (by decide), u3_na _ _ (by decide), u3_na _ _ (by decide), go_k (by decide)]
                    exact this
                  · have R0 := rl_give R hc hs hk4 (M 21 18 i) (M 21 17 i)
                    have R1 := rl_fld R0 (e0 := 2 * c + (1 - t)) (j := 7) (a := 10) (M 21 10 (2 * c + (1 - t)) + 1) (by omega) (by omega)
                    have R2 := rl_mf R1 (i0 := i) (j := 10) (a := 25) (v := 1) (w := 1) hi (Or.inr (Or.inr (Or.inl ⟨rfl, rfl, rfl⟩)))
                    have R3 := rl_mf R2 (i0 := i) (j := 13) (a := 26) hi (Or.inr (Or.inr (Or.inr (Or.inr ⟨rfl, rfl, tm⟩))))
                    rw [gv_cm (by decide), gv_cm (by decide), gv_cm (by decide)]
                    exact cast (congrArg (rl_ nc nm hh) (me_r1 _ _ _ _ _ _ _)) R3
              obtain ⟨f1, f2, f3⟩ := fin
              have f20 : (if f_B_isAccount (nI k) = 0 then ((0 : Int32), u3 (u3 (u3 M 6 (2 * c + (1 - t)) 7 (M 21 10 (2 * c + (1 - t)) + 1)) 9 i 10 2) 9 i 13 (nI (hh (1 - t)))) else (1, u3 (u3 (u3 (f_B_giveOut M (nI c) (nI (1 - t)) (nI k) (M 21 18 i) (M 21 17 i)) 6 (2 * c + (1 - t)) 7 (M 21 10 (2 * c + (1 - t)) + 1)) 9 i 10 1) 9 i 13 (nI (hh (1 - t))))).2 20 = M 20 := by
                split
                · rfl
                · dsimp only
                  rw [u3_na _ _ (by decide), u3_na _ _ (by decide), u3_na _ _ (by decide), go_k (by decide)]
              have f21 : (if f_B_isAccount (nI k) = 0 then ((0 : Int32), u3 (u3 (u3 M 6 (2 * c + (1 - t)) 7 (M 21 10 (2 * c + (1 - t)) + 1)) 9 i 10 2) 9 i 13 (nI (hh (1 - t)))) else (1, u3 (u3 (u3 (f_B_giveOut M (nI c) (nI (1 - t)) (nI k) (M 21 18 i) (M 21 17 i)) 6 (2 * c + (1 - t)) 7 (M 21 10 (2 * c + (1 - t)) + 1)) 9 i 10 1) 9 i 13 (nI (hh (1 - t))))).2 21 = M 21 := by
                split
                · rfl
                · dsimp only
                  rw [u3_na _ _ (by decide), u3_na _ _ (by decide), u3_na _ _ (by decide), go_k (by decide)]
              by_cases zo : M 21 4 c = 0
              · rw [if_pos zo]
                unfold ok_
                have e := eR _ f20 f21
                rw [if_pos z5, if_pos z25, if_pos zU, if_neg c1, if_pos c2, if_pos zl, if_pos zo] at e
                dsimp only
                rw [e]
                exact ⟨f1, f2, f3⟩
              · rw [if_neg zo]
                by_cases zb : f_B_areAllBeforeReceived M (nI i) = 0
                · rw [if_pos zb]
                  refine ok_same (r := -8) R rfl ((eR M rfl rfl).trans ?_)
                  rw [if_pos z5, if_pos z25, if_pos zU, if_neg c1, if_pos c2, if_pos zl, if_neg zo, be_r R hi, if_pos zb, if_neg (by decide)]
                · rw [if_neg zb]
                  unfold ok_
                  have e := eR _ f20 f21
                  rw [if_pos z5, if_pos z25, if_pos zU, if_neg c1, if_pos c2, if_pos zl, if_neg zo, be_r R hi, if_neg zb, if_pos rfl] at e
                  dsimp only
                  rw [e]
                  exact ⟨f1, f2, f3⟩
            · rw [if_neg zl]
              refine ok_same (r := -7) R rfl ((eR M rfl rfl).trans ?_)
              rw [if_pos z5, if_pos z25, if_pos zU, if_neg c1, if_pos c2, if_neg zl]
          · rw [eS, if_neg y, if_pos rfl]
            refine ok_same (r := -6) R rfl ((eR M rfl rfl).trans ?_)
            rw [if_pos z5, if_pos z25, if_pos zU]
            by_cases y1 : h ≤ t1
            · rw [if_pos (by rw [b1]; exact nI_lt (by omega) (by omega))]
            · rw [if_neg (by rw [b1]; exact nI_nlt (by omega) (by omega)), if_neg (by rw [b2]; exact nI_nlt (by omega) (by omega))]
        · rw [if_neg zU]
          refine ok_same R rfl ((eR M rfl rfl).trans ?_)
          rw [if_pos z5, if_pos z25, if_neg zU]
      · rw [if_neg z25]
        refine ok_same (r := -3) R rfl ((eR M rfl rfl).trans ?_)
        rw [if_pos z5, if_neg z25]
    · rw [if_neg z5]
      refine ok_same (r := -3) R rfl ((eR M rfl rfl).trans ?_)
      rw [if_neg z5]
end
