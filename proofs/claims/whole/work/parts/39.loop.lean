/-! the law: its loop, and its start -/
section
variable {p : Program} {l : Launch} {e : Env} {s : State} {m : MethodId} {args : Array Value} {below : List Frame} {meth : Method} {c : Code} {D : va_G} {t6 : Nat → ClassId} {b : Nat} {Q : State → Prop} {ret9 : Option FieldType} {a0 N : Nat} {xs : Nat → Int32}
theorem lp_case (G : cx p s m meth c code 4 "BridgeClientsLaw" ret9 D t6) (S : sc_ s a0 N xs b) {i : Nat} {M : Mem} (hi : i + 8 ≤ N) (RL : Rl M) (x : Int32) (kk : ∀ M2, Rl M2 → Sl p l e s m args below meth c D t6 b Q M2 999 (LL a0 b i) []) : Sl p l e s m args below meth c D t6 b Q M 33 (LL a0 b i) [.int x] := by
  by_cases h0 : x.toInt < 0 ∨ 22 < x.toInt
  · exact sl_tabOut G 999 d_law_law_33 h0 (by decide) (kk M RL)
  · rcases (show x.toInt = 0 ∨ x.toInt = 1 ∨ x.toInt = 2 ∨ x.toInt = 3 ∨ x.toInt = 4 ∨ x.toInt = 5 ∨ x.toInt = 6 ∨ x.toInt = 7 ∨ x.toInt = 8 ∨ x.toInt = 9 ∨ x.toInt = 10 ∨ x.toInt = 11 ∨ x.toInt = 12 ∨ x.toInt = 13 ∨ x.toInt = 14 ∨ x.toInt = 15 ∨ x.toInt = 16 ∨ x.toInt = 17 ∨ x.toInt = 18 ∨ x.toInt = 19 ∨ x.toInt = 20 ∨ x.toInt = 21 ∨ x.toInt = 22 by omega) with h | h | h | h | h | h | h | h | h | h | h | h | h | h | h | h | h | h | h | h | h | h | h
    · exact sl_tabIn G 140 (off := 107) d_law_law_33 (by omega) (by omega) (by rw [h]; rfl) (by decide) (cs_0 G S hi RL kk)
    · exact sl_tabIn G 163 (off := 130) d_law_law_33 (by omega) (by omega) (by rw [h]; rfl) (by decide) (cs_1 G S hi RL kk)
    · exact sl_tabIn G 206 (off := 173) d_law_law_33 (by omega) (by omega) (by rw [h]; rfl) (by decide) (cs_2 G S hi RL kk)
    · exact sl_tabIn G 229 (off := 196) d_law_law_33 (by omega) (by omega) (by rw [h]; rfl) (by decide) (cs_3 G S hi RL kk)
    · exact sl_tabIn G 262 (off := 229) d_law_law_33 (by omega) (by omega) (by rw [h]; rfl) (by decide) (cs_4 G S hi RL kk)
    · exact sl_tabIn G 295 (off := 262) d_law_law_33 (by omega) (by omega) (by rw [h]; rfl) (by decide) (cs_5 G S hi RL kk)
    · exact sl_tabIn G 354 (off := 321) d_law_law_33 (by omega) (by omega) (by rw [h]; rfl) (by decide) (cs_6 G S hi RL kk)
    · exact sl_tabIn G 397 (off := 364) d_law_law_33 (by omega) (by omega) (by rw [h]; rfl) (by decide) (cs_7 G S hi RL kk)
    · exact sl_tabIn G 430 (off := 397) d_law_law_33 (by omega) (by omega) (by rw [h]; rfl) (by decide) (cs_8 G S hi RL kk)
    · exact sl_tabIn G 463 (off := 430) d_law_law_33 (by omega) (by omega) (by rw [h]; rfl) (by decide) (cs_9 G S hi RL kk)
    · exact sl_tabIn G 496 (off := 463) d_law_law_33 (by omega) (by omega) (by rw [h]; rfl) (by decide) (cs_10 G S hi RL kk)
    · exact sl_tabIn G 539 (off := 506) d_law_law_33 (by omega) (by omega) (by rw [h]; rfl) (by decide) (cs_11 G S hi RL kk)
    · exact sl_tabIn G 626 (off := 593) d_law_law_33 (by omega) (by omega) (by rw [h]; rfl) (by decide) (cs_12 G S hi RL kk)
    · exact sl_tabIn G 659 (off := 626) d_law_law_33 (by omega) (by omega) (by rw [h]; rfl) (by decide) (cs_13 G S hi RL kk)
    · exact sl_tabIn G 692 (off := 659) d_law_law_33 (by omega) (by omega) (by rw [h]; rfl) (by decide) (cs_14 G S hi RL kk)
    · exact sl_tabIn G 725 (off := 692) d_law_law_33 (by omega) (by omega) (by rw [h]; rfl) (by decide) (cs_15 G S hi RL kk)
    · exact sl_tabIn G 768 (off := 735) d_law_law_33 (by omega) (by omega) (by rw [h]; rfl) (by decide) (cs_16 G S hi RL kk)
    · exact sl_tabIn G 811 (off := 778) d_law_law_33 (by omega) (by omega) (by rw [h]; rfl) (by decide) (cs_17 G S hi RL kk)
    · exact sl_tabIn G 844 (off := 811) d_law_law_33 (by omega) (by omega) (by rw [h]; rfl) (by decide) (cs_18 G S hi RL kk)
    · exact sl_tabIn G 887 (off := 854) d_law_law_33 (by omega) (by omega) (by rw [h]; rfl) (by decide) (cs_19 G S hi RL kk)
    · exact sl_tabIn G 930 (off := 897) d_law_law_33 (by omega) (by omega) (by rw [h]; rfl) (by decide) (cs_20 G S hi RL kk)
    · exact sl_tabIn G 963 (off := 930) d_law_law_33 (by omega) (by omega) (by rw [h]; rfl) (by decide) (cs_21 G S hi RL kk)
    · exact sl_tabIn G 986 (off := 953) d_law_law_33 (by omega) (by omega) (by rw [h]; rfl) (by decide) (cs_22 G S hi RL kk)
theorem lp_head (G : cx p s m meth c code 4 "BridgeClientsLaw" ret9 D t6) (S : sc_ s a0 N xs b) {i : Nat} {M : Mem} (hi : i ≤ 4104) (kx : ∀ (M : Mem) (L : List (Option Value)), Sl p l e s m args below meth c D t6 b Q M 1005 L []) (kb : i + 8 ≤ N → Sl p l e s m args below meth c D t6 b Q M 27 (LL a0 b i) []) : Sl p l e s m args below meth c D t6 b Q M 18 (LL a0 b i) [] := by
  have hN := S.2.2.2
  refine sl_iload_n G (i := 3) (x := nI i) rfl d_law_law_18 ?_
  refine sl_aload_n G (i := 0) (x := a0) rfl d_law_law_19 ?_
  refine sl_len G S d_law_law_20 ?_
  refine sl_bipush G (v := nI 8) (by decide) d_law_law_21 ?_
  refine sl_isub G d_law_law_23 ?_
  refine sl_icmp_gt G 1005 d_law_law_24 (by decide) (fun _ => kx _ _) (fun h => kb ?_)
  rw [Int32.lt_iff_toInt_lt, pk_sub_toInt (by omega) (by decide), nI_toInt (by omega)] at h
  omega
theorem lp (G : cx p s m meth c code 4 "BridgeClientsLaw" ret9 D t6) (S : sc_ s a0 N xs b) (kx : ∀ (M : Mem) (L : List (Option Value)), Sl p l e s m args below meth c D t6 b Q M 1005 L []) : ∀ (f i : Nat) (M : Mem), N ≤ i + 8 * f → i ≤ 4104 → Rl M → Sl p l e s m args below meth c D t6 b Q M 18 (LL a0 b i) [] := by
  have hN := S.2.2.2
  intro f
  induction f with
  | zero =>
    intro i M h1 h2 RL
    exact lp_head G S h2 kx (fun h => absurd h (by omega))
  | succ f ih =>
    intro i M h1 h2 RL
    refine lp_head G S h2 kx (fun h => ?_)
    refine sl_aload_n G (i := 0) (x := a0) rfl d_law_law_27 ?_
    refine sl_iload_n G (i := 3) (x := nI i) rfl d_law_law_28 ?_
    refine sl_ld G S (j := i) (by omega) rfl d_law_law_29 ?_
    refine sl_bipush G (v := 31) (by decide) d_law_law_30 ?_
    refine sl_iand G d_law_law_32 ?_
    refine lp_case G S h RL _ (fun M2 RL2 => ?_)
    refine sl_iinc G (i := 3) (x := nI i) (v := nI (i + 8)) (z := 8) rfl (nI_add i 8) (by decide) d_law_law_999 ?_
    refine sl_goto G 18 d_law_law_1002 (by decide) ?_
    exact ih (i + 8) M2 (by omega) (by omega) RL2
end
theorem wk_K {s : State} {A : Array Value} (hts : ∀ w ∈ lw_tbl, w.before A s = true) : ∃ (D : va_G) (t6 : Nat → ClassId), kk_ D t6 s := by
  obtain ⟨c0, i0, k0⟩ := u_known hts ku_Ch (hts _ kt_Ch)
  obtain ⟨c1, i1, k1⟩ := u_known hts ku_Cl (hts _ kt_Cl)
  obtain ⟨c2, i2, k2⟩ := u_known hts ku_En (hts _ kt_En)
  obtain ⟨c3, i3, k3⟩ := u_known hts ku_Le (hts _ kt_Le)
  obtain ⟨c4, i4, k4⟩ := u_known hts ku_Me (hts _ kt_Me)
  obtain ⟨c5, i5, k5⟩ := u_known hts ku_B (hts _ kt_B)
  obtain ⟨c6, i6, k6⟩ := u_known hts ku_R (hts _ kt_R)
  obtain ⟨a0, g0, m0, p0, q0, r0⟩ := Cond.arrayClass_spec (hts _ ka_int)
  obtain ⟨a1, g1, m1, p1, q1, r1⟩ := Cond.arrayClass_spec (hts _ ka_boolean)
  obtain ⟨m2, a2, g2, p2, -, q2, r2, z2⟩ := Cond.arrayOver_spec (hts _ ko_Le)
  obtain ⟨m3, a3, g3, p3, -, q3, r3, z3⟩ := Cond.arrayOver_spec (hts _ ko_Ch)
  obtain ⟨m4, a4, g4, p4, -, q4, r4, z4⟩ := Cond.arrayOver_spec (hts _ ko_Me)
  obtain ⟨m5, a5, g5, p5, -, q5, r5, z5⟩ := Cond.arrayOver_spec (hts _ ko_En)
  refine ⟨(fun c => match c with | 0 => c0 | 1 => c1 | 2 => c2 | 3 => c3 | 4 => c4 | 5 => c5 | _ => c6, fun c => match c with | 0 => i0 | 1 => i1 | 2 => i2 | 3 => i3 | 4 => i4 | 5 => i5 | _ => i6), fun k => match k with | 0 => a0 | 1 => a1 | 2 => a2 | 3 => a3 | 4 => a4 | _ => a5, tt_of hts, fun c q h => ?_, fun k q h => ?_⟩
  · have hl : c < 7 := (List.getElem?_eq_some_iff.mp h).1
    rcases (show c = 0 ∨ c = 1 ∨ c = 2 ∨ c = 3 ∨ c = 4 ∨ c = 5 ∨ c = 6 by omega) with rfl | rfl | rfl | rfl | rfl | rfl | rfl <;> cases h
    · exact k0
    · exact k1
    · exact k2
    · exact k3
    · exact k4
    · exact k5
    · exact k6
  · have hl : k < 6 := (List.getElem?_eq_some_iff.mp h).1
    rcases (show k = 0 ∨ k = 1 ∨ k = 2 ∨ k = 3 ∨ k = 4 ∨ k = 5 by omega) with rfl | rfl | rfl | rfl | rfl | rfl <;> cases h
    · exact ⟨fun n z => ⟨fun k h => (by cases h), g0, q0, m0, r0⟩, p0⟩
    · exact ⟨fun n z => ⟨fun k h => (by cases h), g1, q1, m1, r1⟩, p1⟩
    · exact ⟨fun n z => ⟨fun k h => (by cases h), g2, q2, m2, r2⟩, g2, m2, q2, r2, p2, z2⟩
    · exact ⟨fun n z => ⟨fun k h => (by cases h), g3, q3, m3, r3⟩, g3, m3, q3, r3, p3, z3⟩
    · exact ⟨fun n z => ⟨fun k h => (by cases h), g4, q4, m4, r4⟩, g4, m4, q4, r4, p4, z4⟩
    · exact ⟨fun n z => ⟨fun k h => (by cases h), g5, q5, m5, r5⟩, g5, m5, q5, r5, p5, z5⟩
