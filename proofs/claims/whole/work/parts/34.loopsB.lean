/-! BridgeClients(): three loops that make its objects, then beginAnew -/
def bl (r0 : List va_E) (f : Nat → List va_E) : Nat → List va_E
  | 0 => r0
  | k + 1 => bl r0 f k ++ f k
theorem bl_len {r0 : List va_E} {f : Nat → List va_E} {w : Nat} (hf : ∀ j, (f j).length = w) : ∀ k, (bl r0 f k).length = r0.length + w * k
  | 0 => by show r0.length = _; omega
  | k + 1 => by
    show (bl r0 f k ++ f k).length = _
    rw [List.length_append, bl_len hf k, hf, Nat.mul_succ]
    omega
theorem bl_lo {r0 : List va_E} {f : Nat → List va_E} {q : Nat} (hq : q < r0.length) : ∀ k, (bl r0 f k)[q]? = r0[q]?
  | 0 => rfl
  | k + 1 => by
    have ih := bl_lo (f := f) hq k
    show (bl r0 f k ++ f k)[q]? = _
    rw [List.getElem?_append_left, ih]
    have h1 : r0[q]? = some r0[q] := List.getElem?_eq_getElem hq
    rw [h1] at ih
    exact (List.getElem?_eq_some_iff.mp ih).1
theorem bl_at {r0 : List va_E} {f : Nat → List va_E} {w : Nat} (hf : ∀ j, (f j).length = w) {i r : Nat} (hr : r < w) : ∀ k, i < k → (bl r0 f k)[r0.length + w * i + r]? = (f i)[r]?
  | 0, h => absurd h (by omega)
  | k + 1, h => by
    have hl := bl_len (r0 := r0) hf k
    show (bl r0 f k ++ f k)[r0.length + w * i + r]? = _
    rcases (show i < k ∨ i = k by omega) with q | q
    · rw [List.getElem?_append_left, bl_at hf hr k q]
      rw [hl]
      have : w * i + w ≤ w * k := by rw [← Nat.mul_succ]; exact Nat.mul_le_mul_left w q
      omega
    · subst q
      rw [List.getElem?_append_right (by omega), hl]
      congr 1
      omega
def fq (g : Nat → Nat) (i : Nat) : Nat → Option Nat := fun j => if j < i then some (g j) else none
theorem fq_up (g : Nat → Nat) (i : Nat) : va_up (fq g i) i (some (g i)) = fq g (i + 1) := by
  funext j
  unfold va_up fq
  by_cases h : j = i
  · rw [if_pos h, if_pos (by omega), h]
  · rw [if_neg h]
    by_cases h2 : j < i
    · rw [if_pos h2, if_pos (by omega)]
    · rw [if_neg h2, if_neg (by omega)]
abbrev oB (u v w : Value) : va_E := .inr (5, [u, v, w, .int 0, .int 0])
def wB (t6 : Nat → ClassId) (b i1 i2 i3 : Nat) (r : List va_E) : List va_E := oB (.ref (b + 1)) (.ref (b + 2)) (.ref (b + 3)) :: zq_ t6 2 2 (fq (fun j => b + (4 + 4 * j)) i1) :: zq_ t6 3 4 (fq (fun j => b + (12 + 8 * j)) i2) :: zq_ t6 4 60 (fq (fun j => b + (44 + j)) i3) :: r
def B1 (t6 : Nat → ClassId) (b : Nat) : Nat → List va_E := bl [] (fun j => wLe t6 (b + (4 + 4 * j)))
def B2 (t6 : Nat → ClassId) (b : Nat) : Nat → List va_E := bl (B1 t6 b 2) (fun j => wCh t6 (b + (12 + 8 * j)))
def B3 (t6 : Nat → ClassId) (b : Nat) : Nat → List va_E := bl (B2 t6 b 4) (fun _ => [oMe])
theorem B1_len (t6 : Nat → ClassId) (b k : Nat) : (B1 t6 b k).length = 4 * k := by
  unfold B1
  rw [bl_len (w := 4) (fun _ => rfl)]
  simp
theorem B2_len (t6 : Nat → ClassId) (b k : Nat) : (B2 t6 b k).length = 8 + 8 * k := by
  unfold B2
  rw [bl_len (w := 8) (fun _ => rfl), B1_len]
theorem B3_len (t6 : Nat → ClassId) (b k : Nat) : (B3 t6 b k).length = 40 + k := by
  unfold B3
  rw [bl_len (w := 1) (fun _ => rfl), B2_len]
  omega
theorem wB_len (t6 : Nat → ClassId) (b i1 i2 i3 : Nat) (r : List va_E) : (wB t6 b i1 i2 i3 r).length = 4 + r.length := by
  show r.length + 1 + 1 + 1 + 1 = _
  omega
theorem sg_eq {p : Program} {l : Launch} {e : Env} {R : Room} {s : State} {m : MethodId} {args : Array Value} {below : List Frame} {meth : Method} {c : Code} {D : va_G} {b nL : Nat} {Q : State → Prop} {cs cs2 sl sl2 : Nat} {es es2 : List va_E} {pc : Nat} {L L2 : List (Option Value)} {st : List Value} (h1 : cs = cs2) (h2 : sl = sl2) (h3 : es = es2) (h4 : L = L2) (k : Sg p l e R s m args below meth c D b nL Q cs2 sl2 es2 pc L2 st) : Sg p l e R s m args below meth c D b nL Q cs sl es pc L st := by
  subst h1 h2 h3 h4
  exact k
section
variable {p : Program} {l : Launch} {e : Env} {s : State} {m : MethodId} {args : Array Value} {below : List Frame} {meth : Method} {c : Code} {D : va_G} {t6 : Nat → ClassId} {b : Nat} {Q : State → Prop}

theorem lB1 (G : cx p s m meth c cd_B_new 2 "BridgeClients" none D t6) (hz : s.heap.size = b + 1) (kend : Sg p l e (rg 4 84 103 1486) s m args below meth c D b 2 Q (3 + 4 * 2) (66 + 212 * 2) (wB t6 b 2 0 0 (B1 t6 b 2)) 55 [some (.ref b), some (.int 2)] []) : ∀ k i, i + k = 2 → Sg p l e (rg 4 84 103 1486) s m args below meth c D b 2 Q (3 + 4 * i) (66 + 212 * i) (wB t6 b i 0 0 (B1 t6 b i)) 31 [some (.ref b), some (.int (nI i))] [] := by
  intro k
  induction k with
  | zero =>
    intro i hi
    have : i = 2 := by omega
    subst this
    refine sg_iload_n G (i := 1) (x := nI 2) rfl d_B_new_31 ?_
    refine sg_iconst G (v := 2) (by decide) d_B_new_32 ?_
    exact sg_icmp_ge G 55 d_B_new_33 (by decide) (fun _ => kend) (fun h => absurd (by decide) h)
  | succ k ih =>
    intro i hi
    have hlen : (wB t6 b i 0 0 (B1 t6 b i)).length = 4 + 4 * i := by rw [wB_len, B1_len] <;> omega
    have he : (wB t6 b i 0 0 (B1 t6 b i) ++ wLe t6 (b + (4 + 4 * i))).set 1 (zq_ t6 2 2 (va_up (fq (fun j => b + (4 + 4 * j)) i) i (some (b + (4 + 4 * i))))) = wB t6 b (i + 1) 0 0 (B1 t6 b (i + 1)) := by
      rw [show va_up (fq (fun j => b + (4 + 4 * j)) i) i (some (b + (4 + 4 * i))) = fq (fun j => b + (4 + 4 * j)) (i + 1) from fq_up (fun j => b + (4 + 4 * j)) i]
      rfl
    refine sg_iload_n G (i := 1) (x := nI i) rfl d_B_new_31 ?_
    refine sg_iconst G (v := 2) (by decide) d_B_new_32 ?_
    refine sg_icmp_ge G 55 d_B_new_33 (by decide) (fun h => absurd h (nI_ge (a := i) (b := 2) (by omega) (by decide))) (fun _ => ?_)
    refine sg_aload_n G (i := 0) (x := b) rfl d_B_new_36 ?_
    refine sg_get G (k0 := 0) (ci := 5) (C := R_B) (T := F_B) (N := 5) (fs := [.ref (b + 1), .ref (b + 2), .ref (b + 3), .int 0, .int 0]) rfl ku_B rfl 0 (by decide) kf_B_11 rfl (v := .ref (b + 1)) rfl d_B_new_37 (x := b) rfl ?_
    refine sg_iload_n G (i := 1) (x := nI i) rfl d_B_new_40 ?_
    refine sg_new G (by rw [hlen, hz]; omega) (fun h => by cases h) (ci := 3) (C := R_Le) (T := F_Le) (N := 3) (fs := [.null, .null, .int 0]) ku_Le t_Le ty_Le kl_B_9 kt_Le kn_Le rfl df_Le (by show _ ≤ 103; omega) (by show _ ≤ 1486; omega) d_B_new_41 ?_
    rw [hlen]
    refine sg_dup G rfl d_B_new_44 ?_
    refine sg_callN G (by rw [List.length_append, hlen, hz]; show _ = b + (4 + 4 * i + 1); omega) (fun h => by cases h) (pre := wB t6 b i 0 0 (B1 t6 b i)) (tl := [oLe .null .null]) (tl2 := wLe t6 (b + (4 + 4 * i))) (x := b + (4 + 4 * i)) rfl (by rw [hlen]) c_Le_new kc_Le_new km_B_27 kn_Le ki_Le_new rfl (by decide) (by decide) ⟨by show _ + 3 ≤ 103; omega, by show _ + 209 ≤ 1486; omega⟩ (Nat.le_of_ble_eq_true rfl) d_B_new_45 ?_
    refine sg_aast G (k0 := 1) (k1 := 4 + 4 * i) (ci := 3) (tx := 2) (i2 := i) (n := 2) (f := fq (fun j => b + (4 + 4 * j)) i) (r := (R_Le, F_Le, 3)) rfl rfl (by rw [List.getElem?_append_right (by omega), hlen, Nat.sub_self]; rfl) rfl (vp_in_nI (by omega) (by decide)) (nI_clamp (by omega)) d_B_new_48 rfl rfl ?_
    refine sg_iinc G (i := 1) (x := nI i) (v := nI (i + 1)) (z := 1) rfl (nI_1 i) (by decide) d_B_new_49 ?_
    refine sg_goto G 31 d_B_new_52 (by decide) ?_
    exact sg_eq (by show _ + 1 + 3 = _; omega) (by show _ + 3 + 209 = _; omega) he rfl (ih (i + 1) (by omega))
theorem lB2 (G : cx p s m meth c cd_B_new 2 "BridgeClients" none D t6) (hz : s.heap.size = b + 1) (kend : Sg p l e (rg 4 84 103 1486) s m args below meth c D b 2 Q (11 + 8 * 4) (490 + 39 * 4) (wB t6 b 2 4 0 (B2 t6 b 4)) 81 [some (.ref b), some (.int 4)] []) : ∀ k i, i + k = 4 → Sg p l e (rg 4 84 103 1486) s m args below meth c D b 2 Q (11 + 8 * i) (490 + 39 * i) (wB t6 b 2 i 0 (B2 t6 b i)) 57 [some (.ref b), some (.int (nI i))] [] := by
  intro k
  induction k with
  | zero =>
    intro i hi
    have : i = 4 := by omega
    subst this
    refine sg_iload_n G (i := 1) (x := nI 4) rfl d_B_new_57 ?_
    refine sg_iconst G (v := 4) (by decide) d_B_new_58 ?_
    exact sg_icmp_ge G 81 d_B_new_59 (by decide) (fun _ => kend) (fun h => absurd (by decide) h)
  | succ k ih =>
    intro i hi
    have hlen : (wB t6 b 2 i 0 (B2 t6 b i)).length = 12 + 8 * i := by rw [wB_len, B2_len] <;> omega
    have he : (wB t6 b 2 i 0 (B2 t6 b i) ++ wCh t6 (b + (12 + 8 * i))).set 2 (zq_ t6 3 4 (va_up (fq (fun j => b + (12 + 8 * j)) i) i (some (b + (12 + 8 * i))))) = wB t6 b 2 (i + 1) 0 (B2 t6 b (i + 1)) := by
      rw [show va_up (fq (fun j => b + (12 + 8 * j)) i) i (some (b + (12 + 8 * i))) = fq (fun j => b + (12 + 8 * j)) (i + 1) from fq_up (fun j => b + (12 + 8 * j)) i]
      rfl
    refine sg_iload_n G (i := 1) (x := nI i) rfl d_B_new_57 ?_
    refine sg_iconst G (v := 4) (by decide) d_B_new_58 ?_
    refine sg_icmp_ge G 81 d_B_new_59 (by decide) (fun h => absurd h (nI_ge (a := i) (b := 4) (by omega) (by decide))) (fun _ => ?_)
    refine sg_aload_n G (i := 0) (x := b) rfl d_B_new_62 ?_
    refine sg_get G (k0 := 0) (ci := 5) (C := R_B) (T := F_B) (N := 5) (fs := [.ref (b + 1), .ref (b + 2), .ref (b + 3), .int 0, .int 0]) rfl ku_B rfl 1 (by decide) kf_B_17 rfl (v := .ref (b + 2)) rfl d_B_new_63 (x := b) rfl ?_
    refine sg_iload_n G (i := 1) (x := nI i) rfl d_B_new_66 ?_
    refine sg_new G (by rw [hlen, hz]; omega) (fun h => by cases h) (ci := 0) (C := R_Ch) (T := F_Ch) (N := 3) (fs := [.null, .int 0, .int 0]) ku_Ch t_Ch ty_Ch kl_B_15 kt_Ch kn_Ch rfl df_Ch (by show _ ≤ 103; omega) (by show _ ≤ 1486; omega) d_B_new_67 ?_
    rw [hlen]
    refine sg_dup G rfl d_B_new_70 ?_
    refine sg_callN G (by rw [List.length_append, hlen, hz]; show _ = b + (12 + 8 * i + 1); omega) (fun h => by cases h) (pre := wB t6 b 2 i 0 (B2 t6 b i)) (tl := [oCh .null]) (tl2 := wCh t6 (b + (12 + 8 * i))) (x := b + (12 + 8 * i)) rfl (by rw [hlen]) c_Ch_new kc_Ch_new km_B_28 kn_Ch ki_Ch_new rfl (by decide) (by decide) ⟨by show _ + 7 ≤ 103; omega, by show _ + 36 ≤ 1486; omega⟩ (Nat.le_of_ble_eq_true rfl) d_B_new_71 ?_
    refine sg_aast G (k0 := 2) (k1 := 12 + 8 * i) (ci := 0) (tx := 3) (i2 := i) (n := 4) (f := fq (fun j => b + (12 + 8 * j)) i) (r := (R_Ch, F_Ch, 3)) rfl rfl (by rw [List.getElem?_append_right (by omega), hlen, Nat.sub_self]; rfl) rfl (vp_in_nI (by omega) (by decide)) (nI_clamp (by omega)) d_B_new_74 rfl rfl ?_
    refine sg_iinc G (i := 1) (x := nI i) (v := nI (i + 1)) (z := 1) rfl (nI_1 i) (by decide) d_B_new_75 ?_
    refine sg_goto G 57 d_B_new_78 (by decide) ?_
    exact sg_eq (by show _ + 1 + 7 = _; omega) (by show _ + 3 + 36 = _; omega) he rfl (ih (i + 1) (by omega))
theorem lB3 (G : cx p s m meth c cd_B_new 2 "BridgeClients" none D t6) (hz : s.heap.size = b + 1) (kend : Sg p l e (rg 4 84 103 1486) s m args below meth c D b 2 Q (43 + 1 * 60) (646 + 14 * 60) (wB t6 b 2 4 60 (B3 t6 b 60)) 108 [some (.ref b), some (.int 60)] []) : ∀ k i, i + k = 60 → Sg p l e (rg 4 84 103 1486) s m args below meth c D b 2 Q (43 + 1 * i) (646 + 14 * i) (wB t6 b 2 4 i (B3 t6 b i)) 83 [some (.ref b), some (.int (nI i))] [] := by
  intro k
  induction k with
  | zero =>
    intro i hi
    have : i = 60 := by omega
    subst this
    refine sg_iload_n G (i := 1) (x := nI 60) rfl d_B_new_83 ?_
    refine sg_bipush G (v := 60) (by decide) d_B_new_84 ?_
    exact sg_icmp_ge G 108 d_B_new_86 (by decide) (fun _ => kend) (fun h => absurd (by decide) h)
  | succ k ih =>
    intro i hi
    have hlen : (wB t6 b 2 4 i (B3 t6 b i)).length = 44 + i := by rw [wB_len, B3_len] <;> omega
    have he : (wB t6 b 2 4 i (B3 t6 b i) ++ [oMe]).set 3 (zq_ t6 4 60 (va_up (fq (fun j => b + (44 + j)) i) i (some (b + (44 + i))))) = wB t6 b 2 4 (i + 1) (B3 t6 b (i + 1)) := by
      rw [show va_up (fq (fun j => b + (44 + j)) i) i (some (b + (44 + i))) = fq (fun j => b + (44 + j)) (i + 1) from fq_up (fun j => b + (44 + j)) i]
      rfl
    refine sg_iload_n G (i := 1) (x := nI i) rfl d_B_new_83 ?_
    refine sg_bipush G (v := 60) (by decide) d_B_new_84 ?_
    refine sg_icmp_ge G 108 d_B_new_86 (by decide) (fun h => absurd h (nI_ge (a := i) (b := 60) (by omega) (by decide))) (fun _ => ?_)
    refine sg_aload_n G (i := 0) (x := b) rfl d_B_new_89 ?_
    refine sg_get G (k0 := 0) (ci := 5) (C := R_B) (T := F_B) (N := 5) (fs := [.ref (b + 1), .ref (b + 2), .ref (b + 3), .int 0, .int 0]) rfl ku_B rfl 2 (by decide) kf_B_23 rfl (v := .ref (b + 3)) rfl d_B_new_90 (x := b) rfl ?_
    refine sg_iload_n G (i := 1) (x := nI i) rfl d_B_new_93 ?_
    refine sg_new G (by rw [hlen, hz]; omega) (fun h => by cases h) (ci := 4) (C := R_Me) (T := F_Me) (N := 14) (fs := [.int 0, .int 0, .int 0, .int 0, .int 0, .int 0, .int 0, .int 0, .int 0, .int 0, .int 0, .int 0, .int 0, .int 0]) ku_Me t_Me ty_Me kl_B_21 kt_Me kn_Me rfl df_Me (by show _ ≤ 103; omega) (by show _ ≤ 1486; omega) d_B_new_94 ?_
    rw [hlen]
    refine sg_dup G rfl d_B_new_97 ?_
    refine sg_callN G (by rw [List.length_append, hlen, hz]; show _ = b + (44 + i + 1); omega) (fun h => by cases h) (pre := wB t6 b 2 4 i (B3 t6 b i)) (tl := [oMe]) (tl2 := [oMe]) (x := b + (44 + i)) rfl (by rw [hlen]) c_Me_new kc_Me_new km_B_29 kn_Me ki_Me_new rfl (by decide) (by decide) ⟨by show _ + 0 ≤ 103; omega, by show _ + 0 ≤ 1486; omega⟩ (Nat.le_of_ble_eq_true rfl) d_B_new_98 ?_
    refine sg_aast G (k0 := 3) (k1 := 44 + i) (ci := 4) (tx := 4) (i2 := i) (n := 60) (f := fq (fun j => b + (44 + j)) i) (r := (R_Me, F_Me, 14)) rfl rfl (by rw [List.getElem?_append_right (by omega), hlen, Nat.sub_self]; rfl) rfl (vp_in_nI (by omega) (by decide)) (nI_clamp (by omega)) d_B_new_101 rfl rfl ?_
    refine sg_iinc G (i := 1) (x := nI i) (v := nI (i + 1)) (z := 1) rfl (nI_1 i) (by decide) d_B_new_102 ?_
    refine sg_goto G 83 d_B_new_105 (by decide) ?_
    exact sg_eq (by show _ + 1 + 0 = _; omega) (by show _ + 14 + 0 = _; omega) he rfl (ih (i + 1) (by omega))
end
