/-! the tables' words hold in every later state, for any arguments -/
def wk_ : Cond → Bool
  | .fieldLinkNest .. => true
  | .methodLinkNest .. => true
  | .arrayOver (.object _) => true
  | w => goodWord w
def tb_ : List Cond := lw_tbl.filter wk_
theorem tb_in {w : Cond} (h : w ∈ lw_tbl) (hw : wk_ w = true) : w ∈ tb_ := List.mem_filter.mpr ⟨h, hw⟩
theorem tb_u {C : String} {T : u_T} {N : Nat} (h : ∀ w ∈ u_ws C T N, w ∈ lw_tbl) : ∀ w ∈ u_ws C T N, w ∈ tb_ := by
  intro w hw
  refine tb_in (h w hw) ?_
  obtain ⟨k, -, rfl⟩ := List.mem_map.mp hw
  unfold u_lay
  split <;> rfl
def tt_ (U : State) : Prop := ∀ w ∈ tb_, ∀ A : Array Value, w.before A U = true
theorem wk_warm {w : Cond} (h : wk_ w = true) {s U : State} (hW : s.WarmedH U.vm) {A B : Array Value} (hb : w.before A s = true) : w.before B U = true := by
  have gd : goodWord w = true → w.before B U = true := fun h => word_at hW (good_of_word h) hb
  cases w with
  | fieldLinkNest a i b n d h => exact va_Nw.use rfl (va_Nw.warmF hW (va_Nw.of rfl hb))
  | methodLinkNest a i x h => exact va_Nw.use rfl (va_Nw.warmM hW (va_Nw.of rfl hb))
  | arrayOver t =>
    cases t with
    | object C => exact va_AO.use (va_AO.moved hW.alike (va_AO.of hb))
    | _ => exact gd h
  | _ => exact gd h
theorem tt_warm {s U : State} (hW : s.WarmedH U.vm) (h : tt_ s) : tt_ U := fun w hw A => wk_warm (List.mem_filter.mp hw).2 hW (h w hw #[])
theorem tt_of {s : State} {A : Array Value} (h : ∀ w ∈ lw_tbl, w.before A s = true) : tt_ s := fun w hw B => wk_warm (List.mem_filter.mp hw).2 (State.WarmedH.refl s) (h w (List.mem_filter.mp hw).1)
abbrev ty6 (t6 : Nat → ClassId) : List (ClassId × FieldType) := [(t6 0, .int), (t6 1, .boolean), (t6 2, .object R_Le), (t6 3, .object R_Ch), (t6 4, .object R_Me), (t6 5, .object R_En)]
def kk_ (D : va_G) (t6 : Nat → ClassId) (U : State) : Prop := tt_ U ∧ va_K D classes (ty6 t6) U
theorem kk_warm {D : va_G} {t6 : Nat → ClassId} {s U : State} (hW : s.WarmedH U.vm) (h : kk_ D t6 s) : kk_ D t6 U := ⟨tt_warm hW h.1, va_K.moved hW.alike h.2⟩
/-! the memory: kind, number, slot; where a cell lies, and what it holds -/
abbrev Mem : Type := Nat → Nat → Nat → Int32
def u3 (M : Mem) (k i j : Nat) (v : Int32) : Mem := fun a b c => if a = k ∧ b = i ∧ c = j then v else M a b c
def of_ (kd i : Nat) : Nat := match kd with
  | 0 => 0
  | 1 => 4 + 4 * i
  | 2 => 5 + 4 * i
  | 3 => 6 + 4 * i
  | 4 => 7 + 4 * i
  | 5 => 12 + 8 * i
  | 6 => 14 + 8 * (i / 2) + 3 * (i % 2)
  | 7 => 15 + 8 * (i / 2) + 3 * (i % 2)
  | 8 => 16 + 8 * (i / 2) + 3 * (i % 2)
  | 9 => 44 + i
  | 10 => 1
  | 11 => 2
  | 12 => 3
  | 13 => 13 + 8 * i
  | 20 => 104
  | _ => 105 + i
def nk_ (kd : Nat) : Nat := match kd with
  | 0 => 1
  | 1 => 2
  | 2 => 2
  | 3 => 2
  | 4 => 2
  | 5 => 4
  | 6 => 8
  | 7 => 8
  | 8 => 8
  | 9 => 60
  | 10 => 1
  | 11 => 1
  | 12 => 1
  | 13 => 4
  | 20 => 1
  | 21 => 28
  | _ => 0
def ad (b kd i : Nat) : Nat := b + of_ kd i
def vv (n kd i : Nat) : Prop := i < nk_ kd ∧ of_ kd i < n
def iv_ (o : Nat) : Nat × Nat := (((List.range 22).flatMap (fun kd => (List.range (nk_ kd)).map (fun i => (kd, i)))).find? (fun q => of_ q.1 q.2 == o)).getD (0, 0)
theorem iv_ok : ∀ kd, kd < 22 → ∀ i, i < nk_ kd → iv_ (of_ kd i) = (kd, i) := by decide +kernel
theorem nk_22 {kd : Nat} (h : 22 ≤ kd) : nk_ kd = 0 := by
  unfold nk_
  split <;> first | omega | rfl
theorem ad_inj {b n kd i kd2 i2 : Nat} (h : vv n kd i) (h2 : vv n kd2 i2) (e : ad b kd i = ad b kd2 i2) : kd = kd2 ∧ i = i2 := by
  have l1 : kd < 22 := by
    rcases Nat.lt_or_ge kd 22 with q | q
    · exact q
    · exact absurd h.1 (by rw [nk_22 q]; omega)
  have l2 : kd2 < 22 := by
    rcases Nat.lt_or_ge kd2 22 with q | q
    · exact q
    · exact absurd h2.1 (by rw [nk_22 q]; omega)
  have e1 : of_ kd i = of_ kd2 i2 := by unfold ad at e; omega
  have e2 := iv_ok kd l1 i h.1
  rw [e1, iv_ok kd2 l2 i2 h2.1] at e2
  exact ⟨(congrArg Prod.fst e2).symm, (congrArg Prod.snd e2).symm⟩
def wl_ (b n : Nat) : List Nat := (List.range n).map (fun k => b + k)
theorem wl_in {b n kd i : Nat} (h : vv n kd i) : ad b kd i ∈ wl_ b n := List.mem_map.mpr ⟨of_ kd i, List.mem_range.mpr h.2, rfl⟩
theorem wl_D (b n : Nat) (f : Nat → va_E) : va_D (fun q => b ≤ q) ([] ++ va_pl (wl_ b n) f) := by
  have key : ∀ (k : Nat) (q : Nat × va_E), ([] ++ va_pl (wl_ b n) f)[k]? = some q → q.1 = b + k := by
    intro k q hk
    rw [List.nil_append] at hk
    unfold va_pl wl_ at hk
    rw [List.map_map, List.getElem?_map] at hk
    cases hr : (List.range n)[k]? with
    | none => rw [hr] at hk; cases hk
    | some z =>
      rw [hr] at hk
      have hz : z = k := by
        have h2 := List.getElem?_eq_some_iff.mp hr
        obtain ⟨h3, h4⟩ := h2
        rw [List.getElem_range] at h4
        exact h4.symm
      subst hz
      cases hk
      rfl
  refine ⟨fun i j p q hi hj e => ?_, fun k q hk => ?_⟩
  · have := key i p hi
    have := key j q hj
    omega
  · have := key k q hk
    show b ≤ q.1
    omega
/-- of the reference's 28 arrays: the class by its number, and the length -/
def ra_c (a : Nat) : Nat := match a with
  | 2 => 1
  | 4 => 1
  | 22 => 1
  | 27 => 1
  | _ => 0
def ra_n (a : Nat) : Nat := match a with
  | 0 => 2
  | 1 => 402
  | 2 => 2
  | 3 => 4
  | 4 => 4
  | 5 => 8
  | 6 => 8
  | 7 => 8
  | 8 => 8
  | 9 => 8
  | 10 => 8
  | 11 => 1608
  | 12 => 8
  | 13 => 32
  | _ => 60
def cm_ (t6 : Nat → ClassId) (b kd i : Nat) (m : Nat → Int32) : va_E := match kd with
  | 0 => .inr (5, [.ref (ad b 10 0), .ref (ad b 11 0), .ref (ad b 12 0), .int (m 3), .int (m 4)])
  | 1 => .inr (3, [.ref (ad b 2 i), .ref (ad b 3 i), .int (m 2)])
  | 2 => .inl (t6 0, 4, .inl m)
  | 3 => .inr (1, [.ref (ad b 4 i), .int (m 1), .int (m 2), .int (m 3)])
  | 4 => .inl (t6 0, 201, .inl m)
  | 5 => .inr (0, [.ref (ad b 13 i), .int (m 1), .int (m 2)])
  | 6 => .inr (2, [.ref (ad b 7 i), .ref (ad b 8 i), .int (m 2), .int (m 3), .int (m 4), .int (m 5), .int (m 6), .int (m 7)])
  | 7 => .inl (t6 0, 5, .inl m)
  | 8 => .inl (t6 0, 4, .inl m)
  | 9 => .inr (4, [.int (m 0), .int (m 1), .int (m 2), .int (m 3), .int (m 4), .int (m 5), .int (m 6), .int (m 7), .int (m 8), .int (m 9), .int (m 10), .int (m 11), .int (m 12), .int (m 13)])
  | 10 => .inl (t6 2, 2, .inr (.inr (.inr (.inr (fun j => some (ad b 1 j))))))
  | 11 => .inl (t6 3, 4, .inr (.inr (.inr (.inr (fun j => some (ad b 5 j))))))
  | 12 => .inl (t6 4, 60, .inr (.inr (.inr (.inr (fun j => some (ad b 9 j))))))
  | 13 => .inl (t6 5, 2, .inr (.inr (.inr (.inr (fun j => some (ad b 6 (2 * i + j)))))))
  | 20 => .inr (6, [.ref (ad b 21 0), .ref (ad b 21 1), .ref (ad b 21 2), .int (m 3), .ref (ad b 21 3), .ref (ad b 21 4), .ref (ad b 21 5), .ref (ad b 21 6), .ref (ad b 21 7), .ref (ad b 21 8), .ref (ad b 21 9), .ref (ad b 21 10), .ref (ad b 21 11), .ref (ad b 21 12), .ref (ad b 21 13), .int (m 15), .ref (ad b 21 14), .ref (ad b 21 15), .ref (ad b 21 16), .ref (ad b 21 17), .ref (ad b 21 18), .ref (ad b 21 19), .ref (ad b 21 20), .ref (ad b 21 21), .ref (ad b 21 22), .ref (ad b 21 23), .ref (ad b 21 24), .ref (ad b 21 25), .ref (ad b 21 26), .ref (ad b 21 27)])
  | _ => .inl (t6 (ra_c i), ra_n i, .inl m)
def ft_ (t6 : Nat → ClassId) (b n : Nat) (M : Mem) (f : Nat → va_E) : Prop := ∀ kd i, vv n kd i → f (ad b kd i) = cm_ t6 b kd i (M kd i)
def wo (D : va_G) (t6 : Nat → ClassId) (b n : Nat) (M : Mem) (H : Heap) : Prop := ∃ f : Nat → va_E, va_P D classes ([] ++ va_pl (wl_ b n) f) H ∧ ft_ t6 b n M f
theorem u3_at (M : Mem) (k i j : Nat) (v : Int32) : u3 M k i j v k i = upd (M k i) j v := by
  funext c
  simp [u3, upd]
theorem ft_put {t6 : Nat → ClassId} {b n : Nat} {M : Mem} {f : Nat → va_E} {kd i j : Nat} {v : Int32} {x : va_E} (h : ft_ t6 b n M f) (hv : vv n kd i) (hx : x = cm_ t6 b kd i (upd (M kd i) j v)) : ft_ t6 b n (u3 M kd i j v) (va_up f (ad b kd i) x) := by
  intro k2 i2 h2
  by_cases e : k2 = kd ∧ i2 = i
  · obtain ⟨rfl, rfl⟩ := e
    rw [va_up_self, hx, u3_at]
  · rw [va_up_ne _ _ (fun q => e (ad_inj h2 hv q)), h k2 i2 h2]
    congr 1
    funext c
    unfold u3
    rw [if_neg (fun q => e ⟨q.1, q.2.1⟩)]
/-! the machine's frame in a method: the context, the locals, the judgement -/
def cx (p : Program) (s : State) (m : MethodId) (meth : Method) (c : Code) (cc : ByteArray) (nL : Nat) (own : String) (ret : Option FieldType) (D : va_G) (t6 : Nat → ClassId) : Prop :=
  p.tables.exec = Jvm.exec ∧ c.code = cc ∧ c.maxLocals = nL ∧ s.vm.findClass own = some m.cls ∧ meth.sig.returnType = ret ∧ meth.locks = false ∧ kk_ D t6 s
def hs (ls : Array Slot) (nL : Nat) (L : List (Option Value)) : Prop := ls.size = nL ∧ lv_wf ls ∧ ∀ (i : Nat) (v : Value), L[i]? = some (some v) → v.category = 1 ∧ ls[i]? = some (.val v)
def lf_ (L : List (Option Value)) : List (Nat × Value) := (List.range L.length).filterMap (fun i => match L[i]? with | some (some v) => some (i, v) | _ => none)
theorem lf_in {L : List (Option Value)} {i : Nat} {v : Value} (h : L[i]? = some (some v)) : (i, v) ∈ lf_ L := by
  refine List.mem_filterMap.mpr ⟨i, List.mem_range.mpr (List.getElem?_eq_some_iff.mp h).1, ?_⟩
  rw [h]
theorem lf_of {L : List (Option Value)} {q : Nat × Value} (h : q ∈ lf_ L) : L[q.1]? = some (some q.2) := by
  obtain ⟨i, -, hi⟩ := List.mem_filterMap.mp h
  split at hi
  next v e => cases hi; exact e
  next => cases hi
theorem hs_to {ls : Array Slot} {nL : Nat} {L : List (Option Value)} (h : hs ls nL L) : lv_has ls nL (lf_ L) := ⟨h.1, h.2.1, fun q hq => (h.2.2 q.1 q.2 (lf_of hq)).2⟩
theorem hs_store {ls ls2 : Array Slot} {nL : Nat} {L : List (Option Value)} {i : Nat} {v : Value} (h : hs ls nL L) (hc : v.category = 1) (h2 : lv_has ls2 nL ((i, v) :: (lf_ L).filter (fun q => !(q.1 == i) && !(q.1 + 1 == i && q.2.category == 2)))) : hs ls2 nL (L.set i (some v)) := by
  refine ⟨h2.1, h2.2.1, fun j w hj => ?_⟩
  by_cases e : j = i
  · subst e
    have hl : j < L.length := by
      have := (List.getElem?_eq_some_iff.mp hj).1
      rwa [List.length_set] at this
    rw [List.getElem?_set_self hl] at hj
    cases hj
    exact ⟨hc, h2.2.2 (j, v) List.mem_cons_self⟩
  · rw [List.getElem?_set_ne (Ne.symm e)] at hj
    have hw := (h.2.2 j w hj).1
    refine ⟨hw, h2.2.2 (j, w) (List.mem_cons_of_mem _ (List.mem_filter.mpr ⟨lf_in hj, ?_⟩))⟩
    simp [e, hw]
def St (p : Program) (l : Launch) (e : Env) (R : Room) (s : State) (m : MethodId) (args : Array Value) (below : List Frame) (meth : Method) (c : Code) (D : va_G) (t6 : Nat → ClassId) (b n nL : Nat) (Q : State → Prop) (M : Mem) (pc : Nat) (L : List (Option Value)) (st : List Value) : Prop :=
  ∀ (H : Heap) (locs : List Loc) (ls : Array Slot), wo D t6 b n M H → va_S (fun q => b ≤ q) s.heap H locs → hs ls nL L → W p l e R s m args below meth c H locs 0 0 Q (F0 m pc ls st)
