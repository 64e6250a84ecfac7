theorem in_wi {x lo hi : Int32} {k : Nat} (hlo : 0 ≤ lo.toInt) (hhi : hi.toInt < (k : Int)) (h : ¬ f_B_isWithin x lo hi = 0) : vp_in x k := by
  unfold f_B_isWithin at h
  rw [vp_in_iff]
  by_cases h1 : x < lo
  · rw [if_pos h1] at h; exact absurd rfl h
  · by_cases h2 : hi < x
    · rw [if_neg h1, if_pos h2] at h; exact absurd rfl h
    · rw [Int32.lt_iff_toInt_lt] at h1 h2
      omega
theorem in_1 {x : Int32} (h : vp_in x 2) : vp_in (1 - x) 2 := by
  obtain ⟨j, hj, rfl⟩ := vp_in_of h (by decide)
  rcases (show j = 0 ∨ j = 1 by omega) with rfl | rfl <;> (unfold vp_in; decide)
/-- what the class keeps of its numbers that are used as indices -/
def ci_ (M : Mem) : Prop := (∃ k, k ≤ 4 ∧ M 0 0 3 = nI k) ∧ (∃ k, k ≤ 60 ∧ M 0 0 4 = nI k) ∧ (∀ c, c < 4 → vp_in (M 5 c 2) 2) ∧ ∀ i, i < 60 → vp_in (M 9 i 0) 4 ∧ vp_in (M 9 i 1) 2 ∧ vp_in (M 9 i 3) 4
theorem in_ch {M : Mem} {x : Int32} (hI : ci_ M) (h : ¬ f_B_isChannel M x = 0) : vp_in x 4 := by
  obtain ⟨⟨k, hk, e⟩, -⟩ := hI
  unfold f_B_isChannel at h
  refine in_wi (by decide) ?_ h
  rw [e, show (1 : Int32) = nI 1 from rfl, pk_sub_toInt (by omega) (by omega)]
  omega
theorem in_ms {M : Mem} {x : Int32} (hI : ci_ M) (h : ¬ f_B_isMessage M x = 0) : vp_in x 60 := by
  obtain ⟨-, ⟨k, hk, e⟩, -⟩ := hI
  unfold f_B_isMessage at h
  refine in_wi (by decide) ?_ h
  rw [e, show (1 : Int32) = nI 1 from rfl, pk_sub_toInt (by omega) (by omega)]
  omega
theorem ci_u3 {M : Mem} (h : ci_ M) {kd i j : Nat} (v : Int32) (h0 : ¬ (kd = 0 ∧ (j = 3 ∨ j = 4))) (h5 : ¬ (kd = 5 ∧ j = 2)) (h9 : ¬ (kd = 9 ∧ (j = 0 ∨ j = 1 ∨ j = 3))) : ci_ (u3 M kd i j v) := by
  obtain ⟨a, b, c, d⟩ := h
  have e : ∀ {x y z : Nat}, ¬ (x = kd ∧ z = j) → u3 M kd i j v x y z = M x y z := fun q => if_neg (fun w => q ⟨w.1, w.2.2⟩)
  refine ⟨?_, ?_, fun k hk => ?_, fun k hk => ⟨?_, ?_, ?_⟩⟩
  · rw [e (fun q => h0 ⟨q.1.symm, Or.inl q.2.symm⟩)]; exact a
  · rw [e (fun q => h0 ⟨q.1.symm, Or.inr q.2.symm⟩)]; exact b
  · rw [e (fun q => h5 ⟨q.1.symm, q.2.symm⟩)]; exact c k hk
  · rw [e (fun q => h9 ⟨q.1.symm, Or.inl q.2.symm⟩)]; exact (d k hk).1
  · rw [e (fun q => h9 ⟨q.1.symm, Or.inr (Or.inl q.2.symm)⟩)]; exact (d k hk).2.1
  · rw [e (fun q => h9 ⟨q.1.symm, Or.inr (Or.inr q.2.symm)⟩)]; exact (d k hk).2.2
theorem ci_cl {M : Mem} (h : ci_ M) : M 0 0 3 = nI (Int32.toNatClampNeg (M 0 0 3)) ∧ Int32.toNatClampNeg (M 0 0 3) ≤ 4 := by
  obtain ⟨⟨k, hk, e⟩, -⟩ := h
  have : Int32.toNatClampNeg (M 0 0 3) = k := by rw [e]; exact nI_clamp (by omega)
  rw [this]
  exact ⟨e, hk⟩
theorem ci_ml {M : Mem} (h : ci_ M) : M 0 0 4 = nI (Int32.toNatClampNeg (M 0 0 4)) ∧ Int32.toNatClampNeg (M 0 0 4) ≤ 60 := by
  obtain ⟨-, ⟨k, hk, e⟩, -⟩ := h
  have : Int32.toNatClampNeg (M 0 0 4) = k := by rw [e]; exact nI_clamp (by omega)
  rw [this]
  exact ⟨e, hk⟩
theorem in_nI {x : Int32} {k : Nat} (h : vp_in x k) (hk : k < 2 ^ 31) : x = nI (Int32.toNatClampNeg x) ∧ Int32.toNatClampNeg x < k := by
  obtain ⟨j, hj, rfl⟩ := vp_in_of h hk
  have : Int32.toNatClampNeg (nI j) = j := nI_clamp (by omega)
  rw [this]
  exact ⟨rfl, hj⟩
/-- a loop's number, step by step -/
def fd_ (g : Nat → Int32 → Int32) (a0 : Int32) : Nat → Int32
  | 0 => a0
  | k + 1 => g k (fd_ g a0 k)
/-- a row is filled -/
def fl_ (M : Mem) (kd i len : Nat) (v : Int32) : Mem := fun a b c => if a = kd ∧ b = i ∧ c < len then v else M a b c
theorem fl_0 (M : Mem) (kd i : Nat) (v : Int32) : M = fl_ M kd i 0 v := by
  funext a b c
  unfold fl_
  rw [if_neg (by omega)]
theorem fl_s (M : Mem) (kd i j : Nat) (v : Int32) : u3 (fl_ M kd i j v) kd i j v = fl_ M kd i (j + 1) v := by
  funext a b c
  unfold fl_ u3
  by_cases h : a = kd ∧ b = i ∧ c = j
  · rw [if_pos h, if_pos ⟨h.1, h.2.1, by omega⟩]
  · rw [if_neg h]
    show (if a = kd ∧ b = i ∧ c < j then v else M a b c) = _
    by_cases h2 : a = kd ∧ b = i ∧ c < j
    · rw [if_pos h2, if_pos ⟨h2.1, h2.2.1, by omega⟩]
    · rw [if_neg h2, if_neg (fun q => h2 ⟨q.1, q.2.1, by have : ¬ c = j := fun z => h ⟨q.1, q.2.1, z⟩; omega⟩)]
section
variable {p : Program} {l : Launch} {e : Env} {R : Room} {s : State} {m : MethodId} {args : Array Value} {below : List Frame} {meth : Method} {c : Code} {D : va_G} {t6 : Nat → ClassId} {b n nL : Nat} {Q : State → Prop} {M : Mem} {pc : Nat} {L : List (Option Value)} {st : List Value}
/-- a loop that counts up: the memory and the locals at its head, by the count -/
theorem sr_loop (len : Nat) (Mf : Nat → Mem) (Lf : Nat → List (Option Value)) (I : Nat → Prop) (j0 : Nat) (hj : j0 ≤ len) (hI : I j0) (hM : M = Mf j0) (hL : L = Lf j0)
    (step : ∀ j, j0 ≤ j → j < len → I j → (I (j + 1) → St p l e R s m args below meth c D t6 b n nL Q (Mf (j + 1)) pc (Lf (j + 1)) st) → St p l e R s m args below meth c D t6 b n nL Q (Mf j) pc (Lf j) st)
    (exit : I len → St p l e R s m args below meth c D t6 b n nL Q (Mf len) pc (Lf len) st) : St p l e R s m args below meth c D t6 b n nL Q M pc L st := by
  have key : ∀ (k j : Nat), len - j < k → j0 ≤ j → j ≤ len → I j → St p l e R s m args below meth c D t6 b n nL Q (Mf j) pc (Lf j) st := by
    intro k
    induction k with
    | zero => intro j h; omega
    | succ k ih =>
      intro j h h0 h1 hj2
      by_cases hlt : j < len
      · exact step j h0 hlt hj2 (fun h3 => ih (j + 1) (by omega) (by omega) hlt h3)
      · have : j = len := by omega
        subst this
        exact exit hj2
  subst hM; subst hL
  exact key (len - j0 + 1) j0 (by omega) (Nat.le_refl _) hj hI
def f_Ma_max (x y : Int32) : Int32 := if x < y then y else x
theorem sr_max {cc : ByteArray} {own : String} {ret : Option FieldType} {pc2 : Nat} (G : cx p s m meth c cc nL own ret D t6) {x y : Int32} {index : Nat} (hlk : Cond.methodLink own index y_Ma_max ∈ lw_tbl) (hfr : 1 ≤ R.frames) (hlo : (st.map fun v => v.category).sum + 13 ≤ R.locals) (hd : dc cc pc (.invokestatic index) 3 pc2) (k : St p l e R s m args below meth c D t6 b n nL Q M pc2 L (.int (f_Ma_max x y) :: st)) : St p l e R s m args below meth c D t6 b n nL Q M pc L (.int y :: .int x :: st) := by
  intro H locs ls hw hS hl
  obtain ⟨hx, hb, hml, hown, hr, hlk9, hk⟩ := G
  obtain ⟨hd, rfl⟩ := hd
  exact va_mmax hx hb (by rw [hml, hl.1]) hown (hk.1 _ (tb_in hlk rfl) _) (hk.1 _ (tb_in ks_Ma_max rfl) _) (hk.1 _ (tb_in kn_Ma rfl) _) (hk.1 _ (tb_in kc_Ma_max rfl) _) hfr hlo (Nat.zero_le _) (Nat.zero_le _) hd (k H locs ls hw hS hl)
theorem sr_dropL (i : Nat) (k : St p l e R s m args below meth c D t6 b n nL Q M pc (L.set i none) st) : St p l e R s m args below meth c D t6 b n nL Q M pc L st := by
  intro H locs ls hw hS hl
  refine k H locs ls hw hS ⟨hl.1, hl.2.1, fun q v hq => hl.2.2 q v ?_⟩
  by_cases e : q = i
  · subst e
    by_cases hlt : q < L.length
    · rw [List.getElem?_set_self hlt] at hq; cases hq
    · rw [List.getElem?_eq_none (by rw [List.length_set]; omega)] at hq; cases hq
  · rwa [List.getElem?_set_ne (Ne.symm e)] at hq
theorem sr_eqM {M2 : Mem} (h : M = M2) (k : St p l e R s m args below meth c D t6 b n nL Q M2 pc L st) : St p l e R s m args below meth c D t6 b n nL Q M pc L st := h ▸ k
theorem sr_eqL {L2 : List (Option Value)} (h : L = L2) (k : St p l e R s m args below meth c D t6 b n nL Q M pc L2 st) : St p l e R s m args below meth c D t6 b n nL Q M pc L st := h ▸ k
theorem sr_eqT {x y : Int32} (h : x = y) (k : St p l e R s m args below meth c D t6 b n nL Q M pc L (.int y :: st)) : St p l e R s m args below meth c D t6 b n nL Q M pc L (.int x :: st) := h ▸ k
end
set_option maxHeartbeats 4000000 in
set_option maxRecDepth 100000 in
theorem c_Ar_fill {l : Launch} {D : va_G} {t6 : Nat → ClassId} {b n : Nat} {M : Mem} {kd i len : Nat} {v : Int32} (hv : vv n kd i) (hc : ∀ mm : Nat → Int32, cm_ t6 b kd i mm = .inl (t6 0, len, .inl mm)) (hlen : len < 2 ^ 31) : CV l D t6 b n y_Ar_fill cd_Ar_fill 4 (rk 0 0) [.ref (ad b kd i), .int v] M (fl_ M kd i len v) := by
  refine en_v (by decide) (by simp [Value.category]) (Nat.le_of_ble_eq_true rfl) (fun p e s m below meth c G => ?_)
  refine sr_iconst G (v := nI 0) (by decide) d_Ar_fill_0 ?_
  refine sr_istore_n G (by decide) d_Ar_fill_1 ?_
  refine sr_aload_n G rfl d_Ar_fill_2 ?_
  refine sr_alen G (tx := 0) hv (hc _) rfl (v := nI len) rfl d_Ar_fill_3 ?_
  refine sr_istore_n G (by decide) d_Ar_fill_4 ?_
  refine sr_loop len (fun j => fl_ M kd i j v) (fun j => [some (.ref (ad b kd i)), some (.int v), some (.int (nI j)), some (.int (nI len))]) (fun _ => True) 0 (Nat.zero_le _) trivial (fl_0 M kd i v) rfl (fun j _ hj _ ih => ?_) (fun _ => ?_)
  · refine sr_iload_n G rfl d_Ar_fill_5 ?_
    refine sr_iload_n G rfl d_Ar_fill_6 ?_
    refine sr_icmp_ge G 20 d_Ar_fill_7 rfl (fun h => absurd h (nI_ge hj hlen)) (fun _ => ?_)
    refine sr_aload_n G rfl d_Ar_fill_10 ?_
    refine sr_iload_n G rfl d_Ar_fill_11 ?_
    refine sr_iload_n G rfl d_Ar_fill_12 ?_
    refine sr_iast G hv hc (vp_in_nI hj hlen) d_Ar_fill_13 ?_
    refine sr_iinc G (v := nI (j + 1)) rfl (nI_1 j) (by decide) d_Ar_fill_14 ?_
    refine sr_goto G 5 d_Ar_fill_17 rfl ?_
    refine sr_eqM ?_ (ih trivial)
    rw [nI_clamp (by omega)]
    exact fl_s M kd i j v
  · refine sr_iload_n G rfl d_Ar_fill_5 ?_
    refine sr_iload_n G rfl d_Ar_fill_6 ?_
    refine sr_icmp_ge G 20 d_Ar_fill_7 rfl (fun _ => ?_) (fun h => absurd (nI_le (Nat.le_refl len) hlen) h)
    exact sr_vret G d_Ar_fill_20 rfl
