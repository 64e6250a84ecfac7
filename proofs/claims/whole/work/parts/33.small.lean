/-! the small constructors -/
def rg (f lo c n : Nat) : Room := { frames := f, cells := c, slots := n, locals := lo }
section
variable {p : Program} {l : Launch} {e : Env} {R : Room} {s : State} {m : MethodId} {args : Array Value} {below : List Frame} {meth : Method} {c : Code} {D : va_G} {t6 : Nat → ClassId} {b nL : Nat} {Q : State → Prop} {cs sl : Nat} {es : List va_E} {pc pc2 : Nat} {L : List (Option Value)} {st : List Value} {cc : ByteArray} {own : String} {ret : Option FieldType}
theorem sg_newi (G : cx p s m meth c cc nL own ret D t6) (hz : s.heap.size + cs = b + es.length) (hne : es = [] → cs = 0) {n : Int32} {N : Nat} (hn : ¬ n < 0) (hN : n.toNatClampNeg = N) (hbytes : N * 4 ≤ 536870912) (hcells : cs + 1 ≤ R.cells) (hslots : sl + N ≤ R.slots) (hd : dc cc pc (.newarray .int) 2 pc2) (k : Sg p l e R s m args below meth c D b nL Q (cs + 1) (sl + N) (es ++ [.inl (t6 0, N, .inl (fun _ => 0))]) pc2 L (.ref (b + es.length) :: st)) : Sg p l e R s m args below meth c D b nL Q cs sl es pc L (.int n :: st) :=
  sg_newa (tx := 0) (atype := .int) G hz hne ka_int rfl rfl rfl (fun U cA h => h) hn hN hbytes hcells hslots hd k
theorem sg_newz (G : cx p s m meth c cc nL own ret D t6) (hz : s.heap.size + cs = b + es.length) (hne : es = [] → cs = 0) {n : Int32} {N : Nat} (hn : ¬ n < 0) (hN : n.toNatClampNeg = N) (hbytes : N * 1 ≤ 536870912) (hcells : cs + 1 ≤ R.cells) (hslots : sl + N ≤ R.slots) (hd : dc cc pc (.newarray .boolean) 2 pc2) (k : Sg p l e R s m args below meth c D b nL Q (cs + 1) (sl + N) (es ++ [.inl (t6 1, N, .inl (fun _ => 0))]) pc2 L (.ref (b + es.length) :: st)) : Sg p l e R s m args below meth c D b nL Q cs sl es pc L (.int n :: st) :=
  sg_newa (tx := 1) (atype := .boolean) G hz hne ka_boolean rfl rfl rfl (fun U cA h => h) hn hN hbytes hcells hslots hd k
end
abbrev za_ (t6 : Nat → ClassId) (n : Nat) : va_E := .inl (t6 0, n, .inl (fun _ => 0))
abbrev zb_ (t6 : Nat → ClassId) (n : Nat) : va_E := .inl (t6 1, n, .inl (fun _ => 0))
abbrev zq_ (t6 : Nat → ClassId) (k n : Nat) (f : Nat → Option Nat) : va_E := .inl (t6 k, n, .inr (.inr (.inr (.inr f))))
abbrev oEn (u v : Value) : va_E := .inr (2, [u, v, .int 0, .int 0, .int 0, .int 0, .int 0, .int 0])
abbrev oCl (u : Value) : va_E := .inr (1, [u, .int 0, .int 0, .int 0])
abbrev oLe (u v : Value) : va_E := .inr (3, [u, v, .int 0])
abbrev oCh (u : Value) : va_E := .inr (0, [u, .int 0, .int 0])
abbrev oMe : va_E := .inr (4, [.int 0, .int 0, .int 0, .int 0, .int 0, .int 0, .int 0, .int 0, .int 0, .int 0, .int 0, .int 0, .int 0, .int 0])
def wEn (t6 : Nat → ClassId) (b : Nat) : List va_E := [oEn (.ref (b + 1)) (.ref (b + 2)), za_ t6 5, za_ t6 4]
def wCl (t6 : Nat → ClassId) (b : Nat) : List va_E := [oCl (.ref (b + 1)), za_ t6 201]
def wLe (t6 : Nat → ClassId) (b : Nat) : List va_E := [oLe (.ref (b + 1)) (.ref (b + 2)), za_ t6 4, oCl (.ref (b + 3)), za_ t6 201]
def wCh (t6 : Nat → ClassId) (b : Nat) : List va_E := [oCh (.ref (b + 1)), zq_ t6 5 2 (va_up (va_up (fun _ => none) 0 (some (b + 2))) 1 (some (b + 5))), oEn (.ref (b + 3)) (.ref (b + 4)), za_ t6 5, za_ t6 4, oEn (.ref (b + 6)) (.ref (b + 7)), za_ t6 5, za_ t6 4]

theorem df_Ch : ∀ j, j < 3 → defaultValue (t_Ch j) = vp_V [.null, .int 0, .int 0] j := by
  intro j hj
  rcases (show j = 0 ∨ j = 1 ∨ j = 2 by omega) with rfl | rfl | rfl <;> rfl
theorem df_Cl : ∀ j, j < 4 → defaultValue (t_Cl j) = vp_V [.null, .int 0, .int 0, .int 0] j := by
  intro j hj
  rcases (show j = 0 ∨ j = 1 ∨ j = 2 ∨ j = 3 by omega) with rfl | rfl | rfl | rfl <;> rfl
theorem df_En : ∀ j, j < 8 → defaultValue (t_En j) = vp_V [.null, .null, .int 0, .int 0, .int 0, .int 0, .int 0, .int 0] j := by
  intro j hj
  rcases (show j = 0 ∨ j = 1 ∨ j = 2 ∨ j = 3 ∨ j = 4 ∨ j = 5 ∨ j = 6 ∨ j = 7 by omega) with rfl | rfl | rfl | rfl | rfl | rfl | rfl | rfl <;> rfl
theorem df_Le : ∀ j, j < 3 → defaultValue (t_Le j) = vp_V [.null, .null, .int 0] j := by
  intro j hj
  rcases (show j = 0 ∨ j = 1 ∨ j = 2 by omega) with rfl | rfl | rfl <;> rfl
theorem df_Me : ∀ j, j < 14 → defaultValue (t_Me j) = vp_V [.int 0, .int 0, .int 0, .int 0, .int 0, .int 0, .int 0, .int 0, .int 0, .int 0, .int 0, .int 0, .int 0, .int 0] j := by
  intro j hj
  rcases (show j = 0 ∨ j = 1 ∨ j = 2 ∨ j = 3 ∨ j = 4 ∨ j = 5 ∨ j = 6 ∨ j = 7 ∨ j = 8 ∨ j = 9 ∨ j = 10 ∨ j = 11 ∨ j = 12 ∨ j = 13 by omega) with rfl | rfl | rfl | rfl | rfl | rfl | rfl | rfl | rfl | rfl | rfl | rfl | rfl | rfl <;> rfl
theorem c_En_new {l : Launch} {D : va_G} {t6 : Nat → ClassId} {b : Nat} : CZ l D t6 y_En_new cd_En_new 1 (rg 1 12 2 9) b [oEn .null .null] (wEn t6 b) := by
  refine en_z (by decide) rfl (by decide) ?_
  intro p e s m below meth c G hn hz
  refine sg_aload_n G (i := 0) (x := b) rfl d_En_new_0 ?_
  refine sg_obj G km_En_3 (by decide) (by decide) d_En_new_1 ?_
  refine sg_aload_n G (i := 0) (x := b) rfl d_En_new_4 ?_
  refine sg_iconst G (v := 5) (by decide) d_En_new_5 ?_
  refine sg_newi G (N := 5) (by rw [hz]; rfl) (fun h => by cases h) (by decide) (by decide) (by decide) (by decide) (by decide) d_En_new_6 ?_
  refine sg_putF G hn (k0 := 0) (ci := 2) (C := R_En) (T := F_En) (N := 8) rfl ku_En t_En ty_En nm_En rfl 0 (by decide) kf_En_9 rfl rfl rfl (ty := (.array .int)) (ty_En 0 (by decide)) rfl rfl (Nat.le_of_ble_eq_true rfl) d_En_new_8 (x := b) rfl ?_
  refine sg_aload_n G (i := 0) (x := b) rfl d_En_new_11 ?_
  refine sg_iconst G (v := 4) (by decide) d_En_new_12 ?_
  refine sg_newi G (N := 4) (by rw [hz]; rfl) (fun h => by cases h) (by decide) (by decide) (by decide) (by decide) (by decide) d_En_new_13 ?_
  refine sg_putF G hn (k0 := 0) (ci := 2) (C := R_En) (T := F_En) (N := 8) rfl ku_En t_En ty_En nm_En rfl 1 (by decide) kf_En_15 rfl rfl rfl (ty := (.array .int)) (ty_En 1 (by decide)) rfl rfl (Nat.le_of_ble_eq_true rfl) d_En_new_15 (x := b) rfl ?_
  exact sg_ret G d_En_new_18 rfl
theorem c_Cl_new {l : Launch} {D : va_G} {t6 : Nat → ClassId} {b : Nat} : CZ l D t6 y_Cl_new cd_Cl_new 1 (rg 1 12 1 201) b [oCl .null] (wCl t6 b) := by
  refine en_z (by decide) rfl (by decide) ?_
  intro p e s m below meth c G hn hz
  refine sg_aload_n G (i := 0) (x := b) rfl d_Cl_new_0 ?_
  refine sg_obj G km_Cl_3 (by decide) (by decide) d_Cl_new_1 ?_
  refine sg_aload_n G (i := 0) (x := b) rfl d_Cl_new_4 ?_
  refine sg_sipush G (v := 201) (by decide) d_Cl_new_5 ?_
  refine sg_newi G (N := 201) (by rw [hz]; rfl) (fun h => by cases h) (by decide) (by decide) (by decide) (by decide) (by decide) d_Cl_new_8 ?_
  refine sg_putF G hn (k0 := 0) (ci := 1) (C := R_Cl) (T := F_Cl) (N := 4) rfl ku_Cl t_Cl ty_Cl nm_Cl rfl 0 (by decide) kf_Cl_9 rfl rfl rfl (ty := (.array .int)) (ty_Cl 0 (by decide)) rfl rfl (Nat.le_of_ble_eq_true rfl) d_Cl_new_10 (x := b) rfl ?_
  exact sg_ret G d_Cl_new_13 rfl
theorem c_Le_new {l : Launch} {D : va_G} {t6 : Nat → ClassId} {b : Nat} : CZ l D t6 y_Le_new cd_Le_new 1 (rg 2 32 3 209) b [oLe .null .null] (wLe t6 b) := by
  refine en_z (by decide) rfl (by decide) ?_
  intro p e s m below meth c G hn hz
  refine sg_aload_n G (i := 0) (x := b) rfl d_Le_new_0 ?_
  refine sg_obj G km_Le_3 (by decide) (by decide) d_Le_new_1 ?_
  refine sg_aload_n G (i := 0) (x := b) rfl d_Le_new_4 ?_
  refine sg_iconst G (v := 4) (by decide) d_Le_new_5 ?_
  refine sg_newi G (N := 4) (by rw [hz]; rfl) (fun h => by cases h) (by decide) (by decide) (by decide) (by decide) (by decide) d_Le_new_6 ?_
  refine sg_putF G hn (k0 := 0) (ci := 3) (C := R_Le) (T := F_Le) (N := 3) rfl ku_Le t_Le ty_Le nm_Le rfl 0 (by decide) kf_Le_9 rfl rfl rfl (ty := (.array .int)) (ty_Le 0 (by decide)) rfl rfl (Nat.le_of_ble_eq_true rfl) d_Le_new_8 (x := b) rfl ?_
  refine sg_aload_n G (i := 0) (x := b) rfl d_Le_new_11 ?_
  refine sg_new G (by rw [hz]; rfl) (fun h => by cases h) (ci := 1) (C := R_Cl) (T := F_Cl) (N := 4) (fs := [.null, .int 0, .int 0, .int 0]) ku_Cl t_Cl ty_Cl kl_Le_15 kt_Cl kn_Cl rfl df_Cl (by decide) (by decide) d_Le_new_12 ?_
  refine sg_dup G rfl d_Le_new_15 ?_
  refine sg_callN G (by rw [hz]; rfl) (fun h => by cases h) (pre := [oLe (.ref (b + 1)) .null, za_ t6 4]) (tl := [oCl .null]) (tl2 := wCl t6 (b + 2)) (x := b + 2) rfl rfl c_Cl_new kc_Cl_new km_Le_17 kn_Cl ki_Cl_new rfl (by decide) (by decide) (by decide) (Nat.le_of_ble_eq_true rfl) d_Le_new_16 ?_
  refine sg_putF G hn (k0 := 0) (ci := 3) (C := R_Le) (T := F_Le) (N := 3) rfl ku_Le t_Le ty_Le nm_Le rfl 1 (by decide) kf_Le_18 rfl rfl rfl (ty := (.object R_Cl)) (ty_Le 1 (by decide)) rfl rfl (Nat.le_of_ble_eq_true rfl) d_Le_new_19 (x := b) rfl ?_
  exact sg_ret G d_Le_new_22 rfl
theorem c_Ch_new {l : Launch} {D : va_G} {t6 : Nat → ClassId} {b : Nat} : CZ l D t6 y_Ch_new cd_Ch_new 1 (rg 2 32 7 36) b [oCh .null] (wCh t6 b) := by
  refine en_z (by decide) rfl (by decide) ?_
  intro p e s m below meth c G hn hz
  refine sg_aload_n G (i := 0) (x := b) rfl d_Ch_new_0 ?_
  refine sg_obj G km_Ch_1 (by decide) (by decide) d_Ch_new_1 ?_
  refine sg_aload_n G (i := 0) (x := b) rfl d_Ch_new_4 ?_
  refine sg_iconst G (v := 2) (by decide) d_Ch_new_5 ?_
  refine sg_newq G (by rw [hz]; rfl) (fun h => by cases h) (tx := 5) (C := R_En) (N := 2) kl_Ch_7 ko_En rfl (by decide) (by decide) (by decide) (by decide) (by decide) d_Ch_new_6 ?_
  refine sg_dup G rfl d_Ch_new_9 ?_
  refine sg_iconst G (v := 0) (by decide) d_Ch_new_10 ?_
  refine sg_new G (by rw [hz]; rfl) (fun h => by cases h) (ci := 2) (C := R_En) (T := F_En) (N := 8) (fs := [.null, .null, .int 0, .int 0, .int 0, .int 0, .int 0, .int 0]) ku_En t_En ty_En kl_Ch_7 kt_En kn_En rfl df_En (by decide) (by decide) d_Ch_new_11 ?_
  refine sg_dup G rfl d_Ch_new_14 ?_
  refine sg_callN G (by rw [hz]; rfl) (fun h => by cases h) (pre := [oCh .null, zq_ t6 5 2 (fun _ => none)]) (tl := [oEn .null .null]) (tl2 := wEn t6 (b + 2)) (x := b + 2) rfl rfl c_En_new kc_En_new km_Ch_9 kn_En ki_En_new rfl (by decide) (by decide) (by decide) (Nat.le_of_ble_eq_true rfl) d_Ch_new_15 ?_
  refine sg_aast G (k0 := 1) (k1 := 2) (ci := 2) (tx := 5) (i2 := 0) (r := (R_En, F_En, 8)) rfl rfl rfl rfl (by unfold vp_in; decide) (by decide) d_Ch_new_18 rfl rfl ?_
  refine sg_dup G rfl d_Ch_new_19 ?_
  refine sg_iconst G (v := 1) (by decide) d_Ch_new_20 ?_
  refine sg_new G (by rw [hz]; rfl) (fun h => by cases h) (ci := 2) (C := R_En) (T := F_En) (N := 8) (fs := [.null, .null, .int 0, .int 0, .int 0, .int 0, .int 0, .int 0]) ku_En t_En ty_En kl_Ch_7 kt_En kn_En rfl df_En (by decide) (by decide) d_Ch_new_21 ?_
  refine sg_dup G rfl d_Ch_new_24 ?_
  refine sg_callN G (by rw [hz]; rfl) (fun h => by cases h) (pre := [oCh .null, zq_ t6 5 2 (va_up (fun _ => none) 0 (some (b + 2))), oEn (.ref (b + 2 + 1)) (.ref (b + 2 + 2)), za_ t6 5, za_ t6 4]) (tl := [oEn .null .null]) (tl2 := wEn t6 (b + 5)) (x := b + 5) rfl rfl c_En_new kc_En_new km_Ch_9 kn_En ki_En_new rfl (by decide) (by decide) (by decide) (Nat.le_of_ble_eq_true rfl) d_Ch_new_25 ?_
  refine sg_aast G (k0 := 1) (k1 := 5) (ci := 2) (tx := 5) (i2 := 1) (r := (R_En, F_En, 8)) rfl rfl rfl rfl (by unfold vp_in; decide) (by decide) d_Ch_new_28 rfl rfl ?_
  refine sg_putF G hn (k0 := 0) (ci := 0) (C := R_Ch) (T := F_Ch) (N := 3) rfl ku_Ch t_Ch ty_Ch nm_Ch rfl 0 (by decide) kf_Ch_10 rfl rfl rfl (ty := (.array (.object R_En))) (ty_Ch 0 (by decide)) rfl rfl (Nat.le_of_ble_eq_true rfl) d_Ch_new_29 (x := b) rfl ?_
  exact sg_ret G d_Ch_new_32 rfl
theorem c_Me_new {l : Launch} {D : va_G} {t6 : Nat → ClassId} {b : Nat} : CZ l D t6 y_Me_new cd_Me_new 1 (rg 1 12 0 0) b [oMe] [oMe] := by
  refine en_z (by decide) rfl (by decide) ?_
  intro p e s m below meth c G hn hz
  refine sg_aload_n G (i := 0) (x := b) rfl d_Me_new_0 ?_
  refine sg_obj G km_Me_3 (by decide) (by decide) d_Me_new_1 ?_
  exact sg_ret G d_Me_new_4 rfl
