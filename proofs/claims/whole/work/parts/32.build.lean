/-! worlds that grow: cells one behind another from b on -/
def zw (b : Nat) (es : List va_E) : va_W := (es.zipIdx b).map (fun q => (q.2, q.1))
theorem zw_get (b : Nat) (es : List va_E) (k : Nat) : (zw b es)[k]? = es[k]?.map (fun x => (b + k, x)) := by
  unfold zw
  rw [List.getElem?_map, List.getElem?_zipIdx, Option.map_map]
  rfl
theorem zw_app (b : Nat) (es fs : List va_E) : zw b (es ++ fs) = zw b es ++ zw (b + es.length) fs := by
  unfold zw
  rw [List.zipIdx_append, List.map_append]
theorem zw_one (b : Nat) (x : va_E) : zw b [x] = [(b, x)] := rfl
theorem zw_len (b : Nat) (es : List va_E) : (zw b es).length = es.length := by
  unfold zw
  rw [List.length_map, List.length_zipIdx]
theorem zw_set (b : Nat) (es : List va_E) (k : Nat) (x : va_E) : zw b (es.set k x) = (zw b es).set k (b + k, x) := by
  refine List.ext_getElem? (fun i => ?_)
  rw [zw_get, List.getElem?_set, List.getElem?_set, zw_get, zw_len]
  by_cases h : k = i
  · subst h
    rw [if_pos rfl, if_pos rfl]
    split <;> rfl
  · rw [if_neg h, if_neg h]
theorem zw_D (b : Nat) (es : List va_E) : va_D (fun q => b ≤ q) (zw b es) := by
  have key : ∀ (k : Nat) (q : Nat × va_E), (zw b es)[k]? = some q → q.1 = b + k := by
    intro k q hk
    rw [zw_get] at hk
    cases hr : es[k]? with
    | none => rw [hr] at hk; cases hk
    | some z => rw [hr] at hk; cases hk; rfl
  refine ⟨fun i j p q hi hj e => ?_, fun k q hk => ?_⟩
  · have := key i p hi
    have := key j q hj
    omega
  · have := key k q hk
    show b ≤ q.1
    omega
theorem zw_at {b k : Nat} {es : List va_E} {x : va_E} (h : es[k]? = some x) : (zw b es)[k]? = some (b + k, x) := by
  rw [zw_get, h]
  rfl
def Sg (p : Program) (l : Launch) (e : Env) (R : Room) (s : State) (m : MethodId) (args : Array Value) (below : List Frame) (meth : Method) (c : Code) (D : va_G) (b nL : Nat) (Q : State → Prop) (cs sl : Nat) (es : List va_E) (pc : Nat) (L : List (Option Value)) (st : List Value) : Prop :=
  ∀ (H : Heap) (locs : List Loc) (ls : Array Slot), va_P D classes (zw b es) H → va_S (fun q => b ≤ q) s.heap H locs → hs ls nL L → W p l e R s m args below meth c H locs cs sl Q (F0 m pc ls st)
theorem w_size {p : Program} {l : Launch} {e : Env} {R : Room} {s : State} {m : MethodId} {args : Array Value} {below : List Frame} {meth : Method} {c : Code} {H : Heap} {locs : List Loc} {cells slots : Nat} {Q : State → Prop} {g : JFrame} (k : H.size ≤ s.heap.size + cells → W p l e R s m args below meth c H locs cells slots Q g) : W p l e R s m args below meth c H locs cells slots Q g :=
  fun T hT X => k (by have := X.same.2.2.1; rw [← hT]; exact this) T hT X
theorem zw_size {D : va_G} {b : Nat} {es : List va_E} {H H0 : Heap} {locs : List Loc} {cs : Nat} (hP : va_P D classes (zw b es) H) (hS : va_S (fun q => b ≤ q) H0 H locs) (h1 : H.size ≤ H0.size + cs) (hz : H0.size + cs = b + es.length) (hne : es = [] → cs = 0) : H.size = b + es.length := by
  by_cases he : es = []
  · have := hne he
    have := hS.1
    omega
  · have hl : 0 < es.length := List.length_pos_iff.mpr he
    have hx : es[es.length - 1]? = some (es[es.length - 1]'(by omega)) := List.getElem?_eq_getElem (by omega)
    have hb : b + (es.length - 1) < H.size := (hP _ _ (zw_at hx)).lt
    omega
theorem kc_Ob : Cond.code Lib.objectInit ⟨#[0xb1]⟩ 1 none ∈ lw_tbl := kc_Ob_new
theorem ki_Ob : Cond.instanceMethod Lib.objectInit ∈ lw_tbl := ki_Ob_new
section
variable {p : Program} {l : Launch} {e : Env} {R : Room} {s : State} {m : MethodId} {args : Array Value} {below : List Frame} {meth : Method} {c : Code} {D : va_G} {t6 : Nat → ClassId} {b nL : Nat} {Q : State → Prop} {cs sl : Nat} {es : List va_E} {pc pc2 : Nat} {L : List (Option Value)} {st : List Value} {cc : ByteArray} {own : String} {ret : Option FieldType}
theorem sg_iconst (G : cx p s m meth c cc nL own ret D t6) {z : Int} {v : Int32} (hv : Int32.ofInt z = v) (hd : dc cc pc (.iconst z) 1 pc2) (k : Sg p l e R s m args below meth c D b nL Q cs sl es pc2 L (.int v :: st)) : Sg p l e R s m args below meth c D b nL Q cs sl es pc L st := by
  intro H locs ls hP hS hl
  obtain ⟨hx, hb, hml, hown, hr, hlk, hk⟩ := G
  obtain ⟨hd, rfl⟩ := hd
  exact lv_iconst hx hb hd hv (k H locs ls hP hS hl)
theorem sg_bipush (G : cx p s m meth c cc nL own ret D t6) {z : Int} {v : Int32} (hv : (Int8.ofInt z).toInt32 = v) (hd : dc cc pc (.bipush z) 2 pc2) (k : Sg p l e R s m args below meth c D b nL Q cs sl es pc2 L (.int v :: st)) : Sg p l e R s m args below meth c D b nL Q cs sl es pc L st := by
  intro H locs ls hP hS hl
  obtain ⟨hx, hb, hml, hown, hr, hlk, hk⟩ := G
  obtain ⟨hd, rfl⟩ := hd
  exact lv_bipush hx hb hd hv (k H locs ls hP hS hl)
theorem sg_sipush (G : cx p s m meth c cc nL own ret D t6) {z : Int} {v : Int32} (hv : (Int16.ofInt z).toInt32 = v) (hd : dc cc pc (.sipush z) 3 pc2) (k : Sg p l e R s m args below meth c D b nL Q cs sl es pc2 L (.int v :: st)) : Sg p l e R s m args below meth c D b nL Q cs sl es pc L st := by
  intro H locs ls hP hS hl
  obtain ⟨hx, hb, hml, hown, hr, hlk, hk⟩ := G
  obtain ⟨hd, rfl⟩ := hd
  exact lv_sipush hx hb hd hv (k H locs ls hP hS hl)
theorem sg_iload_n (G : cx p s m meth c cc nL own ret D t6) {i : Fin 4} {x : Int32} (hi : L[(i : Nat)]? = some (some (.int x))) (hd : dc cc pc (.iload_n i) 1 pc2) (k : Sg p l e R s m args below meth c D b nL Q cs sl es pc2 L (.int x :: st)) : Sg p l e R s m args below meth c D b nL Q cs sl es pc L st := by
  intro H locs ls hP hS hl
  obtain ⟨hx, hb, hml, hown, hr, hlk, hk⟩ := G
  obtain ⟨hd, rfl⟩ := hd
  exact lv_iload_n hx hb hd rfl (hl.2.2 _ _ hi).2 (k H locs ls hP hS hl)
theorem sg_aload_n (G : cx p s m meth c cc nL own ret D t6) {i : Fin 4} {x : Nat} (hi : L[(i : Nat)]? = some (some (.ref x))) (hd : dc cc pc (.aload_n i) 1 pc2) (k : Sg p l e R s m args below meth c D b nL Q cs sl es pc2 L (.ref x :: st)) : Sg p l e R s m args below meth c D b nL Q cs sl es pc L st := by
  intro H locs ls hP hS hl
  obtain ⟨hx, hb, hml, hown, hr, hlk, hk⟩ := G
  obtain ⟨hd, rfl⟩ := hd
  exact lv_aload_n hx hb hd rfl (hl.2.2 _ _ hi).2 (k H locs ls hP hS hl)
theorem sg_istore_n (G : cx p s m meth c cc nL own ret D t6) {i : Fin 4} {x : Int32} (hn : (i : Nat) < nL) (hd : dc cc pc (.istore_n i) 1 pc2) (k : Sg p l e R s m args below meth c D b nL Q cs sl es pc2 (L.set (i : Nat) (some (.int x))) st) : Sg p l e R s m args below meth c D b nL Q cs sl es pc L (.int x :: st) := by
  intro H locs ls hP hS hl
  obtain ⟨hx, hb, hml, hown, hr, hlk, hk⟩ := G
  obtain ⟨hd, rfl⟩ := hd
  exact lv_istore_n hx hb hd rfl (hs_to hl) hn rfl (fun ls2 h2 => k H locs ls2 hP hS (hs_store hl rfl h2))
theorem sg_astore_n (G : cx p s m meth c cc nL own ret D t6) {i : Fin 4} {x : Nat} (hn : (i : Nat) < nL) (hd : dc cc pc (.astore_n i) 1 pc2) (k : Sg p l e R s m args below meth c D b nL Q cs sl es pc2 (L.set (i : Nat) (some (.ref x))) st) : Sg p l e R s m args below meth c D b nL Q cs sl es pc L (.ref x :: st) := by
  intro H locs ls hP hS hl
  obtain ⟨hx, hb, hml, hown, hr, hlk, hk⟩ := G
  obtain ⟨hd, rfl⟩ := hd
  exact lv_astore_n hx hb hd rfl (hs_to hl) hn rfl (fun ls2 h2 => k H locs ls2 hP hS (hs_store hl rfl h2))
theorem sg_iinc (G : cx p s m meth c cc nL own ret D t6) {i : Nat} {z : Int} {x v : Int32} (hi : L[i]? = some (some (.int x))) (hv : x + Int32.ofInt z = v) (hn : i < nL) (hd : dc cc pc (.iinc i z) 3 pc2) (k : Sg p l e R s m args below meth c D b nL Q cs sl es pc2 (L.set i (some (.int v))) st) : Sg p l e R s m args below meth c D b nL Q cs sl es pc L st := by
  intro H locs ls hP hS hl
  obtain ⟨hx, hb, hml, hown, hr, hlk, hk⟩ := G
  obtain ⟨hd, rfl⟩ := hd
  obtain ⟨k9, hk9⟩ := List.getElem?_of_mem (lf_in hi)
  exact lv_iinc hx hb hd (hs_to hl) hk9 hv hn rfl (fun ls2 h2 => k H locs ls2 hP hS (hs_store hl rfl h2))
theorem sg_dup (G : cx p s m meth c cc nL own ret D t6) {va : Value} (hva : va.category = 1) (hd : dc cc pc (.dup) 1 pc2) (k : Sg p l e R s m args below meth c D b nL Q cs sl es pc2 L (va :: va :: st)) : Sg p l e R s m args below meth c D b nL Q cs sl es pc L (va :: st) := by
  intro H locs ls hP hS hl
  obtain ⟨hx, hb, hml, hown, hr, hlk, hk⟩ := G
  obtain ⟨hd, rfl⟩ := hd
  exact lv_dup hx hb hd hva (k H locs ls hP hS hl)
theorem sg_icmp_ge (G : cx p s m meth c cc nL own ret D t6) {x y : Int32} {off : Int} (tgt : Nat) (hd : dc cc pc (.if_icmp .ge off) 3 pc2) (ht : (pc : Int) + off = (tgt : Int)) (kt : y ≤ x → Sg p l e R s m args below meth c D b nL Q cs sl es tgt L st) (kf : ¬ y ≤ x → Sg p l e R s m args below meth c D b nL Q cs sl es pc2 L st) : Sg p l e R s m args below meth c D b nL Q cs sl es pc L (.int y :: .int x :: st) := by
  intro H locs ls hP hS hl
  obtain ⟨hx, hb, hml, hown, hr, hlk, hk⟩ := G
  obtain ⟨hd, rfl⟩ := hd
  exact lv_icmp_ge hx hb hd ht (fun h => kt h H locs ls hP hS hl) (fun h => kf h H locs ls hP hS hl)
theorem sg_goto (G : cx p s m meth c cc nL own ret D t6) {off : Int} (tgt : Nat) (hd : dc cc pc (.goto off) 3 pc2) (ht : (pc : Int) + off = (tgt : Int)) (k : Sg p l e R s m args below meth c D b nL Q cs sl es tgt L st) : Sg p l e R s m args below meth c D b nL Q cs sl es pc L st := by
  intro H locs ls hP hS hl
  obtain ⟨hx, hb, hml, hown, hr, hlk, hk⟩ := G
  obtain ⟨hd, rfl⟩ := hd
  exact lv_goto hx hb hd ht (k H locs ls hP hS hl)
theorem sg_obj (G : cx p s m meth c cc nL own ret D t6) {x idx : Nat} (hlkk : Cond.methodLink own idx Lib.objectInit ∈ lw_tbl) (hf : 1 ≤ R.frames) (hlo : (st.map fun v => v.category).sum + 12 ≤ R.locals) (hd : dc cc pc (.invokespecial idx) 3 pc2) (k : Sg p l e R s m args below meth c D b nL Q cs sl es pc2 L st) : Sg p l e R s m args below meth c D b nL Q cs sl es pc L (.ref x :: st) := by
  intro H locs ls hP hS hl
  obtain ⟨hx, hb, hml, hown, hr, hlk, hk⟩ := G
  obtain ⟨hd, rfl⟩ := hd
  have hts : ∀ w ∈ tb_, w.before args s = true := fun w h => hk.1 w h _
  refine W.objInit hx hb hown (hts _ (tb_in hlkk rfl)) (hts _ (tb_in ki_Ob rfl)) (hts _ (tb_in kc_Ob rfl)) rfl (hl.1.trans hml.symm) rfl hd hf ?_ (k H locs ls hP hS hl)
  show 2 * 0 + _ + 12 ≤ _
  omega
theorem sg_new (G : cx p s m meth c cc nL own ret D t6) (hz : s.heap.size + cs = b + es.length) (hne : es = [] → cs = 0) {C : String} {T : u_T} {N ci index : Nat} (hu : ∀ w ∈ u_ws C T N, w ∈ lw_tbl) (ty : Nat → FieldType) (hty : ∀ k, k < N → parseFieldDescriptor (T k).2.2.1 = some (ty k)) (hcl : Cond.classLink own index C ∈ lw_tbl) (hinst : Cond.instantiable C N ∈ lw_tbl) (hini : Cond.initialized C ∈ lw_tbl) (hc : classes[ci]? = some (C, T, N)) {fs : List Value} (hfs : ∀ j, j < N → defaultValue (ty j) = vp_V fs j) (hcells : cs + 1 ≤ R.cells) (hslots : sl + N ≤ R.slots) (hd : dc cc pc (.new index) 3 pc2) (k : Sg p l e R s m args below meth c D b nL Q (cs + 1) (sl + N) (es ++ [.inr (ci, fs)]) pc2 L (.ref (b + es.length) :: st)) : Sg p l e R s m args below meth c D b nL Q cs sl es pc L st := by
  intro H locs ls hP hS hl
  obtain ⟨hx, hb, hml, hown, hr, hlk, hk⟩ := G
  obtain ⟨hd, rfl⟩ := hd
  have hts : ∀ w ∈ tb_, w.before args s = true := fun w h => hk.1 w h _
  refine w_size (fun h1 => ?_)
  have hsz := zw_size hP hS h1 hz hne
  have hKn := hk.2.1 ci _ hc
  refine W.newcK hx hb hown (hts _ (tb_in hcl rfl)) (hts _ (tb_in hinst rfl)) (hts _ (tb_in hini rfl)) rfl hd hcells hslots hKn.2.1 hsz fun H1 kC hkC e1 z1 o1 => ?_
  have hkp : ∀ (k : Nat) (x : Nat × va_E), (zw b es)[k]? = some x → H1[x.1]? = H[x.1]? := fun k x hx => o1 x.1 (by have := (hP k x hx).lt; omega)
  refine k H1 locs ls ?_ ⟨Nat.le_trans hS.1 (by omega), fun x h1 h2 => (o1 x (by have := hS.1; omega)).trans (hS.2.1 x h1 h2), hS.2.2⟩ hl
  rw [zw_app, zw_one]
  refine (hP.kept hkp).app (fun k x hx => ?_)
  have hz : k < 1 := (List.getElem?_eq_some_iff.mp hx).1
  rw [show k = 0 by omega] at hx
  cases hx
  exact ⟨_, hc, (u_born ty hts (tb_u hu) hKn hkC e1 hty).to hfs⟩
theorem sg_newa (G : cx p s m meth c cc nL own ret D t6) (hz : s.heap.size + cs = b + es.length) (hne : es = [] → cs = 0) {atype : ArrayType} {tx : Nat} (harr : Cond.arrayClass (newarray.typeOf atype) ∈ lw_tbl) (hw : wk_ (Cond.arrayClass (newarray.typeOf atype)) = true) (htx : (ty6 t6)[tx]? = some (t6 tx, newarray.typeOf atype)) (hdf : defaultValue (newarray.typeOf atype) = .int 0) (hra : ∀ (U : State) (cA : ClassId), va_RA U cA (newarray.typeOf atype) → U.vm.findClass ("[" ++ (newarray.typeOf atype).toString) = some cA) {n : Int32} {N : Nat} (hn : ¬ n < 0) (hN : n.toNatClampNeg = N) (hbytes : N * componentBytes (newarray.typeOf atype) ≤ 536870912) (hcells : cs + 1 ≤ R.cells) (hslots : sl + N ≤ R.slots) (hd : dc cc pc (.newarray atype) 2 pc2) (k : Sg p l e R s m args below meth c D b nL Q (cs + 1) (sl + N) (es ++ [.inl (t6 tx, N, .inl (fun _ => 0))]) pc2 L (.ref (b + es.length) :: st)) : Sg p l e R s m args below meth c D b nL Q cs sl es pc L (.int n :: st) := by
  intro H locs ls hP hS hl
  obtain ⟨hx, hb, hml, hown, hr, hlk, hk⟩ := G
  obtain ⟨hd, rfl⟩ := hd
  have hts : ∀ w ∈ tb_, w.before args s = true := fun w h => hk.1 w h _
  refine w_size (fun h1 => ?_)
  have hsz := zw_size hP hS h1 hz hne
  refine va_newaK hx hb (hts _ (tb_in harr hw)) rfl hd rfl hn hN hbytes hcells hslots hsz fun H1 cA e1 z1 o1 hAr hNm => ?_
  have hcA : cA = t6 tx := Option.some.inj (hNm.symm.trans (hra s _ (hk.2.2 tx _ htx).2))
  subst hcA
  have hkp : ∀ (k : Nat) (x : Nat × va_E), (zw b es)[k]? = some x → H1[x.1]? = H[x.1]? := fun k x hx => o1 x.1 (by have := (hP k x hx).lt; omega)
  refine k H1 locs ls ?_ ⟨Nat.le_trans hS.1 (by omega), fun x h1 h2 => (o1 x (by have := hS.1; omega)).trans (hS.2.1 x h1 h2), hS.2.2⟩ hl
  rw [zw_app, zw_one]
  refine (hP.kept hkp).app (fun k x hx => ?_)
  have hz : k < 1 := (List.getElem?_eq_some_iff.mp hx).1
  rw [show k = 0 by omega] at hx
  cases hx
  show H1[_]? = some (vp_cell _ _)
  rw [hdf] at e1
  rw [vp_cell_i]
  exact e1
theorem sg_newq (G : cx p s m meth c cc nL own ret D t6) (hz : s.heap.size + cs = b + es.length) (hne : es = [] → cs = 0) {C : String} {tx index : Nat} (hcl : Cond.classLink own index C ∈ lw_tbl) (hov : Cond.arrayOver (.object C) ∈ lw_tbl) (htx : (ty6 t6)[tx]? = some (t6 tx, .object C)) {n : Int32} {N : Nat} (hn : ¬ n < 0) (hN : n.toNatClampNeg = N) (hbytes : N * 4 ≤ 536870912) (hcells : cs + 1 ≤ R.cells) (hslots : sl + N ≤ R.slots) (hd : dc cc pc (.anewarray index) 3 pc2) (k : Sg p l e R s m args below meth c D b nL Q (cs + 1) (sl + N) (es ++ [.inl (t6 tx, N, .inr (.inr (.inr (.inr (fun _ => none)))))]) pc2 L (.ref (b + es.length) :: st)) : Sg p l e R s m args below meth c D b nL Q cs sl es pc L (.int n :: st) := by
  intro H locs ls hP hS hl
  obtain ⟨hx, hb, hml, hown, hr, hlk, hk⟩ := G
  obtain ⟨hd, rfl⟩ := hd
  have hts : ∀ w ∈ tb_, w.before args s = true := fun w h => hk.1 w h _
  subst hN
  refine w_size (fun h1 => ?_)
  have hsz := zw_size hP hS h1 hz hne
  refine W.anew hx hb hown (hts _ (tb_in hcl rfl)) (hts _ (tb_in hov rfl)) rfl hd rfl hn hbytes hcells hslots fun cA kA comp f1 f2 f3 f4 => ?_
  have hcA : cA = t6 tx := by
    obtain ⟨kA2, comp2, g1, g2, g3, g4⟩ := (hk.2.2 tx _ htx).2
    exact Option.some.inj (f1.symm.trans g4)
  subst hcA
  generalize hH1 : H.push ({ cls := t6 tx, slots := Array.replicate n.toNatClampNeg .null, vm := .none } : Cell) = H1
  have z1 : H1.size = H.size + 1 := by rw [← hH1, Array.size_push]
  have e1 : H1[b + es.length]? = some (arrV (t6 tx) n.toNatClampNeg (fun _ => .null)) := by rw [← hsz, ← hH1, Array.getElem?_push_size, ← arrV_new]
  have o1 : ∀ q : Nat, q < H.size → H1[q]? = H[q]? := fun q hq => by rw [← hH1, Array.getElem?_push, if_neg (Nat.ne_of_lt hq)]
  have hkp : ∀ (k : Nat) (x : Nat × va_E), (zw b es)[k]? = some x → H1[x.1]? = H[x.1]? := fun k x hx => o1 x.1 ((hP k x hx).lt)
  rw [hsz]
  refine k H1 locs ls ?_ ⟨Nat.le_trans hS.1 (by omega), fun x h1 h2 => (o1 x (by have := hS.1; omega)).trans (hS.2.1 x h1 h2), hS.2.2⟩ hl
  rw [zw_app, zw_one]
  refine (hP.kept hkp).app (fun k x hx => ?_)
  have hz : k < 1 := (List.getElem?_eq_some_iff.mp hx).1
  rw [show k = 0 by omega] at hx
  cases hx
  show H1[_]? = some (vp_cell _ _)
  rw [vp_cell_q]
  exact e1
theorem sg_putF (G : cx p s m meth c cc nL own ret D t6) (hnm0 : meth.name = "<init>") {k0 ci : Nat} {fs : List Value} (he : es[k0]? = some (.inr (ci, fs))) {C : String} {T : u_T} {N : Nat} (hu : ∀ w ∈ u_ws C T N, w ∈ lw_tbl) (ty0 : Nat → FieldType) (hty : ∀ k, k < N → parseFieldDescriptor (T k).2.2.1 = some (ty0 k)) (hnm : ∀ a, a < N → ∀ b, b < N → a ≠ b → (T a).2.1 ≠ (T b).2.1) (hq : classes[ci]? = some (C, T, N)) (j : Nat) (hj : j < N) {index : Nat} (hlkk : Cond.fieldLink own index C (T j).2.1 (T j).2.2.1 ∈ lw_tbl) (hsame : (T j).1 = C) (hfin : (T j).2.2.2 = true) (hdecl : (T j).1 = own) {ty : FieldType} {v : Value} (hd0 : parseFieldDescriptor (T j).2.2.1 = some ty) (hn : narrow ty v = v) (hfit : fits ty v = true) (hlen : j < fs.length) (hd : dc cc pc (.putfield index) 3 pc2) {x : Nat} (hxa : x = b + k0) (k : Sg p l e R s m args below meth c D b nL Q cs sl (es.set k0 (.inr (ci, fs.set j v))) pc2 L st) : Sg p l e R s m args below meth c D b nL Q cs sl es pc L (v :: .ref x :: st) := by
  intro H locs ls hP hS hl
  obtain ⟨hx, hb, hml, hown, hr, hlk, hk⟩ := G
  obtain ⟨hd, rfl⟩ := hd
  subst hxa
  have hts : ∀ w ∈ tb_, w.before args s = true := fun w h => hk.1 w h _
  refine va_putF hx hb hts (tb_u hu) ty0 hty hnm hown hk.2 hP (zw_D b es) hS k0 (zw_at he) hq j hj (hts _ (tb_in hlkk rfl)) (fun x h => by rw [hsame] at h; exact h) hfin hnm0 hdecl hd0 hn hfit hlen hd (fun H1 locs1 hP1 _ hS1 => ?_)
  rw [← zw_set] at hP1
  exact k H1 locs1 ls hP1 hS1 hl
theorem sg_get (G : cx p s m meth c cc nL own ret D t6) {k0 ci : Nat} {fs : List Value} (he : es[k0]? = some (.inr (ci, fs))) {C : String} {T : u_T} {N : Nat} (hu : ∀ w ∈ u_ws C T N, w ∈ lw_tbl) (hq : classes[ci]? = some (C, T, N)) (j : Nat) (hj : j < N) {index : Nat} (hlkk : Cond.fieldLink own index C (T j).2.1 (T j).2.2.1 ∈ lw_tbl) (hsame : (T j).1 = C) {v : Value} (hf : fs[j]? = some v) (hd : dc cc pc (.getfield index) 3 pc2) {x : Nat} (hxa : x = b + k0) (k : Sg p l e R s m args below meth c D b nL Q cs sl es pc2 L (v :: st)) : Sg p l e R s m args below meth c D b nL Q cs sl es pc L (.ref x :: st) := by
  intro H locs ls hP hS hl
  obtain ⟨hx, hb, hml, hown, hr, hlk, hk⟩ := G
  obtain ⟨hd, rfl⟩ := hd
  subst hxa
  have hts : ∀ w ∈ tb_, w.before args s = true := fun w h => hk.1 w h _
  exact va_get hx hb hts (tb_u hu) hown hk.2 hP k0 (zw_at he) hq j hj (hts _ (tb_in hlkk rfl)) (fun x h => by rw [hsame] at h; exact h) hf hd (k H locs ls hP hS hl)
theorem sg_aast (G : cx p s m meth c cc nL own ret D t6) {k0 k1 ci tx n : Nat} {r : vw_C} {vs : List Value} {f : Nat → Option Nat} (he : es[k0]? = some (.inl (t6 tx, n, .inr (.inr (.inr (.inr f)))))) (htx : (ty6 t6)[tx]? = some (t6 tx, .object r.1)) (hv : es[k1]? = some (.inr (ci, vs))) (hc : classes[ci]? = some r) {i : Int32} {i2 : Nat} (hin : vp_in i n) (hi2 : i.toNatClampNeg = i2) (hd : dc cc pc (.aastore) 1 pc2) {x v : Nat} (hxa : x = b + k0) (hva : v = b + k1) (k : Sg p l e R s m args below meth c D b nL Q cs sl (es.set k0 (.inl (t6 tx, n, .inr (.inr (.inr (.inr (va_up f i2 (some (b + k1))))))))) pc2 L st) : Sg p l e R s m args below meth c D b nL Q cs sl es pc L (.ref v :: .int i :: .ref x :: st) := by
  intro H locs ls hP hS hl
  obtain ⟨hx, hb, hml, hown, hr, hlk, hk⟩ := G
  obtain ⟨hd, rfl⟩ := hd
  subst hxa
  subst hva
  subst hi2
  refine va_astq hx hb hk.2 hP (zw_D b es) hS k0 tx k1 ci (zw_at he) htx (zw_at hv) hc hin hd (fun H1 locs1 hP1 _ hS1 => ?_)
  rw [← zw_set] at hP1
  exact k H1 locs1 ls hP1 hS1 hl
end
/-- the contract of a constructor -/
def CG (l : Launch) (D : va_G) (t6 : Nat → ClassId) (y : MethodName) (cc : ByteArray) (nL : Nat) (rm : Room) (b0 b sz : Nat) (A0 B0 : Heap → Prop) : Prop := Met l y [.code y cc nL none] rm (va_Pc [.ref b] (fun U => kk_ D t6 U ∧ U.heap.size = sz ∧ A0 U.heap)) (va_Qv (fun (_ : Unit) => True) (fun _ t => B0 t.heap) (fun q => b0 ≤ q)) rm.cells rm.slots (fun q => b0 ≤ q)
abbrev CZ (l : Launch) (D : va_G) (t6 : Nat → ClassId) (y : MethodName) (cc : ByteArray) (nL : Nat) (rm : Room) (b : Nat) (tl tl2 : List va_E) : Prop := CG l D t6 y cc nL rm b b (b + tl.length) (va_P D classes (zw b tl)) (va_P D classes (zw b tl2))
theorem cg_blind {D : va_G} {t6 : Nat → ClassId} {sz : Nat} {A0 : Heap → Prop} {av : List Value} : FrameBlind (va_Pc av (fun U => kk_ D t6 U ∧ U.heap.size = sz ∧ A0 U.heap)) := by
  intro a U g mk q
  obtain ⟨q0, qk, qz, qw⟩ := q
  exact ⟨q0, kk_warm (s := U) (U := U.calling g mk a) (State.WarmedH.refl U) qk, qz, qw⟩
theorem en_g {l : Launch} {D : va_G} {t6 : Nat → ClassId} {y : MethodName} {cc : ByteArray} {nL : Nat} {rm : Room} {b0 b sz : Nat} {A0 B0 : Heap → Prop} (hy : plainName y.cls = true) (hy1 : y.name = "<init>") (hle : 1 ≤ nL)
    (body : ∀ (p : Program) (e : Env) (s : State) (m : MethodId) (below : List Frame) (meth : Method) (c : Code) (ls : Array Slot), cx p s m meth c cc nL y.cls none D t6 → meth.name = "<init>" → s.heap.size = sz → A0 s.heap → hs ls nL (some (.ref b) :: List.replicate (nL - 1) none) → W p l e rm s m [Value.ref b].toArray below meth c s.heap [] 0 0 (MQ below (va_Qv (fun (_ : Unit) => True) (fun _ t => B0 t.heap) (fun q => b0 ≤ q)) [Value.ref b].toArray s rm.cells rm.slots (fun q => b0 ≤ q)) (F0 m 0 ls [])) : CG l D t6 y cc nL rm b0 b sz A0 B0 := by
  refine Met.ofW (cc := cc) (maxL := nL) (ret := none) hy rfl ?_
  intro p e s m args below meth c s₁ B hml hv
  obtain ⟨rfl, hk, hz, hA⟩ := hv
  have G : cx p s m meth c cc nL y.cls none D t6 := ⟨B.exec, B.bytes, hml, findClass_of_methodNamed B.named, B.returns, B.notSynchronized, hk⟩
  have hn : meth.name = y.name := (name_of_methodNamed B.named B.method).1
  rw [lg_entry_eq]
  exact body p e s m below meth c _ G (hn.trans hy1) hz hA (hs_entry (av := [Value.ref b]) (fun v h => by rw [List.mem_singleton.mp h]; rfl) hle)
theorem en_z {l : Launch} {D : va_G} {t6 : Nat → ClassId} {y : MethodName} {cc : ByteArray} {nL : Nat} {rm : Room} {b : Nat} {tl tl2 : List va_E} (hy : plainName y.cls = true) (hy1 : y.name = "<init>") (hle : 1 ≤ nL)
    (body : ∀ (p : Program) (e : Env) (s : State) (m : MethodId) (below : List Frame) (meth : Method) (c : Code), cx p s m meth c cc nL y.cls none D t6 → meth.name = "<init>" → s.heap.size = b + tl.length → Sg p l e rm s m [Value.ref b].toArray below meth c D b nL (MQ below (va_Qv (fun (_ : Unit) => True) (fun _ t => va_P D classes (zw b tl2) t.heap) (fun q => b ≤ q)) [Value.ref b].toArray s rm.cells rm.slots (fun q => b ≤ q)) 0 0 tl 0 (some (.ref b) :: List.replicate (nL - 1) none) []) : CZ l D t6 y cc nL rm b tl tl2 := by
  refine en_g hy hy1 hle (fun p e s m below meth c ls G hn hz hA hl => ?_)
  exact body p e s m below meth c G hn hz s.heap [] ls hA va_S.rf hl
section
variable {p : Program} {l : Launch} {e : Env} {R : Room} {s : State} {m : MethodId} {args : Array Value} {below : List Frame} {meth : Method} {c : Code} {D : va_G} {t6 : Nat → ClassId} {b nL : Nat} {Q : State → Prop} {cs sl : Nat} {es : List va_E} {pc pc2 : Nat} {L : List (Option Value)} {st : List Value} {cc : ByteArray} {own : String} {ret : Option FieldType}
theorem sg_ret (G : cx p s m meth c cc nL own none D t6) {tl2 : List va_E} (hd : dc cc pc (.return_) 1 pc2) (h : es = tl2) : Sg p l e R s m args below meth c D b nL (MQ below (va_Qv (fun (_ : Unit) => True) (fun _ t => va_P D classes (zw b tl2) t.heap) (fun q => b ≤ q)) args s cs sl (fun q => b ≤ q)) cs sl es pc L [] := by
  intro H locs ls hP hS hl
  obtain ⟨hx, hb, hml, hown, hr, hlk, hk⟩ := G
  subst h
  exact W.vret hx hb hr (fun t ht hW => ⟨⟨(), rfl, trivial, (show va_P D classes (zw b es) t.heap by rw [ht]; exact hP)⟩, hS.F ht⟩) hS.2.2 hd.1 hlk
/-- what a constructor's call leaves -/
theorem zw_call {pre tl tl2 : List va_E} {H H1 : Heap} (hP : va_P D classes (zw b (pre ++ tl)) H) (hk1 : ∀ q : Nat, q < H.size → ¬ b + pre.length ≤ q → H1[q]? = H[q]?) (hP1 : va_P D classes (zw (b + pre.length) tl2) H1) : va_P D classes (zw b (pre ++ tl2)) H1 := by
  rw [zw_app] at hP ⊢
  refine va_P.app (fun k q hq => ?_) hP1
  have h0 : va_at D classes q H := hP k q (by rw [List.getElem?_append_left (List.getElem?_eq_some_iff.mp hq).1]; exact hq)
  refine h0.kept (hk1 q.1 h0.lt ?_)
  rw [zw_get] at hq
  cases hr : pre[k]? with
  | none => rw [hr] at hq; cases hq
  | some z =>
    rw [hr] at hq
    cases hq
    have := (List.getElem?_eq_some_iff.mp hr).1
    show ¬ b + pre.length ≤ b + k
    omega
theorem zw_tail {pre tl : List va_E} {H : Heap} (hP : va_P D classes (zw b (pre ++ tl)) H) : va_P D classes (zw (b + pre.length) tl) H := by
  rw [zw_app] at hP
  intro k q hq
  exact hP ((zw b pre).length + k) q (by rw [List.getElem?_append_right (by omega), Nat.add_sub_cancel_left]; exact hq)
theorem sg_callN (G : cx p s m meth c cc nL own ret D t6) (hz : s.heap.size + cs = b + es.length) (hne : es = [] → cs = 0) {y : MethodName} {cc2 : ByteArray} {nL2 : Nat} {rm : Room} {pre tl tl2 : List va_E} {x : Nat} (hes : es = pre ++ tl) (hxa : x = b + pre.length) (hM : CZ l D t6 y cc2 nL2 rm x tl tl2) {index : Nat} (hco : Cond.code y cc2 nL2 none ∈ lw_tbl) {host : String} (hlkk : Cond.methodLinkNest own index y host ∈ lw_tbl) (hini : Cond.initialized y.cls ∈ lw_tbl) (hinst : Cond.instanceMethod y ∈ lw_tbl) (hy1 : y.name = "<init>") (hy : yy_ y 0) (hfr : rm.frames + 1 ≤ R.frames ∧ 8 + (nL2 + 11) + rm.locals ≤ R.locals) (hroom : cs + rm.cells ≤ R.cells ∧ sl + rm.slots ≤ R.slots) (hrest : (st.map fun v => v.category).sum ≤ 8) (hd : dc cc pc (.invokespecial index) 3 pc2) (k : Sg p l e R s m args below meth c D b nL Q (cs + rm.cells) (sl + rm.slots) (pre ++ tl2) pc2 L st) : Sg p l e R s m args below meth c D b nL Q cs sl es pc L (.ref x :: st) := by
  intro H locs ls hP hS hl
  obtain ⟨hx, hb, hml, hown, hr, hlk9, hk⟩ := G
  obtain ⟨hd, rfl⟩ := hd
  subst hes
  subst hxa
  have hts : ∀ w ∈ tb_, w.before args s = true := fun w h => hk.1 w h _
  refine w_size (fun h1 => ?_)
  have hsz := zw_size hP hS h1 hz hne
  rw [List.length_append] at hsz
  have hPt := zw_tail hP
  refine va_callv (va_runIN (As := []) (rest := st) (g := F0 m pc ls _) ⟨hx, hb, hml, hown, hts⟩ hM ⟨va_cnB 0 hts (gd_code hco) rfl rfl rfl (hk.1 _ (tb_in hlkk rfl) _) (hts _ (tb_in hini rfl)) hy hfr, hy1, hts _ (tb_in hinst rfl)⟩ ⟨cg_blind, fun U hU hW => ⟨rfl, kk_warm hW hk, by rw [hU]; omega, by rw [hU]; exact hPt⟩⟩ rfl rfl hl.1 rfl (lv_room hrest) hd hroom) hS (fun q _ h => Nat.le_trans (Nat.le_add_right _ _) h) (fun q h => Nat.le_trans (Nat.le_add_right _ _) h) (fun u t H1 locs1 ht _ hp hB _ hk1 hS1 => ?_)
  rw [ht] at hB
  exact k H1 locs1 ls (zw_call hP hk1 hB) hS1 hl
end
