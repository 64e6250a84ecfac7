section
variable {p : Program} {l : Launch} {e : Env} {R : Room} {s : State} {m : MethodId} {args : Array Value} {below : List Frame} {meth : Method} {c : Code} {D : va_G} {t6 : Nat → ClassId} {b n nL : Nat} {Q : State → Prop} {M : Mem} {pc pc2 : Nat} {L : List (Option Value)} {st : List Value} {cc : ByteArray} {own : String} {ret : Option FieldType}

theorem sr_iconst (G : cx p s m meth c cc nL own ret D t6) {z : Int} {v : Int32} (hv : Int32.ofInt z = v) (hd : dc cc pc (.iconst z) 1 pc2) (k : St p l e R s m args below meth c D t6 b n nL Q M pc2 L (.int v :: st)) : St p l e R s m args below meth c D t6 b n nL Q M pc L st := by
  intro H locs ls hw hS hl
  obtain ⟨hx, hb, hml, hown, hr, hlk, hk⟩ := G
  obtain ⟨hd, rfl⟩ := hd
  exact lv_iconst hx hb hd hv (k H locs ls hw hS hl)
theorem sr_bipush (G : cx p s m meth c cc nL own ret D t6) {z : Int} {v : Int32} (hv : (Int8.ofInt z).toInt32 = v) (hd : dc cc pc (.bipush z) 2 pc2) (k : St p l e R s m args below meth c D t6 b n nL Q M pc2 L (.int v :: st)) : St p l e R s m args below meth c D t6 b n nL Q M pc L st := by
  intro H locs ls hw hS hl
  obtain ⟨hx, hb, hml, hown, hr, hlk, hk⟩ := G
  obtain ⟨hd, rfl⟩ := hd
  exact lv_bipush hx hb hd hv (k H locs ls hw hS hl)
theorem sr_sipush (G : cx p s m meth c cc nL own ret D t6) {z : Int} {v : Int32} (hv : (Int16.ofInt z).toInt32 = v) (hd : dc cc pc (.sipush z) 3 pc2) (k : St p l e R s m args below meth c D t6 b n nL Q M pc2 L (.int v :: st)) : St p l e R s m args below meth c D t6 b n nL Q M pc L st := by
  intro H locs ls hw hS hl
  obtain ⟨hx, hb, hml, hown, hr, hlk, hk⟩ := G
  obtain ⟨hd, rfl⟩ := hd
  exact lv_sipush hx hb hd hv (k H locs ls hw hS hl)
theorem sr_iload_n (G : cx p s m meth c cc nL own ret D t6) {i : Fin 4} {x : Int32} (hi : L[(i : Nat)]? = some (some (.int x))) (hd : dc cc pc (.iload_n i) 1 pc2) (k : St p l e R s m args below meth c D t6 b n nL Q M pc2 L (.int x :: st)) : St p l e R s m args below meth c D t6 b n nL Q M pc L st := by
  intro H locs ls hw hS hl
  obtain ⟨hx, hb, hml, hown, hr, hlk, hk⟩ := G
  obtain ⟨hd, rfl⟩ := hd
  exact lv_iload_n hx hb hd rfl (hl.2.2 _ _ hi).2 (k H locs ls hw hS hl)
theorem sr_iload (G : cx p s m meth c cc nL own ret D t6) {i : Nat} {x : Int32} (hi : L[i]? = some (some (.int x))) (hd : dc cc pc (.iload i) 2 pc2) (k : St p l e R s m args below meth c D t6 b n nL Q M pc2 L (.int x :: st)) : St p l e R s m args below meth c D t6 b n nL Q M pc L st := by
  intro H locs ls hw hS hl
  obtain ⟨hx, hb, hml, hown, hr, hlk, hk⟩ := G
  obtain ⟨hd, rfl⟩ := hd
  exact lv_iload hx hb hd (hl.2.2 _ _ hi).2 (k H locs ls hw hS hl)
theorem sr_aload_n (G : cx p s m meth c cc nL own ret D t6) {i : Fin 4} {x : Nat} (hi : L[(i : Nat)]? = some (some (.ref x))) (hd : dc cc pc (.aload_n i) 1 pc2) (k : St p l e R s m args below meth c D t6 b n nL Q M pc2 L (.ref x :: st)) : St p l e R s m args below meth c D t6 b n nL Q M pc L st := by
  intro H locs ls hw hS hl
  obtain ⟨hx, hb, hml, hown, hr, hlk, hk⟩ := G
  obtain ⟨hd, rfl⟩ := hd
  exact lv_aload_n hx hb hd rfl (hl.2.2 _ _ hi).2 (k H locs ls hw hS hl)
theorem sr_aload (G : cx p s m meth c cc nL own ret D t6) {i : Nat} {x : Nat} (hi : L[i]? = some (some (.ref x))) (hd : dc cc pc (.aload i) 2 pc2) (k : St p l e R s m args below meth c D t6 b n nL Q M pc2 L (.ref x :: st)) : St p l e R s m args below meth c D t6 b n nL Q M pc L st := by
  intro H locs ls hw hS hl
  obtain ⟨hx, hb, hml, hown, hr, hlk, hk⟩ := G
  obtain ⟨hd, rfl⟩ := hd
  exact lv_aload hx hb hd (hl.2.2 _ _ hi).2 (k H locs ls hw hS hl)
theorem sr_istore_n (G : cx p s m meth c cc nL own ret D t6) {i : Fin 4} {x : Int32} (hn : (i : Nat) < nL) (hd : dc cc pc (.istore_n i) 1 pc2) (k : St p l e R s m args below meth c D t6 b n nL Q M pc2 (L.set (i : Nat) (some (.int x))) st) : St p l e R s m args below meth c D t6 b n nL Q M pc L (.int x :: st) := by
  intro H locs ls hw hS hl
  obtain ⟨hx, hb, hml, hown, hr, hlk, hk⟩ := G
  obtain ⟨hd, rfl⟩ := hd
  exact lv_istore_n hx hb hd rfl (hs_to hl) hn rfl (fun ls2 h2 => k H locs ls2 hw hS (hs_store hl rfl h2))
theorem sr_istore (G : cx p s m meth c cc nL own ret D t6) {i : Nat} {x : Int32} (hn : i < nL) (hd : dc cc pc (.istore i) 2 pc2) (k : St p l e R s m args below meth c D t6 b n nL Q M pc2 (L.set i (some (.int x))) st) : St p l e R s m args below meth c D t6 b n nL Q M pc L (.int x :: st) := by
  intro H locs ls hw hS hl
  obtain ⟨hx, hb, hml, hown, hr, hlk, hk⟩ := G
  obtain ⟨hd, rfl⟩ := hd
  exact lv_istore hx hb hd (hs_to hl) hn rfl (fun ls2 h2 => k H locs ls2 hw hS (hs_store hl rfl h2))
theorem sr_astore_n (G : cx p s m meth c cc nL own ret D t6) {i : Fin 4} {x : Nat} (hn : (i : Nat) < nL) (hd : dc cc pc (.astore_n i) 1 pc2) (k : St p l e R s m args below meth c D t6 b n nL Q M pc2 (L.set (i : Nat) (some (.ref x))) st) : St p l e R s m args below meth c D t6 b n nL Q M pc L (.ref x :: st) := by
  intro H locs ls hw hS hl
  obtain ⟨hx, hb, hml, hown, hr, hlk, hk⟩ := G
  obtain ⟨hd, rfl⟩ := hd
  exact lv_astore_n hx hb hd rfl (hs_to hl) hn rfl (fun ls2 h2 => k H locs ls2 hw hS (hs_store hl rfl h2))
theorem sr_astore (G : cx p s m meth c cc nL own ret D t6) {i : Nat} {x : Nat} (hn : i < nL) (hd : dc cc pc (.astore i) 2 pc2) (k : St p l e R s m args below meth c D t6 b n nL Q M pc2 (L.set i (some (.ref x))) st) : St p l e R s m args below meth c D t6 b n nL Q M pc L (.ref x :: st) := by
  intro H locs ls hw hS hl
  obtain ⟨hx, hb, hml, hown, hr, hlk, hk⟩ := G
  obtain ⟨hd, rfl⟩ := hd
  exact lv_astore hx hb hd (hs_to hl) hn rfl (fun ls2 h2 => k H locs ls2 hw hS (hs_store hl rfl h2))
theorem sr_iinc (G : cx p s m meth c cc nL own ret D t6) {i : Nat} {z : Int} {x v : Int32} (hi : L[i]? = some (some (.int x))) (hv : x + Int32.ofInt z = v) (hn : i < nL) (hd : dc cc pc (.iinc i z) 3 pc2) (k : St p l e R s m args below meth c D t6 b n nL Q M pc2 (L.set i (some (.int v))) st) : St p l e R s m args below meth c D t6 b n nL Q M pc L st := by
  intro H locs ls hw hS hl
  obtain ⟨hx, hb, hml, hown, hr, hlk, hk⟩ := G
  obtain ⟨hd, rfl⟩ := hd
  obtain ⟨k9, hk9⟩ := List.getElem?_of_mem (lf_in hi)
  exact lv_iinc hx hb hd (hs_to hl) hk9 hv hn rfl (fun ls2 h2 => k H locs ls2 hw hS (hs_store hl rfl h2))
theorem sr_iadd (G : cx p s m meth c cc nL own ret D t6) {x y : Int32} (hd : dc cc pc (.iadd) 1 pc2) (k : St p l e R s m args below meth c D t6 b n nL Q M pc2 L (.int (x + y) :: st)) : St p l e R s m args below meth c D t6 b n nL Q M pc L (.int y :: .int x :: st) := by
  intro H locs ls hw hS hl
  obtain ⟨hx, hb, hml, hown, hr, hlk, hk⟩ := G
  obtain ⟨hd, rfl⟩ := hd
  exact lv_iadd hx hb hd (k H locs ls hw hS hl)
theorem sr_isub (G : cx p s m meth c cc nL own ret D t6) {x y : Int32} (hd : dc cc pc (.isub) 1 pc2) (k : St p l e R s m args below meth c D t6 b n nL Q M pc2 L (.int (x - y) :: st)) : St p l e R s m args below meth c D t6 b n nL Q M pc L (.int y :: .int x :: st) := by
  intro H locs ls hw hS hl
  obtain ⟨hx, hb, hml, hown, hr, hlk, hk⟩ := G
  obtain ⟨hd, rfl⟩ := hd
  exact lv_isub hx hb hd (k H locs ls hw hS hl)
theorem sr_imul (G : cx p s m meth c cc nL own ret D t6) {x y : Int32} (hd : dc cc pc (.imul) 1 pc2) (k : St p l e R s m args below meth c D t6 b n nL Q M pc2 L (.int (x * y) :: st)) : St p l e R s m args below meth c D t6 b n nL Q M pc L (.int y :: .int x :: st) := by
  intro H locs ls hw hS hl
  obtain ⟨hx, hb, hml, hown, hr, hlk, hk⟩ := G
  obtain ⟨hd, rfl⟩ := hd
  exact lv_imul hx hb hd (k H locs ls hw hS hl)
theorem sr_iand (G : cx p s m meth c cc nL own ret D t6) {x y : Int32} (hd : dc cc pc (.iand) 1 pc2) (k : St p l e R s m args below meth c D t6 b n nL Q M pc2 L (.int (x &&& y) :: st)) : St p l e R s m args below meth c D t6 b n nL Q M pc L (.int y :: .int x :: st) := by
  intro H locs ls hw hS hl
  obtain ⟨hx, hb, hml, hown, hr, hlk, hk⟩ := G
  obtain ⟨hd, rfl⟩ := hd
  exact lv_iand hx hb hd (k H locs ls hw hS hl)
theorem sr_irem (G : cx p s m meth c cc nL own ret D t6) {x y : Int32} (hne : ¬ y = 0) (hd : dc cc pc (.irem) 1 pc2) (k : St p l e R s m args below meth c D t6 b n nL Q M pc2 L (.int (x - x / y * y) :: st)) : St p l e R s m args below meth c D t6 b n nL Q M pc L (.int y :: .int x :: st) := by
  intro H locs ls hw hS hl
  obtain ⟨hx, hb, hml, hown, hr, hlk, hk⟩ := G
  obtain ⟨hd, rfl⟩ := hd
  exact lv_irem hx hb hd hne (k H locs ls hw hS hl)
theorem sr_ineg (G : cx p s m meth c cc nL own ret D t6) {x : Int32} (hd : dc cc pc (.ineg) 1 pc2) (k : St p l e R s m args below meth c D t6 b n nL Q M pc2 L (.int (-x) :: st)) : St p l e R s m args below meth c D t6 b n nL Q M pc L (.int x :: st) := by
  intro H locs ls hw hS hl
  obtain ⟨hx, hb, hml, hown, hr, hlk, hk⟩ := G
  obtain ⟨hd, rfl⟩ := hd
  exact lv_ineg hx hb hd (k H locs ls hw hS hl)
theorem sr_dup (G : cx p s m meth c cc nL own ret D t6) {va : Value} (hva : va.category = 1) (hd : dc cc pc (.dup) 1 pc2) (k : St p l e R s m args below meth c D t6 b n nL Q M pc2 L (va :: va :: st)) : St p l e R s m args below meth c D t6 b n nL Q M pc L (va :: st) := by
  intro H locs ls hw hS hl
  obtain ⟨hx, hb, hml, hown, hr, hlk, hk⟩ := G
  obtain ⟨hd, rfl⟩ := hd
  exact lv_dup hx hb hd hva (k H locs ls hw hS hl)
theorem sr_dup2 (G : cx p s m meth c cc nL own ret D t6) {va vb : Value} (hva : va.category = 1) (hvb : vb.category = 1) (hd : dc cc pc (.dup2) 1 pc2) (k : St p l e R s m args below meth c D t6 b n nL Q M pc2 L (va :: vb :: va :: vb :: st)) : St p l e R s m args below meth c D t6 b n nL Q M pc L (va :: vb :: st) := by
  intro H locs ls hw hS hl
  obtain ⟨hx, hb, hml, hown, hr, hlk, hk⟩ := G
  obtain ⟨hd, rfl⟩ := hd
  exact lv_dup2_11 hx hb hd hva hvb (k H locs ls hw hS hl)
theorem sr_if_eq (G : cx p s m meth c cc nL own ret D t6) {x : Int32} {off : Int} (tgt : Nat) (hd : dc cc pc (.ifCond .eq off) 3 pc2) (ht : (pc : Int) + off = (tgt : Int)) (kt : x = 0 → St p l e R s m args below meth c D t6 b n nL Q M tgt L st) (kf : ¬ x = 0 → St p l e R s m args below meth c D t6 b n nL Q M pc2 L st) : St p l e R s m args below meth c D t6 b n nL Q M pc L (.int x :: st) := by
  intro H locs ls hw hS hl
  obtain ⟨hx, hb, hml, hown, hr, hlk, hk⟩ := G
  obtain ⟨hd, rfl⟩ := hd
  exact lv_if_eq hx hb hd ht (fun h => kt h H locs ls hw hS hl) (fun h => kf h H locs ls hw hS hl)
theorem sr_if_ne (G : cx p s m meth c cc nL own ret D t6) {x : Int32} {off : Int} (tgt : Nat) (hd : dc cc pc (.ifCond .ne off) 3 pc2) (ht : (pc : Int) + off = (tgt : Int)) (kt : ¬ x = 0 → St p l e R s m args below meth c D t6 b n nL Q M tgt L st) (kf : x = 0 → St p l e R s m args below meth c D t6 b n nL Q M pc2 L st) : St p l e R s m args below meth c D t6 b n nL Q M pc L (.int x :: st) := by
  intro H locs ls hw hS hl
  obtain ⟨hx, hb, hml, hown, hr, hlk, hk⟩ := G
  obtain ⟨hd, rfl⟩ := hd
  exact lv_if_ne hx hb hd ht (fun h => kt h H locs ls hw hS hl) (fun h => kf h H locs ls hw hS hl)
theorem sr_if_lt (G : cx p s m meth c cc nL own ret D t6) {x : Int32} {off : Int} (tgt : Nat) (hd : dc cc pc (.ifCond .lt off) 3 pc2) (ht : (pc : Int) + off = (tgt : Int)) (kt : x < 0 → St p l e R s m args below meth c D t6 b n nL Q M tgt L st) (kf : ¬ x < 0 → St p l e R s m args below meth c D t6 b n nL Q M pc2 L st) : St p l e R s m args below meth c D t6 b n nL Q M pc L (.int x :: st) := by
  intro H locs ls hw hS hl
  obtain ⟨hx, hb, hml, hown, hr, hlk, hk⟩ := G
  obtain ⟨hd, rfl⟩ := hd
  exact lv_if_lt hx hb hd ht (fun h => kt h H locs ls hw hS hl) (fun h => kf h H locs ls hw hS hl)
theorem sr_if_ge (G : cx p s m meth c cc nL own ret D t6) {x : Int32} {off : Int} (tgt : Nat) (hd : dc cc pc (.ifCond .ge off) 3 pc2) (ht : (pc : Int) + off = (tgt : Int)) (kt : 0 ≤ x → St p l e R s m args below meth c D t6 b n nL Q M tgt L st) (kf : ¬ 0 ≤ x → St p l e R s m args below meth c D t6 b n nL Q M pc2 L st) : St p l e R s m args below meth c D t6 b n nL Q M pc L (.int x :: st) := by
  intro H locs ls hw hS hl
  obtain ⟨hx, hb, hml, hown, hr, hlk, hk⟩ := G
  obtain ⟨hd, rfl⟩ := hd
  exact lv_if_ge hx hb hd ht (fun h => kt h H locs ls hw hS hl) (fun h => kf h H locs ls hw hS hl)
theorem sr_if_gt (G : cx p s m meth c cc nL own ret D t6) {x : Int32} {off : Int} (tgt : Nat) (hd : dc cc pc (.ifCond .gt off) 3 pc2) (ht : (pc : Int) + off = (tgt : Int)) (kt : 0 < x → St p l e R s m args below meth c D t6 b n nL Q M tgt L st) (kf : ¬ 0 < x → St p l e R s m args below meth c D t6 b n nL Q M pc2 L st) : St p l e R s m args below meth c D t6 b n nL Q M pc L (.int x :: st) := by
  intro H locs ls hw hS hl
  obtain ⟨hx, hb, hml, hown, hr, hlk, hk⟩ := G
  obtain ⟨hd, rfl⟩ := hd
  exact lv_if_gt hx hb hd ht (fun h => kt h H locs ls hw hS hl) (fun h => kf h H locs ls hw hS hl)
theorem sr_if_le (G : cx p s m meth c cc nL own ret D t6) {x : Int32} {off : Int} (tgt : Nat) (hd : dc cc pc (.ifCond .le off) 3 pc2) (ht : (pc : Int) + off = (tgt : Int)) (kt : x ≤ 0 → St p l e R s m args below meth c D t6 b n nL Q M tgt L st) (kf : ¬ x ≤ 0 → St p l e R s m args below meth c D t6 b n nL Q M pc2 L st) : St p l e R s m args below meth c D t6 b n nL Q M pc L (.int x :: st) := by
  intro H locs ls hw hS hl
  obtain ⟨hx, hb, hml, hown, hr, hlk, hk⟩ := G
  obtain ⟨hd, rfl⟩ := hd
  exact lv_if_le hx hb hd ht (fun h => kt h H locs ls hw hS hl) (fun h => kf h H locs ls hw hS hl)
theorem sr_icmp_eq (G : cx p s m meth c cc nL own ret D t6) {x y : Int32} {off : Int} (tgt : Nat) (hd : dc cc pc (.if_icmp .eq off) 3 pc2) (ht : (pc : Int) + off = (tgt : Int)) (kt : x = y → St p l e R s m args below meth c D t6 b n nL Q M tgt L st) (kf : ¬ x = y → St p l e R s m args below meth c D t6 b n nL Q M pc2 L st) : St p l e R s m args below meth c D t6 b n nL Q M pc L (.int y :: .int x :: st) := by
  intro H locs ls hw hS hl
  obtain ⟨hx, hb, hml, hown, hr, hlk, hk⟩ := G
  obtain ⟨hd, rfl⟩ := hd
  exact lv_icmp_eq hx hb hd ht (fun h => kt h H locs ls hw hS hl) (fun h => kf h H locs ls hw hS hl)
theorem sr_icmp_ne (G : cx p s m meth c cc nL own ret D t6) {x y : Int32} {off : Int} (tgt : Nat) (hd : dc cc pc (.if_icmp .ne off) 3 pc2) (ht : (pc : Int) + off = (tgt : Int)) (kt : ¬ x = y → St p l e R s m args below meth c D t6 b n nL Q M tgt L st) (kf : x = y → St p l e R s m args below meth c D t6 b n nL Q M pc2 L st) : St p l e R s m args below meth c D t6 b n nL Q M pc L (.int y :: .int x :: st) := by
  intro H locs ls hw hS hl
  obtain ⟨hx, hb, hml, hown, hr, hlk, hk⟩ := G
  obtain ⟨hd, rfl⟩ := hd
  exact lv_icmp_ne hx hb hd ht (fun h => kt h H locs ls hw hS hl) (fun h => kf h H locs ls hw hS hl)
theorem sr_icmp_lt (G : cx p s m meth c cc nL own ret D t6) {x y : Int32} {off : Int} (tgt : Nat) (hd : dc cc pc (.if_icmp .lt off) 3 pc2) (ht : (pc : Int) + off = (tgt : Int)) (kt : x < y → St p l e R s m args below meth c D t6 b n nL Q M tgt L st) (kf : ¬ x < y → St p l e R s m args below meth c D t6 b n nL Q M pc2 L st) : St p l e R s m args below meth c D t6 b n nL Q M pc L (.int y :: .int x :: st) := by
  intro H locs ls hw hS hl
  obtain ⟨hx, hb, hml, hown, hr, hlk, hk⟩ := G
  obtain ⟨hd, rfl⟩ := hd
  exact lv_icmp_lt hx hb hd ht (fun h => kt h H locs ls hw hS hl) (fun h => kf h H locs ls hw hS hl)
theorem sr_icmp_ge (G : cx p s m meth c cc nL own ret D t6) {x y : Int32} {off : Int} (tgt : Nat) (hd : dc cc pc (.if_icmp .ge off) 3 pc2) (ht : (pc : Int) + off = (tgt : Int)) (kt : y ≤ x → St p l e R s m args below meth c D t6 b n nL Q M tgt L st) (kf : ¬ y ≤ x → St p l e R s m args below meth c D t6 b n nL Q M pc2 L st) : St p l e R s m args below meth c D t6 b n nL Q M pc L (.int y :: .int x :: st) := by
  intro H locs ls hw hS hl
  obtain ⟨hx, hb, hml, hown, hr, hlk, hk⟩ := G
  obtain ⟨hd, rfl⟩ := hd
  exact lv_icmp_ge hx hb hd ht (fun h => kt h H locs ls hw hS hl) (fun h => kf h H locs ls hw hS hl)
theorem sr_icmp_gt (G : cx p s m meth c cc nL own ret D t6) {x y : Int32} {off : Int} (tgt : Nat) (hd : dc cc pc (.if_icmp .gt off) 3 pc2) (ht : (pc : Int) + off = (tgt : Int)) (kt : y < x → St p l e R s m args below meth c D t6 b n nL Q M tgt L st) (kf : ¬ y < x → St p l e R s m args below meth c D t6 b n nL Q M pc2 L st) : St p l e R s m args below meth c D t6 b n nL Q M pc L (.int y :: .int x :: st) := by
  intro H locs ls hw hS hl
  obtain ⟨hx, hb, hml, hown, hr, hlk, hk⟩ := G
  obtain ⟨hd, rfl⟩ := hd
  exact lv_icmp_gt hx hb hd ht (fun h => kt h H locs ls hw hS hl) (fun h => kf h H locs ls hw hS hl)
theorem sr_icmp_le (G : cx p s m meth c cc nL own ret D t6) {x y : Int32} {off : Int} (tgt : Nat) (hd : dc cc pc (.if_icmp .le off) 3 pc2) (ht : (pc : Int) + off = (tgt : Int)) (kt : x ≤ y → St p l e R s m args below meth c D t6 b n nL Q M tgt L st) (kf : ¬ x ≤ y → St p l e R s m args below meth c D t6 b n nL Q M pc2 L st) : St p l e R s m args below meth c D t6 b n nL Q M pc L (.int y :: .int x :: st) := by
  intro H locs ls hw hS hl
  obtain ⟨hx, hb, hml, hown, hr, hlk, hk⟩ := G
  obtain ⟨hd, rfl⟩ := hd
  exact lv_icmp_le hx hb hd ht (fun h => kt h H locs ls hw hS hl) (fun h => kf h H locs ls hw hS hl)
theorem sr_goto (G : cx p s m meth c cc nL own ret D t6) {off : Int} (tgt : Nat) (hd : dc cc pc (.goto off) 3 pc2) (ht : (pc : Int) + off = (tgt : Int)) (k : St p l e R s m args below meth c D t6 b n nL Q M tgt L st) : St p l e R s m args below meth c D t6 b n nL Q M pc L st := by
  intro H locs ls hw hS hl
  obtain ⟨hx, hb, hml, hown, hr, hlk, hk⟩ := G
  obtain ⟨hd, rfl⟩ := hd
  exact lv_goto hx hb hd ht (k H locs ls hw hS hl)
theorem sr_tabOut (G : cx p s m meth c cc nL own ret D t6) {dflt lo hi : Int} {offs : Array Int} {len : Nat} {x : Int32} (tgt : Nat) (hd : dc cc pc (.tableswitch dflt lo hi offs) len pc2) (h : x.toInt < lo ∨ hi < x.toInt) (ht : (pc : Int) + dflt = (tgt : Int)) (k : St p l e R s m args below meth c D t6 b n nL Q M tgt L st) : St p l e R s m args below meth c D t6 b n nL Q M pc L (.int x :: st) := by
  intro H locs ls hw hS hl
  obtain ⟨hx, hb, hml, hown, hr, hlk, hk⟩ := G
  obtain ⟨hd, rfl⟩ := hd
  exact lv_tableOut hx hb hd h ht (k H locs ls hw hS hl)
theorem sr_tabIn (G : cx p s m meth c cc nL own ret D t6) {dflt lo hi : Int} {offs : Array Int} {len : Nat} {x : Int32} {off : Int} (tgt : Nat) (hd : dc cc pc (.tableswitch dflt lo hi offs) len pc2) (h1 : ¬ x.toInt < lo) (h2 : ¬ hi < x.toInt) (ho : offs[(x.toInt - lo).toNat]? = some off) (ht : (pc : Int) + off = (tgt : Int)) (k : St p l e R s m args below meth c D t6 b n nL Q M tgt L st) : St p l e R s m args below meth c D t6 b n nL Q M pc L (.int x :: st) := by
  intro H locs ls hw hS hl
  obtain ⟨hx, hb, hml, hown, hr, hlk, hk⟩ := G
  obtain ⟨hd, rfl⟩ := hd
  exact lv_tableIn hx hb hd h1 h2 ho ht (k H locs ls hw hS hl)
theorem sr_get (G : cx p s m meth c cc nL own ret D t6) {kd i ci : Nat} {fs : List Value} (hv : vv n kd i) (hc : cm_ t6 b kd i (M kd i) = .inr (ci, fs)) {C : String} {T : u_T} {N : Nat} (hu : ∀ w ∈ u_ws C T N, w ∈ lw_tbl) (hq : classes[ci]? = some (C, T, N)) (j : Nat) (hj : j < N) {index : Nat} (hlk : Cond.fieldLink own index C (T j).2.1 (T j).2.2.1 ∈ lw_tbl) (hsame : (T j).1 = C) {v : Value} (hf : fs[j]? = some v) (hd : dc cc pc (.getfield index) 3 pc2) (k : St p l e R s m args below meth c D t6 b n nL Q M pc2 L (v :: st)) : St p l e R s m args below meth c D t6 b n nL Q M pc L (.ref (ad b kd i) :: st) := by
  intro H locs ls hw hS hl
  obtain ⟨hx, hb, hml, hown, hr, hlk9, hk⟩ := G
  obtain ⟨hd, rfl⟩ := hd
  obtain ⟨f, hP, hF⟩ := id hw
  obtain ⟨q, hq0⟩ := va_pl_get (X := []) (f := f) (wl_in (b := b) hv)
  rw [hF kd i hv, hc] at hq0
  exact va_get hx hb (fun w h => hk.1 w h _) (tb_u hu) hown hk.2 hP q hq0 hq j hj (hk.1 _ (tb_in hlk rfl) _) (fun x h => by rw [hsame] at h; exact h) hf hd (k H locs ls hw hS hl)
theorem sr_put (G : cx p s m meth c cc nL own ret D t6) {kd i ci : Nat} {fs : List Value} (hv : vv n kd i) (hc : cm_ t6 b kd i (M kd i) = .inr (ci, fs)) {C : String} {T : u_T} {N : Nat} (hu : ∀ w ∈ u_ws C T N, w ∈ lw_tbl) (hq : classes[ci]? = some (C, T, N)) (j : Nat) (hj : j < N) (ty0 : Nat → FieldType) (hty : ∀ k, k < N → parseFieldDescriptor (T k).2.2.1 = some (ty0 k)) (hnm : ∀ a, a < N → ∀ b, b < N → a ≠ b → (T a).2.1 ≠ (T b).2.1) {index : Nat} (hlk : Cond.fieldLink own index C (T j).2.1 (T j).2.2.1 ∈ lw_tbl) (hsame : (T j).1 = C) (hfin : (T j).2.2.2 = false) {ty : FieldType} {v : Int32} (hd0 : parseFieldDescriptor (T j).2.2.1 = some ty) (hn : narrow ty (.int v) = .int v) (hfit : fits ty (.int v) = true) (hlen : j < fs.length) (hnew : cm_ t6 b kd i (upd (M kd i) j v) = .inr (ci, fs.set j (.int v))) (hd : dc cc pc (.putfield index) 3 pc2) (k : St p l e R s m args below meth c D t6 b n nL Q (u3 M kd i j v) pc2 L st) : St p l e R s m args below meth c D t6 b n nL Q M pc L (.int v :: .ref (ad b kd i) :: st) := by
  intro H locs ls hw hS hl
  obtain ⟨hx, hb, hml, hown, hr, hlk9, hk⟩ := G
  obtain ⟨hd, rfl⟩ := hd
  obtain ⟨f, hP, hF⟩ := id hw
  obtain ⟨q, hq0⟩ := va_pl_get (X := []) (f := f) (wl_in (b := b) hv)
  have hq1 := hq0
  rw [hF kd i hv, hc] at hq1
  refine va_put hx hb (fun w h => hk.1 w h _) (tb_u hu) ty0 hty hnm hown hk.2 hP (wl_D b n f) hS q hq1 hq j hj (hk.1 _ (tb_in hlk rfl) _) (fun x h => by rw [hsame] at h; exact h) hfin hd0 hn hfit hlen hd (fun H1 locs1 hP1 _ hS1 => ?_)
  rw [va_pl_set (wl_D b n f) (wl_in (b := b) hv) hq0] at hP1
  exact k H1 locs1 ls ⟨_, hP1, ft_put hF hv hnew.symm⟩ hS1 hl
theorem sr_getN (G : cx p s m meth c cc nL own ret D t6) {kd i ci : Nat} {fs : List Value} (hv : vv n kd i) (hc : cm_ t6 b kd i (M kd i) = .inr (ci, fs)) {C : String} {T : u_T} {N : Nat} (hu : ∀ w ∈ u_ws C T N, w ∈ lw_tbl) (hq : classes[ci]? = some (C, T, N)) (j : Nat) (hj : j < N) {index : Nat} {host : String} (hlk : Cond.fieldLinkNest own index C (T j).2.1 (T j).2.2.1 host ∈ lw_tbl) (hsame : (T j).1 = C) {v : Value} (hf : fs[j]? = some v) (hd : dc cc pc (.getfield index) 3 pc2) (k : St p l e R s m args below meth c D t6 b n nL Q M pc2 L (v :: st)) : St p l e R s m args below meth c D t6 b n nL Q M pc L (.ref (ad b kd i) :: st) := by
  intro H locs ls hw hS hl
  obtain ⟨hx, hb, hml, hown, hr, hlk9, hk⟩ := G
  obtain ⟨hd, rfl⟩ := hd
  obtain ⟨f, hP, hF⟩ := id hw
  obtain ⟨q, hq0⟩ := va_pl_get (X := []) (f := f) (wl_in (b := b) hv)
  rw [hF kd i hv, hc] at hq0
  exact va_getN hx hb (fun w h => hk.1 w h _) (tb_u hu) hown hk.2 hP q hq0 hq j hj (hk.1 _ (tb_in hlk rfl) _) (fun x h => by rw [hsame] at h; exact h) hf hd (k H locs ls hw hS hl)
theorem sr_putN (G : cx p s m meth c cc nL own ret D t6) {kd i ci : Nat} {fs : List Value} (hv : vv n kd i) (hc : cm_ t6 b kd i (M kd i) = .inr (ci, fs)) {C : String} {T : u_T} {N : Nat} (hu : ∀ w ∈ u_ws C T N, w ∈ lw_tbl) (hq : classes[ci]? = some (C, T, N)) (j : Nat) (hj : j < N) (ty0 : Nat → FieldType) (hty : ∀ k, k < N → parseFieldDescriptor (T k).2.2.1 = some (ty0 k)) (hnm : ∀ a, a < N → ∀ b, b < N → a ≠ b → (T a).2.1 ≠ (T b).2.1) {index : Nat} {host : String} (hlk : Cond.fieldLinkNest own index C (T j).2.1 (T j).2.2.1 host ∈ lw_tbl) (hsame : (T j).1 = C) (hfin : (T j).2.2.2 = false) {ty : FieldType} {v : Int32} (hd0 : parseFieldDescriptor (T j).2.2.1 = some ty) (hn : narrow ty (.int v) = .int v) (hfit : fits ty (.int v) = true) (hlen : j < fs.length) (hnew : cm_ t6 b kd i (upd (M kd i) j v) = .inr (ci, fs.set j (.int v))) (hd : dc cc pc (.putfield index) 3 pc2) (k : St p l e R s m args below meth c D t6 b n nL Q (u3 M kd i j v) pc2 L st) : St p l e R s m args below meth c D t6 b n nL Q M pc L (.int v :: .ref (ad b kd i) :: st) := by
  intro H locs ls hw hS hl
  obtain ⟨hx, hb, hml, hown, hr, hlk9, hk⟩ := G
  obtain ⟨hd, rfl⟩ := hd
  obtain ⟨f, hP, hF⟩ := id hw
  obtain ⟨q, hq0⟩ := va_pl_get (X := []) (f := f) (wl_in (b := b) hv)
  have hq1 := hq0
  rw [hF kd i hv, hc] at hq1
  refine va_putN hx hb (fun w h => hk.1 w h _) (tb_u hu) ty0 hty hnm hown hk.2 hP (wl_D b n f) hS q hq1 hq j hj (hk.1 _ (tb_in hlk rfl) _) (fun x h => by rw [hsame] at h; exact h) hfin hd0 hn hfit hlen hd (fun H1 locs1 hP1 _ hS1 => ?_)
  rw [va_pl_set (wl_D b n f) (wl_in (b := b) hv) hq0] at hP1
  exact k H1 locs1 ls ⟨_, hP1, ft_put hF hv hnew.symm⟩ hS1 hl
theorem sr_iald (G : cx p s m meth c cc nL own ret D t6) {kd i len : Nat} (hv : vv n kd i) (hc : cm_ t6 b kd i (M kd i) = .inl (t6 0, len, .inl (M kd i))) {x : Int32} (hin : vp_in x len) (hd : dc cc pc (.iaload) 1 pc2) (k : St p l e R s m args below meth c D t6 b n nL Q M pc2 L (.int (M kd i x.toNatClampNeg) :: st)) : St p l e R s m args below meth c D t6 b n nL Q M pc L (.int x :: .ref (ad b kd i) :: st) := by
  intro H locs ls hw hS hl
  obtain ⟨hx, hb, hml, hown, hr, hlk9, hk⟩ := G
  obtain ⟨hd, rfl⟩ := hd
  obtain ⟨f, hP, hF⟩ := id hw
  obtain ⟨q, hq0⟩ := va_pl_get (X := []) (f := f) (wl_in (b := b) hv)
  rw [hF kd i hv, hc] at hq0
  exact va_iald hx hb hk.2 hP q 0 hq0 rfl hin hd (k H locs ls hw hS hl)
theorem sr_iast (G : cx p s m meth c cc nL own ret D t6) {kd i len : Nat} (hv : vv n kd i) (hc : ∀ mm : Nat → Int32, cm_ t6 b kd i mm = .inl (t6 0, len, .inl mm)) {x v : Int32} (hin : vp_in x len) (hd : dc cc pc (.iastore) 1 pc2) (k : St p l e R s m args below meth c D t6 b n nL Q (u3 M kd i x.toNatClampNeg v) pc2 L st) : St p l e R s m args below meth c D t6 b n nL Q M pc L (.int v :: .int x :: .ref (ad b kd i) :: st) := by
  intro H locs ls hw hS hl
  obtain ⟨hx, hb, hml, hown, hr, hlk9, hk⟩ := G
  obtain ⟨hd, rfl⟩ := hd
  obtain ⟨f, hP, hF⟩ := id hw
  obtain ⟨q, hq0⟩ := va_pl_get (X := []) (f := f) (wl_in (b := b) hv)
  have hq1 := hq0
  rw [hF kd i hv, hc] at hq1
  refine va_iast hx hb hk.2 hP (wl_D b n f) hS q 0 hq1 rfl hin hd (fun H1 locs1 hP1 _ hS1 => ?_)
  rw [va_pl_set (wl_D b n f) (wl_in (b := b) hv) hq0] at hP1
  exact k H1 locs1 ls ⟨_, hP1, ft_put hF hv (hc _).symm⟩ hS1 hl
theorem sr_zald (G : cx p s m meth c cc nL own ret D t6) {kd i len : Nat} (hv : vv n kd i) (hc : cm_ t6 b kd i (M kd i) = .inl (t6 1, len, .inl (M kd i))) {x : Int32} (hin : vp_in x len) (hd : dc cc pc (.baload) 1 pc2) (k : St p l e R s m args below meth c D t6 b n nL Q M pc2 L (.int (M kd i x.toNatClampNeg) :: st)) : St p l e R s m args below meth c D t6 b n nL Q M pc L (.int x :: .ref (ad b kd i) :: st) := by
  intro H locs ls hw hS hl
  obtain ⟨hx, hb, hml, hown, hr, hlk9, hk⟩ := G
  obtain ⟨hd, rfl⟩ := hd
  obtain ⟨f, hP, hF⟩ := id hw
  obtain ⟨q, hq0⟩ := va_pl_get (X := []) (f := f) (wl_in (b := b) hv)
  rw [hF kd i hv, hc] at hq0
  exact va_zald hx hb hk.2 hP q 1 hq0 rfl hin hd (k H locs ls hw hS hl)
theorem sr_zast (G : cx p s m meth c cc nL own ret D t6) {kd i len : Nat} (hv : vv n kd i) (hc : ∀ mm : Nat → Int32, cm_ t6 b kd i mm = .inl (t6 1, len, .inl mm)) {x v : Int32} (hnb : vp_nar .boolean v = v) (hin : vp_in x len) (hd : dc cc pc (.bastore) 1 pc2) (k : St p l e R s m args below meth c D t6 b n nL Q (u3 M kd i x.toNatClampNeg v) pc2 L st) : St p l e R s m args below meth c D t6 b n nL Q M pc L (.int v :: .int x :: .ref (ad b kd i) :: st) := by
  intro H locs ls hw hS hl
  obtain ⟨hx, hb, hml, hown, hr, hlk9, hk⟩ := G
  obtain ⟨hd, rfl⟩ := hd
  obtain ⟨f, hP, hF⟩ := id hw
  obtain ⟨q, hq0⟩ := va_pl_get (X := []) (f := f) (wl_in (b := b) hv)
  have hq1 := hq0
  rw [hF kd i hv, hc] at hq1
  refine va_zast hx hb hk.2 hP (wl_D b n f) hS q 1 hq1 rfl hin hd (fun H1 locs1 hP1 _ hS1 => ?_)
  rw [va_pl_set (wl_D b n f) (wl_in (b := b) hv) hq0] at hP1
  rw [hnb] at hP1
  exact k H1 locs1 ls ⟨_, hP1, ft_put hF hv (hc _).symm⟩ hS1 hl
theorem sr_aald (G : cx p s m meth c cc nL own ret D t6) {kd i len tx : Nat} {C : String} {g : Nat → Nat} (hv : vv n kd i) (hc : cm_ t6 b kd i (M kd i) = .inl (t6 tx, len, .inr (.inr (.inr (.inr (fun j => some (g j))))))) (ht : (ty6 t6)[tx]? = some (t6 tx, .object C)) {x : Int32} (hin : vp_in x len) (hd : dc cc pc (.aaload) 1 pc2) (k : St p l e R s m args below meth c D t6 b n nL Q M pc2 L (.ref (g x.toNatClampNeg) :: st)) : St p l e R s m args below meth c D t6 b n nL Q M pc L (.int x :: .ref (ad b kd i) :: st) := by
  intro H locs ls hw hS hl
  obtain ⟨hx, hb, hml, hown, hr, hlk9, hk⟩ := G
  obtain ⟨hd, rfl⟩ := hd
  obtain ⟨f, hP, hF⟩ := id hw
  obtain ⟨q, hq0⟩ := va_pl_get (X := []) (f := f) (wl_in (b := b) hv)
  rw [hF kd i hv, hc] at hq0
  exact va_aldq hx hb hk.2 hP q tx hq0 ht hin hd (k H locs ls hw hS hl)
theorem sr_alen (G : cx p s m meth c cc nL own ret D t6) {kd i len tx : Nat} {ty : FieldType} {z : (Nat → Int32) ⊕ (Nat → Int64) ⊕ (Nat → UInt32) ⊕ (Nat → UInt64) ⊕ (Nat → Option Nat)} (hv : vv n kd i) (hc : cm_ t6 b kd i (M kd i) = .inl (t6 tx, len, z)) (ht : (ty6 t6)[tx]? = some (t6 tx, ty)) {v : Int32} (hl9 : Int32.ofNat len = v) (hd : dc cc pc (.arraylength) 1 pc2) (k : St p l e R s m args below meth c D t6 b n nL Q M pc2 L (.int v :: st)) : St p l e R s m args below meth c D t6 b n nL Q M pc L (.ref (ad b kd i) :: st) := by
  intro H locs ls hw hS hl
  obtain ⟨hx, hb, hml, hown, hr, hlk9, hk⟩ := G
  obtain ⟨hd, rfl⟩ := hd
  obtain ⟨f, hP, hF⟩ := id hw
  obtain ⟨q, hq0⟩ := va_pl_get (X := []) (f := f) (wl_in (b := b) hv)
  rw [hF kd i hv, hc] at hq0
  exact va_alen hx hb hk.2 hP q tx hq0 ht hl9 hd (k H locs ls hw hS hl)
end
def pw_ (D : va_G) (t6 : Nat → ClassId) (b n : Nat) (M : Mem) (av : List Value) : Array Value → State → Prop := va_Pc av (fun U => kk_ D t6 U ∧ wo D t6 b n M U.heap)
theorem pw_blind {D : va_G} {t6 : Nat → ClassId} {b n : Nat} {M : Mem} {av : List Value} : FrameBlind (pw_ D t6 b n M av) := by
  intro a U g mk q
  obtain ⟨q0, qk, qw⟩ := q
  exact ⟨q0, kk_warm (s := U) (U := U.calling g mk a) (State.WarmedH.refl U) qk, qw⟩
abbrev qi_ (D : va_G) (t6 : Nat → ClassId) (b n : Nat) (r : Int32) (M2 : Mem) : Array Value → State → Outcome → State → Prop := va_Qi (fun (r1 : Int32) (N : Mem) => r1 = r ∧ N = M2) (fun N t => wo D t6 b n N t.heap) (fun q => b ≤ q)
abbrev qv_ (D : va_G) (t6 : Nat → ClassId) (b n : Nat) (M2 : Mem) : Array Value → State → Outcome → State → Prop := va_Qv (fun (N : Mem) => N = M2) (fun N t => wo D t6 b n N t.heap) (fun q => b ≤ q)
abbrev qr_ (D : va_G) (t6 : Nat → ClassId) (b n : Nat) (r : Nat) (M2 : Mem) : Array Value → State → Outcome → State → Prop := va_Qr (fun (N : Mem) => N = M2) (fun N a t => a = r ∧ wo D t6 b n N t.heap) (fun q => b ≤ q)
/-- the contract of a method that answers an int: its answer and the memory behind it -/
def CI (l : Launch) (D : va_G) (t6 : Nat → ClassId) (b n : Nat) (y : MethodName) (cc : ByteArray) (nL : Nat) (ty : FieldType) (rm : Room) (av : List Value) (M : Mem) (r : Int32) (M2 : Mem) : Prop := Met l y [.code y cc nL (some ty)] rm (pw_ D t6 b n M av) (qi_ D t6 b n r M2) 0 0 (fun q => b ≤ q)
def CV (l : Launch) (D : va_G) (t6 : Nat → ClassId) (b n : Nat) (y : MethodName) (cc : ByteArray) (nL : Nat) (rm : Room) (av : List Value) (M M2 : Mem) : Prop := Met l y [.code y cc nL none] rm (pw_ D t6 b n M av) (qv_ D t6 b n M2) 0 0 (fun q => b ≤ q)
def CA (l : Launch) (D : va_G) (t6 : Nat → ClassId) (b n : Nat) (y : MethodName) (cc : ByteArray) (nL : Nat) (ty : FieldType) (rm : Room) (av : List Value) (M : Mem) (r : Nat) (M2 : Mem) : Prop := Met l y [.code y cc nL (some ty)] rm (pw_ D t6 b n M av) (qr_ D t6 b n r M2) 0 0 (fun q => b ≤ q)
def rk (f lo : Nat) : Room := { frames := f, cells := 0, slots := 0, locals := lo }
theorem hs_entry {av : List Value} {nL : Nat} (hc : ∀ v ∈ av, v.category = 1) (hle : av.length ≤ nL) : hs ((lg_sl av ++ List.replicate (nL - (lg_sl av).length) Slot.unset).toArray) nL (av.map some ++ List.replicate (nL - av.length) none) := by
  have hsl : (lg_sl av).length = av.length := by
    clear hle
    induction av with
    | nil => rfl
    | cons v vs ih =>
      have h1 := hc v List.mem_cons_self
      have h2 := ih (fun w hw => hc w (List.mem_cons_of_mem _ hw))
      unfold lg_sl at h2 ⊢
      rw [List.flatMap_cons, List.length_append, h2, if_neg (by omega)]
      simp
      omega
  have h := lv_entry av (n := nL) (by rw [hsl]; exact hle)
  refine ⟨h.1, h.2.1, fun i v hi => ?_⟩
  have key : ∀ (vs : List Value) (k i : Nat) (v : Value), (∀ w ∈ vs, w.category = 1) → vs[i]? = some v → (k + i, v) ∈ lv_args k vs := by
    intro vs
    induction vs with
    | nil => intro k i v _ h; simp at h
    | cons w ws ih =>
      intro k i v hw h
      unfold lv_args
      rw [if_neg (by rw [hw w List.mem_cons_self]; omega)]
      cases i with
      | zero => simp at h; subst h; simp
      | succ i =>
        rw [List.getElem?_cons_succ] at h
        have := ih (k + 1) i v (fun z hz => hw z (List.mem_cons_of_mem _ hz)) h
        rw [show k + 1 + i = k + (i + 1) by omega] at this
        exact List.mem_cons_of_mem _ this
  have hav : av[i]? = some v := by
    by_cases hlt : i < av.length
    · rw [List.getElem?_append_left (by simpa using hlt), List.getElem?_map] at hi
      cases ha : av[i]? with
      | none => rw [ha] at hi; cases hi
      | some w => rw [ha] at hi; cases hi; rfl
    · rw [List.getElem?_append_right (by simpa using hlt)] at hi
      have := List.mem_of_getElem? hi
      simp at this
  refine ⟨hc v (List.mem_of_getElem? hav), ?_⟩
  have := h.2.2 (0 + i, v) (key av 0 i v hc hav)
  simpa using this
theorem en_i {l : Launch} {D : va_G} {t6 : Nat → ClassId} {b n : Nat} {y : MethodName} {cc : ByteArray} {nL : Nat} {ty : FieldType} {rm : Room} {av : List Value} {M : Mem} {r : Int32} {M2 : Mem} (hy : plainName y.cls = true) (hc : ∀ v ∈ av, v.category = 1) (hle : av.length ≤ nL)
    (body : ∀ (p : Program) (e : Env) (s : State) (m : MethodId) (below : List Frame) (meth : Method) (c : Code), cx p s m meth c cc nL y.cls (some ty) D t6 → St p l e rm s m av.toArray below meth c D t6 b n nL (MQ below (qi_ D t6 b n r M2) av.toArray s 0 0 (fun q => b ≤ q)) M 0 (av.map some ++ List.replicate (nL - av.length) none) []) : CI l D t6 b n y cc nL ty rm av M r M2 := by
  refine Met.ofW (cc := cc) (maxL := nL) (ret := some ty) hy rfl ?_
  intro p e s m args below meth c s₁ B hml hv
  obtain ⟨rfl, hk, hw⟩ := hv
  have G : cx p s m meth c cc nL y.cls (some ty) D t6 := ⟨B.exec, B.bytes, hml, findClass_of_methodNamed B.named, B.returns, B.notSynchronized, hk⟩
  rw [lg_entry_eq]
  exact body p e s m below meth c G s.heap [] _ hw va_S.rf (hs_entry hc hle)
theorem en_v {l : Launch} {D : va_G} {t6 : Nat → ClassId} {b n : Nat} {y : MethodName} {cc : ByteArray} {nL : Nat} {rm : Room} {av : List Value} {M : Mem} {M2 : Mem} (hy : plainName y.cls = true) (hc : ∀ v ∈ av, v.category = 1) (hle : av.length ≤ nL)
    (body : ∀ (p : Program) (e : Env) (s : State) (m : MethodId) (below : List Frame) (meth : Method) (c : Code), cx p s m meth c cc nL y.cls (none) D t6 → St p l e rm s m av.toArray below meth c D t6 b n nL (MQ below (qv_ D t6 b n M2) av.toArray s 0 0 (fun q => b ≤ q)) M 0 (av.map some ++ List.replicate (nL - av.length) none) []) : CV l D t6 b n y cc nL rm av M M2 := by
  refine Met.ofW (cc := cc) (maxL := nL) (ret := none) hy rfl ?_
  intro p e s m args below meth c s₁ B hml hv
  obtain ⟨rfl, hk, hw⟩ := hv
  have G : cx p s m meth c cc nL y.cls (none) D t6 := ⟨B.exec, B.bytes, hml, findClass_of_methodNamed B.named, B.returns, B.notSynchronized, hk⟩
  rw [lg_entry_eq]
  exact body p e s m below meth c G s.heap [] _ hw va_S.rf (hs_entry hc hle)
theorem en_a {l : Launch} {D : va_G} {t6 : Nat → ClassId} {b n : Nat} {y : MethodName} {cc : ByteArray} {nL : Nat} {ty : FieldType} {rm : Room} {av : List Value} {M : Mem} {r : Nat} {M2 : Mem} (hy : plainName y.cls = true) (hc : ∀ v ∈ av, v.category = 1) (hle : av.length ≤ nL)
    (body : ∀ (p : Program) (e : Env) (s : State) (m : MethodId) (below : List Frame) (meth : Method) (c : Code), cx p s m meth c cc nL y.cls (some ty) D t6 → St p l e rm s m av.toArray below meth c D t6 b n nL (MQ below (qr_ D t6 b n r M2) av.toArray s 0 0 (fun q => b ≤ q)) M 0 (av.map some ++ List.replicate (nL - av.length) none) []) : CA l D t6 b n y cc nL ty rm av M r M2 := by
  refine Met.ofW (cc := cc) (maxL := nL) (ret := some ty) hy rfl ?_
  intro p e s m args below meth c s₁ B hml hv
  obtain ⟨rfl, hk, hw⟩ := hv
  have G : cx p s m meth c cc nL y.cls (some ty) D t6 := ⟨B.exec, B.bytes, hml, findClass_of_methodNamed B.named, B.returns, B.notSynchronized, hk⟩
  rw [lg_entry_eq]
  exact body p e s m below meth c G s.heap [] _ hw va_S.rf (hs_entry hc hle)
section
variable {p : Program} {l : Launch} {e : Env} {R : Room} {s : State} {m : MethodId} {args : Array Value} {below : List Frame} {meth : Method} {c : Code} {D : va_G} {t6 : Nat → ClassId} {b n nL : Nat} {Q : State → Prop} {M : Mem} {pc pc2 : Nat} {L : List (Option Value)} {st : List Value} {cc : ByteArray} {own : String} {ret : Option FieldType}

theorem sr_iret (G : cx p s m meth c cc nL own (some .int) D t6) {r1 r : Int32} {M2 : Mem} (hd : dc cc pc (.ireturn) 1 pc2) (h : r1 = r ∧ M = M2) : St p l e R s m args below meth c D t6 b n nL (MQ below (qi_ D t6 b n r M2) args s 0 0 (fun q => b ≤ q)) M pc L [.int r1] := by
  intro H locs ls hw hS hl
  obtain ⟨hx, hb, hml, hown, hr, hlk, hk⟩ := G
  exact W.iret hx hb hr (fun t ht hW => ⟨⟨r1, M, rfl, h, (show wo D t6 b n M t.heap by rw [ht]; exact hw)⟩, hS.F ht⟩) hS.2.2 hd.1 hlk
theorem sr_zret (G : cx p s m meth c cc nL own (some .boolean) D t6) {r1 r : Int32} {M2 : Mem} (hnb : narrow .boolean (.int r1) = .int r1) (hd : dc cc pc (.ireturn) 1 pc2) (h : r1 = r ∧ M = M2) : St p l e R s m args below meth c D t6 b n nL (MQ below (qi_ D t6 b n r M2) args s 0 0 (fun q => b ≤ q)) M pc L [.int r1] := by
  intro H locs ls hw hS hl
  obtain ⟨hx, hb, hml, hown, hr, hlk, hk⟩ := G
  exact W.zret hx hb hr hnb (fun t ht hW => ⟨⟨r1, M, rfl, h, (show wo D t6 b n M t.heap by rw [ht]; exact hw)⟩, hS.F ht⟩) hS.2.2 hd.1 hlk
theorem sr_vret (G : cx p s m meth c cc nL own none D t6) {M2 : Mem} (hd : dc cc pc (.return_) 1 pc2) (h : M = M2) : St p l e R s m args below meth c D t6 b n nL (MQ below (qv_ D t6 b n M2) args s 0 0 (fun q => b ≤ q)) M pc L [] := by
  intro H locs ls hw hS hl
  obtain ⟨hx, hb, hml, hown, hr, hlk, hk⟩ := G
  exact W.vret hx hb hr (fun t ht hW => ⟨⟨M, rfl, h, (show wo D t6 b n M t.heap by rw [ht]; exact hw)⟩, hS.F ht⟩) hS.2.2 hd.1 hlk
theorem sr_aret {t0 : FieldType} (G : cx p s m meth c cc nL own (some (.array t0)) D t6) {r1 r : Nat} {M2 : Mem} (hd : dc cc pc (.areturn) 1 pc2) (h : r1 = r ∧ M = M2) : St p l e R s m args below meth c D t6 b n nL (MQ below (qr_ D t6 b n r M2) args s 0 0 (fun q => b ≤ q)) M pc L [.ref r1] := by
  intro H locs ls hw hS hl
  obtain ⟨hx, hb, hml, hown, hr, hlk, hk⟩ := G
  exact W.aret hx hb hr (Or.inr ⟨_, rfl⟩) (Or.inr ⟨_, rfl⟩) (fun t ht hW => ⟨⟨M, r1, rfl, h.2, h.1, by rw [ht]; exact hw⟩, hS.F ht⟩) hS.2.2 hd.1 hlk
theorem gd_code {y : MethodName} {cc : ByteArray} {nL : Nat} {r : Option FieldType} (h : Cond.code y cc nL r ∈ lw_tbl) : GoodIn tb_ [.code y cc nL r] := by
  intro w hw
  rw [List.mem_singleton] at hw
  subst hw
  exact ⟨tb_in h rfl, Or.inl rfl⟩
theorem wo_recv {H : Heap} {kd i ci : Nat} {fs : List Value} {q : vw_C} (hk : kk_ D t6 s) (hw : wo D t6 b n M H) (hv : vv n kd i) (hc : cm_ t6 b kd i (M kd i) = .inr (ci, fs)) (hq : classes[ci]? = some q) : ∃ cell : Cell, H[ad b kd i]? = some cell ∧ cell.vm.isStatics = false ∧ s.vm.findClass q.1 = some cell.cls := by
  obtain ⟨f, hP, hF⟩ := hw
  obtain ⟨z, hz⟩ := va_pl_get (X := []) (f := f) (wl_in (b := b) hv)
  rw [hF kd i hv, hc] at hz
  exact va_recv hk.2 hP hq hz
abbrev yy_ (y : MethodName) (k : Nat) : Prop := y.cls ≠ "java/lang/invoke/MethodHandle" ∧ y.cls ≠ "java/lang/invoke/VarHandle" ∧ (parseMethodDescriptor y.desc).map (fun d => d.parameters.length) = some k
abbrev rr_ (rm R : Room) (nL2 : Nat) : Prop := rm.cells = 0 ∧ rm.slots = 0 ∧ rm.frames + 1 ≤ R.frames ∧ 8 + (nL2 + 11) + rm.locals ≤ R.locals
theorem sr_csi (G : cx p s m meth c cc nL own ret D t6) {y : MethodName} {cc2 : ByteArray} {nL2 k9 : Nat} {rm : Room} {As rest stk : List Value} {ty2 : FieldType} {r : Int32} {M2 : Mem} (hst : Cond.static y ∈ lw_tbl) (hM : CI l D t6 b n y cc2 nL2 ty2 rm As M r M2) {index : Nat} (hco : Cond.code y cc2 nL2 (some ty2) ∈ lw_tbl) (hlk : Cond.methodLink own index y ∈ lw_tbl) (hini : Cond.initialized y.cls ∈ lw_tbl) (hy : yy_ y k9) (hin1 : As.length = k9) (hrr : rr_ rm R nL2) (hrest : (rest.map fun v => v.category).sum ≤ 8) (hstk : stk = As.reverse ++ rest) (hd : dc cc pc (.invokestatic index) 3 pc2) (k : St p l e R s m args below meth c D t6 b n nL Q M2 pc2 L (.int r :: rest)) : St p l e R s m args below meth c D t6 b n nL Q M pc L stk := by
  intro H locs ls hw hS hl
  obtain ⟨hx, hb, hml, hown, hr, hlk9, hk⟩ := G
  obtain ⟨hd, rfl⟩ := hd
  subst hstk
  subst hin1
  have hts : ∀ w ∈ tb_, w.before args s = true := fun w h => hk.1 w h _
  refine va_calli (va_runS (As := As) (rest := rest) (g := F0 m pc ls _) ⟨hx, hb, hml, hown, hts⟩ hM (⟨callB_of As.length hts (gd_code hco) rfl hrr.1 hrr.2.1 (hts _ (tb_in hini rfl)) (hts _ (tb_in hlk rfl)) hy ⟨hrr.2.2.1, hrr.2.2.2⟩, hts _ (tb_in hst rfl)⟩) ⟨pw_blind, fun U hU hW => ⟨rfl, kk_warm hW hk, by rw [hU]; exact hw⟩⟩ rfl rfl hl.1 rfl (lv_room hrest) hd ⟨Nat.zero_le _, Nat.zero_le _⟩) hS (fun q _ h => h) (fun q h => h) (fun r1 u t H1 locs1 ht _ hp hB _ _ hS1 => ?_)
  obtain ⟨rfl, rfl⟩ := hp
  exact k H1 locs1 ls (by rw [← ht]; exact hB) hS1 hl
theorem sr_csv (G : cx p s m meth c cc nL own ret D t6) {y : MethodName} {cc2 : ByteArray} {nL2 k9 : Nat} {rm : Room} {As rest stk : List Value} {M2 : Mem} (hst : Cond.static y ∈ lw_tbl) (hM : CV l D t6 b n y cc2 nL2 rm As M M2) {index : Nat} (hco : Cond.code y cc2 nL2 none ∈ lw_tbl) (hlk : Cond.methodLink own index y ∈ lw_tbl) (hini : Cond.initialized y.cls ∈ lw_tbl) (hy : yy_ y k9) (hin1 : As.length = k9) (hrr : rr_ rm R nL2) (hrest : (rest.map fun v => v.category).sum ≤ 8) (hstk : stk = As.reverse ++ rest) (hd : dc cc pc (.invokestatic index) 3 pc2) (k : St p l e R s m args below meth c D t6 b n nL Q M2 pc2 L rest) : St p l e R s m args below meth c D t6 b n nL Q M pc L stk := by
  intro H locs ls hw hS hl
  obtain ⟨hx, hb, hml, hown, hr, hlk9, hk⟩ := G
  obtain ⟨hd, rfl⟩ := hd
  subst hstk
  subst hin1
  have hts : ∀ w ∈ tb_, w.before args s = true := fun w h => hk.1 w h _
  refine va_callv (va_runS (As := As) (rest := rest) (g := F0 m pc ls _) ⟨hx, hb, hml, hown, hts⟩ hM (⟨callB_of As.length hts (gd_code hco) rfl hrr.1 hrr.2.1 (hts _ (tb_in hini rfl)) (hts _ (tb_in hlk rfl)) hy ⟨hrr.2.2.1, hrr.2.2.2⟩, hts _ (tb_in hst rfl)⟩) ⟨pw_blind, fun U hU hW => ⟨rfl, kk_warm hW hk, by rw [hU]; exact hw⟩⟩ rfl rfl hl.1 rfl (lv_room hrest) hd ⟨Nat.zero_le _, Nat.zero_le _⟩) hS (fun q _ h => h) (fun q h => h) (fun u t H1 locs1 ht _ hp hB _ _ hS1 => ?_)
  subst hp
  exact k H1 locs1 ls (by rw [← ht]; exact hB) hS1 hl
theorem sr_csa (G : cx p s m meth c cc nL own ret D t6) {y : MethodName} {cc2 : ByteArray} {nL2 k9 : Nat} {rm : Room} {As rest stk : List Value} {ty2 : FieldType} {r : Nat} {M2 : Mem} (hst : Cond.static y ∈ lw_tbl) (hM : CA l D t6 b n y cc2 nL2 ty2 rm As M r M2) {index : Nat} (hco : Cond.code y cc2 nL2 (some ty2) ∈ lw_tbl) (hlk : Cond.methodLink own index y ∈ lw_tbl) (hini : Cond.initialized y.cls ∈ lw_tbl) (hy : yy_ y k9) (hin1 : As.length = k9) (hrr : rr_ rm R nL2) (hrest : (rest.map fun v => v.category).sum ≤ 8) (hstk : stk = As.reverse ++ rest) (hd : dc cc pc (.invokestatic index) 3 pc2) (k : St p l e R s m args below meth c D t6 b n nL Q M2 pc2 L (.ref r :: rest)) : St p l e R s m args below meth c D t6 b n nL Q M pc L stk := by
  intro H locs ls hw hS hl
  obtain ⟨hx, hb, hml, hown, hr, hlk9, hk⟩ := G
  obtain ⟨hd, rfl⟩ := hd
  subst hstk
  subst hin1
  have hts : ∀ w ∈ tb_, w.before args s = true := fun w h => hk.1 w h _
  refine va_callr (va_runS (As := As) (rest := rest) (g := F0 m pc ls _) ⟨hx, hb, hml, hown, hts⟩ hM (⟨callB_of As.length hts (gd_code hco) rfl hrr.1 hrr.2.1 (hts _ (tb_in hini rfl)) (hts _ (tb_in hlk rfl)) hy ⟨hrr.2.2.1, hrr.2.2.2⟩, hts _ (tb_in hst rfl)⟩) ⟨pw_blind, fun U hU hW => ⟨rfl, kk_warm hW hk, by rw [hU]; exact hw⟩⟩ rfl rfl hl.1 rfl (lv_room hrest) hd ⟨Nat.zero_le _, Nat.zero_le _⟩) hS (fun q _ h => h) (fun q h => h) (fun u a1 t H1 locs1 ht _ hp hB _ _ hS1 => ?_)
  subst hp
  obtain ⟨rfl, hB⟩ := hB
  exact k H1 locs1 ls (by rw [← ht]; exact hB) hS1 hl
theorem sr_csNi (G : cx p s m meth c cc nL own ret D t6) {y : MethodName} {cc2 : ByteArray} {nL2 k9 : Nat} {rm : Room} {As rest stk : List Value} {ty2 : FieldType} {r : Int32} {M2 : Mem} (hst : Cond.static y ∈ lw_tbl) (hM : CI l D t6 b n y cc2 nL2 ty2 rm As M r M2) {index : Nat} (hco : Cond.code y cc2 nL2 (some ty2) ∈ lw_tbl) {host : String} (hlk : Cond.methodLinkNest own index y host ∈ lw_tbl) (hini : Cond.initialized y.cls ∈ lw_tbl) (hy : yy_ y k9) (hin1 : As.length = k9) (hrr : rr_ rm R nL2) (hrest : (rest.map fun v => v.category).sum ≤ 8) (hstk : stk = As.reverse ++ rest) (hd : dc cc pc (.invokestatic index) 3 pc2) (k : St p l e R s m args below meth c D t6 b n nL Q M2 pc2 L (.int r :: rest)) : St p l e R s m args below meth c D t6 b n nL Q M pc L stk := by
  intro H locs ls hw hS hl
  obtain ⟨hx, hb, hml, hown, hr, hlk9, hk⟩ := G
  obtain ⟨hd, rfl⟩ := hd
  subst hstk
  subst hin1
  have hts : ∀ w ∈ tb_, w.before args s = true := fun w h => hk.1 w h _
  refine va_calli (va_runSN (As := As) (rest := rest) (g := F0 m pc ls _) ⟨hx, hb, hml, hown, hts⟩ hM (⟨va_cnB As.length hts (gd_code hco) rfl hrr.1 hrr.2.1 (hk.1 _ (tb_in hlk rfl) _) (hts _ (tb_in hini rfl)) hy ⟨hrr.2.2.1, hrr.2.2.2⟩, hts _ (tb_in hst rfl), trivial⟩) ⟨pw_blind, fun U hU hW => ⟨rfl, kk_warm hW hk, by rw [hU]; exact hw⟩⟩ rfl rfl hl.1 rfl (lv_room hrest) hd ⟨Nat.zero_le _, Nat.zero_le _⟩) hS (fun q _ h => h) (fun q h => h) (fun r1 u t H1 locs1 ht _ hp hB _ _ hS1 => ?_)
  obtain ⟨rfl, rfl⟩ := hp
  exact k H1 locs1 ls (by rw [← ht]; exact hB) hS1 hl
theorem sr_csNv (G : cx p s m meth c cc nL own ret D t6) {y : MethodName} {cc2 : ByteArray} {nL2 k9 : Nat} {rm : Room} {As rest stk : List Value} {M2 : Mem} (hst : Cond.static y ∈ lw_tbl) (hM : CV l D t6 b n y cc2 nL2 rm As M M2) {index : Nat} (hco : Cond.code y cc2 nL2 none ∈ lw_tbl) {host : String} (hlk : Cond.methodLinkNest own index y host ∈ lw_tbl) (hini : Cond.initialized y.cls ∈ lw_tbl) (hy : yy_ y k9) (hin1 : As.length = k9) (hrr : rr_ rm R nL2) (hrest : (rest.map fun v => v.category).sum ≤ 8) (hstk : stk = As.reverse ++ rest) (hd : dc cc pc (.invokestatic index) 3 pc2) (k : St p l e R s m args below meth c D t6 b n nL Q M2 pc2 L rest) : St p l e R s m args below meth c D t6 b n nL Q M pc L stk := by
  intro H locs ls hw hS hl
  obtain ⟨hx, hb, hml, hown, hr, hlk9, hk⟩ := G
  obtain ⟨hd, rfl⟩ := hd
  subst hstk
  subst hin1
  have hts : ∀ w ∈ tb_, w.before args s = true := fun w h => hk.1 w h _
  refine va_callv (va_runSN (As := As) (rest := rest) (g := F0 m pc ls _) ⟨hx, hb, hml, hown, hts⟩ hM (⟨va_cnB As.length hts (gd_code hco) rfl hrr.1 hrr.2.1 (hk.1 _ (tb_in hlk rfl) _) (hts _ (tb_in hini rfl)) hy ⟨hrr.2.2.1, hrr.2.2.2⟩, hts _ (tb_in hst rfl), trivial⟩) ⟨pw_blind, fun U hU hW => ⟨rfl, kk_warm hW hk, by rw [hU]; exact hw⟩⟩ rfl rfl hl.1 rfl (lv_room hrest) hd ⟨Nat.zero_le _, Nat.zero_le _⟩) hS (fun q _ h => h) (fun q h => h) (fun u t H1 locs1 ht _ hp hB _ _ hS1 => ?_)
  subst hp
  exact k H1 locs1 ls (by rw [← ht]; exact hB) hS1 hl
theorem sr_csNa (G : cx p s m meth c cc nL own ret D t6) {y : MethodName} {cc2 : ByteArray} {nL2 k9 : Nat} {rm : Room} {As rest stk : List Value} {ty2 : FieldType} {r : Nat} {M2 : Mem} (hst : Cond.static y ∈ lw_tbl) (hM : CA l D t6 b n y cc2 nL2 ty2 rm As M r M2) {index : Nat} (hco : Cond.code y cc2 nL2 (some ty2) ∈ lw_tbl) {host : String} (hlk : Cond.methodLinkNest own index y host ∈ lw_tbl) (hini : Cond.initialized y.cls ∈ lw_tbl) (hy : yy_ y k9) (hin1 : As.length = k9) (hrr : rr_ rm R nL2) (hrest : (rest.map fun v => v.category).sum ≤ 8) (hstk : stk = As.reverse ++ rest) (hd : dc cc pc (.invokestatic index) 3 pc2) (k : St p l e R s m args below meth c D t6 b n nL Q M2 pc2 L (.ref r :: rest)) : St p l e R s m args below meth c D t6 b n nL Q M pc L stk := by
  intro H locs ls hw hS hl
  obtain ⟨hx, hb, hml, hown, hr, hlk9, hk⟩ := G
  obtain ⟨hd, rfl⟩ := hd
  subst hstk
  subst hin1
  have hts : ∀ w ∈ tb_, w.before args s = true := fun w h => hk.1 w h _
  refine va_callr (va_runSN (As := As) (rest := rest) (g := F0 m pc ls _) ⟨hx, hb, hml, hown, hts⟩ hM (⟨va_cnB As.length hts (gd_code hco) rfl hrr.1 hrr.2.1 (hk.1 _ (tb_in hlk rfl) _) (hts _ (tb_in hini rfl)) hy ⟨hrr.2.2.1, hrr.2.2.2⟩, hts _ (tb_in hst rfl), trivial⟩) ⟨pw_blind, fun U hU hW => ⟨rfl, kk_warm hW hk, by rw [hU]; exact hw⟩⟩ rfl rfl hl.1 rfl (lv_room hrest) hd ⟨Nat.zero_le _, Nat.zero_le _⟩) hS (fun q _ h => h) (fun q h => h) (fun u a1 t H1 locs1 ht _ hp hB _ _ hS1 => ?_)
  subst hp
  obtain ⟨rfl, hB⟩ := hB
  exact k H1 locs1 ls (by rw [← ht]; exact hB) hS1 hl
theorem sr_cvi (G : cx p s m meth c cc nL own ret D t6) {y : MethodName} {cc2 : ByteArray} {nL2 k9 : Nat} {rm : Room} {As rest stk : List Value} {ty2 : FieldType} {r : Int32} {M2 : Mem} {kd i ci : Nat} {fs : List Value} {T : u_T} {N : Nat} (hv : vv n kd i) (hc : cm_ t6 b kd i (M kd i) = .inr (ci, fs)) (hq : classes[ci]? = some (y.cls, T, N)) (hin : Cond.instanceMethod y ∈ lw_tbl) (hse : Cond.selects y.cls y y ∈ lw_tbl) (hM : CI l D t6 b n y cc2 nL2 ty2 rm (.ref (ad b kd i) :: As) M r M2) {index : Nat} (hco : Cond.code y cc2 nL2 (some ty2) ∈ lw_tbl) (hlk : Cond.methodLink own index y ∈ lw_tbl) (hini : Cond.initialized y.cls ∈ lw_tbl) (hy : yy_ y k9) (hin1 : As.length = k9) (hrr : rr_ rm R nL2) (hrest : (rest.map fun v => v.category).sum ≤ 8) (hstk : stk = As.reverse ++ .ref (ad b kd i) :: rest) (hd : dc cc pc (.invokevirtual index) 3 pc2) (k : St p l e R s m args below meth c D t6 b n nL Q M2 pc2 L (.int r :: rest)) : St p l e R s m args below meth c D t6 b n nL Q M pc L stk := by
  intro H locs ls hw hS hl
  obtain ⟨hx, hb, hml, hown, hr, hlk9, hk⟩ := G
  obtain ⟨hd, rfl⟩ := hd
  subst hstk
  subst hin1
  have hts : ∀ w ∈ tb_, w.before args s = true := fun w h => hk.1 w h _
  refine va_calli (va_runV (As := As) (rest := rest) (g := F0 m pc ls _) ⟨hx, hb, hml, hown, hts⟩ hM (⟨callB_of As.length hts (gd_code hco) rfl hrr.1 hrr.2.1 (hts _ (tb_in hini rfl)) (hts _ (tb_in hlk rfl)) hy ⟨hrr.2.2.1, hrr.2.2.2⟩, hts _ (tb_in hin rfl), hts _ (tb_in hse rfl)⟩) ⟨pw_blind, wo_recv hk hw hv hc hq, fun U hU hW => ⟨rfl, kk_warm hW hk, by rw [hU]; exact hw⟩⟩ rfl rfl hl.1 rfl (lv_room hrest) hd ⟨Nat.zero_le _, Nat.zero_le _⟩) hS (fun q _ h => h) (fun q h => h) (fun r1 u t H1 locs1 ht _ hp hB _ _ hS1 => ?_)
  obtain ⟨rfl, rfl⟩ := hp
  exact k H1 locs1 ls (by rw [← ht]; exact hB) hS1 hl
theorem sr_cvv (G : cx p s m meth c cc nL own ret D t6) {y : MethodName} {cc2 : ByteArray} {nL2 k9 : Nat} {rm : Room} {As rest stk : List Value} {M2 : Mem} {kd i ci : Nat} {fs : List Value} {T : u_T} {N : Nat} (hv : vv n kd i) (hc : cm_ t6 b kd i (M kd i) = .inr (ci, fs)) (hq : classes[ci]? = some (y.cls, T, N)) (hin : Cond.instanceMethod y ∈ lw_tbl) (hse : Cond.selects y.cls y y ∈ lw_tbl) (hM : CV l D t6 b n y cc2 nL2 rm (.ref (ad b kd i) :: As) M M2) {index : Nat} (hco : Cond.code y cc2 nL2 none ∈ lw_tbl) (hlk : Cond.methodLink own index y ∈ lw_tbl) (hini : Cond.initialized y.cls ∈ lw_tbl) (hy : yy_ y k9) (hin1 : As.length = k9) (hrr : rr_ rm R nL2) (hrest : (rest.map fun v => v.category).sum ≤ 8) (hstk : stk = As.reverse ++ .ref (ad b kd i) :: rest) (hd : dc cc pc (.invokevirtual index) 3 pc2) (k : St p l e R s m args below meth c D t6 b n nL Q M2 pc2 L rest) : St p l e R s m args below meth c D t6 b n nL Q M pc L stk := by
  intro H locs ls hw hS hl
  obtain ⟨hx, hb, hml, hown, hr, hlk9, hk⟩ := G
  obtain ⟨hd, rfl⟩ := hd
  subst hstk
  subst hin1
  have hts : ∀ w ∈ tb_, w.before args s = true := fun w h => hk.1 w h _
  refine va_callv (va_runV (As := As) (rest := rest) (g := F0 m pc ls _) ⟨hx, hb, hml, hown, hts⟩ hM (⟨callB_of As.length hts (gd_code hco) rfl hrr.1 hrr.2.1 (hts _ (tb_in hini rfl)) (hts _ (tb_in hlk rfl)) hy ⟨hrr.2.2.1, hrr.2.2.2⟩, hts _ (tb_in hin rfl), hts _ (tb_in hse rfl)⟩) ⟨pw_blind, wo_recv hk hw hv hc hq, fun U hU hW => ⟨rfl, kk_warm hW hk, by rw [hU]; exact hw⟩⟩ rfl rfl hl.1 rfl (lv_room hrest) hd ⟨Nat.zero_le _, Nat.zero_le _⟩) hS (fun q _ h => h) (fun q h => h) (fun u t H1 locs1 ht _ hp hB _ _ hS1 => ?_)
  subst hp
  exact k H1 locs1 ls (by rw [← ht]; exact hB) hS1 hl
theorem sr_cva (G : cx p s m meth c cc nL own ret D t6) {y : MethodName} {cc2 : ByteArray} {nL2 k9 : Nat} {rm : Room} {As rest stk : List Value} {ty2 : FieldType} {r : Nat} {M2 : Mem} {kd i ci : Nat} {fs : List Value} {T : u_T} {N : Nat} (hv : vv n kd i) (hc : cm_ t6 b kd i (M kd i) = .inr (ci, fs)) (hq : classes[ci]? = some (y.cls, T, N)) (hin : Cond.instanceMethod y ∈ lw_tbl) (hse : Cond.selects y.cls y y ∈ lw_tbl) (hM : CA l D t6 b n y cc2 nL2 ty2 rm (.ref (ad b kd i) :: As) M r M2) {index : Nat} (hco : Cond.code y cc2 nL2 (some ty2) ∈ lw_tbl) (hlk : Cond.methodLink own index y ∈ lw_tbl) (hini : Cond.initialized y.cls ∈ lw_tbl) (hy : yy_ y k9) (hin1 : As.length = k9) (hrr : rr_ rm R nL2) (hrest : (rest.map fun v => v.category).sum ≤ 8) (hstk : stk = As.reverse ++ .ref (ad b kd i) :: rest) (hd : dc cc pc (.invokevirtual index) 3 pc2) (k : St p l e R s m args below meth c D t6 b n nL Q M2 pc2 L (.ref r :: rest)) : St p l e R s m args below meth c D t6 b n nL Q M pc L stk := by
  intro H locs ls hw hS hl
  obtain ⟨hx, hb, hml, hown, hr, hlk9, hk⟩ := G
  obtain ⟨hd, rfl⟩ := hd
  subst hstk
  subst hin1
  have hts : ∀ w ∈ tb_, w.before args s = true := fun w h => hk.1 w h _
  refine va_callr (va_runV (As := As) (rest := rest) (g := F0 m pc ls _) ⟨hx, hb, hml, hown, hts⟩ hM (⟨callB_of As.length hts (gd_code hco) rfl hrr.1 hrr.2.1 (hts _ (tb_in hini rfl)) (hts _ (tb_in hlk rfl)) hy ⟨hrr.2.2.1, hrr.2.2.2⟩, hts _ (tb_in hin rfl), hts _ (tb_in hse rfl)⟩) ⟨pw_blind, wo_recv hk hw hv hc hq, fun U hU hW => ⟨rfl, kk_warm hW hk, by rw [hU]; exact hw⟩⟩ rfl rfl hl.1 rfl (lv_room hrest) hd ⟨Nat.zero_le _, Nat.zero_le _⟩) hS (fun q _ h => h) (fun q h => h) (fun u a1 t H1 locs1 ht _ hp hB _ _ hS1 => ?_)
  subst hp
  obtain ⟨rfl, hB⟩ := hB
  exact k H1 locs1 ls (by rw [← ht]; exact hB) hS1 hl
theorem sr_cvNi (G : cx p s m meth c cc nL own ret D t6) {y : MethodName} {cc2 : ByteArray} {nL2 k9 : Nat} {rm : Room} {As rest stk : List Value} {ty2 : FieldType} {r : Int32} {M2 : Mem} {kd i ci : Nat} {fs : List Value} {T : u_T} {N : Nat} (hv : vv n kd i) (hc : cm_ t6 b kd i (M kd i) = .inr (ci, fs)) (hq : classes[ci]? = some (y.cls, T, N)) (hin : Cond.instanceMethod y ∈ lw_tbl) (hse : Cond.selects y.cls y y ∈ lw_tbl) (hM : CI l D t6 b n y cc2 nL2 ty2 rm (.ref (ad b kd i) :: As) M r M2) {index : Nat} (hco : Cond.code y cc2 nL2 (some ty2) ∈ lw_tbl) {host : String} (hlk : Cond.methodLinkNest own index y host ∈ lw_tbl) (hini : Cond.initialized y.cls ∈ lw_tbl) (hy : yy_ y k9) (hin1 : As.length = k9) (hrr : rr_ rm R nL2) (hrest : (rest.map fun v => v.category).sum ≤ 8) (hstk : stk = As.reverse ++ .ref (ad b kd i) :: rest) (hd : dc cc pc (.invokevirtual index) 3 pc2) (k : St p l e R s m args below meth c D t6 b n nL Q M2 pc2 L (.int r :: rest)) : St p l e R s m args below meth c D t6 b n nL Q M pc L stk := by
  intro H locs ls hw hS hl
  obtain ⟨hx, hb, hml, hown, hr, hlk9, hk⟩ := G
  obtain ⟨hd, rfl⟩ := hd
  subst hstk
  subst hin1
  have hts : ∀ w ∈ tb_, w.before args s = true := fun w h => hk.1 w h _
  refine va_calli (va_runVN (As := As) (rest := rest) (g := F0 m pc ls _) ⟨hx, hb, hml, hown, hts⟩ hM (⟨va_cnB As.length hts (gd_code hco) rfl hrr.1 hrr.2.1 (hk.1 _ (tb_in hlk rfl) _) (hts _ (tb_in hini rfl)) hy ⟨hrr.2.2.1, hrr.2.2.2⟩, hts _ (tb_in hin rfl), hts _ (tb_in hse rfl)⟩) ⟨pw_blind, wo_recv hk hw hv hc hq, fun U hU hW => ⟨rfl, kk_warm hW hk, by rw [hU]; exact hw⟩⟩ rfl rfl hl.1 rfl (lv_room hrest) hd ⟨Nat.zero_le _, Nat.zero_le _⟩) hS (fun q _ h => h) (fun q h => h) (fun r1 u t H1 locs1 ht _ hp hB _ _ hS1 => ?_)
  obtain ⟨rfl, rfl⟩ := hp
  exact k H1 locs1 ls (by rw [← ht]; exact hB) hS1 hl
theorem sr_cvNv (G : cx p s m meth c cc nL own ret D t6) {y : MethodName} {cc2 : ByteArray} {nL2 k9 : Nat} {rm : Room} {As rest stk : List Value} {M2 : Mem} {kd i ci : Nat} {fs : List Value} {T : u_T} {N : Nat} (hv : vv n kd i) (hc : cm_ t6 b kd i (M kd i) = .inr (ci, fs)) (hq : classes[ci]? = some (y.cls, T, N)) (hin : Cond.instanceMethod y ∈ lw_tbl) (hse : Cond.selects y.cls y y ∈ lw_tbl) (hM : CV l D t6 b n y cc2 nL2 rm (.ref (ad b kd i) :: As) M M2) {index : Nat} (hco : Cond.code y cc2 nL2 none ∈ lw_tbl) {host : String} (hlk : Cond.methodLinkNest own index y host ∈ lw_tbl) (hini : Cond.initialized y.cls ∈ lw_tbl) (hy : yy_ y k9) (hin1 : As.length = k9) (hrr : rr_ rm R nL2) (hrest : (rest.map fun v => v.category).sum ≤ 8) (hstk : stk = As.reverse ++ .ref (ad b kd i) :: rest) (hd : dc cc pc (.invokevirtual index) 3 pc2) (k : St p l e R s m args below meth c D t6 b n nL Q M2 pc2 L rest) : St p l e R s m args below meth c D t6 b n nL Q M pc L stk := by
  intro H locs ls hw hS hl
  obtain ⟨hx, hb, hml, hown, hr, hlk9, hk⟩ := G
  obtain ⟨hd, rfl⟩ := hd
  subst hstk
  subst hin1
  have hts : ∀ w ∈ tb_, w.before args s = true := fun w h => hk.1 w h _
  refine va_callv (va_runVN (As := As) (rest := rest) (g := F0 m pc ls _) ⟨hx, hb, hml, hown, hts⟩ hM (⟨va_cnB As.length hts (gd_code hco) rfl hrr.1 hrr.2.1 (hk.1 _ (tb_in hlk rfl) _) (hts _ (tb_in hini rfl)) hy ⟨hrr.2.2.1, hrr.2.2.2⟩, hts _ (tb_in hin rfl), hts _ (tb_in hse rfl)⟩) ⟨pw_blind, wo_recv hk hw hv hc hq, fun U hU hW => ⟨rfl, kk_warm hW hk, by rw [hU]; exact hw⟩⟩ rfl rfl hl.1 rfl (lv_room hrest) hd ⟨Nat.zero_le _, Nat.zero_le _⟩) hS (fun q _ h => h) (fun q h => h) (fun u t H1 locs1 ht _ hp hB _ _ hS1 => ?_)
  subst hp
  exact k H1 locs1 ls (by rw [← ht]; exact hB) hS1 hl
theorem sr_cvNa (G : cx p s m meth c cc nL own ret D t6) {y : MethodName} {cc2 : ByteArray} {nL2 k9 : Nat} {rm : Room} {As rest stk : List Value} {ty2 : FieldType} {r : Nat} {M2 : Mem} {kd i ci : Nat} {fs : List Value} {T : u_T} {N : Nat} (hv : vv n kd i) (hc : cm_ t6 b kd i (M kd i) = .inr (ci, fs)) (hq : classes[ci]? = some (y.cls, T, N)) (hin : Cond.instanceMethod y ∈ lw_tbl) (hse : Cond.selects y.cls y y ∈ lw_tbl) (hM : CA l D t6 b n y cc2 nL2 ty2 rm (.ref (ad b kd i) :: As) M r M2) {index : Nat} (hco : Cond.code y cc2 nL2 (some ty2) ∈ lw_tbl) {host : String} (hlk : Cond.methodLinkNest own index y host ∈ lw_tbl) (hini : Cond.initialized y.cls ∈ lw_tbl) (hy : yy_ y k9) (hin1 : As.length = k9) (hrr : rr_ rm R nL2) (hrest : (rest.map fun v => v.category).sum ≤ 8) (hstk : stk = As.reverse ++ .ref (ad b kd i) :: rest) (hd : dc cc pc (.invokevirtual index) 3 pc2) (k : St p l e R s m args below meth c D t6 b n nL Q M2 pc2 L (.ref r :: rest)) : St p l e R s m args below meth c D t6 b n nL Q M pc L stk := by
  intro H locs ls hw hS hl
  obtain ⟨hx, hb, hml, hown, hr, hlk9, hk⟩ := G
  obtain ⟨hd, rfl⟩ := hd
  subst hstk
  subst hin1
  have hts : ∀ w ∈ tb_, w.before args s = true := fun w h => hk.1 w h _
  refine va_callr (va_runVN (As := As) (rest := rest) (g := F0 m pc ls _) ⟨hx, hb, hml, hown, hts⟩ hM (⟨va_cnB As.length hts (gd_code hco) rfl hrr.1 hrr.2.1 (hk.1 _ (tb_in hlk rfl) _) (hts _ (tb_in hini rfl)) hy ⟨hrr.2.2.1, hrr.2.2.2⟩, hts _ (tb_in hin rfl), hts _ (tb_in hse rfl)⟩) ⟨pw_blind, wo_recv hk hw hv hc hq, fun U hU hW => ⟨rfl, kk_warm hW hk, by rw [hU]; exact hw⟩⟩ rfl rfl hl.1 rfl (lv_room hrest) hd ⟨Nat.zero_le _, Nat.zero_le _⟩) hS (fun q _ h => h) (fun q h => h) (fun u a1 t H1 locs1 ht _ hp hB _ _ hS1 => ?_)
  subst hp
  obtain ⟨rfl, hB⟩ := hB
  exact k H1 locs1 ls (by rw [← ht]; exact hB) hS1 hl
end
