section GR
variable {K : Kt} {x : Cx} {own : String} {cc : ByteArray} {nL d : Nat} {Rp : Option Int32 → Mem → Prop} {pc : Nat} {lv : List (Nat × Value)} {st : List Value} {M : Mem}
theorem G_sub (lv' : List (Nat × Value)) (hs : lsubs lv lv') (k : G K x nL pc lv' st M) : G K x nL pc lv st M := by
  obtain ⟨p, e, R, s, m, args, below, meth, c, cells, slots, Q, A⟩ := x
  intro H locs ls hP hD hS hl
  exact k H locs ls hP hD hS (hl.sub hs)
theorem G_iload_n (C : Cok K x own cc nL d Rp) {i : Fin 4} {v : Int32} (hd : decode cc pc = .ok (.iload_n i, 1)) (hl : lk lv i.val = some (.int v)) (k : G K x nL (pc + 1) lv (.int v :: st) M) : G K x nL pc lv st M := by
  obtain ⟨p, e, R, s, m, args, below, meth, c, cells, slots, Q, A⟩ := x
  obtain ⟨hx, hb, -⟩ := C
  intro H locs ls hP hD hS h
  exact lv_iload_n hx hb hd rfl (h.2.2 _ _ hl).2 (k H locs ls hP hD hS h)
theorem G_iload (C : Cok K x own cc nL d Rp) {i : Nat} {v : Int32} (hd : decode cc pc = .ok (.iload i, 2)) (hl : lk lv i = some (.int v)) (k : G K x nL (pc + 2) lv (.int v :: st) M) : G K x nL pc lv st M := by
  obtain ⟨p, e, R, s, m, args, below, meth, c, cells, slots, Q, A⟩ := x
  obtain ⟨hx, hb, -⟩ := C
  intro H locs ls hP hD hS h
  exact lv_iload hx hb hd (h.2.2 _ _ hl).2 (k H locs ls hP hD hS h)
theorem G_aload_n (C : Cok K x own cc nL d Rp) {i : Fin 4} {a : Nat} (hd : decode cc pc = .ok (.aload_n i, 1)) (hl : lk lv i.val = some (.ref a)) (k : G K x nL (pc + 1) lv (.ref a :: st) M) : G K x nL pc lv st M := by
  obtain ⟨p, e, R, s, m, args, below, meth, c, cells, slots, Q, A⟩ := x
  obtain ⟨hx, hb, -⟩ := C
  intro H locs ls hP hD hS h
  exact lv_aload_n hx hb hd rfl (h.2.2 _ _ hl).2 (k H locs ls hP hD hS h)
theorem G_aload_r (C : Cok K x own cc nL d Rp) {i : Fin 4} {a : Nat} (hd : decode cc pc = .ok (.aload_n i, 1)) (hl : lk lv i.val = some (rf K a)) (k : G K x nL (pc + 1) lv (rf K a :: st) M) : G K x nL pc lv st M := G_aload_n C hd hl k
theorem G_aload_s (C : Cok K x own cc nL d Rp) {i : Fin 4} {a : Nat} (hd : decode cc pc = .ok (.aload_n i, 1)) (hl : lk lv i.val = some (sf K a)) (k : G K x nL (pc + 1) lv (sf K a :: st) M) : G K x nL pc lv st M := G_aload_n C hd hl k
theorem G_aload_v (C : Cok K x own cc nL d Rp) {i : Fin 4} {a : Nat} (hd : decode cc pc = .ok (.aload_n i, 1)) (hl : lk lv i.val = some (sv K a)) (k : G K x nL (pc + 1) lv (sv K a :: st) M) : G K x nL pc lv st M := G_aload_n C hd hl k
theorem G_aload (C : Cok K x own cc nL d Rp) {i : Nat} {a : Nat} (hd : decode cc pc = .ok (.aload i, 2)) (hl : lk lv i = some (rf K a)) (k : G K x nL (pc + 2) lv (rf K a :: st) M) : G K x nL pc lv st M := by
  obtain ⟨p, e, R, s, m, args, below, meth, c, cells, slots, Q, A⟩ := x
  obtain ⟨hx, hb, -⟩ := C
  intro H locs ls hP hD hS h
  exact lv_aload hx hb hd (h.2.2 _ _ hl).2 (k H locs ls hP hD hS h)
theorem G_istore_n (C : Cok K x own cc nL d Rp) {i : Fin 4} {v : Int32} (hd : decode cc pc = .ok (.istore_n i, 1)) (hi : i.val < nL) (k : G K x nL (pc + 1) ((i.val, .int v) :: lv) st M) : G K x nL pc lv (.int v :: st) M := by
  obtain ⟨p, e, R, s, m, args, below, meth, c, cells, slots, Q, A⟩ := x
  obtain ⟨hx, hb, -⟩ := C
  intro H locs ls hP hD hS h
  exact lv_istore_n hx hb hd rfl h.has hi rfl (fun ls' h' => k H locs ls' hP hD hS (h.put rfl h'))
theorem G_istore (C : Cok K x own cc nL d Rp) {i : Nat} {v : Int32} (hd : decode cc pc = .ok (.istore i, 2)) (hi : i < nL) (k : G K x nL (pc + 2) ((i, .int v) :: lv) st M) : G K x nL pc lv (.int v :: st) M := by
  obtain ⟨p, e, R, s, m, args, below, meth, c, cells, slots, Q, A⟩ := x
  obtain ⟨hx, hb, -⟩ := C
  intro H locs ls hP hD hS h
  exact lv_istore hx hb hd h.has hi rfl (fun ls' h' => k H locs ls' hP hD hS (h.put rfl h'))
theorem G_astore_n (C : Cok K x own cc nL d Rp) {i : Fin 4} {a : Nat} (hd : decode cc pc = .ok (.astore_n i, 1)) (hi : i.val < nL) (k : G K x nL (pc + 1) ((i.val, rf K a) :: lv) st M) : G K x nL pc lv (rf K a :: st) M := by
  obtain ⟨p, e, R, s, m, args, below, meth, c, cells, slots, Q, A⟩ := x
  obtain ⟨hx, hb, -⟩ := C
  intro H locs ls hP hD hS h
  exact lv_astore_n hx hb hd rfl h.has hi rfl (fun ls' h' => k H locs ls' hP hD hS (h.put rfl h'))
theorem G_astore (C : Cok K x own cc nL d Rp) {i : Nat} {a : Nat} (hd : decode cc pc = .ok (.astore i, 2)) (hi : i < nL) (k : G K x nL (pc + 2) ((i, rf K a) :: lv) st M) : G K x nL pc lv (rf K a :: st) M := by
  obtain ⟨p, e, R, s, m, args, below, meth, c, cells, slots, Q, A⟩ := x
  obtain ⟨hx, hb, -⟩ := C
  intro H locs ls hP hD hS h
  exact lv_astore hx hb hd h.has hi rfl (fun ls' h' => k H locs ls' hP hD hS (h.put rfl h'))
theorem G_iinc (C : Cok K x own cc nL d Rp) {i : Nat} {n : Int} {v w : Int32} (hd : decode cc pc = .ok (.iinc i n, 3)) (hi : i < nL) (hl : lk lv i = some (.int v)) (hw : v + Int32.ofInt n = w) (k : G K x nL (pc + 3) ((i, .int w) :: lv) st M) : G K x nL pc lv st M := by
  obtain ⟨p, e, R, s, m, args, below, meth, c, cells, slots, Q, A⟩ := x
  obtain ⟨hx, hb, -⟩ := C
  intro H locs ls hP hD hS h
  obtain ⟨j, hj⟩ := lh.mem h hl
  exact lv_iinc hx hb hd h.has hj hw hi rfl (fun ls' h' => k H locs ls' hP hD hS (h.put rfl h'))
theorem G_iconst (C : Cok K x own cc nL d Rp) {n : Int} (v : Int32) (hd : decode cc pc = .ok (.iconst n, 1)) (hv : Int32.ofInt n = v) (k : G K x nL (pc + 1) lv (.int v :: st) M) : G K x nL pc lv st M := by
  obtain ⟨p, e, R, s, m, args, below, meth, c, cells, slots, Q, A⟩ := x
  obtain ⟨hx, hb, -⟩ := C
  intro H locs ls hP hD hS h
  exact lv_iconst hx hb hd hv (k H locs ls hP hD hS h)
theorem G_bipush (C : Cok K x own cc nL d Rp) {n : Int} (v : Int32) (hd : decode cc pc = .ok (.bipush n, 2)) (hv : (Int8.ofInt n).toInt32 = v) (k : G K x nL (pc + 2) lv (.int v :: st) M) : G K x nL pc lv st M := by
  obtain ⟨p, e, R, s, m, args, below, meth, c, cells, slots, Q, A⟩ := x
  obtain ⟨hx, hb, -⟩ := C
  intro H locs ls hP hD hS h
  exact lv_bipush hx hb hd hv (k H locs ls hP hD hS h)
theorem G_sipush (C : Cok K x own cc nL d Rp) {n : Int} (v : Int32) (hd : decode cc pc = .ok (.sipush n, 3)) (hv : (Int16.ofInt n).toInt32 = v) (k : G K x nL (pc + 3) lv (.int v :: st) M) : G K x nL pc lv st M := by
  obtain ⟨p, e, R, s, m, args, below, meth, c, cells, slots, Q, A⟩ := x
  obtain ⟨hx, hb, -⟩ := C
  intro H locs ls hP hD hS h
  exact lv_sipush hx hb hd hv (k H locs ls hP hD hS h)
theorem G_ldc (C : Cok K x own cc nL d Rp) {i : Nat} {v : Int32} (hw : Cond.constant own i v ∈ gtbl) (hd : decode cc pc = .ok (.ldc i, 2)) (k : G K x nL (pc + 2) lv (.int v :: st) M) : G K x nL pc lv st M := by
  obtain ⟨p, e, R, s, m, args, below, meth, c, cells, slots, Q, A⟩ := x
  obtain ⟨hx, hb, hml, hown, hts, -⟩ := C
  intro H locs ls hP hD hS h
  exact lv_ldc hx hb hown (hts _ hw) hd (k H locs ls hP hD hS h)
theorem G_ldcw (C : Cok K x own cc nL d Rp) {i : Nat} {v : Int32} (hw : Cond.constant own i v ∈ gtbl) (hd : decode cc pc = .ok (.ldc_w i, 3)) (k : G K x nL (pc + 3) lv (.int v :: st) M) : G K x nL pc lv st M := by
  obtain ⟨p, e, R, s, m, args, below, meth, c, cells, slots, Q, A⟩ := x
  obtain ⟨hx, hb, hml, hown, hts, -⟩ := C
  intro H locs ls hP hD hS h
  exact lv_ldcw hx hb hown (hts _ hw) hd (k H locs ls hP hD hS h)
theorem G_ldcS (C : Cok K x RX6 cc nL d Rp) (i : Nat) {q : Nat × String} (hi : sidx[i]? = some q) (hd : decode cc pc = .ok (.ldc q.1, 2)) (k : G K x nL (pc + 2) lv (sf K i :: st) M) : G K x nL pc lv st M := by
  obtain ⟨p, e, R, s, m, args, below, meth, c, cells, slots, Q, A⟩ := x
  obtain ⟨hx, hb, hml, hown, hts, hK, hA, hE, -⟩ := C
  intro H locs ls hP hD hS h
  exact va_ldcS hx hb hown (hE.2.2.2.2.2.2.2.1 i q hi) hd (k H locs ls hP hD hS h)
theorem G_dup (C : Cok K x own cc nL d Rp) {v : Value} (hd : decode cc pc = .ok (.dup, 1)) (hv : v.category = 1) (k : G K x nL (pc + 1) lv (v :: v :: st) M) : G K x nL pc lv (v :: st) M := by
  obtain ⟨p, e, R, s, m, args, below, meth, c, cells, slots, Q, A⟩ := x
  obtain ⟨hx, hb, -⟩ := C
  intro H locs ls hP hD hS h
  exact lv_dup hx hb hd hv (k H locs ls hP hD hS h)
theorem G_pop (C : Cok K x own cc nL d Rp) {v : Value} (hd : decode cc pc = .ok (.pop, 1)) (hv : v.category = 1) (k : G K x nL (pc + 1) lv st M) : G K x nL pc lv (v :: st) M := by
  obtain ⟨p, e, R, s, m, args, below, meth, c, cells, slots, Q, A⟩ := x
  obtain ⟨hx, hb, -⟩ := C
  intro H locs ls hP hD hS h
  exact lv_pop hx hb hd hv (k H locs ls hP hD hS h)
theorem G_goto (C : Cok K x own cc nL d Rp) {off : Int} (tgt : Nat) (hd : decode cc pc = .ok (.goto off, 3)) (ht : (pc : Int) + off = (tgt : Int)) (k : G K x nL tgt lv st M) : G K x nL pc lv st M := by
  obtain ⟨p, e, R, s, m, args, below, meth, c, cells, slots, Q, A⟩ := x
  obtain ⟨hx, hb, -⟩ := C
  intro H locs ls hP hD hS h
  exact lv_goto hx hb hd ht (k H locs ls hP hD hS h)
theorem G_iadd (C : Cok K x own cc nL d Rp) {a b : Int32} (hd : decode cc pc = .ok (.iadd, 1)) (k : G K x nL (pc + 1) lv (.int (a + b) :: st) M) : G K x nL pc lv (.int b :: .int a :: st) M := by
  obtain ⟨p, e, R, s, m, args, below, meth, c, cells, slots, Q, A⟩ := x
  obtain ⟨hx, hb, -⟩ := C
  intro H locs ls hP hD hS h
  exact lv_iadd hx hb hd (k H locs ls hP hD hS h)
theorem G_isub (C : Cok K x own cc nL d Rp) {a b : Int32} (hd : decode cc pc = .ok (.isub, 1)) (k : G K x nL (pc + 1) lv (.int (a - b) :: st) M) : G K x nL pc lv (.int b :: .int a :: st) M := by
  obtain ⟨p, e, R, s, m, args, below, meth, c, cells, slots, Q, A⟩ := x
  obtain ⟨hx, hb, -⟩ := C
  intro H locs ls hP hD hS h
  exact lv_isub hx hb hd (k H locs ls hP hD hS h)
theorem G_imul (C : Cok K x own cc nL d Rp) {a b : Int32} (hd : decode cc pc = .ok (.imul, 1)) (k : G K x nL (pc + 1) lv (.int (a * b) :: st) M) : G K x nL pc lv (.int b :: .int a :: st) M := by
  obtain ⟨p, e, R, s, m, args, below, meth, c, cells, slots, Q, A⟩ := x
  obtain ⟨hx, hb, -⟩ := C
  intro H locs ls hP hD hS h
  exact lv_imul hx hb hd (k H locs ls hP hD hS h)
theorem G_iand (C : Cok K x own cc nL d Rp) {a b : Int32} (hd : decode cc pc = .ok (.iand, 1)) (k : G K x nL (pc + 1) lv (.int (a &&& b) :: st) M) : G K x nL pc lv (.int b :: .int a :: st) M := by
  obtain ⟨p, e, R, s, m, args, below, meth, c, cells, slots, Q, A⟩ := x
  obtain ⟨hx, hb, -⟩ := C
  intro H locs ls hP hD hS h
  exact lv_iand hx hb hd (k H locs ls hP hD hS h)
theorem G_ishr (C : Cok K x own cc nL d Rp) {a b : Int32} (hd : decode cc pc = .ok (.ishr, 1)) (k : G K x nL (pc + 1) lv (.int (a >>> (b &&& 31)) :: st) M) : G K x nL pc lv (.int b :: .int a :: st) M := by
  obtain ⟨p, e, R, s, m, args, below, meth, c, cells, slots, Q, A⟩ := x
  obtain ⟨hx, hb, -⟩ := C
  intro H locs ls hP hD hS h
  exact lv_ishr hx hb hd (k H locs ls hP hD hS h)
theorem G_ishl (C : Cok K x own cc nL d Rp) {a b : Int32} (hd : decode cc pc = .ok (.ishl, 1)) (k : G K x nL (pc + 1) lv (.int (a <<< (b &&& 31)) :: st) M) : G K x nL pc lv (.int b :: .int a :: st) M := by
  obtain ⟨p, e, R, s, m, args, below, meth, c, cells, slots, Q, A⟩ := x
  obtain ⟨hx, hb, -⟩ := C
  intro H locs ls hP hD hS h
  exact lv_ishl hx hb hd (k H locs ls hP hD hS h)
theorem G_idiv (C : Cok K x own cc nL d Rp) {a b : Int32} (hd : decode cc pc = .ok (.idiv, 1)) (hb0 : ¬ b = 0) (k : G K x nL (pc + 1) lv (.int (a / b) :: st) M) : G K x nL pc lv (.int b :: .int a :: st) M := by
  obtain ⟨p, e, R, s, m, args, below, meth, c, cells, slots, Q, A⟩ := x
  obtain ⟨hx, hb, -⟩ := C
  intro H locs ls hP hD hS h
  exact lv_idiv hx hb hd hb0 (k H locs ls hP hD hS h)
theorem G_iushr (C : Cok K x own cc nL d Rp) {a b : Int32} (hd : decode cc pc = .ok (.iushr, 1)) (k : G K x nL (pc + 1) lv (.int ((a.toUInt32 >>> (b.toUInt32 &&& Int32.toUInt32 31)).toInt32) :: st) M) : G K x nL pc lv (.int b :: .int a :: st) M := by
  obtain ⟨p, e, R, s, m, args, below, meth, c, cells, slots, Q, A⟩ := x
  obtain ⟨hx, hb, -⟩ := C
  intro H locs ls hP hD hS h
  exact lv_iushr hx hb hd rfl (k H locs ls hP hD hS h)
theorem G_i2b (C : Cok K x own cc nL d Rp) {a : Int32} (hd : decode cc pc = .ok (.i2b, 1)) (k : G K x nL (pc + 1) lv (.int (a.toInt8.toInt32) :: st) M) : G K x nL pc lv (.int a :: st) M := by
  obtain ⟨p, e, R, s, m, args, below, meth, c, cells, slots, Q, A⟩ := x
  obtain ⟨hx, hb, -⟩ := C
  intro H locs ls hP hD hS h
  exact lv_i2b hx hb hd rfl (k H locs ls hP hD hS h)
theorem G_i2c (C : Cok K x own cc nL d Rp) {a : Int32} (hd : decode cc pc = .ok (.i2c, 1)) (k : G K x nL (pc + 1) lv (.int ((a.toUInt32 % 65536).toInt32) :: st) M) : G K x nL pc lv (.int a :: st) M := by
  obtain ⟨p, e, R, s, m, args, below, meth, c, cells, slots, Q, A⟩ := x
  obtain ⟨hx, hb, -⟩ := C
  intro H locs ls hP hD hS h
  exact lv_i2c hx hb hd rfl (k H locs ls hP hD hS h)
theorem G_i2l (C : Cok K x own cc nL d Rp) {a : Int32} (hd : decode cc pc = .ok (.i2l, 1)) (k : G K x nL (pc + 1) lv (.long a.toInt64 :: st) M) : G K x nL pc lv (.int a :: st) M := by
  obtain ⟨p, e, R, s, m, args, below, meth, c, cells, slots, Q, A⟩ := x
  obtain ⟨hx, hb, -⟩ := C
  intro H locs ls hP hD hS h
  exact lv_i2l hx hb hd rfl (k H locs ls hP hD hS h)
theorem G_ladd (C : Cok K x own cc nL d Rp) {a b : Int64} (hd : decode cc pc = .ok (.ladd, 1)) (k : G K x nL (pc + 1) lv (.long (a + b) :: st) M) : G K x nL pc lv (.long b :: .long a :: st) M := by
  obtain ⟨p, e, R, s, m, args, below, meth, c, cells, slots, Q, A⟩ := x
  obtain ⟨hx, hb, -⟩ := C
  intro H locs ls hP hD hS h
  exact lv_ladd hx hb hd (k H locs ls hP hD hS h)
theorem G_lcmp (C : Cok K x own cc nL d Rp) {a b : Int64} (hd : decode cc pc = .ok (.lcmp, 1)) (k : G K x nL (pc + 1) lv (.int (lg_cmp a b) :: st) M) : G K x nL pc lv (.long b :: .long a :: st) M := by
  obtain ⟨p, e, R, s, m, args, below, meth, c, cells, slots, Q, A⟩ := x
  obtain ⟨hx, hb, -⟩ := C
  intro H locs ls hP hD hS h
  exact W.lcmp hx hb hd (k H locs ls hP hD hS h)
theorem G_if_eq (C : Cok K x own cc nL d Rp) {x1 : Int32} {off : Int} (tgt : Nat) (hd : decode cc pc = .ok (.ifCond .eq off, 3)) (ht : (pc : Int) + off = (tgt : Int)) (kt : x1 = 0 → G K x nL tgt lv st M) (kf : ¬ x1 = 0 → G K x nL (pc + 3) lv st M) : G K x nL pc lv (.int x1 :: st) M := by
  obtain ⟨p, e, R, s, m, args, below, meth, c, cells, slots, Q, A⟩ := x
  obtain ⟨hx, hb, -⟩ := C
  intro H locs ls hP hD hS hl
  exact lv_if_eq hx hb hd ht (fun h => kt h H locs ls hP hD hS hl) (fun h => kf h H locs ls hP hD hS hl)
theorem G_icmp_eq (C : Cok K x own cc nL d Rp) {x1 y1 : Int32} {off : Int} (tgt : Nat) (hd : decode cc pc = .ok (.if_icmp .eq off, 3)) (ht : (pc : Int) + off = (tgt : Int)) (kt : x1 = y1 → G K x nL tgt lv st M) (kf : ¬ x1 = y1 → G K x nL (pc + 3) lv st M) : G K x nL pc lv (.int y1 :: .int x1 :: st) M := by
  obtain ⟨p, e, R, s, m, args, below, meth, c, cells, slots, Q, A⟩ := x
  obtain ⟨hx, hb, -⟩ := C
  intro H locs ls hP hD hS hl
  exact lv_icmp_eq hx hb hd ht (fun h => kt h H locs ls hP hD hS hl) (fun h => kf h H locs ls hP hD hS hl)
theorem G_if_ne (C : Cok K x own cc nL d Rp) {x1 : Int32} {off : Int} (tgt : Nat) (hd : decode cc pc = .ok (.ifCond .ne off, 3)) (ht : (pc : Int) + off = (tgt : Int)) (kt : ¬ x1 = 0 → G K x nL tgt lv st M) (kf : x1 = 0 → G K x nL (pc + 3) lv st M) : G K x nL pc lv (.int x1 :: st) M := by
  obtain ⟨p, e, R, s, m, args, below, meth, c, cells, slots, Q, A⟩ := x
  obtain ⟨hx, hb, -⟩ := C
  intro H locs ls hP hD hS hl
  exact lv_if_ne hx hb hd ht (fun h => kt h H locs ls hP hD hS hl) (fun h => kf h H locs ls hP hD hS hl)
theorem G_icmp_ne (C : Cok K x own cc nL d Rp) {x1 y1 : Int32} {off : Int} (tgt : Nat) (hd : decode cc pc = .ok (.if_icmp .ne off, 3)) (ht : (pc : Int) + off = (tgt : Int)) (kt : ¬ x1 = y1 → G K x nL tgt lv st M) (kf : x1 = y1 → G K x nL (pc + 3) lv st M) : G K x nL pc lv (.int y1 :: .int x1 :: st) M := by
  obtain ⟨p, e, R, s, m, args, below, meth, c, cells, slots, Q, A⟩ := x
  obtain ⟨hx, hb, -⟩ := C
  intro H locs ls hP hD hS hl
  exact lv_icmp_ne hx hb hd ht (fun h => kt h H locs ls hP hD hS hl) (fun h => kf h H locs ls hP hD hS hl)
theorem G_if_lt (C : Cok K x own cc nL d Rp) {x1 : Int32} {off : Int} (tgt : Nat) (hd : decode cc pc = .ok (.ifCond .lt off, 3)) (ht : (pc : Int) + off = (tgt : Int)) (kt : x1 < 0 → G K x nL tgt lv st M) (kf : ¬ x1 < 0 → G K x nL (pc + 3) lv st M) : G K x nL pc lv (.int x1 :: st) M := by
  obtain ⟨p, e, R, s, m, args, below, meth, c, cells, slots, Q, A⟩ := x
  obtain ⟨hx, hb, -⟩ := C
  intro H locs ls hP hD hS hl
  exact lv_if_lt hx hb hd ht (fun h => kt h H locs ls hP hD hS hl) (fun h => kf h H locs ls hP hD hS hl)
theorem G_icmp_lt (C : Cok K x own cc nL d Rp) {x1 y1 : Int32} {off : Int} (tgt : Nat) (hd : decode cc pc = .ok (.if_icmp .lt off, 3)) (ht : (pc : Int) + off = (tgt : Int)) (kt : x1 < y1 → G K x nL tgt lv st M) (kf : ¬ x1 < y1 → G K x nL (pc + 3) lv st M) : G K x nL pc lv (.int y1 :: .int x1 :: st) M := by
  obtain ⟨p, e, R, s, m, args, below, meth, c, cells, slots, Q, A⟩ := x
  obtain ⟨hx, hb, -⟩ := C
  intro H locs ls hP hD hS hl
  exact lv_icmp_lt hx hb hd ht (fun h => kt h H locs ls hP hD hS hl) (fun h => kf h H locs ls hP hD hS hl)
theorem G_if_ge (C : Cok K x own cc nL d Rp) {x1 : Int32} {off : Int} (tgt : Nat) (hd : decode cc pc = .ok (.ifCond .ge off, 3)) (ht : (pc : Int) + off = (tgt : Int)) (kt : 0 ≤ x1 → G K x nL tgt lv st M) (kf : ¬ 0 ≤ x1 → G K x nL (pc + 3) lv st M) : G K x nL pc lv (.int x1 :: st) M := by
  obtain ⟨p, e, R, s, m, args, below, meth, c, cells, slots, Q, A⟩ := x
  obtain ⟨hx, hb, -⟩ := C
  intro H locs ls hP hD hS hl
  exact lv_if_ge hx hb hd ht (fun h => kt h H locs ls hP hD hS hl) (fun h => kf h H locs ls hP hD hS hl)
theorem G_icmp_ge (C : Cok K x own cc nL d Rp) {x1 y1 : Int32} {off : Int} (tgt : Nat) (hd : decode cc pc = .ok (.if_icmp .ge off, 3)) (ht : (pc : Int) + off = (tgt : Int)) (kt : y1 ≤ x1 → G K x nL tgt lv st M) (kf : ¬ y1 ≤ x1 → G K x nL (pc + 3) lv st M) : G K x nL pc lv (.int y1 :: .int x1 :: st) M := by
  obtain ⟨p, e, R, s, m, args, below, meth, c, cells, slots, Q, A⟩ := x
  obtain ⟨hx, hb, -⟩ := C
  intro H locs ls hP hD hS hl
  exact lv_icmp_ge hx hb hd ht (fun h => kt h H locs ls hP hD hS hl) (fun h => kf h H locs ls hP hD hS hl)
theorem G_if_gt (C : Cok K x own cc nL d Rp) {x1 : Int32} {off : Int} (tgt : Nat) (hd : decode cc pc = .ok (.ifCond .gt off, 3)) (ht : (pc : Int) + off = (tgt : Int)) (kt : 0 < x1 → G K x nL tgt lv st M) (kf : ¬ 0 < x1 → G K x nL (pc + 3) lv st M) : G K x nL pc lv (.int x1 :: st) M := by
  obtain ⟨p, e, R, s, m, args, below, meth, c, cells, slots, Q, A⟩ := x
  obtain ⟨hx, hb, -⟩ := C
  intro H locs ls hP hD hS hl
  exact lv_if_gt hx hb hd ht (fun h => kt h H locs ls hP hD hS hl) (fun h => kf h H locs ls hP hD hS hl)
theorem G_icmp_gt (C : Cok K x own cc nL d Rp) {x1 y1 : Int32} {off : Int} (tgt : Nat) (hd : decode cc pc = .ok (.if_icmp .gt off, 3)) (ht : (pc : Int) + off = (tgt : Int)) (kt : y1 < x1 → G K x nL tgt lv st M) (kf : ¬ y1 < x1 → G K x nL (pc + 3) lv st M) : G K x nL pc lv (.int y1 :: .int x1 :: st) M := by
  obtain ⟨p, e, R, s, m, args, below, meth, c, cells, slots, Q, A⟩ := x
  obtain ⟨hx, hb, -⟩ := C
  intro H locs ls hP hD hS hl
  exact lv_icmp_gt hx hb hd ht (fun h => kt h H locs ls hP hD hS hl) (fun h => kf h H locs ls hP hD hS hl)
theorem G_if_le (C : Cok K x own cc nL d Rp) {x1 : Int32} {off : Int} (tgt : Nat) (hd : decode cc pc = .ok (.ifCond .le off, 3)) (ht : (pc : Int) + off = (tgt : Int)) (kt : x1 ≤ 0 → G K x nL tgt lv st M) (kf : ¬ x1 ≤ 0 → G K x nL (pc + 3) lv st M) : G K x nL pc lv (.int x1 :: st) M := by
  obtain ⟨p, e, R, s, m, args, below, meth, c, cells, slots, Q, A⟩ := x
  obtain ⟨hx, hb, -⟩ := C
  intro H locs ls hP hD hS hl
  exact lv_if_le hx hb hd ht (fun h => kt h H locs ls hP hD hS hl) (fun h => kf h H locs ls hP hD hS hl)
theorem G_icmp_le (C : Cok K x own cc nL d Rp) {x1 y1 : Int32} {off : Int} (tgt : Nat) (hd : decode cc pc = .ok (.if_icmp .le off, 3)) (ht : (pc : Int) + off = (tgt : Int)) (kt : x1 ≤ y1 → G K x nL tgt lv st M) (kf : ¬ x1 ≤ y1 → G K x nL (pc + 3) lv st M) : G K x nL pc lv (.int y1 :: .int x1 :: st) M := by
  obtain ⟨p, e, R, s, m, args, below, meth, c, cells, slots, Q, A⟩ := x
  obtain ⟨hx, hb, -⟩ := C
  intro H locs ls hP hD hS hl
  exact lv_icmp_le hx hb hd ht (fun h => kt h H locs ls hP hD hS hl) (fun h => kf h H locs ls hP hD hS hl)
theorem G_tableOut (C : Cok K x own cc nL d Rp) {dflt lo hi : Int} {offs : Array Int} {len : Nat} {v : Int32} (tgt : Nat) (hd : decode cc pc = .ok (.tableswitch dflt lo hi offs, len)) (h : v.toInt < lo ∨ hi < v.toInt) (ht : (pc : Int) + dflt = (tgt : Int)) (k : G K x nL tgt lv st M) : G K x nL pc lv (.int v :: st) M := by
  obtain ⟨p, e, R, s, m, args, below, meth, c, cells, slots, Q, A⟩ := x
  obtain ⟨hx, hb, -⟩ := C
  intro H locs ls hP hD hS hl
  exact lv_tableOut hx hb hd h ht (k H locs ls hP hD hS hl)
theorem G_tableIn (C : Cok K x own cc nL d Rp) {dflt lo hi : Int} {offs : Array Int} {len : Nat} {v : Int32} (off : Int) (tgt : Nat) (hd : decode cc pc = .ok (.tableswitch dflt lo hi offs, len)) (h1 : ¬ v.toInt < lo) (h2 : ¬ hi < v.toInt) (ho : offs[(v.toInt - lo).toNat]? = some off) (ht : (pc : Int) + off = (tgt : Int)) (k : G K x nL tgt lv st M) : G K x nL pc lv (.int v :: st) M := by
  obtain ⟨p, e, R, s, m, args, below, meth, c, cells, slots, Q, A⟩ := x
  obtain ⟨hx, hb, -⟩ := C
  intro H locs ls hP hD hS hl
  exact lv_tableIn hx hb hd h1 h2 ho ht (k H locs ls hP hD hS hl)
theorem G_ret {Q0 : Int32 → Mem → Prop} (C : Cok K x own cc nL d (RI Q0)) {v : Int32} (hd : decode cc pc = .ok (.ireturn, 1)) (h : Q0 v M) : G K x nL pc lv [.int v] M := by
  obtain ⟨p, e, R, s, m, args, below, meth, c, cells, slots, Q, A⟩ := x
  obtain ⟨hx, hb, hml, hown, hts, hK, hA, hE, hd1, hd2, hd3, hd4, hrI, hrV⟩ := C
  intro H locs ls hP hD hS hl
  exact hrI v M H locs pc ls h hP hD hS hd
theorem G_retR {r : Int32} {M' : Mem} (C : Cok K x own cc nL d (RI (fun v N => v = r ∧ N = M'))) {v : Int32} (hd : decode cc pc = .ok (.ireturn, 1)) (h : v = r) (hM : M = M') : G K x nL pc lv [.int v] M := G_ret C hd ⟨h, hM⟩
theorem G_vret {Q0 : Mem → Prop} (C : Cok K x own cc nL d (RV Q0)) (hd : decode cc pc = .ok (.return_, 1)) (h : Q0 M) : G K x nL pc lv [] M := by
  obtain ⟨p, e, R, s, m, args, below, meth, c, cells, slots, Q, A⟩ := x
  obtain ⟨hx, hb, hml, hown, hts, hK, hA, hE, hd1, hd2, hd3, hd4, hrI, hrV⟩ := C
  intro H locs ls hP hD hS hl
  exact hrV M H locs pc ls h hP hD hS hd
end GR
