abbrev Cy : Type := Program × Env × Room × State × MethodId × Array Value × List Frame × Method × Code × (State → Prop) × (Nat → Prop)
def nestI : List (String × Nat × MethodName) := [(RX9, 9, yX2_init), (RX9, 18, yX8_init), (RX4, 17, yX3_init), (RX5, 11, yX7_init), (RX9, 48, yX1_init), (RX9, 55, yX0_init)]
/-- links among nest mates that the makers need, the rows of references -/
def EN (U : State) : Prop := (∀ q ∈ nestI, va_Nw (.methodLinkNest q.1 q.2.1 q.2.2 RX9) U) ∧ va_AO RX3 U ∧ va_AO RX7 U
theorem EN.pass {s U : State} (h : EN s) (hW : s.WarmedH U.vm) : EN U := ⟨fun q hq => va_Nw.warmM hW (h.1 q hq), h.2.1.moved hW.alike, h.2.2.moved hW.alike⟩
theorem EN.call {U : State} {g : JFrame} {mk : MethodId} {a : Array Value} (h : EN U) : EN (U.calling g mk a) := ⟨fun q hq => va_Nw.same (u := U) rfl rfl (h.1 q hq), h.2.1.moved (u := U) (Vm.Alike.refl U.vm), h.2.2.moved (u := U) (Vm.Alike.refl U.vm)⟩
/-- the machine at pc, in a world that grows -/
def GN (K : Kt) (y : Cy) (nL pc : Nat) (lv : List (Nat × Value)) (st : List Value) (ws : va_W) (cells slots : Nat) : Prop := match y with
  | (p, e, R, s, m, args, below, meth, c, Q, A) => ∀ (H : Heap) (locs : List Loc) (ls : Array Slot), va_P (kD K) vwCl ws H → va_D A ws → va_S A s.heap H locs → lh ls nL lv → W p (kL K) e R s m args below meth c H locs cells slots Q (F0 m pc ls st)
def Nok (K : Kt) (y : Cy) (own nm : String) (cc : ByteArray) (nL d RC RS : Nat) (Rp : va_W → Nat → Nat → Prop) : Prop := match y with
  | (p, e, R, s, m, args, below, meth, c, Q, A) => p.tables.exec = Jvm.exec ∧ c.code = cc ∧ c.maxLocals = nL ∧ s.vm.findClass own = some m.cls ∧ (∀ w ∈ gtbl, w.before args s = true) ∧ va_K (kD K) vwCl (tyL K) s ∧ (∀ a, s.heap.size ≤ a → A a) ∧ EN s ∧ meth.name = nm ∧ d ≤ R.frames ∧ 36 * d ≤ R.locals ∧ RC ≤ R.cells ∧ RS ≤ R.slots ∧
    ∀ (ws : va_W) (cells slots : Nat) (H : Heap) (locs : List Loc) (pc : Nat) (ls : Array Slot), Rp ws cells slots → va_P (kD K) vwCl ws H → va_D A ws → va_S A s.heap H locs → decode cc pc = .ok (.return_, 1) → W p (kL K) e R s m args below meth c H locs cells slots Q (F0 m pc ls [])
def rmC (d rc rs : Nat) : Room := { frames := d, cells := rc, slots := rs, locals := 36 * d }
def PmN (K : Kt) (sz : Nat) (ws : va_W) (U : State) : Prop := U.heap.size = sz ∧ va_P (kD K) vwCl ws U.heap ∧ va_K (kD K) vwCl (tyL K) U ∧ va_D (fun _ => True) ws ∧ EN U
def wN (K : Kt) (A : Nat → Prop) (ws : va_W) (t : State) : Prop := va_P (kD K) vwCl ws t.heap ∧ va_D A ws
/-- a maker (or a filler), by its contract: from the world ws to a world of Q -/
def Cn (K : Kt) (d rc rs : Nat) (q : Mt) (av : List Value) (ws : va_W) (Q : va_W → Prop) : Prop := ∀ sz, Met (kL K) q.1 (mws q) (rmC d rc rs) (va_Pc av (PmN K sz ws)) (va_Qv Q (wN K (va_A ws sz)) (va_A ws sz)) rc rs (va_A ws sz)
theorem PmN.blind {K : Kt} {sz : Nat} {ws : va_W} {av : List Value} : FrameBlind (va_Pc av (PmN K sz ws)) := fun a U g mk q => by
  obtain ⟨q0, q1, qP, qK, qD, qE⟩ := q
  exact ⟨q0, q1, qP, va_K.moved (u := U) (U := U.calling g mk a) (Vm.Alike.refl U.vm) qK, qD, qE.call⟩
set_option maxHeartbeats 1000000 in
theorem Cn.ofG {K : Kt} {d rc rs : Nat} {y : MethodName} {cc : ByteArray} {nL : Nat} {av : List Value} {ws : va_W} {Q : va_W → Prop} (own : String) (hown0 : y.cls = own) (hpl : plainName own = true) (lv : List (Nat × Value)) (hlv : la 0 av = lv) (hlen : (lg_sl av).length ≤ nL) (hc : ∀ v ∈ av, v.category = 1)
    (body : ∀ x : Cy, Nok K x own y.name cc nL d rc rs (fun w a b => Q w ∧ a = rc ∧ b = rs) → GN K x nL 0 lv [] ws 0 0) : Cn K d rc rs (y, cc, nL, none) av ws Q := by
  subst hown0
  intro sz
  refine Met.ofW (cc := cc) (maxL := nL) (ret := none) hpl rfl ?_
  intro p e s m args below meth c s₁ B hml hv
  obtain ⟨rfl, hsz, hP, hK, hD0, hE⟩ := hv
  subst hsz
  have hx := B.exec
  have hb := B.bytes
  have hr := B.returns
  have hts := atoms_spec (ws := mws (y, cc, nL, none)) B.pre
  have hown : s.vm.findClass y.cls = some m.cls := findClass_of_methodNamed B.named
  have hnm : meth.name = y.name := (name_of_methodNamed B.named B.method).1
  have hlocks := B.notSynchronized
  have hD := hD0.self (sz := s.heap.size)
  have hS : va_S (va_A ws s.heap.size) s.heap s.heap [] := va_S.rf
  have hl := lh.entry (n := nL) hc hlen
  rw [lg_entry_eq]
  refine body (p, e, rmC d rc rs, s, m, av.toArray, below, meth, c, MQ below (va_Qv Q (wN K (va_A ws s.heap.size)) (va_A ws s.heap.size)) av.toArray s rc rs (va_A ws s.heap.size), va_A ws s.heap.size) ⟨hx, hb, hml, hown, fun w hw => hts w (List.mem_cons_of_mem _ hw), hK, fun a h => Or.inr h, hE, hnm, Nat.le_refl _, Nat.le_refl _, Nat.le_refl _, Nat.le_refl _, ?_⟩ _ _ _ hP hD hS (by rw [← hlv]; exact hl)
  intro w cells slots H locs pc ls hq hP hD hS hd
  obtain ⟨hq, rfl, rfl⟩ := hq
  exact W.vret hx hb hr (fun t ht hW => ⟨⟨w, rfl, hq, by rw [ht]; exact hP, hD⟩, hS.F ht⟩) hS.2.2 hd
section NR
variable {K : Kt} {y : Cy} {own nm : String} {cc : ByteArray} {nL d RC RS : Nat} {Rp : va_W → Nat → Nat → Prop} {pc : Nat} {lv : List (Nat × Value)} {st : List Value} {ws : va_W} {cells slots : Nat}
theorem GN_w (ws' : va_W) (h : ws = ws') (k : GN K y nL pc lv st ws' cells slots) : GN K y nL pc lv st ws cells slots := by subst h; exact k
theorem GN_is {w : Int32} {v : Int32} {rest : List Value} (h : v = w) (k : GN K y nL pc lv (.int w :: rest) ws cells slots) : GN K y nL pc lv (.int v :: rest) ws cells slots := by subst h; exact k
theorem GN_sub (lv' : List (Nat × Value)) (hs : lsubs lv lv') (k : GN K y nL pc lv' st ws cells slots) : GN K y nL pc lv st ws cells slots := by
  obtain ⟨p, e, R, s, m, args, below, meth, c, Q, A⟩ := y
  intro H locs ls hP hD hS hl
  exact k H locs ls hP hD hS (hl.sub hs)
theorem GN_iload_n (C : Nok K y own nm cc nL d RC RS Rp) {i : Fin 4} {v : Int32} (hd : decode cc pc = .ok (.iload_n i, 1)) (hl : lk lv i.val = some (.int v)) (k : GN K y nL (pc + 1) lv (.int v :: st) ws cells slots) : GN K y nL pc lv st ws cells slots := by
  obtain ⟨p, e, R, s, m, args, below, meth, c, Q, A⟩ := y
  obtain ⟨hx, hb, -⟩ := C
  intro H locs ls hP hD hS h
  exact lv_iload_n hx hb hd rfl (h.2.2 _ _ hl).2 (k H locs ls hP hD hS h)
theorem GN_iload (C : Nok K y own nm cc nL d RC RS Rp) {i : Nat} {v : Int32} (hd : decode cc pc = .ok (.iload i, 2)) (hl : lk lv i = some (.int v)) (k : GN K y nL (pc + 2) lv (.int v :: st) ws cells slots) : GN K y nL pc lv st ws cells slots := by
  obtain ⟨p, e, R, s, m, args, below, meth, c, Q, A⟩ := y
  obtain ⟨hx, hb, -⟩ := C
  intro H locs ls hP hD hS h
  exact lv_iload hx hb hd (h.2.2 _ _ hl).2 (k H locs ls hP hD hS h)
theorem GN_aload_n (C : Nok K y own nm cc nL d RC RS Rp) {i : Fin 4} {a : Nat} (hd : decode cc pc = .ok (.aload_n i, 1)) (hl : lk lv i.val = some (.ref a)) (k : GN K y nL (pc + 1) lv (.ref a :: st) ws cells slots) : GN K y nL pc lv st ws cells slots := by
  obtain ⟨p, e, R, s, m, args, below, meth, c, Q, A⟩ := y
  obtain ⟨hx, hb, -⟩ := C
  intro H locs ls hP hD hS h
  exact lv_aload_n hx hb hd rfl (h.2.2 _ _ hl).2 (k H locs ls hP hD hS h)
theorem GN_istore_n (C : Nok K y own nm cc nL d RC RS Rp) {i : Fin 4} {v : Int32} (hd : decode cc pc = .ok (.istore_n i, 1)) (hi : i.val < nL) (k : GN K y nL (pc + 1) ((i.val, .int v) :: lv) st ws cells slots) : GN K y nL pc lv (.int v :: st) ws cells slots := by
  obtain ⟨p, e, R, s, m, args, below, meth, c, Q, A⟩ := y
  obtain ⟨hx, hb, -⟩ := C
  intro H locs ls hP hD hS h
  exact lv_istore_n hx hb hd rfl h.has hi rfl (fun ls' h' => k H locs ls' hP hD hS (h.put rfl h'))
theorem GN_istore (C : Nok K y own nm cc nL d RC RS Rp) {i : Nat} {v : Int32} (hd : decode cc pc = .ok (.istore i, 2)) (hi : i < nL) (k : GN K y nL (pc + 2) ((i, .int v) :: lv) st ws cells slots) : GN K y nL pc lv (.int v :: st) ws cells slots := by
  obtain ⟨p, e, R, s, m, args, below, meth, c, Q, A⟩ := y
  obtain ⟨hx, hb, -⟩ := C
  intro H locs ls hP hD hS h
  exact lv_istore hx hb hd h.has hi rfl (fun ls' h' => k H locs ls' hP hD hS (h.put rfl h'))
theorem GN_iinc (C : Nok K y own nm cc nL d RC RS Rp) {i : Nat} {n : Int} {v w : Int32} (hd : decode cc pc = .ok (.iinc i n, 3)) (hi : i < nL) (hl : lk lv i = some (.int v)) (hw : v + Int32.ofInt n = w) (k : GN K y nL (pc + 3) ((i, .int w) :: lv) st ws cells slots) : GN K y nL pc lv st ws cells slots := by
  obtain ⟨p, e, R, s, m, args, below, meth, c, Q, A⟩ := y
  obtain ⟨hx, hb, -⟩ := C
  intro H locs ls hP hD hS h
  obtain ⟨j, hj⟩ := lh.mem h hl
  exact lv_iinc hx hb hd h.has hj hw hi rfl (fun ls' h' => k H locs ls' hP hD hS (h.put rfl h'))
theorem GN_iconst (C : Nok K y own nm cc nL d RC RS Rp) {n : Int} (v : Int32) (hd : decode cc pc = .ok (.iconst n, 1)) (hv : Int32.ofInt n = v) (k : GN K y nL (pc + 1) lv (.int v :: st) ws cells slots) : GN K y nL pc lv st ws cells slots := by
  obtain ⟨p, e, R, s, m, args, below, meth, c, Q, A⟩ := y
  obtain ⟨hx, hb, -⟩ := C
  intro H locs ls hP hD hS h
  exact lv_iconst hx hb hd hv (k H locs ls hP hD hS h)
theorem GN_bipush (C : Nok K y own nm cc nL d RC RS Rp) {n : Int} (v : Int32) (hd : decode cc pc = .ok (.bipush n, 2)) (hv : (Int8.ofInt n).toInt32 = v) (k : GN K y nL (pc + 2) lv (.int v :: st) ws cells slots) : GN K y nL pc lv st ws cells slots := by
  obtain ⟨p, e, R, s, m, args, below, meth, c, Q, A⟩ := y
  obtain ⟨hx, hb, -⟩ := C
  intro H locs ls hP hD hS h
  exact lv_bipush hx hb hd hv (k H locs ls hP hD hS h)
theorem GN_sipush (C : Nok K y own nm cc nL d RC RS Rp) {n : Int} (v : Int32) (hd : decode cc pc = .ok (.sipush n, 3)) (hv : (Int16.ofInt n).toInt32 = v) (k : GN K y nL (pc + 3) lv (.int v :: st) ws cells slots) : GN K y nL pc lv st ws cells slots := by
  obtain ⟨p, e, R, s, m, args, below, meth, c, Q, A⟩ := y
  obtain ⟨hx, hb, -⟩ := C
  intro H locs ls hP hD hS h
  exact lv_sipush hx hb hd hv (k H locs ls hP hD hS h)
theorem GN_ldc (C : Nok K y own nm cc nL d RC RS Rp) {i : Nat} {v : Int32} (hw : Cond.constant own i v ∈ gtbl) (hd : decode cc pc = .ok (.ldc i, 2)) (k : GN K y nL (pc + 2) lv (.int v :: st) ws cells slots) : GN K y nL pc lv st ws cells slots := by
  obtain ⟨p, e, R, s, m, args, below, meth, c, Q, A⟩ := y
  obtain ⟨hx, hb, hml, hown, hts, -⟩ := C
  intro H locs ls hP hD hS h
  exact lv_ldc hx hb hown (hts _ hw) hd (k H locs ls hP hD hS h)
theorem GN_dup (C : Nok K y own nm cc nL d RC RS Rp) {v : Value} (hd : decode cc pc = .ok (.dup, 1)) (hv : v.category = 1) (k : GN K y nL (pc + 1) lv (v :: v :: st) ws cells slots) : GN K y nL pc lv (v :: st) ws cells slots := by
  obtain ⟨p, e, R, s, m, args, below, meth, c, Q, A⟩ := y
  obtain ⟨hx, hb, -⟩ := C
  intro H locs ls hP hD hS h
  exact lv_dup hx hb hd hv (k H locs ls hP hD hS h)
theorem GN_goto (C : Nok K y own nm cc nL d RC RS Rp) {off : Int} (tgt : Nat) (hd : decode cc pc = .ok (.goto off, 3)) (ht : (pc : Int) + off = (tgt : Int)) (k : GN K y nL tgt lv st ws cells slots) : GN K y nL pc lv st ws cells slots := by
  obtain ⟨p, e, R, s, m, args, below, meth, c, Q, A⟩ := y
  obtain ⟨hx, hb, -⟩ := C
  intro H locs ls hP hD hS h
  exact lv_goto hx hb hd ht (k H locs ls hP hD hS h)
theorem GN_icmp_ge (C : Nok K y own nm cc nL d RC RS Rp) {x1 y1 : Int32} {off : Int} (tgt : Nat) (hd : decode cc pc = .ok (.if_icmp .ge off, 3)) (ht : (pc : Int) + off = (tgt : Int)) (kt : y1 ≤ x1 → GN K y nL tgt lv st ws cells slots) (kf : ¬ y1 ≤ x1 → GN K y nL (pc + 3) lv st ws cells slots) : GN K y nL pc lv (.int y1 :: .int x1 :: st) ws cells slots := by
  obtain ⟨p, e, R, s, m, args, below, meth, c, Q, A⟩ := y
  obtain ⟨hx, hb, -⟩ := C
  intro H locs ls hP hD hS hl
  exact lv_icmp_ge hx hb hd ht (fun h => kt h H locs ls hP hD hS hl) (fun h => kf h H locs ls hP hD hS hl)
theorem GN_astore_n (C : Nok K y own nm cc nL d RC RS Rp) {i : Fin 4} {a : Nat} (hd : decode cc pc = .ok (.astore_n i, 1)) (hi : i.val < nL) (k : GN K y nL (pc + 1) ((i.val, .ref a) :: lv) st ws cells slots) : GN K y nL pc lv (.ref a :: st) ws cells slots := by
  obtain ⟨p, e, R, s, m, args, below, meth, c, Q, A⟩ := y
  obtain ⟨hx, hb, hml, hown, hts, hK, hA, hE, hnm, hd1, hd2, hd3, hd4, hrV⟩ := C
  intro H locs ls hP hD hS h
  exact lv_astore_n hx hb hd rfl h.has hi rfl (fun ls' h' => k H locs ls' hP hD hS (h.put rfl h'))
theorem GN_ret (C : Nok K y own nm cc nL d RC RS Rp) (hd : decode cc pc = .ok (.return_, 1)) (h : Rp ws cells slots) : GN K y nL pc lv [] ws cells slots := by
  obtain ⟨p, e, R, s, m, args, below, meth, c, Q, A⟩ := y
  obtain ⟨hx, hb, hml, hown, hts, hK, hA, hE, hnm, hd1, hd2, hd3, hd4, hrV⟩ := C
  intro H locs ls hP hD hS hl
  exact hrV ws cells slots H locs pc ls h hP hD hS hd
theorem RA_int (s : State) (c1 c2 : ClassId) (h1 : va_RA s c1 .int) (h2 : va_RA s c2 .int) : c1 = c2 := by
  have a : s.vm.findClass ("[" ++ FieldType.int.toString) = some c1 := h1
  have b : s.vm.findClass ("[" ++ FieldType.int.toString) = some c2 := h2
  exact Option.some.inj (a.symm.trans b)
theorem RA_byte (s : State) (c1 c2 : ClassId) (h1 : va_RA s c1 .byte) (h2 : va_RA s c2 .byte) : c1 = c2 := by
  have a : s.vm.findClass ("[" ++ FieldType.byte.toString) = some c1 := h1
  have b : s.vm.findClass ("[" ++ FieldType.byte.toString) = some c2 := h2
  exact Option.some.inj (a.symm.trans b)
theorem RA_boolean (s : State) (c1 c2 : ClassId) (h1 : va_RA s c1 .boolean) (h2 : va_RA s c2 .boolean) : c1 = c2 := by
  have a : s.vm.findClass ("[" ++ FieldType.boolean.toString) = some c1 := h1
  have b : s.vm.findClass ("[" ++ FieldType.boolean.toString) = some c2 := h2
  exact Option.some.inj (a.symm.trans b)
def nOK (own : String) (idx ci n : Nat) (fs : List Value) : Prop := ∃ (C : String) (T : u_T) (ty : Nat → FieldType), vwCl[ci]? = some (C, T, n) ∧ (∀ w ∈ u_ws C T n, w ∈ gtbl) ∧ (∀ k, k < n → parseFieldDescriptor (T k).2.2.1 = some (ty k)) ∧ Cond.classLink own idx C ∈ gtbl ∧ Cond.instantiable C n ∈ gtbl ∧ Cond.initialized C ∈ gtbl ∧ ∀ j, j < n → defaultValue (ty j) = vp_V fs j
theorem GN_new (C : Nok K y own nm cc nL d RC RS Rp) {idx ci n : Nat} {fs : List Value} (hn : nOK own idx ci n fs) (hc1 : cells + 1 ≤ RC) (hc2 : slots + n ≤ RS) (hd : decode cc pc = .ok (.new idx, 3)) (k9 : ∀ q, GN K y nL (pc + 3) lv (.ref q :: st) (ws ++ [(q, .inr (ci, fs))]) (cells + 1) (slots + n)) : GN K y nL pc lv st ws cells slots := by
  obtain ⟨p, e, R, s, m, args, below, meth, c, Q, A⟩ := y
  obtain ⟨hx, hb, hml, hown, hts, hK, hA, hE, hnm, hd1, hd2, hd3, hd4, hrV⟩ := C
  obtain ⟨C', T, ty, h1, h2, h3, h4, h5, h6, h7⟩ := hn
  intro H locs ls hP hD hS hl
  exact va_new hx hb hts h2 ty h3 hown (hts _ h4) (hts _ h5) (hts _ h6) hK hP hD hS hA h1 h7 (by omega) (by omega) hd (fun q H1 hP1 hD1 hS1 => k9 q H1 locs ls hP1 hD1 hS1 hl)
theorem GN_newaW (C : Nok K y own nm cc nL d RC RS Rp) {at_ : ArrayType} {ty : FieldType} (t : Nat) (harr : Cond.arrayClass (newarray.typeOf at_) ∈ gtbl) (hty : newarray.typeOf at_ = ty) (ht : (tyL K)[t]? = some (kC K t, ty)) (hdf : defaultValue ty = .int 0) (hRA : ∀ (s : State) (c1 c2 : ClassId), va_RA s c1 ty → va_RA s c2 ty → c1 = c2) (hcb : componentBytes ty ≤ 4) {n : Int32} {N : Nat} (hn : n = nI N) (hN : N ≤ 1000) (hc1 : cells + 1 ≤ RC) (hc2 : slots + N ≤ RS) (hd : decode cc pc = .ok (.newarray at_, 2)) (k9 : ∀ q, GN K y nL (pc + 2) lv (.ref q :: st) (ws ++ [(q, .inl (kC K t, N, .inl (fun _ => 0)))]) (cells + 1) (slots + N)) : GN K y nL pc lv (.int n :: st) ws cells slots := by
  obtain ⟨p, e, R, s, m, args, below, meth, c, Q, A⟩ := y
  obtain ⟨hx, hb, hml, hown, hts, hK, hA, hE, hnm, hd1, hd2, hd3, hd4, hrV⟩ := C
  intro H locs ls hP hD hS hl
  subst hn
  refine va_newa hx hb (hts _ harr) hty hK hP hD hS hA (a0 := (N, .inl (fun _ => 0))) (fun cA => by rw [vp_cell_i, hdf]) (nI_pos (by omega)) (nI_clamp (by omega)) (by have : N * componentBytes ty ≤ 1000 * 4 := Nat.mul_le_mul hN hcb; omega) (by omega) (by omega) hd (fun q cA H1 hK1 hP1 hD1 hS1 => ?_)
  have e : cA = kC K t := hRA s cA (kC K t) (hK1.2 (tyL K).length _ (by rw [List.getElem?_append_right (Nat.le_refl _), Nat.sub_self]; rfl)).2 (hK.2 t _ ht).2
  subst e
  exact k9 q H1 locs ls hP1 hD1 hS1 hl
theorem GN_newI (C : Nok K y own nm cc nL d RC RS Rp) (harr : Cond.arrayClass .int ∈ gtbl) {n : Int32} (N : Nat) (hn : n = nI N) (hN : N ≤ 1000) (hc1 : cells + 1 ≤ RC) (hc2 : slots + N ≤ RS) (hd : decode cc pc = .ok (.newarray .int, 2)) (k9 : ∀ q, GN K y nL (pc + 2) lv (.ref q :: st) (ws ++ [(q, .inl (kC K 0, N, .inl (fun _ => 0)))]) (cells + 1) (slots + N)) : GN K y nL pc lv (.int n :: st) ws cells slots := GN_newaW (at_ := .int) (ty := .int) C 0 harr rfl rfl rfl RA_int (by decide) hn hN hc1 hc2 hd k9
theorem GN_newB (C : Nok K y own nm cc nL d RC RS Rp) (harr : Cond.arrayClass .byte ∈ gtbl) {n : Int32} (N : Nat) (hn : n = nI N) (hN : N ≤ 1000) (hc1 : cells + 1 ≤ RC) (hc2 : slots + N ≤ RS) (hd : decode cc pc = .ok (.newarray .byte, 2)) (k9 : ∀ q, GN K y nL (pc + 2) lv (.ref q :: st) (ws ++ [(q, .inl (kC K 1, N, .inl (fun _ => 0)))]) (cells + 1) (slots + N)) : GN K y nL pc lv (.int n :: st) ws cells slots := GN_newaW (at_ := .byte) (ty := .byte) C 1 harr rfl rfl rfl RA_byte (by decide) hn hN hc1 hc2 hd k9
theorem GN_newZ (C : Nok K y own nm cc nL d RC RS Rp) (harr : Cond.arrayClass .boolean ∈ gtbl) {n : Int32} (N : Nat) (hn : n = nI N) (hN : N ≤ 1000) (hc1 : cells + 1 ≤ RC) (hc2 : slots + N ≤ RS) (hd : decode cc pc = .ok (.newarray .boolean, 2)) (k9 : ∀ q, GN K y nL (pc + 2) lv (.ref q :: st) (ws ++ [(q, .inl (kC K 2, N, .inl (fun _ => 0)))]) (cells + 1) (slots + N)) : GN K y nL pc lv (.int n :: st) ws cells slots := GN_newaW (at_ := .boolean) (ty := .boolean) C 2 harr rfl rfl rfl RA_boolean (by decide) hn hN hc1 hc2 hd k9
theorem GN_newq (C : Nok K y own nm cc nL d RC RS Rp) {E : String} {idx : Nat} (t : Nat) (hcl : Cond.classLink own idx E ∈ gtbl) (hao : E = RX3 ∨ E = RX7) (ht : (tyL K)[t]? = some (kC K t, .object E)) {n : Int32} (N : Nat) (hn : n = nI N) (hN : N ≤ 1000) (hc1 : cells + 1 ≤ RC) (hc2 : slots + N ≤ RS) (hd : decode cc pc = .ok (.anewarray idx, 3)) (k9 : ∀ q, GN K y nL (pc + 3) lv (.ref q :: st) (ws ++ [(q, .inl (kC K t, N, .inr (.inr (.inr (.inr (fun _ => none))))))]) (cells + 1) (slots + N)) : GN K y nL pc lv (.int n :: st) ws cells slots := by
  obtain ⟨p, e, R, s, m, args, below, meth, c, Q, A⟩ := y
  obtain ⟨hx, hb, hml, hown, hts, hK, hA, hE, hnm, hd1, hd2, hd3, hd4, hrV⟩ := C
  intro H locs ls hP hD hS hl
  subst hn
  have ho : va_AO E s := by
    rcases hao with rfl | rfl
    · exact hE.2.1
    · exact hE.2.2
  refine va_newq hx hb hown (hts _ hcl) ho hK hP hD hS hA (nI_pos (by omega)) (nI_clamp (by omega)) (by omega) (by omega) (by omega) hd (fun q cA H1 hK1 hP1 hD1 hS1 => ?_)
  have e : cA = kC K t := by
    obtain ⟨_, _, _, _, _, h1⟩ := (hK1.2 (tyL K).length _ (by rw [List.getElem?_append_right (Nat.le_refl _), Nat.sub_self]; rfl)).2
    obtain ⟨_, _, _, _, _, h2⟩ := (hK.2 t _ ht).2
    exact Option.some.inj (h1.symm.trans h2)
  subst e
  exact k9 q H1 locs ls hP1 hD1 hS1 hl
def fPF (own : String) (idx ci k : Nat) : Prop := ∃ (C : String) (T : u_T) (N : Nat) (ty : Nat → FieldType), vwCl[ci]? = some (C, T, N) ∧ (∀ w ∈ u_ws C T N, w ∈ gtbl) ∧ k < N ∧ (T k).1 = C ∧ Cond.fieldLink own idx C (T k).2.1 (T k).2.2.1 ∈ gtbl ∧ (∀ k, k < N → parseFieldDescriptor (T k).2.2.1 = some (ty k)) ∧ (∀ a, a < N → ∀ b, b < N → a ≠ b → (T a).2.1 ≠ (T b).2.1) ∧ (T k).2.2.2 = true ∧ (T k).1 = own ∧ ∀ a : Nat, narrow (ty k) (.ref a) = .ref a ∧ fits (ty k) (.ref a) = true
theorem GN_putF (C : Nok K y own "<init>" cc nL d RC RS Rp) {idx ci k a v : Nat} {fs : List Value} (q0 : Nat) (hf : fPF own idx ci k) (he : ws[q0]? = some (a, .inr (ci, fs))) (hl0 : k < fs.length) (hd : decode cc pc = .ok (.putfield idx, 3)) (k9 : GN K y nL (pc + 3) lv st (ws.set q0 (a, .inr (ci, fs.set k (.ref v)))) cells slots) : GN K y nL pc lv (.ref v :: .ref a :: st) ws cells slots := by
  obtain ⟨p, e, R, s, m, args, below, meth, c, Q, A⟩ := y
  obtain ⟨hx, hb, hml, hown, hts, hK, hA, hE, hnm, hd1, hd2, hd3, hd4, hrV⟩ := C
  obtain ⟨C', T, N, ty, h1, h2, h3, h4, h5, h6, h7, h8, h9, h10⟩ := hf
  intro H locs ls hP hD hS hl
  exact va_putF hx hb hts h2 ty h6 h7 hown hK hP hD hS q0 he h1 k h3 (hts _ h5) (fun _ h => by rw [h4] at h; exact h) h8 hnm h9 (h6 k h3) (h10 v).1 (h10 v).2 hl0 hd (fun H1 locs1 hP1 hD1 hS1 => k9 H1 locs1 ls hP1 hD1 hS1 hl)
theorem GN_putI (C : Nok K y own nm cc nL d RC RS Rp) {idx ci k a : Nat} {v : Int32} {fs : List Value} (q0 : Nat) (hf : fPut own idx ci k) (he : ws[q0]? = some (a, .inr (ci, fs))) (hl0 : k < fs.length) (hd : decode cc pc = .ok (.putfield idx, 3)) (k9 : GN K y nL (pc + 3) lv st (ws.set q0 (a, .inr (ci, fs.set k (.int v)))) cells slots) : GN K y nL pc lv (.int v :: .ref a :: st) ws cells slots := by
  obtain ⟨p, e, R, s, m, args, below, meth, c, Q, A⟩ := y
  obtain ⟨hx, hb, hml, hown, hts, hK, hA, hE, hnm, hd1, hd2, hd3, hd4, hrV⟩ := C
  obtain ⟨C', T, N, ty, h1, h2, h3, h4, h5, h6, h7, h8, h9⟩ := hf
  intro H locs ls hP hD hS hl
  exact va_put hx hb hts h2 ty h6 h7 hown hK hP hD hS q0 he h1 k h3 (hts _ h5) (fun _ h => by rw [h4] at h; exact h) h8 (ty := .int) (v := .int v) h9 rfl rfl hl0 hd (fun H1 locs1 hP1 hD1 hS1 => k9 H1 locs1 ls hP1 hD1 hS1 hl)
theorem GN_getR (C : Nok K y own nm cc nL d RC RS Rp) {idx ci k a : Nat} {v : Value} {fs : List Value} (q0 : Nat) (hf : fOK own idx ci k) (he : ws[q0]? = some (a, .inr (ci, fs))) (hv : fs[k]? = some v) (hd : decode cc pc = .ok (.getfield idx, 3)) (k9 : GN K y nL (pc + 3) lv (v :: st) ws cells slots) : GN K y nL pc lv (.ref a :: st) ws cells slots := by
  obtain ⟨p, e, R, s, m, args, below, meth, c, Q, A⟩ := y
  obtain ⟨hx, hb, hml, hown, hts, hK, hA, hE, hnm, hd1, hd2, hd3, hd4, hrV⟩ := C
  obtain ⟨C', T, N, h1, h2, h3, h4, h5⟩ := hf
  intro H locs ls hP hD hS hl
  exact va_get hx hb hts h2 hown hK hP q0 he h1 k h3 (hts _ h5) (fun _ h => by rw [h4] at h; exact h) hv hd (k9 H locs ls hP hD hS hl)
theorem GN_alen (C : Nok K y own nm cc nL d RC RS Rp) {a n : Nat} {z : (Nat → Int32) ⊕ (Nat → Int64) ⊕ (Nat → UInt32) ⊕ (Nat → UInt64) ⊕ (Nat → Option Nat)} {ty : FieldType} (q0 t : Nat) (he : ws[q0]? = some (a, .inl (kC K t, n, z))) (ht : (tyL K)[t]? = some (kC K t, ty)) (hd : decode cc pc = .ok (.arraylength, 1)) (k9 : GN K y nL (pc + 1) lv (.int (nI n) :: st) ws cells slots) : GN K y nL pc lv (.ref a :: st) ws cells slots := by
  obtain ⟨p, e, R, s, m, args, below, meth, c, Q, A⟩ := y
  obtain ⟨hx, hb, hml, hown, hts, hK, hA, hE, hnm, hd1, hd2, hd3, hd4, hrV⟩ := C
  intro H locs ls hP hD hS hl
  exact va_alen hx hb hK hP q0 t he ht rfl hd (k9 H locs ls hP hD hS hl)
theorem GN_iast (C : Nok K y own nm cc nL d RC RS Rp) {a n : Nat} {f : Nat → Int32} {j v : Int32} (q0 : Nat) (he : ws[q0]? = some (a, .inl (kC K 0, n, .inl f))) (hin : vp_in j n) (hd : decode cc pc = .ok (.iastore, 1)) (k9 : GN K y nL (pc + 1) lv st (ws.set q0 (a, .inl (kC K 0, n, .inl (upd f j.toNatClampNeg v)))) cells slots) : GN K y nL pc lv (.int v :: .int j :: .ref a :: st) ws cells slots := by
  obtain ⟨p, e, R, s, m, args, below, meth, c, Q, A⟩ := y
  obtain ⟨hx, hb, hml, hown, hts, hK, hA, hE, hnm, hd1, hd2, hd3, hd4, hrV⟩ := C
  intro H locs ls hP hD hS hl
  exact va_iast hx hb hK hP hD hS q0 0 he rfl hin hd (fun H1 locs1 hP1 hD1 hS1 => k9 H1 locs1 ls hP1 hD1 hS1 hl)
theorem GN_astq (C : Nok K y own nm cc nL d RC RS Rp) {a n v ci t : Nat} {r : vw_C} {vs : List Value} {f : Nat → Option Nat} {j : Int32} (q0 qk : Nat) (he : ws[q0]? = some (a, .inl (kC K t, n, .inr (.inr (.inr (.inr f)))))) (ht : (tyL K)[t]? = some (kC K t, .object r.1)) (hv : ws[qk]? = some (v, .inr (ci, vs))) (hc : vwCl[ci]? = some r) (hin : vp_in j n) (hd : decode cc pc = .ok (.aastore, 1)) (k9 : GN K y nL (pc + 1) lv st (ws.set q0 (a, .inl (kC K t, n, .inr (.inr (.inr (.inr (va_up f j.toNatClampNeg (some v)))))))) cells slots) : GN K y nL pc lv (.ref v :: .int j :: .ref a :: st) ws cells slots := by
  obtain ⟨p, e, R, s, m, args, below, meth, c, Q, A⟩ := y
  obtain ⟨hx, hb, hml, hown, hts, hK, hA, hE, hnm, hd1, hd2, hd3, hd4, hrV⟩ := C
  intro H locs ls hP hD hS hl
  exact va_astq hx hb hK hP hD hS q0 t qk ci he ht hv hc hin hd (fun H1 locs1 hP1 hD1 hS1 => k9 H1 locs1 ls hP1 hD1 hS1 hl)
theorem GN_obj (C : Nok K y own nm cc nL (d + 1) RC RS Rp) {idx a : Nat} (hl1 : Cond.methodLink own idx Lib.objectInit ∈ gtbl) (hin : Cond.instanceMethod Lib.objectInit ∈ gtbl) (hco : Cond.code Lib.objectInit ⟨#[0xb1]⟩ 1 none ∈ gtbl) (hW8 : (st.map fun v => v.category).sum ≤ 8) (hd : decode cc pc = .ok (.invokespecial idx, 3)) (k9 : GN K y nL (pc + 3) lv st ws cells slots) : GN K y nL pc lv (.ref a :: st) ws cells slots := by
  obtain ⟨p, e, R, s, m, args, below, meth, c, Q, A⟩ := y
  obtain ⟨hx, hb, hml, hown, hts, hK, hA, hE, hnm, hd1, hd2, hd3, hd4, hrV⟩ := C
  intro H locs ls hP hD hS hl
  refine W.objInit hx hb hown (hts _ hl1) (hts _ hin) (hts _ hco) rfl (by rw [hml]; exact hl.1) rfl hd (by omega) ?_ (k9 H locs ls hP hD hS hl)
  exact Nat.le_trans (Nat.add_le_add_right (lv_room hW8) 12) (by omega)
theorem callB_C {q : Mt} {n idx : Nat} {R : Room} {s : State} {args : Array Value} {rc rs : Nat} (ok : mOK q n) (hl : Cond.methodLink own idx q.1 ∈ gtbl) (hts : ∀ w ∈ gtbl, w.before args s = true) (h1 : d + 1 ≤ R.frames) (h2 : 36 * (d + 1) ≤ R.locals) : CallB R s args own idx q.1 q.2.1 q.2.2.1 q.2.2.2 (mws q) (rmC d rc rs) rc rs n :=
  callB_of n hts (mws_good ok) rfl rfl rfl (hts _ ok.2.1) (hts _ hl) ok.2.2.1 ⟨h1, by have := ok.2.2.2; show 8 + (q.2.2.1 + 11) + 36 * d ≤ R.locals; omega⟩
theorem callN_C {q : Mt} {n idx : Nat} {R : Room} {s : State} {args : Array Value} {rc rs : Nat} (ok : mOK q n) (hl : va_Nw (.methodLinkNest own idx q.1 RX9) s) (hts : ∀ w ∈ gtbl, w.before args s = true) (h1 : d + 1 ≤ R.frames) (h2 : 36 * (d + 1) ≤ R.locals) : va_CN R s args own idx q.1 RX9 q.2.1 q.2.2.1 q.2.2.2 (mws q) (rmC d rc rs) rc rs n :=
  va_cnB n hts (mws_good ok) rfl rfl rfl hl (hts _ ok.2.1) ok.2.2.1 ⟨h1, by have := ok.2.2.2; show 8 + (q.2.2.1 + 11) + 36 * d ≤ R.locals; omega⟩
def iLk (own : String) (idx : Nat) (q : MethodName) : Prop := Cond.methodLink own idx q ∈ gtbl ∨ (own, idx, q) ∈ nestI
set_option maxHeartbeats 1000000 in
theorem GN_init (C : Nok K y own nm cc nL (d + 1) RC RS Rp) {z : MethodName} {zc : ByteArray} {zl n idx b rc rs : Nat} {wc : va_W} {Q0 : va_W → Prop} {As rest : List Value} (ok : mOK (z, zc, zl, none) n) (hz : z.name = "<init>") (hzi : Cond.instanceMethod z ∈ gtbl) (lk : iLk own idx z) (hc : Cn K d rc rs (z, zc, zl, none) (.ref b :: As) wc Q0) (isC isR : List Nat) (wr : va_W) (hC : isC.map (fun i => ws[i]?) = wc.map some) (hR : isR.map (fun i => ws[i]?) = wr.map some) (hnd : va_nd isR = true) (hnc : va_nd isC = true) (hdis : ∀ i ∈ isR, i ∉ isC) (hn : As.length = n) (hst : st = As.reverse ++ .ref b :: rest) (hW8 : (rest.map fun v => v.category).sum ≤ 8) (hc1 : cells + rc ≤ RC) (hc2 : slots + rs ≤ RS) (hd : decode cc pc = .ok (.invokespecial idx, 3)) (k9 : ∀ w1, Q0 w1 → GN K y nL (pc + 3) lv rest (wr ++ w1) (cells + rc) (slots + rs)) : GN K y nL pc lv st ws cells slots := by
  obtain ⟨p, e, R, s, m, args, below, meth, c, Q, A⟩ := y
  obtain ⟨hx, hb, hml, hown, hts, hK, hA, hE, hnm, hd1, hd2, hd3, hd4, hrV⟩ := C
  intro H locs ls hP hD hS hl
  have hF := va_free hD hS hA isC hC
  have hPc : va_P (kD K) vwCl wc H := fun k x hx => by
    have h1 : (isC.map (fun i => ws[i]?))[k]? = some (some x) := by rw [hC, List.getElem?_map, hx]; rfl
    rw [List.getElem?_map] at h1
    cases hi : isC[k]? with
    | none => rw [hi] at h1; cases h1
    | some i => rw [hi] at h1; exact hP i x (Option.some.inj h1)
  have hDc : va_D (fun _ => True) wc → va_Run p (kL K) e R s m args below meth c H locs cells slots rc rs (F0 m pc ls st) rest (va_Qv Q0 (wN K (va_A wc H.size)) (va_A wc H.size) (Value.ref b :: As).toArray) (va_A wc H.size) := fun hDc => by
    have hpre : PreS s H (va_Pc (Value.ref b :: As) (PmN K H.size wc)) (.ref b :: As) := ⟨PmN.blind, fun U hU hW => ⟨rfl, by rw [hU], by rw [hU]; exact hPc, va_K.moved hW.alike hK, hDc, hE.pass hW⟩⟩
    rcases lk with lk | lk
    · exact va_runI (As := As) (rest := rest) ⟨hx, hb, hml, hown, hts⟩ (hc H.size) ⟨callB_C ok lk hts hd1 hd2, hz, hts _ hzi⟩ hpre rfl hn hl.1 hst (lv_room hW8) hd ⟨by omega, by omega⟩
    · exact va_runIN (As := As) (rest := rest) (host := RX9) ⟨hx, hb, hml, hown, hts⟩ (hc H.size) ⟨callN_C ok (hE.1 _ lk) hts hd1 hd2, hz, hts _ hzi⟩ hpre rfl hn hl.1 hst (lv_room hW8) hd ⟨by omega, by omega⟩
  refine va_callv (hDc ((hD.sub isC hnc hC).weaken (fun _ _ _ _ => trivial))) hS (fun q _ h => hF q h) hF (fun w1 t H1 locs1 ht hvm hq hB hz hk hS1 => ?_)
  obtain ⟨hP1, hD1⟩ := hB
  rw [ht] at hP1
  obtain ⟨j1, j2⟩ := va_join hP hD isC isR hC hR hnd hdis hk hF hP1 hD1
  exact k9 w1 hq H1 locs1 ls j1 j2 hS1 hl
end NR
