def slen : List Nat := [4, 4, 5, 5, 5, 4]
def sbyt : List (List Int32) := [[116, 97, 107, 101], [111, 118, 101, 114], [110, 105, 103, 104, 116], [111, 116, 104, 101, 114], [108, 101, 97, 115, 116], [109, 111, 115, 116]]
def sidx : List (Nat × String) := [(26, "take"), (48, "over"), (55, "night"), (64, "other"), (69, "least"), (73, "most")]
def htab : List Int32 := [0, 100, 150, 180, 200]
def nestM : List (String × Nat × MethodName) := [(RX2, 33, yX9_isBelow), (RX7, 25, yX9_isBelow), (RX7, 29, yX9_areNights), (RX6, 110, yX9_isBelow), (RX3, 25, yX9_isBelow)]
def sioN : String := "jdk/internal/util/Preconditions"
def sioD : String := "Ljava/util/function/BiFunction;"
/-- what stays as it is: links among nest mates, the constant row, the texts -/
def EV (K : Kt) (A : Nat → Prop) (U : State) : Prop :=
  (∀ q ∈ nestM, va_Nw (.methodLinkNest q.1 q.2.1 q.2.2 RX9) U) ∧ va_Nw (.fieldLinkNest RX3 19 RX9 "HUNDREDTHS_BY_CHILDREN" "[I" RX9) U ∧
  va_Z RX9 "HUNDREDTHS_BY_CHILDREN" "[I" (.ref (kH K)) A U U.heap ∧ va_T .int (kH K) 5 (fun j => .int (htab.getD j 0)) A U U.heap ∧
  va_Z "java/lang/String" "COMPACT_STRINGS" "Z" (.int 1) A U U.heap ∧ va_Z sioN "SIOOBE_FORMATTER" sioD (kF K) A U U.heap ∧
  vk_S 6 slen sbyt (kS K) (kV K) A U U.heap ∧ (∀ i q, sidx[i]? = some q → vk_R RX6 q.1 q.2 (kS K i) U) ∧ (kF K).category = 1

theorem EV.pass {K : Kt} {A B : Nat → Prop} {s U : State} (h : EV K A s) (hW : s.WarmedH U.vm) (hq : ∀ a : Nat, a < s.heap.size → ¬ A a → U.heap[a]? = s.heap[a]?) (hAB : ∀ q, B q → A q) : EV K B U := by
  obtain ⟨h1, h2, h3, h4, h5, h6, h7, h8, h9⟩ := h
  exact ⟨fun q hq' => va_Nw.warmM hW (h1 q hq'), va_Nw.warmF hW h2, ((h3.kept hq).moved hW.alike).narrow hAB, ((h4.kept hq).moved hW.alike).narrow hAB, ((h5.kept hq).moved hW.alike).narrow hAB, ((h6.kept hq).moved hW.alike).narrow hAB, ((h7.kept hq).moved hW.alike).narrow hAB, fun i q hi => vk_R.warm hW (h8 i q hi), h9⟩
theorem EV.call {K : Kt} {A : Nat → Prop} {U : State} {g : JFrame} {mk : MethodId} {a : Array Value} (h : EV K A U) : EV K A (U.calling g mk a) := by
  obtain ⟨h1, h2, h3, h4, h5, h6, h7, h8, h9⟩ := h
  exact ⟨fun q hq => va_Nw.same (u := U) rfl rfl (h1 q hq), va_Nw.same (u := U) rfl rfl h2, h3.moved (u := U) (Vm.Alike.refl U.vm), h4.moved (u := U) (Vm.Alike.refl U.vm), h5.moved (u := U) (Vm.Alike.refl U.vm), h6.moved (u := U) (Vm.Alike.refl U.vm), h7.moved (u := U) (Vm.Alike.refl U.vm), fun i q hi => vk_R.same (u := U) rfl (h8 i q hi), h9⟩

def lk : List (Nat × Value) → Nat → Option Value
  | [], _ => none
  | q :: r, i => bif Nat.beq q.1 i then some q.2 else lk r i
def lh (ls : Array Slot) (n : Nat) (l : List (Nat × Value)) : Prop := ls.size = n ∧ lv_wf ls ∧ ∀ (i : Nat) (v : Value), lk l i = some v → v.category = 1 ∧ ls[i]? = some (.val v)
def lsubs (l : List (Nat × Value)) : List (Nat × Value) → Prop
  | [] => True
  | q :: r => lk l q.1 = some q.2 ∧ lsubs l r
theorem lk_subs {l l' : List (Nat × Value)} (h : lsubs l l') : ∀ i v, lk l' i = some v → lk l i = some v := by
  induction l' with
  | nil => intro i v h'; simp [lk] at h'
  | cons q r ih =>
    intro i v h'
    simp only [lk] at h'
    cases hb : Nat.beq q.1 i with
    | true =>
      rw [hb] at h'
      simp at h'
      have := Nat.eq_of_beq_eq_true hb
      subst this
      rw [← h']
      exact h.1
    | false =>
      rw [hb] at h'
      simp at h'
      exact ih h.2 i v h'
theorem lh.sub {ls : Array Slot} {n : Nat} {l l' : List (Nat × Value)} (h : lh ls n l) (hs : lsubs l l') : lh ls n l' := ⟨h.1, h.2.1, fun i v hv => h.2.2 i v (lk_subs hs i v hv)⟩
theorem lh.has {ls : Array Slot} {n : Nat} {l : List (Nat × Value)} (h : lh ls n l) : lv_has ls n ((List.range n).filterMap (fun j => (lk l j).map (fun v => (j, v)))) := by
  refine ⟨h.1, h.2.1, fun q hq => ?_⟩
  obtain ⟨j, -, hj⟩ := List.mem_filterMap.mp hq
  cases hk : lk l j with
  | none => rw [hk] at hj; simp at hj
  | some v =>
    rw [hk] at hj
    simp at hj
    subst hj
    exact (h.2.2 j v hk).2
theorem lh.mem {ls : Array Slot} {n : Nat} {l : List (Nat × Value)} (h : lh ls n l) {j : Nat} {v : Value} (hk : lk l j = some v) : ∃ k : Nat, ((List.range n).filterMap (fun j => (lk l j).map (fun v => (j, v))))[k]? = some (j, v) := by
  have hj : j < n := by
    have := (h.2.2 j v hk).2
    rw [← h.1]
    exact (Array.getElem?_eq_some_iff.mp this).1
  have : (j, v) ∈ (List.range n).filterMap (fun j => (lk l j).map (fun v => (j, v))) := List.mem_filterMap.mpr ⟨j, List.mem_range.mpr hj, by rw [hk]; rfl⟩
  exact List.getElem?_of_mem this
theorem lh.put {ls ls' : Array Slot} {n i : Nat} {l : List (Nat × Value)} {v : Value} (h : lh ls n l) (hv : v.category = 1) (h' : lv_has ls' n ((i, v) :: ((List.range n).filterMap (fun j => (lk l j).map (fun v => (j, v)))).filter (fun q => !(q.1 == i) && !(q.1 + 1 == i && q.2.category == 2)))) : lh ls' n ((i, v) :: l) := by
  refine ⟨h'.1, h'.2.1, fun j w hj => ?_⟩
  simp only [lk] at hj
  cases hb : Nat.beq i j with
  | true =>
    rw [hb] at hj
    simp at hj
    have := Nat.eq_of_beq_eq_true hb
    subst this
    subst hj
    exact ⟨hv, h'.2.2 (i, v) List.mem_cons_self⟩
  | false =>
    rw [hb] at hj
    simp at hj
    have hne : ¬ i = j := fun e => by subst e; simp at hb
    obtain ⟨hc, hs⟩ := h.2.2 j w hj
    refine ⟨hc, h'.2.2 (j, w) (List.mem_cons_of_mem _ (List.mem_filter.mpr ⟨?_, ?_⟩))⟩
    · obtain ⟨k, hk⟩ := h.mem hj
      exact List.mem_of_getElem? hk
    · have h1 : ¬ j = i := fun e => hne e.symm
      simp [h1, hc]

abbrev Cx : Type := Program × Env × Room × State × MethodId × Array Value × List Frame × Method × Code × Nat × Nat × (State → Prop) × (Nat → Prop)
def G (K : Kt) (x : Cx) (nL : Nat) (pc : Nat) (lv : List (Nat × Value)) (st : List Value) (M : Mem) : Prop := match x with
  | (p, e, R, s, m, args, below, meth, c, cells, slots, Q, A) => ∀ (H : Heap) (locs : List Loc) (ls : Array Slot), va_P (kD K) vwCl (wld K M) H → va_D A (wld K M) → va_S A s.heap H locs → lh ls nL lv → W p (kL K) e R s m args below meth c H locs cells slots Q (F0 m pc ls st)
def Cok (K : Kt) (x : Cx) (own : String) (cc : ByteArray) (nL : Nat) (d : Nat) (Rp : Option Int32 → Mem → Prop) : Prop := match x with
  | (p, e, R, s, m, args, below, meth, c, cells, slots, Q, A) => p.tables.exec = Jvm.exec ∧ c.code = cc ∧ c.maxLocals = nL ∧ s.vm.findClass own = some m.cls ∧ (∀ w ∈ gtbl, w.before args s = true) ∧ va_K (kD K) vwCl (tyL K) s ∧ (∀ a, s.heap.size ≤ a → A a) ∧ EV K A s ∧ d ≤ R.frames ∧ 36 * d ≤ R.locals ∧ cells ≤ R.cells ∧ slots ≤ R.slots ∧
    (∀ (v : Int32) (M : Mem) (H : Heap) (locs : List Loc) (pc : Nat) (ls : Array Slot), Rp (some v) M → va_P (kD K) vwCl (wld K M) H → va_D A (wld K M) → va_S A s.heap H locs → decode cc pc = .ok (.ireturn, 1) → W p (kL K) e R s m args below meth c H locs cells slots Q (F0 m pc ls [.int v])) ∧
    (∀ (M : Mem) (H : Heap) (locs : List Loc) (pc : Nat) (ls : Array Slot), Rp none M → va_P (kD K) vwCl (wld K M) H → va_D A (wld K M) → va_S A s.heap H locs → decode cc pc = .ok (.return_, 1) → W p (kL K) e R s m args below meth c H locs cells slots Q (F0 m pc ls []))
abbrev Mt : Type := MethodName × ByteArray × Nat × Option FieldType
def mws (q : Mt) : List Cond := Cond.code q.1 q.2.1 q.2.2.1 q.2.2.2 :: gtbl
def rmD (d : Nat) : Room := { frames := d, cells := 0, slots := 0, locals := 36 * d }
def wB (K : Kt) (A : Nat → Prop) (M : Mem) (t : State) : Prop := va_P (kD K) vwCl (wld K M) t.heap ∧ va_K (kD K) vwCl (tyL K) t ∧ va_D A (wld K M)
def Pm (K : Kt) (sz : Nat) (M : Mem) (U : State) : Prop := U.heap.size = sz ∧ va_P (kD K) vwCl (wld K M) U.heap ∧ va_K (kD K) vwCl (tyL K) U ∧ va_D (fun _ => True) (wld K M) ∧ EV K (va_A (wld K M) sz) U
/-- a method that answers a number, by its contract -/
def Ci (K : Kt) (d : Nat) (q : Mt) (av : List Value) (M : Mem) (Q : Int32 → Mem → Prop) : Prop := ∀ sz, Met (kL K) q.1 (mws q) (rmD d) (va_Pc av (Pm K sz M)) (va_Qi Q (wB K (va_A (wld K M) sz)) (va_A (wld K M) sz)) 0 0 (va_A (wld K M) sz)
/-- a method that answers nothing -/
def Cv (K : Kt) (d : Nat) (q : Mt) (av : List Value) (M : Mem) (Q : Mem → Prop) : Prop := ∀ sz, Met (kL K) q.1 (mws q) (rmD d) (va_Pc av (Pm K sz M)) (va_Qv Q (wB K (va_A (wld K M) sz)) (va_A (wld K M) sz)) 0 0 (va_A (wld K M) sz)
def RI (Q : Int32 → Mem → Prop) : Option Int32 → Mem → Prop
  | some v => Q v
  | none => fun _ => False
def RV (Q : Mem → Prop) : Option Int32 → Mem → Prop
  | some _ => fun _ => False
  | none => Q
def la : Nat → List Value → List (Nat × Value)
  | _, [] => []
  | i, v :: r => (i, v) :: la (i + 1) r
theorem la_args : ∀ (av : List Value) (i : Nat), (∀ v ∈ av, v.category = 1) → lv_args i av = la i av
  | [], i, _ => rfl
  | v :: r, i, h => by
    have h1 := h v List.mem_cons_self
    have h2 := la_args r (i + 1) (fun w hw => h w (List.mem_cons_of_mem _ hw))
    simp [lv_args, la, h1, h2]
theorem la_ge : ∀ (av : List Value) (i : Nat) (q : Nat × Value), q ∈ la i av → i ≤ q.1
  | [], i, q, h => by simp [la] at h
  | v :: r, i, q, h => by
    simp only [la, List.mem_cons] at h
    rcases h with rfl | h
    · exact Nat.le_refl _
    · exact Nat.le_of_succ_le (la_ge r (i + 1) q h)
theorem lk_mem : ∀ (l : List (Nat × Value)) (i : Nat) (v : Value), lk l i = some v → (i, v) ∈ l
  | [], i, v, h => by simp [lk] at h
  | q :: r, i, v, h => by
    simp only [lk] at h
    cases hb : Nat.beq q.1 i with
    | true =>
      rw [hb] at h
      simp at h
      have := Nat.eq_of_beq_eq_true hb
      subst this
      subst h
      exact List.mem_cons_self
    | false =>
      rw [hb] at h
      simp at h
      exact List.mem_cons_of_mem _ (lk_mem r i v h)
theorem lh.entry {av : List Value} {n : Nat} (hc : ∀ v ∈ av, v.category = 1) (h : (lg_sl av).length ≤ n) : lh ((lg_sl av ++ List.replicate (n - (lg_sl av).length) Slot.unset).toArray) n (la 0 av) := by
  have h0 := lv_entry av h
  rw [la_args av 0 hc] at h0
  refine ⟨h0.1, h0.2.1, fun i v hv => ?_⟩
  have hm := lk_mem _ _ _ hv
  refine ⟨?_, h0.2.2 (i, v) hm⟩
  have key : ∀ (av : List Value) (i : Nat) (q : Nat × Value), q ∈ la i av → q.2 ∈ av := by
    intro av
    induction av with
    | nil => intro i q h; simp [la] at h
    | cons w r ih =>
      intro i q h
      simp only [la, List.mem_cons] at h
      rcases h with rfl | h
      · exact List.mem_cons_self
      · exact List.mem_cons_of_mem _ (ih _ _ h)
  exact hc v (key av 0 (i, v) hm)
theorem Pm.blind {K : Kt} {sz : Nat} {M : Mem} {av : List Value} : FrameBlind (va_Pc av (Pm K sz M)) := fun a U g mk q => by
  obtain ⟨q0, q1, qP, qK, qD, qE⟩ := q
  exact ⟨q0, q1, qP, va_K.moved (u := U) (U := U.calling g mk a) (Vm.Alike.refl U.vm) qK, qD, qE.call⟩
set_option maxHeartbeats 1000000 in
theorem Ci.ofG {K : Kt} {d : Nat} {y : MethodName} {cc : ByteArray} {nL : Nat} {ty : FieldType} {av : List Value} {M : Mem} {Q : Int32 → Mem → Prop} (own : String) (hown0 : y.cls = own) (hpl : plainName own = true) (hn : ∀ v N, Q v N → narrow ty (.int v) = .int v) (lv : List (Nat × Value)) (hlv : la 0 av = lv) (hlen : (lg_sl av).length ≤ nL) (hc : ∀ v ∈ av, v.category = 1)
    (body : ∀ x : Cx, Cok K x own cc nL d (RI Q) → G K x nL 0 lv [] M) : Ci K d (y, cc, nL, some ty) av M Q := by
  subst hown0
  intro sz
  refine Met.ofW (cc := cc) (maxL := nL) (ret := some ty) hpl rfl ?_
  intro p e s m args below meth c s₁ B hml hv
  obtain ⟨rfl, hsz, hP, hK, hD0, hE⟩ := hv
  subst hsz
  have hx := B.exec
  have hb := B.bytes
  have hr := B.returns
  have hts := atoms_spec (ws := mws (y, cc, nL, some ty)) B.pre
  have hown : s.vm.findClass y.cls = some m.cls := findClass_of_methodNamed B.named
  have hlocks := B.notSynchronized
  have hD := hD0.self (sz := s.heap.size)
  have hS : va_S (va_A (wld K M) s.heap.size) s.heap s.heap [] := va_S.rf
  have hl := lh.entry (n := nL) hc hlen
  rw [lg_entry_eq]
  refine body (p, e, rmD d, s, m, av.toArray, below, meth, c, 0, 0, MQ below (va_Qi Q (wB K (va_A (wld K M) s.heap.size)) (va_A (wld K M) s.heap.size)) av.toArray s 0 0 (va_A (wld K M) s.heap.size), va_A (wld K M) s.heap.size) ⟨hx, hb, hml, hown, fun w hw => hts w (List.mem_cons_of_mem _ hw), hK, fun a h => Or.inr h, hE, Nat.le_refl _, Nat.le_refl _, Nat.le_refl _, Nat.le_refl _, ?_, ?_⟩ _ _ _ hP hD hS (by rw [← hlv]; exact hl)
  · intro v N H locs pc ls hq hP hD hS hd
    exact W.zret (v := v) (ty := ty) hx hb hr (hn v N hq) (fun t ht hW => ⟨⟨v, N, rfl, hq, by rw [ht]; exact hP, va_K.moved hW.alike hK, hD⟩, hS.F ht⟩) hS.2.2 hd
  · intro N H locs pc ls hq
    exact hq.elim
set_option maxHeartbeats 1000000 in
theorem Cv.ofG {K : Kt} {d : Nat} {y : MethodName} {cc : ByteArray} {nL : Nat} {av : List Value} {M : Mem} {Q : Mem → Prop} (own : String) (hown0 : y.cls = own) (hpl : plainName own = true) (lv : List (Nat × Value)) (hlv : la 0 av = lv) (hlen : (lg_sl av).length ≤ nL) (hc : ∀ v ∈ av, v.category = 1)
    (body : ∀ x : Cx, Cok K x own cc nL d (RV Q) → G K x nL 0 lv [] M) : Cv K d (y, cc, nL, none) av M Q := by
  subst hown0
  intro sz
  refine Met.ofW (cc := cc) (maxL := nL) (ret := none) hpl rfl ?_
  intro p e s m args below meth c s₁ B hml hv
  obtain ⟨rfl, hsz, hP, hK, hD0, hE⟩ := hv
  subst hsz
  have hx := B.exec
  have hb := B.bytes
  have hr := B.returns
  have hts := atoms_spec (ws := mws (y, cc, nL, none)) B.pre
  have hown : s.vm.findClass y.cls = some m.cls := findClass_of_methodNamed B.named
  have hlocks := B.notSynchronized
  have hD := hD0.self (sz := s.heap.size)
  have hS : va_S (va_A (wld K M) s.heap.size) s.heap s.heap [] := va_S.rf
  have hl := lh.entry (n := nL) hc hlen
  rw [lg_entry_eq]
  refine body (p, e, rmD d, s, m, av.toArray, below, meth, c, 0, 0, MQ below (va_Qv Q (wB K (va_A (wld K M) s.heap.size)) (va_A (wld K M) s.heap.size)) av.toArray s 0 0 (va_A (wld K M) s.heap.size), va_A (wld K M) s.heap.size) ⟨hx, hb, hml, hown, fun w hw => hts w (List.mem_cons_of_mem _ hw), hK, fun a h => Or.inr h, hE, Nat.le_refl _, Nat.le_refl _, Nat.le_refl _, Nat.le_refl _, ?_, ?_⟩ _ _ _ hP hD hS (by rw [← hlv]; exact hl)
  · intro v N H locs pc ls hq
    exact hq.elim
  · intro N H locs pc ls hq hP hD hS hd
    exact W.vret hx hb hr (fun t ht hW => ⟨⟨N, rfl, hq, by rw [ht]; exact hP, va_K.moved hW.alike hK, hD⟩, hS.F ht⟩) hS.2.2 hd
