section ST
variable {s : State} {b : Nat}
theorem st_g (hts : ∀ w ∈ lw_tbl, w.before #[Value.ref b] s = true) : ∀ w ∈ gtbl, w.before #[Value.ref b] s = true := fun w hw => hts w (gt_in hw)
set_option maxHeartbeats 4000000 in
set_option maxRecDepth 100000 in
theorem st_D (hts : ∀ w ∈ lw_tbl, w.before #[Value.ref b] s = true) : ∃ D : va_G, ∀ (c : Nat) (q : vw_C), vwCl[c]? = some q → u_Kn s q.1 q.2.1 q.2.2 (D.1 c) (D.2 c) := by
  have h : ∀ c : Nat, ∃ r : ClassId × (Nat → Nat), ∀ q : vw_C, vwCl[c]? = some q → u_Kn s q.1 q.2.1 q.2.2 r.1 r.2 := by
    intro c
    rcases (show c = 0 ∨ c = 1 ∨ c = 2 ∨ c = 3 ∨ c = 4 ∨ c = 5 ∨ c = 6 ∨ c = 7 ∨ c = 8 ∨ c = 9 ∨ c = 10 ∨ 11 ≤ c by omega) with rfl | rfl | rfl | rfl | rfl | rfl | rfl | rfl | rfl | rfl | rfl | h
    · obtain ⟨cC, iS, h⟩ := u_known (C := RX0) (T := TX0) (N := 4) (n := 4) (st_g hts) uw_X0 (hts _ (List.mem_of_getElem? (i := 255) (by decide +kernel)))
      exact ⟨(cC, iS), fun q hq => by cases hq; exact h⟩
    · obtain ⟨cC, iS, h⟩ := u_known (C := RX1) (T := TX1) (N := 5) (n := 5) (st_g hts) uw_X1 (hts _ (List.mem_of_getElem? (i := 231) (by decide +kernel)))
      exact ⟨(cC, iS), fun q hq => by cases hq; exact h⟩
    · obtain ⟨cC, iS, h⟩ := u_known (C := RX2) (T := TX2) (N := 6) (n := 6) (st_g hts) uw_X2 (hts _ (List.mem_of_getElem? (i := 73) (by decide +kernel)))
      exact ⟨(cC, iS), fun q hq => by cases hq; exact h⟩
    · obtain ⟨cC, iS, h⟩ := u_known (C := RX3) (T := TX3) (N := 8) (n := 8) (st_g hts) uw_X3 (hts _ (List.mem_of_getElem? (i := 148) (by decide +kernel)))
      exact ⟨(cC, iS), fun q hq => by cases hq; exact h⟩
    · obtain ⟨cC, iS, h⟩ := u_known (C := RX4) (T := TX4) (N := 2) (n := 2) (st_g hts) uw_X4 (hts _ (List.mem_of_getElem? (i := 141) (by decide +kernel)))
      exact ⟨(cC, iS), fun q hq => by cases hq; exact h⟩
    · obtain ⟨cC, iS, h⟩ := u_known (C := RX5) (T := TX5) (N := 2) (n := 2) (st_g hts) uw_X5 (hts _ (List.mem_of_getElem? (i := 196) (by decide +kernel)))
      exact ⟨(cC, iS), fun q hq => by cases hq; exact h⟩
    · obtain ⟨cC, iS, h⟩ := u_known (C := RX6) (T := TX6) (N := 4) (n := 4) (st_g hts) uw_X6 (hts _ (List.mem_of_getElem? (i := 122) (by decide +kernel)))
      exact ⟨(cC, iS), fun q hq => by cases hq; exact h⟩
    · obtain ⟨cC, iS, h⟩ := u_known (C := RX7) (T := TX7) (N := 2) (n := 2) (st_g hts) uw_X7 (hts _ (List.mem_of_getElem? (i := 203) (by decide +kernel)))
      exact ⟨(cC, iS), fun q hq => by cases hq; exact h⟩
    · obtain ⟨cC, iS, h⟩ := u_known (C := RX8) (T := TX8) (N := 2) (n := 2) (st_g hts) uw_X8 (hts _ (List.mem_of_getElem? (i := 105) (by decide +kernel)))
      exact ⟨(cC, iS), fun q hq => by cases hq; exact h⟩
    · obtain ⟨cC, iS, h⟩ := u_known (C := RX9) (T := TX9) (N := 10) (n := 10) (st_g hts) uw_X9 (hts _ (List.mem_of_getElem? (i := 65) (by decide +kernel)))
      exact ⟨(cC, iS), fun q hq => by cases hq; exact h⟩
    · obtain ⟨cC, iS, h⟩ := u_known (C := RX10) (T := TX10) (N := 36) (n := 36) (st_g hts) uw_X10 (hts _ (List.mem_of_getElem? (i := 737) (by decide +kernel)))
      exact ⟨(cC, iS), fun q hq => by cases hq; exact h⟩
    · exact ⟨(0, fun _ => 0), fun q hq => by rw [List.getElem?_eq_none (by simpa using h)] at hq; cases hq⟩
  obtain ⟨r, hr⟩ := Classical.axiomOfChoice h
  exact ⟨(fun c => (r c).1, fun c => (r c).2), fun c q hq => hr c q hq⟩
theorem st_A {ty : FieldType} (h0 : ∀ c, va_RA s c ty ↔ s.vm.findClass ("[" ++ ty.toString) = some c) (h : (Cond.arrayClass ty).before #[Value.ref b] s = true) : ∃ c : ClassId, ArrOfT s c ty ∧ va_RA s c ty := by
  obtain ⟨cA, kA, comp, h1, h2, h3⟩ := Cond.arrayClass_spec h
  exact ⟨cA, fun n z => ⟨fun k h => (by cases h), kA, h2, comp, h3⟩, (h0 cA).mpr h1⟩
theorem st_O {E : String} (h : (Cond.arrayOver (.object E)).before #[Value.ref b] s = true) : ∃ c : ClassId, ArrOfT s c (.object E) ∧ va_RA s c (.object E) := by
  obtain ⟨comp, cA, kA, h1, -, h3, h4, h5⟩ := Cond.arrayOver_spec h
  exact ⟨cA, fun n z => ⟨fun k h => (by cases h), kA, h3, comp, h4⟩, kA, comp, h3, h4, h1, h5⟩
def st_c (c0 c1 c2 c3 c4 : ClassId) : Nat → ClassId := fun t => if t = 0 then c0 else if t = 1 then c1 else if t = 2 then c2 else if t = 3 then c3 else c4
set_option maxHeartbeats 4000000 in
set_option maxRecDepth 100000 in
theorem st_C (hts : ∀ w ∈ lw_tbl, w.before #[Value.ref b] s = true) : ∃ kc : Nat → ClassId, ∀ (k : Nat) (q : ClassId × FieldType), ([(kc 0, .int), (kc 1, .byte), (kc 2, .boolean), (kc 3, .object "ChildPay$Law"), (kc 4, .object "ChildPay$Sheet")] : List (ClassId × FieldType))[k]? = some q → ArrOfT s q.1 q.2 ∧ va_RA s q.1 q.2 := by
  obtain ⟨c0, h0⟩ := st_A (s := s) (b := b) (ty := .int) (fun _ => Iff.rfl) (hts _ (List.mem_of_getElem? (i := 103) (by decide +kernel)))
  obtain ⟨c1, h1⟩ := st_A (s := s) (b := b) (ty := .byte) (fun _ => Iff.rfl) (hts _ (List.mem_of_getElem? (i := 120) (by decide +kernel)))
  obtain ⟨c2, h2⟩ := st_A (s := s) (b := b) (ty := .boolean) (fun _ => Iff.rfl) (hts _ (List.mem_of_getElem? (i := 308) (by decide +kernel)))
  obtain ⟨c3, h3⟩ := st_O (s := s) (b := b) (E := "ChildPay$Law") (hts _ (List.mem_of_getElem? (i := 147) (by decide +kernel)))
  obtain ⟨c4, h4⟩ := st_O (s := s) (b := b) (E := "ChildPay$Sheet") (hts _ (List.mem_of_getElem? (i := 202) (by decide +kernel)))
  refine ⟨st_c c0 c1 c2 c3 c4, fun k q hq => ?_⟩
  rcases (show k = 0 ∨ k = 1 ∨ k = 2 ∨ k = 3 ∨ k = 4 ∨ 5 ≤ k by omega) with rfl | rfl | rfl | rfl | rfl | h
  · cases hq; exact h0
  · cases hq; exact h1
  · cases hq; exact h2
  · cases hq; exact h3
  · cases hq; exact h4
  · rw [List.getElem?_eq_none (by simpa using h)] at hq; cases hq
theorem st_N (hts : ∀ w ∈ lw_tbl, w.before #[Value.ref b] s = true) : EN s := ⟨fun q hq => va_Nw.of rfl (hts _ ((by decide +kernel : ∀ q ∈ nestI, Cond.methodLinkNest q.1 q.2.1 q.2.2 RX9 ∈ lw_tbl) q hq)), va_AO.of (hts _ (List.mem_of_getElem? (i := 147) (by decide +kernel))), va_AO.of (hts _ (List.mem_of_getElem? (i := 202) (by decide +kernel)))⟩
def tmS : Nat → Term := fun i => .string RX6 (sidx.getD i (0, "")).1
theorem all6 {P : Nat → Prop} (h0 : P 0) (h1 : P 1) (h2 : P 2) (h3 : P 3) (h4 : P 4) (h5 : P 5) : ∀ j, j < 6 → P j := fun j hj => by
  rcases (show j = 0 ∨ j = 1 ∨ j = 2 ∨ j = 3 ∨ j = 4 ∨ j = 5 by omega) with rfl | rfl | rfl | rfl | rfl | rfl <;> assumption
set_option maxHeartbeats 4000000 in
theorem st_S (hgv : (Jvm.Cond.and given_1 narrow_1).before #[Value.ref b] s = true) {A : Nat → Prop} (hA : ∀ a : Nat, a < s.heap.size → ¬ A a) : ∃ adK adV : Nat → Nat, vk_S 6 slen sbyt adK adV A s s.heap ∧ ∀ i : Nat, i < 6 → (tmS i).eval #[Value.ref b] s none [] s = some (.ref (adK i)) := by
  have hs := flat_of_before _ hgv
  refine vk_Sof (tm := tmS) (fun i hi => ?_) ?_ ?_ ?_ ?_ (fun i hi j hj => ?_) (fun i j hi hj hij => ?_) hA
  · rcases (show i = 0 ∨ i = 1 ∨ i = 2 ∨ i = 3 ∨ i = 4 ∨ i = 5 by omega) with rfl | rfl | rfl | rfl | rfl | rfl <;> decide
  · exact all6 (hs _ (by decide +kernel)) (hs _ (by decide +kernel)) (hs _ (by decide +kernel)) (hs _ (by decide +kernel)) (hs _ (by decide +kernel)) (hs _ (by decide +kernel))
  · exact all6 (hs _ (by decide +kernel)) (hs _ (by decide +kernel)) (hs _ (by decide +kernel)) (hs _ (by decide +kernel)) (hs _ (by decide +kernel)) (hs _ (by decide +kernel))
  · exact all6 (hs _ (by decide +kernel)) (hs _ (by decide +kernel)) (hs _ (by decide +kernel)) (hs _ (by decide +kernel)) (hs _ (by decide +kernel)) (hs _ (by decide +kernel))
  · exact all6 (hs _ (by decide +kernel)) (hs _ (by decide +kernel)) (hs _ (by decide +kernel)) (hs _ (by decide +kernel)) (hs _ (by decide +kernel)) (hs _ (by decide +kernel))
  · have hj5 : j < 5 := by
      rcases (show i = 0 ∨ i = 1 ∨ i = 2 ∨ i = 3 ∨ i = 4 ∨ i = 5 by omega) with rfl | rfl | rfl | rfl | rfl | rfl <;> exact Nat.lt_of_lt_of_le hj (by decide)
    rcases (show i = 0 ∨ i = 1 ∨ i = 2 ∨ i = 3 ∨ i = 4 ∨ i = 5 by omega) with rfl | rfl | rfl | rfl | rfl | rfl <;> rcases (show j = 0 ∨ j = 1 ∨ j = 2 ∨ j = 3 ∨ j = 4 by omega) with rfl | rfl | rfl | rfl | rfl <;> first | exact hs _ (by decide +kernel) | exact absurd hj (by decide)
  · rcases (show i = 0 ∨ i = 1 ∨ i = 2 ∨ i = 3 ∨ i = 4 ∨ i = 5 by omega) with rfl | rfl | rfl | rfl | rfl | rfl <;> rcases (show j = 0 ∨ j = 1 ∨ j = 2 ∨ j = 3 ∨ j = 4 ∨ j = 5 by omega) with rfl | rfl | rfl | rfl | rfl | rfl <;> first | exact absurd rfl hij | exact Or.inl (hs _ (by decide +kernel)) | exact Or.inr (hs _ (by decide +kernel))
set_option maxHeartbeats 4000000 in
set_option maxRecDepth 100000 in
theorem st_E (hts : ∀ w ∈ lw_tbl, w.before #[Value.ref b] s = true) (hgv : (Jvm.Cond.and given_1 narrow_1).before #[Value.ref b] s = true) : ∃ (kS kV : Nat → Nat) (kH : Nat) (kF : Value), ∀ (l : Launch) (D : va_G) (kc : Nat → ClassId) (ka : Nat → Nat), EV (l, D, kc, ka, kS, kV, kH, kF) (fun a => s.heap.size ≤ a) s := by
  have hs := flat_of_before _ hgv
  have hA : ∀ a : Nat, a < s.heap.size → ¬ (fun a => s.heap.size ≤ a) a := fun a h => Nat.not_le.mpr h
  obtain ⟨adK, adV, hS, hSe⟩ := st_S hgv hA
  obtain ⟨kH, hH, hT⟩ := va_Tof (tm := .static RX9 "HUNDREDTHS_BY_CHILDREN" "[I") (ty := .int) (N := 5) (f := fun j => .int (htab.getD j 0)) (by decide) (hs _ (by decide +kernel)) (va_eqt (hs _ (by decide +kernel))) (fun j hj => by
    rcases (show j = 0 ∨ j = 1 ∨ j = 2 ∨ j = 3 ∨ j = 4 by omega) with rfl | rfl | rfl | rfl | rfl <;> exact va_eqt (hs _ (by decide +kernel))) hA
  have hF : ∃ v : Value, va_Z sioN "SIOOBE_FORMATTER" sioD v (fun a => s.heap.size ≤ a) s s.heap ∧ v.category = 1 := by
    rcases va_Zqof (C := sioN) (n := "SIOOBE_FORMATTER") (d := sioD) (hts _ (List.mem_of_getElem? (i := 492) (by decide +kernel))) (hts _ (List.mem_of_getElem? (i := 61) (by decide +kernel))) (hs _ (by decide +kernel)) hA with h | ⟨t, h⟩
    · exact ⟨_, h, rfl⟩
    · exact ⟨_, h, rfl⟩
  obtain ⟨kF, hF1, hF2⟩ := hF
  refine ⟨adK, adV, kH, kF, fun l D kc ka => ⟨fun q hq => va_Nw.of rfl (hts _ ((by decide +kernel : ∀ q ∈ nestM, Cond.methodLinkNest q.1 q.2.1 q.2.2 RX9 ∈ lw_tbl) q hq)), va_Nw.of rfl (hts _ (List.mem_of_getElem? (i := 564) (by decide +kernel))), va_Zof (hts _ (List.mem_of_getElem? (i := 565) (by decide +kernel))) (hts _ (List.mem_of_getElem? (i := 46) (by decide +kernel))) hH hA, hT, va_Zof (hts _ (List.mem_of_getElem? (i := 476) (by decide +kernel))) (hts _ (List.mem_of_getElem? (i := 59) (by decide +kernel))) (va_eqi (hs _ (by decide +kernel))) hA, hF1, hS, fun i q hi => ?_, hF2⟩⟩
  rcases (show i = 0 ∨ i = 1 ∨ i = 2 ∨ i = 3 ∨ i = 4 ∨ i = 5 ∨ 6 ≤ i by omega) with rfl | rfl | rfl | rfl | rfl | rfl | h
  · cases hi; exact vk_R.of (hts _ (List.mem_of_getElem? (i := 454) (by decide +kernel))) (hSe 0 (by decide))
  · cases hi; exact vk_R.of (hts _ (List.mem_of_getElem? (i := 527) (by decide +kernel))) (hSe 1 (by decide))
  · cases hi; exact vk_R.of (hts _ (List.mem_of_getElem? (i := 529) (by decide +kernel))) (hSe 2 (by decide))
  · cases hi; exact vk_R.of (hts _ (List.mem_of_getElem? (i := 534) (by decide +kernel))) (hSe 3 (by decide))
  · cases hi; exact vk_R.of (hts _ (List.mem_of_getElem? (i := 535) (by decide +kernel))) (hSe 4 (by decide))
  · cases hi; exact vk_R.of (hts _ (List.mem_of_getElem? (i := 536) (by decide +kernel))) (hSe 5 (by decide))
  · rw [List.getElem?_eq_none (show sidx.length ≤ i from h)] at hi; cases hi
end ST
