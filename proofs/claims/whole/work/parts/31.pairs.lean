def IVe (M : Mem) : Prop := ∃ nc nl nb nt nw, IV M nc nl nb nt nw
/-- the same question to both sides, one after the other: one answer, and the two sides agree again -/
def Pair (K : Kt) (q1 q2 : Mt) (av : List Value) (M : Mem) : Prop := ∃ Q : Int32 → Mem → Prop, Ci K 12 q1 (rf K 0 :: av) M Q ∧ ∀ r N, Q r N → Ci K 12 q2 (rf K 36 :: av) N (fun r' N' => r' = r ∧ IVe N')
theorem Pair.ro {K : Kt} {q1 q2 : Mt} {av : List Value} {M : Mem} {r r' : Int32} (hI : IVe M) (h1 : Ri K 12 q1 (rf K 0 :: av) M r M) (h2 : Ri K 12 q2 (rf K 36 :: av) M r' M) (e : r' = r) : Pair K q1 q2 av M :=
  ⟨_, h1, fun a N h => by
    obtain ⟨rfl, rfl⟩ := h
    exact h2.mono (fun b L g => ⟨g.1.trans e, by rw [g.2]; exact hI⟩)⟩
theorem Pair.rr {K : Kt} {q1 q2 : Mt} {av : List Value} {M N L : Mem} {r r' : Int32} (h1 : Ri K 12 q1 (rf K 0 :: av) M r N) (h2 : Ri K 12 q2 (rf K 36 :: av) N r' L) (e : r' = r) (hI : IVe L) : Pair K q1 q2 av M :=
  ⟨_, h1, fun a N h => by
    obtain ⟨rfl, rfl⟩ := h
    exact h2.mono (fun b L g => ⟨g.1.trans e, by rw [g.2]; exact hI⟩)⟩
theorem ite_q {P : Prop} [Decidable P] {a b c : Int32} (h : P → a = b) : (if P then a else c) = (if P then b else c) := by
  by_cases hp : P
  · rw [if_pos hp, if_pos hp]; exact h hp
  · rw [if_neg hp, if_neg hp]
theorem BK_o {x m : Int32} (h : BK x m) : x = if m < 0 then (-2000000005) else m := by
  rcases h with ⟨h1, h2⟩ | ⟨h1, h2⟩
  · rw [if_pos h1]; exact h2
  · rw [if_neg (by grind)]; exact h2
theorem IV.ag {M N : Mem} {nc nl nb nt nw : Nat} (h : IV M nc nl nb nt nw) (e : ∀ i, i ≠ 9 → i ≠ 32 → i ≠ 33 → i ≠ 34 → i ≠ 58 → i ≠ 59 → i ≠ 60 → i ≠ 61 → N i = M i) : IV N nc nl nb nt nw := by
  have E : ∀ i, (i ≠ 9 ∧ i ≠ 32 ∧ i ≠ 33 ∧ i ≠ 34 ∧ i < 58) → N i = M i := fun i hi => e i (by omega) (by omega) (by omega) (by omega) (by omega) (by omega) (by omega) (by omega)
  obtain ⟨h1, h2, h3, h4, h5, h6, h7, h8, h9, h10⟩ := h
  have hl : nl ≤ 8 := h1.2.2.2.1
  unfold IV
  rw [E 0 (by decide), E 1 (by decide), E 10 (by decide), E 28 (by decide), E 36 (by decide), E 7 (by decide), E 8 (by decide), E 55 (by decide), E 2 (by decide), E 3 (by decide), E 4 (by decide), E 5 (by decide), E 6 (by decide), E 37 (by decide), E 38 (by decide), E 39 (by decide), E 40 (by decide), E 41 (by decide), E 27 (by decide), E 42 (by decide), E 35 (by decide), E 43 (by decide), E 29 (by decide), E 30 (by decide), E 31 (by decide), E 52 (by decide), E 53 (by decide), E 54 (by decide)]
  refine ⟨h1, h2, h3, h4, h5, h6, fun j hj => ?_, h8, fun s hs => ?_, h10⟩
  · rw [E (12 + j) (by omega), E 44 (by decide), E 45 (by decide), E 46 (by decide), E 47 (by decide), E 48 (by decide), E 49 (by decide), E 50 (by decide), E 51 (by decide)]
    exact h7 j hj
  · rw [E (23 + s) (by omega), E (25 + s) (by omega), E 56 (by decide), E 57 (by decide)]
    exact h9 s hs
section PR
variable {K : Kt} {M : Mem} {nc nl nb nt nw : Nat}
theorem q_isOf (h : IV M nc nl nb nt nw) {a k : Int32} : Pair K mX9_isOf mX10_isOf [.int a, .int k] M := by
  refine Pair.ro ⟨_, _, _, _, _, h⟩ (c_X9_isOf (d := 9) h.xs) (c_X10_isOf (d := 9) h.ms) ?_
  have e2 : M 2 = M 37 := h.2.2.2.1.1
  rw [e2]
theorem q_told (h : IV M nc nl nb nt nw) {a k : Int32} : Pair K mX9_told mX10_told [.int a, .int k] M := by
  refine Pair.ro ⟨_, _, _, _, _, h⟩ (c_X9_told (d := 9) h.xs) (c_X10_told (d := 9) h.ms) ?_
  obtain ⟨e2, e3, e4, e5, hC⟩ := h.2.2.2.1
  rw [e2, e3, e4, e5]
  refine ite_q (fun hk => ?_)
  obtain ⟨j, hj, rfl, tj⟩ := ix_ex (n := nc) (by have := h.1.2.1; omega) hk
  rw [tj, BK_o (hC j hj).2]
theorem q_known (h : IV M nc nl nb nt nw) {a b c : Int32} : Pair K mX9_known mX10_known [.int a, .int b, .int c] M := by
  refine Pair.ro ⟨_, _, _, _, _, h⟩ (c_X9_known (d := 9) h.xs) (c_X10_known (d := 9) h.ms) ?_
  have e3 : M 3 = M 38 := h.2.2.2.1.2.1
  rw [best_eq h, kids_eq h, e3]
theorem q_nights (h : IV M nc nl nb nt nw) {a b : Int32} : Pair K mX9_nights mX10_nights [.int a, .int b] M := by
  refine Pair.ro ⟨_, _, _, _, _, h⟩ (c_X9_nights (d := 7) h.xs) (c_X10_nights (d := 7) h.ms) ?_
  refine ite_q (fun hk => ?_)
  obtain ⟨j, hj, rfl, tj⟩ := ix_12 hk
  simp only [tj, end_eq h hj]
theorem q_inForce (h : IV M nc nl nb nt nw) {a : Int32} : Pair K mX9_inForce mX10_inForce [.int a] M := by
  refine Pair.ro ⟨_, _, _, _, _, h⟩ (c_X9_inForce (d := 9) h.xs) (c_X10_inForce (d := 9) h.ms) ?_
  rw [lb_eq h]
theorem q_sum (h : IV M nc nl nb nt nw) {a b c : Int32} : Pair K mX9_sum mX10_sum [.int a, .int b, .int c] M := by
  refine Pair.ro ⟨_, _, _, _, _, h⟩ (c_X9_sum (d := 8) h.xs) (c_X10_sum (d := 8) h.ms) ?_
  exact ite_q (fun hk => (sum_eq h a c hk.2.1).1.symm)
theorem q_due (h : IV M nc nl nb nt nw) {a b c : Int32} : Pair K mX9_due mX10_due [.int a, .int b, .int c] M := by
  refine Pair.ro ⟨_, _, _, _, _, h⟩ (c_X9_due (d := 7) h.xs) (c_X10_due (d := 7) h.ms) ?_
  refine ite_q (fun hk => ?_)
  obtain ⟨j, hj, rfl, tj⟩ := ix_12 hk.1
  rw [tj]
  exact (due_eq h b c hj).1.symm
theorem q_edge (h : IV M nc nl nb nt nw) {a b : Int32} : Pair K mX9_edge mX10_edge [.int a, .int b] M := by
  refine Pair.ro ⟨_, _, _, _, _, h⟩ (c_X9_edge (d := 8) h.xs) (c_X10_edge (d := 8) h.ms) ?_
  refine ite_q (fun hk => ?_)
  rw [(sum_eq h a (nI nw) (n := b) (by grind)).1, (sum_eq h a (nI nw) (n := b + 1) (by grind)).1]
theorem q_paid (h : IV M nc nl nb nt nw) {a b : Int32} : Pair K mX9_paid mX10_paid [.int a, .int b] M := by
  refine Pair.ro ⟨_, _, _, _, _, h⟩ (c_X9_paid (d := 9) h.xs) (c_X10_paid (d := 9) h.ms) ?_
  obtain ⟨b1, b2, b3, b4, -⟩ := h.2.2.2.2.2.2.2.1
  rw [b1, b2, b3, b4]
theorem q_count (h : IV M nc nl nb nt nw) {a : Int32} : Pair K mX9_count mX10_count [.int a] M := by
  refine Pair.ro ⟨_, _, _, _, _, h⟩ (c_X9_count (d := 6) h.xs) (c_X10_count (d := 6) h.ms) ?_
  have e35 : M 35 = M 43 := h.2.2.2.2.2.1
  have hw : nw < 120 := h.1.2.2.2.2.2.2.2
  rw [e35, h.2.2.1.1, h.2.2.1.2.1]
  rw [s_cnt_cong (p := fun i => decide (M 41 i < 0)) (q := fun i => decide (M 6 i = -2000000005)) (fun i hi => by simp only [(BK_x (h.2.2.2.1.2.2.2.2 i hi).2).1])]
  rw [s_cnt_cong (p := fun w => decide (¬ mend M w false = mend M w true)) (q := fun w => decide (¬ xend M w false = xend M w true)) (fun i hi => by simp only [end_eq h (show i < 120 by omega)])]
-- the accounts
theorem Agx_eq {M N : Mem} (h : Agx M N) : N = va_up (va_up (va_up M 32 (N 32)) 33 (N 33)) 34 (N 34) := by
  funext i
  by_cases h1 : i = 34
  · subst h1; rfl
  · by_cases h2 : i = 33
    · subst h2; rfl
    · by_cases h3 : i = 32
      · subst h3; rfl
      · rw [va_up_ne _ _ h1, va_up_ne _ _ h2, va_up_ne _ _ h3]; exact h i h3 h2 h1
theorem Agx_mD {M N : Mem} (h : Agx M N) (nl nc : Nat) (s k : Int32) : mD N nl nc s k = mD M nl nc s k := by
  rw [Agx_eq h]; rfl
theorem Agx_mp {M N : Mem} (h : Agx M N) (w : Int32) (n : Nat) : mpays N w n = mpays M w n := by
  rw [Agx_eq h]; rfl
theorem Agx_ms {M N : Mem} (h : Agx M N) (hm : MS M nc nl nb nw) : MS N nc nl nb nw := by
  rw [Agx_eq h]; exact hm
theorem Pair.ac {q1 q2 : Mt} {av : List Value} {r : Int32} (h : IV M nc nl nb nt nw) (h1 : Ci K 12 q1 (rf K 0 :: av) M (fun v N => v = r ∧ Agx M N)) (h2 : ∀ N, Agx M N → ∃ r', Ci K 12 q2 (rf K 36 :: av) N (fun v L => v = r' ∧ Agm N L) ∧ r' = r) : Pair K q1 q2 av M :=
  ⟨_, h1, fun a N g => by
    obtain ⟨rfl, hA⟩ := g
    obtain ⟨r', h3, h4⟩ := h2 N hA
    exact h3.mono (fun b L z => ⟨z.1.trans h4, _, _, _, _, _, h.ag (fun i _ a2 a3 a4 _ a5 a6 _ => (z.2 i a5 a6).trans (hA i a2 a3 a4))⟩)⟩
theorem dd_eq (h : IV M nc nl nb nt nw) (s k : Int32) : ∀ i, i < 120 → xD M nl nc s k i = mD M nl nc s k i := fun i hi => (due_eq h s k hi).1
theorem pp_all (h : IV M nc nl nb nt nw) (s k w : Int32) {n : Nat} (hn : n ≤ 120) : (∀ i, i < n → s_lft (xD M nl nc s k) (xpays M w nb) i = mlf (mD M nl nc s k) (mpays M w nb) i) ∧ (∀ k', k' ≤ n → s_tot (s_lft (xD M nl nc s k) (xpays M w nb)) k' = s_cl (s_tot (mD M nl nc s k) k' - mpays M w nb)) ∧ ∀ k', k' ≤ n → s_rest (xD M nl nc s k) (xpays M w nb) k' = s_cl (mpays M w nb - s_tot (mD M nl nc s k) k') := by
  have hb : nb ≤ 100 := h.1.2.2.2.2.2.1
  obtain ⟨cc, hc, ec⟩ := pays_r h w nb (Nat.le_refl _)
  have hm : 1000000 * nb ≤ 1000000 * 100 := Nat.mul_le_mul_left _ hb
  obtain ⟨p1, p2, p3⟩ := pay_all (D := mD M nl nc s k) (c := mpays M w nb) (n := n) hn (fun i hi => (due_eq h s k (w := i) (by omega)).2) ec (by omega)
  have e := dd_eq h s k
  have e1 : ∀ i, i < n → s_lft (xD M nl nc s k) (mpays M w nb) i = s_lft (mD M nl nc s k) (mpays M w nb) i := fun i hi => s_lft_cong (fun q hq => e q (by omega))
  rw [pays_eq h]
  refine ⟨fun i hi => (e1 i hi).trans (p1 i hi), fun k' hk => ?_, fun k' hk => ?_⟩
  · rw [← p2 k' hk]; exact s_tot_cong (fun i hi => e1 i (by omega))
  · rw [← p3 k' hk]; exact s_rest_cong (fun i hi => e i (by omega))
theorem q_owed (h : IV M nc nl nb nt nw) {a b : Int32} : Pair K mX9_owed mX10_owed [.int a, .int b] M := by
  have hw : nw < 120 := h.1.2.2.2.2.2.2.2
  refine Pair.ac h (c_X9_owed (d := 5) h.xs) (fun N hA => ⟨_, c_X10_owed (d := 5) (Agx_ms hA h.ms), ?_⟩)
  rw [Agx_mD hA, Agx_mp hA]
  refine ite_q (fun hk => ?_)
  obtain ⟨j, hj, rfl, tj⟩ := ix_le (by omega) hk.2
  rw [tj, (pp_all h a (nI j) (nI j) (n := j + 1) (by omega)).2.1 (j + 1) (Nat.le_refl _)]
theorem q_over (h : IV M nc nl nb nt nw) {a b : Int32} : Pair K mX9_over mX10_over [.int a, .int b] M := by
  have hw : nw < 120 := h.1.2.2.2.2.2.2.2
  refine Pair.ac h (c_X9_over (d := 5) h.xs) (fun N hA => ⟨_, c_X10_over (d := 5) (Agx_ms hA h.ms), ?_⟩)
  rw [Agx_mD hA, Agx_mp hA]
  refine ite_q (fun hk => ?_)
  obtain ⟨j, hj, rfl, tj⟩ := ix_le (by omega) hk.2
  rw [tj, (pp_all h a (nI j) (nI j) (n := j + 1) (by omega)).2.2 (j + 1) (Nat.le_refl _)]
theorem q_oldest (h : IV M nc nl nb nt nw) {a b : Int32} : Pair K mX9_oldest mX10_oldest [.int a, .int b] M := by
  have hw : nw < 120 := h.1.2.2.2.2.2.2.2
  refine Pair.ac h (c_X9_oldest (d := 5) h.xs) (fun N hA => ⟨_, c_X10_oldest (d := 5) (Agx_ms hA h.ms), ?_⟩)
  rw [Agx_mD hA, Agx_mp hA]
  refine ite_q (fun hk => ?_)
  obtain ⟨j, hj, rfl, tj⟩ := ix_le (by omega) hk.2
  rw [tj]
  exact congrArg ixv (s_fst_cong (fun i hi => ((pp_all h a (nI j) (nI j) (n := j + 1) (by omega)).1 i (by omega)).symm))
theorem q_left (h : IV M nc nl nb nt nw) {a b c : Int32} : Pair K mX9_left mX10_left [.int a, .int b, .int c] M := by
  have hw : nw < 120 := h.1.2.2.2.2.2.2.2
  refine Pair.ac h (c_X9_left (d := 5) h.xs) (fun N hA => ⟨_, c_X10_left (d := 5) (Agx_ms hA h.ms), ?_⟩)
  rw [Agx_mD hA, Agx_mp hA]
  refine ite_q (fun hk => ?_)
  obtain ⟨j, hj, rfl, tj⟩ := ix_le (by omega) hk.2.1
  obtain ⟨i, hi, rfl, ti⟩ := ix_le (by omega) hk.2.2
  rw [ti]
  exact ((pp_all h b (nI j) (nI j) (n := j + 1) (by omega)).1 i (by omega)).symm
theorem q_payer (h : IV M nc nl nb nt nw) {a b : Int32} : Pair K mX9_payer mX10_payer [.int a, .int b] M := by
  have hw : nw < 120 := h.1.2.2.2.2.2.2.2
  refine Pair.ac h (c_X9_payer (d := 5) h.xs) (fun N hA => ⟨_, c_X10_payer (d := 5) (Agx_ms hA h.ms), ?_⟩)
  rw [Agx_mD hA, hA 52 (by decide) (by decide) (by decide), hA 53 (by decide) (by decide) (by decide), hA 54 (by decide) (by decide) (by decide), hA 36 (by decide) (by decide) (by decide)]
  refine ite_q (fun hk => ?_)
  obtain ⟨j, hj, rfl, tj⟩ := ix_le (by omega) hk.1
  obtain ⟨b1, b2, b3, b4, -⟩ := h.2.2.2.2.2.2.2.1
  rw [tj, dd_eq h b (nI nw) j (by omega), s_tot_cong (f := xD M nl nc b (nI nw)) (g := mD M nl nc b (nI nw)) (fun i hi => dd_eq h b (nI nw) i (by omega)), b1, b2, b3, b4]
theorem q_interest (h : IV M nc nl nb nt nw) {a b : Int32} : Pair K mX9_interest mX10_interest [.int a, .int b] M := by
  have hw : nw < 120 := h.1.2.2.2.2.2.2.2
  refine Pair.ac h (c_X9_interest (d := 5) h.xs) (fun N hA => ⟨_, c_X10_interest (d := 5) (Agx_ms hA h.ms), ?_⟩)
  rw [Agx_mD hA, hA 36 (by decide) (by decide) (by decide)]
  refine ite_q (fun hk => ?_)
  obtain ⟨j, hj, rfl, tj⟩ := ix_le (by omega) hk.2
  rw [tj, h.2.2.2.2.2.2.2.2.2.1]
  refine s_tot_cong (fun i hi => ?_)
  show s_tot _ _ = s_tot _ _
  refine s_tot_cong (fun q hq => ?_)
  rw [Agx_mp hA]
  exact congrArg _ ((pp_all h a (nI j) (nI (4 + i)) (n := j + 1) (by omega)).1 q (by omega)).symm
end PR
