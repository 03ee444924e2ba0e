theorem run_z {pp mm z : Nat} (h : Run (nI pp) (nI mm) (nI z)) (hp : pp ≤ 120) (hm : mm ≤ 120) (hz : z ≤ 120) : pp + mm ≤ z := by
  have h3 := h.2.2
  rw [fa_le, Int32.toInt_sub, nI_toInt (by omega), nI_toInt (by omega), nI_toInt (by omega)] at h3
  simp only [Int.bmod] at h3
  omega
theorem nI_2 {a b : Nat} (ha : a < 2) (hb : b < 2) (h : nI a = nI b) : a = b := by
  rcases (show a = 0 ∨ a = 1 by omega) with rfl | rfl <;> rcases (show b = 0 ∨ b = 1 by omega) with rfl | rfl
  · rfl
  · exact absurd h (by decide)
  · exact absurd h (by decide)
  · rfl
section PH
variable {K : Kt} {M : Mem} {nc nl nb nt nw : Nat}
theorem IV.sheet {N : Mem} (h : IV M nc nl nb nt nw) (h1 : ∀ i, (i < 23 ∨ 26 < i) → i ≠ 56 → i ≠ 57 → i ≠ 61 → N i = M i) (h2 : iH N) : IV N nc nl nb nt nw := by
  have E : ∀ i, ((i < 23 ∨ 26 < i) ∧ i ≠ 56 ∧ i ≠ 57 ∧ i ≠ 61) → N i = M i := fun i hi => h1 i hi.1 hi.2.1 hi.2.2.1 hi.2.2.2
  refine IV.of ?_ ?_ ?_ ?_ ?_ ?_ (h.2.2.2.2.2.2.1.keep h.1.2.2.2.1 (fun i h1 h2 => E i (by omega)) (fun i h1 h2 => E i (by omega))) ?_ h2 ?_
  · rw [E 0 (by decide), E 1 (by decide), E 10 (by decide), E 28 (by decide)]; exact h.1
  · rw [E 36 (by decide)]; exact h.2.1
  · rw [E 7 (by decide), E 36 (by decide), E 8 (by decide), E 55 (by decide)]; exact h.2.2.1
  · rw [E 2 (by decide), E 3 (by decide), E 4 (by decide), E 5 (by decide), E 6 (by decide), E 37 (by decide), E 38 (by decide), E 39 (by decide), E 40 (by decide), E 41 (by decide)]; exact h.2.2.2.1
  · rw [E 27 (by decide), E 42 (by decide)]; exact h.2.2.2.2.1
  · rw [E 35 (by decide), E 43 (by decide)]; exact h.2.2.2.2.2.1
  · rw [E 29 (by decide), E 30 (by decide), E 31 (by decide), E 52 (by decide), E 53 (by decide), E 54 (by decide), E 28 (by decide), E 36 (by decide)]; exact h.2.2.2.2.2.2.2.1
  · rw [E 0 (by decide), E 36 (by decide)]; exact h.2.2.2.2.2.2.2.2.2
theorem IV.sz (h : IV M nc nl nb nt nw) : ∀ j, j < 2 → -1 ≤ M (23 + j) 1 ∧ M (23 + j) 1 ≤ 120 := fun j hj => by
  obtain ⟨h1, h2, -⟩ := h.2.2.2.2.2.2.2.2.1 j hj
  rw [h1]; exact h2
theorem IV.sm (h : IV M nc nl nb nt nw) : ∀ j, j < 2 → -1 ≤ M 56 j ∧ M 56 j ≤ 120 := fun j hj => (h.2.2.2.2.2.2.2.2.1 j hj).2.1
theorem q_sheet (h : IV M nc nl nb nt nw) {a n : Int32} : Pair K mX9_sheet mX10_sheet [.int a, .int n] M := by
  refine ⟨_, c_X9_sheet (d := 9), fun r N hq => (c_X10_sheet (d := 9)).mono (fun r' N' hq' => ?_)⟩
  have hH := h.2.2.2.2.2.2.2.2.1
  rcases hq with ⟨rfl, rfl, k1⟩ | ⟨rfl, rfl, k1, k2⟩ | ⟨rfl, k1, k2, j, hj, e, s1, s2, s3, s4⟩ <;> rcases hq' with ⟨rfl, rfl, m1⟩ | ⟨rfl, rfl, m1, m2⟩ | ⟨rfl, m1, m2, j', hj', e', t1, t2, t3, t4⟩
  · exact ⟨rfl, _, _, _, _, _, h⟩
  · exact absurd m1 k1
  · exact absurd m1 k1
  · exact absurd k1 m1
  · exact ⟨rfl, _, _, _, _, _, h⟩
  · exact absurd k2 (by grind)
  · exact absurd k1 m1
  · exact absurd m2 (by grind)
  · have : j = j' := nI_2 hj hj' (e.symm.trans e')
    subst this
    obtain ⟨z, hz, rfl⟩ := n_ex (v := r') (b := 120) (c := 120) rfl (by decide) ⟨k2, k1.2⟩
    rw [nI_clamp (by omega)] at t3 t4
    refine ⟨rfl, nc, nl, nb, nt, nw, h.sheet (fun i a1 a2 a3 a4 => (t1 i a2 a3).trans (s1 i (by omega) (by omega))) (fun s hs => ?_)⟩
    obtain ⟨g1, g2, g3, g4⟩ := hH s hs
    rw [t1 (23 + s) (by omega) (by omega), t1 (25 + s) (by omega) (by omega), t2]
    by_cases es : s = j
    · subst es
      unfold iHs
      rw [va_up_self]
      refine ⟨s3, ⟨by grind, k1.2⟩, fun w hw hl => ?_, fun w hw => ?_⟩
      · rw [s4 w hw, t3 w ((nI_ltI (by omega) (by omega)).mp hl)]
      · rw [s4 w hw]; decide
    · unfold iHs
      rw [va_up_ne _ _ es, s1 (23 + s) (by omega) (by omega), s1 (25 + s) (by omega) (by omega), s1 56 (by omega) (by omega)]
      refine ⟨g1, g2, fun w hw hl => ?_, g4⟩
      rw [t4 (120 * s + w) (by omega), s1 57 (by omega) (by omega)]
      exact g3 w hw hl
theorem q_mark (h : IV M nc nl nb nt nw) {a p v : Int32} : Pair K mX9_mark mX10_mark [.int a, .int p, .int v] M := by
  refine ⟨_, c_X9_mark (d := 9) h.sz, fun r N hq => ?_⟩
  have hH := h.2.2.2.2.2.2.2.2.1
  rcases hq with ⟨rfl, rfl, k1⟩ | ⟨j, hj, rfl, hq⟩
  · refine (c_X10_mark (d := 9) h.sm).mono (fun r' N' hq' => ?_)
    rcases hq' with ⟨rfl, rfl, m1⟩ | ⟨j, hj, rfl, -⟩
    · exact ⟨rfl, _, _, _, _, _, h⟩
    · exact absurd (ok_s hj) k1
  · obtain ⟨g1, g2, g3, g4⟩ := hH j hj
    rcases hq with ⟨rfl, rfl, k1⟩ | ⟨rfl, rfl, k1, k2⟩ | ⟨k1, k2, rfl, rfl⟩
    · refine (c_X10_mark (d := 9) h.sm).mono (fun r' N' hq' => ?_)
      rcases hq' with ⟨-, -, m1⟩ | ⟨j', hj', e, hq'⟩
      · exact absurd (ok_s hj) m1
      · have := nI_2 hj hj' e
        subst this
        rw [g1] at k1
        rcases hq' with ⟨rfl, rfl, -⟩ | ⟨-, -, m1, -⟩ | ⟨m1, m2, -⟩
        · exact ⟨rfl, _, _, _, _, _, h⟩
        · exact absurd k1 (by grind)
        · exact absurd k1 (by grind)
    · refine (c_X10_mark (d := 9) h.sm).mono (fun r' N' hq' => ?_)
      rcases hq' with ⟨-, -, m1⟩ | ⟨j', hj', e, hq'⟩
      · exact absurd (ok_s hj) m1
      · have := nI_2 hj hj' e
        subst this
        rw [g1] at k1 k2
        rcases hq' with ⟨-, -, m1⟩ | ⟨rfl, rfl, -⟩ | ⟨m1, m2, -⟩
        · exact absurd k1 (by grind)
        · exact ⟨rfl, _, _, _, _, _, h⟩
        · exact absurd ⟨m1, m2⟩ k2
    · rw [g1] at k2
      have e56 : wr M (25 + j) p.toNatClampNeg v.toInt8.toInt32 56 = M 56 := wr_c (by omega)
      have e57 : wr M (25 + j) p.toNatClampNeg v.toInt8.toInt32 57 = M 57 := wr_c (by omega)
      refine (c_X10_mark (d := 9) (by rw [e56]; exact h.sm)).mono (fun r' N' hq' => ?_)
      rcases hq' with ⟨-, -, m1⟩ | ⟨j', hj', e, hq'⟩
      · exact absurd (ok_s hj) m1
      · have := nI_2 hj hj' e
        subst this
        rw [e56, e57] at hq'
        rcases hq' with ⟨-, -, m1⟩ | ⟨-, -, -, m1⟩ | ⟨-, -, rfl, rfl⟩
        · exact absurd k2 (by grind)
        · exact absurd ⟨k1, k2⟩ m1
        · have k3 : p < 120 := by grind
          obtain ⟨w0, hw0, rfl, tw⟩ := ix_12 ⟨k1, k3⟩
          rw [tw]
          refine ⟨(g3 w0 hw0 k2).symm, nc, nl, nb, nt, nw, h.sheet (fun i a1 a2 a3 a4 => (wr_c a3).trans (wr_c (by omega))) (fun s hs => ?_)⟩
          obtain ⟨f1, f2, f3, f4⟩ := hH s hs
          unfold iHs
          rw [wr_c (a := 23 + s) (by omega), wr_c (a := 23 + s) (by omega), wr_c (a := 25 + s) (i := 57) (by omega), wr_c (a := 56) (by omega), wr_c (a := 56) (by omega), wr_r, wr_c (a := 57) (by omega)]
          by_cases es : s = j
          · subst es
            rw [wr_r]
            refine ⟨f1, f2, fun w hw hl => ?_, fun w hw => ?_⟩
            · by_cases ew : w = w0
              · subst ew; rw [va_up_self, va_up_self]
              · rw [va_up_ne _ _ ew, va_up_ne _ _ (by omega)]; exact f3 w hw hl
            · by_cases ew : w = w0
              · subst ew; rw [va_up_self]; exact pk_fb _
              · rw [va_up_ne _ _ ew]; exact f4 w hw
          · rw [wr_c (by omega)]
            refine ⟨f1, f2, fun w hw hl => ?_, f4⟩
            rw [va_up_ne _ _ (by omega)]
            exact f3 w hw hl
theorem q_lose (h : IV M nc nl nb nt nw) {a : Int32} : Pair K mX9_lose mX10_lose [.int a] M := by
  refine ⟨_, c_X9_lose (d := 9) h.sz, fun r N hq => (c_X10_lose (d := 9)).mono (fun r' N' hq' => ?_)⟩
  have hH := h.2.2.2.2.2.2.2.2.1
  rcases hq with ⟨rfl, rfl, k1⟩ | ⟨j, hj, rfl, hq⟩
  · rcases hq' with ⟨rfl, rfl, m1⟩ | ⟨j, hj, rfl, -⟩
    · exact ⟨rfl, _, _, _, _, _, h⟩
    · exact absurd (ok_s hj) k1
  · obtain ⟨g1, g2, g3, g4⟩ := hH j hj
    rcases hq' with ⟨-, -, m1⟩ | ⟨j', hj', e, hq'⟩
    · exact absurd (ok_s hj) m1
    · have := nI_2 hj hj' e
      subst this
      rcases hq with ⟨rfl, rfl, k1⟩ | ⟨k1, rfl, rfl⟩
      · rw [g1] at k1
        rcases hq' with ⟨rfl, rfl, -⟩ | ⟨m1, -, -⟩
        · exact ⟨rfl, _, _, _, _, _, h⟩
        · exact absurd k1 (by grind)
      · have e56 : wr M (23 + j) 1 (-1) 56 = M 56 := wr_c (by omega)
        rw [e56] at hq'
        rw [g1] at k1
        rcases hq' with ⟨-, -, m1⟩ | ⟨-, rfl, rfl⟩
        · exact absurd k1 (by grind)
        · refine ⟨g1.symm, nc, nl, nb, nt, nw, h.sheet (fun i a1 a2 a3 a4 => (wr_c a2).trans (wr_c (by omega))) (fun s hs => ?_)⟩
          obtain ⟨f1, f2, f3, f4⟩ := hH s hs
          unfold iHs
          rw [wr_c (a := 23 + s) (i := 56) (by omega), wr_c (a := 25 + s) (by omega), wr_c (a := 25 + s) (by omega), wr_c (a := 57) (by omega), wr_c (a := 57) (by omega), wr_r, e56]
          by_cases es : s = j
          · subst es
            rw [wr_s, va_up_self]
            refine ⟨rfl, by decide, fun w hw hl => ?_, f4⟩
            exact absurd hl (by have := nI_0l (n := w) (by omega); grind)
          · rw [wr_c (by omega), va_up_ne _ _ es]
            exact ⟨f1, f2, f3, f4⟩
theorem q_copy (h : IV M nc nl nb nt nw) {s p t q m : Int32} : Pair K mX9_copy mX10_copy [.int s, .int p, .int t, .int q, .int m] M := by
  have hH := h.2.2.2.2.2.2.2.2.1
  refine ⟨_, c_X9_copy (d := 9) h.sz (fun j hj => (hH j hj).2.2.2), fun r N hq => ?_⟩
  rcases hq with ⟨rfl, rfl, k1⟩ | ⟨a, b, ha, hb, rfl, rfl, hq⟩
  · refine (c_X10_copy (d := 9) h.sm).mono (fun r' N' hq' => ?_)
    rcases hq' with ⟨rfl, rfl, m1⟩ | ⟨a, b, ha, hb, rfl, rfl, -⟩
    · exact ⟨rfl, _, _, _, _, _, h⟩
    · exact absurd ⟨ok_s ha, ok_s hb⟩ k1
  · obtain ⟨g1, g2, g3, g4⟩ := hH a ha
    obtain ⟨y1, y2, y3, y4⟩ := hH b hb
    rw [g1, y1] at hq
    rcases hq with ⟨rfl, rfl, k1⟩ | ⟨rfl, rfl, k1, k2, k3⟩ | ⟨k1, k2, k3, k4, rfl, rfl⟩
    · refine (c_X10_copy (d := 9) h.sm).mono (fun r' N' hq' => ?_)
      rcases hq' with ⟨-, -, m1⟩ | ⟨a', b', ha', hb', e1, e2, hq'⟩
      · exact absurd ⟨ok_s ha, ok_s hb⟩ m1
      · have := nI_2 ha ha' e1
        subst this
        have := nI_2 hb hb' e2
        subst this
        rcases hq' with ⟨rfl, rfl, -⟩ | ⟨-, -, m1, m2, -⟩ | ⟨m1, m2, -⟩
        · exact ⟨rfl, _, _, _, _, _, h⟩
        · exact absurd k1 (by grind)
        · exact absurd k1 (by grind)
    · refine (c_X10_copy (d := 9) h.sm).mono (fun r' N' hq' => ?_)
      rcases hq' with ⟨-, -, m1⟩ | ⟨a', b', ha', hb', e1, e2, hq'⟩
      · exact absurd ⟨ok_s ha, ok_s hb⟩ m1
      · have := nI_2 ha ha' e1
        subst this
        have := nI_2 hb hb' e2
        subst this
        rcases hq' with ⟨-, -, m1⟩ | ⟨rfl, rfl, -⟩ | ⟨-, -, m1, m2, -⟩
        · exact absurd m1 (by grind)
        · exact ⟨rfl, _, _, _, _, _, h⟩
        · exact absurd ⟨m1, m2⟩ k3
    · have c56 : va_up M (25 + b) (va_cpy (M (25 + a)) (M (25 + b)) p.toNatClampNeg q.toNatClampNeg r.toNatClampNeg) 56 = M 56 := va_up_ne _ _ (by omega)
      have c57 : va_up M (25 + b) (va_cpy (M (25 + a)) (M (25 + b)) p.toNatClampNeg q.toNatClampNeg r.toNatClampNeg) 57 = M 57 := va_up_ne _ _ (by omega)
      refine (c_X10_copy (d := 9) (by rw [c56]; exact h.sm)).mono (fun r' N' hq' => ?_)
      rcases hq' with ⟨-, -, m1⟩ | ⟨a', b', ha', hb', e1, e2, hq'⟩
      · exact absurd ⟨ok_s ha, ok_s hb⟩ m1
      · have := nI_2 ha ha' e1
        subst this
        have := nI_2 hb hb' e2
        subst this
        rw [c56, c57] at hq'
        rcases hq' with ⟨-, -, m1⟩ | ⟨-, -, -, -, m1⟩ | ⟨-, -, -, -, rfl, z1, z2⟩
        · exact absurd m1 (by grind)
        · exact absurd ⟨k3, k4⟩ m1
        · obtain ⟨pp, mm, rfl, rfl, w1, tp, tm⟩ := run_ex k3 ⟨k1, g2.2⟩
          obtain ⟨qq, mm', rfl, e3, w2, tq, -⟩ := run_ex k4 ⟨k2, y2.2⟩
          obtain ⟨za, hza, eza⟩ := n_ex (v := M 56 a) (b := 120) (c := 120) rfl (by decide) ⟨k1, g2.2⟩
          obtain ⟨zb, hzb, ezb⟩ := n_ex (v := M 56 b) (b := 120) (c := 120) rfl (by decide) ⟨k2, y2.2⟩
          rw [eza] at k3
          rw [ezb] at k4
          have v1 := run_z k3 (by omega) (by omega) hza
          have hqq : qq ≤ 120 := by omega
          have v2 := run_z k4 hqq (by omega) hzb
          rw [tp, tq, tm] at z1 z2
          refine ⟨rfl, nc, nl, nb, nt, nw, h.sheet (fun i a1 a2 a3 a4 => (z1 i a3 a4).trans (va_up_ne _ _ (by omega))) (fun s hs => ?_)⟩
          obtain ⟨f1, f2, f3, f4⟩ := hH s hs
          unfold iHs
          rw [z1 (23 + s) (by omega) (by omega), z1 (25 + s) (by omega) (by omega), z1 56 (by omega) (by omega), va_up_ne (j := 23 + s) _ _ (by omega), va_up_ne (j := 56) _ _ (by omega)]
          by_cases es : s = b
          · subst es
            rw [va_up_self]
            refine ⟨f1, f2, fun w hw hl => ?_, fun w hw => ?_⟩
            · rw [z2]
              simp only [va_cpy]
              by_cases hr : qq ≤ w ∧ w < qq + mm
              · rw [if_pos hr, if_pos (by omega), g3 (pp + (w - qq)) (by omega) (by rw [eza]; exact (nI_ltI (by omega) (by omega)).mpr (by omega))]
                congr 1
                omega
              · rw [if_neg hr, if_neg (by omega)]
                exact f3 w hw hl
            · simp only [va_cpy]
              by_cases hr : qq ≤ w ∧ w < qq + mm
              · rw [if_pos hr]; exact g4 _ (by omega)
              · rw [if_neg hr]; exact f4 w hw
          · rw [va_up_ne (j := 25 + s) _ _ (by omega)]
            refine ⟨f1, f2, fun w hw hl => ?_, f4⟩
            rw [z2]
            simp only [va_cpy]
            rw [if_neg (by omega)]
            exact f3 w hw hl
end PH
