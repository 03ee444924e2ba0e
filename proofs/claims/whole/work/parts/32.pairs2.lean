theorem IV.of {N : Mem} {nc nl nb nt nw : Nat} (h1 : iX (N 0) (N 1) (N 10) (N 28) nc nl nb nw) (h2 : iM (N 36 1) (N 36 9) (N 36 18) (N 36 0) nc nl nb nw) (h3 : iT (N 7 1) (N 36 25) (N 8) (N 55) nt) (h4 : iC (N 2) (N 3) (N 4) (N 5) (N 6) (N 37) (N 38) (N 39) (N 40) (N 41) nc) (h5 : iS (N 27) (N 42)) (h6 : N 35 = N 43) (h7 : iL N nl) (h8 : iB (N 29) (N 30) (N 31) (N 52) (N 53) (N 54) (N 28 4) (N 36 22) nb) (h9 : iH N) (h10 : iR (N 0 8) (N 36 23)) : IV N nc nl nb nt nw := ⟨h1, h2, h3, h4, h5, h6, h7, h8, h9, h10⟩
theorem all8 {P : Nat → Prop} (h0 : P 0) (h1 : P 1) (h2 : P 2) (h3 : P 3) (h4 : P 4) (h5 : P 5) (h6 : P 6) (h7 : P 7) : ∀ j, j < 8 → P j := fun j hj => by
  rcases (show j = 0 ∨ j = 1 ∨ j = 2 ∨ j = 3 ∨ j = 4 ∨ j = 5 ∨ j = 6 ∨ j = 7 by omega) with rfl | rfl | rfl | rfl | rfl | rfl | rfl | rfl <;> assumption
theorem iL.keep {M N : Mem} {nl : Nat} (h : iL M nl) (hl : nl ≤ 8) (e : ∀ i, 12 ≤ i → i < 20 → N i = M i) (f : ∀ i, 44 ≤ i → i < 52 → N i = M i) : iL N nl := fun j hj => by
  have := h j hj
  rw [e (12 + j) (by omega) (by omega), f 44 (by omega) (by omega), f 45 (by omega) (by omega), f 46 (by omega) (by omega), f 47 (by omega) (by omega), f 48 (by omega) (by omega), f 49 (by omega) (by omega), f 50 (by omega) (by omega), f 51 (by omega) (by omega)]
  exact this
theorem iH.keep {M N : Mem} (h : iH M) (e : ∀ i, 23 ≤ i → i < 27 → N i = M i) (f : ∀ i, 56 ≤ i → i < 58 → N i = M i) : iH N := fun s hs => by
  have := h s hs
  rw [e (23 + s) (by omega) (by omega), e (25 + s) (by omega) (by omega), f 56 (by omega) (by omega), f 57 (by omega) (by omega)]
  exact this
theorem BK_n {m : Int32} (h : m = (-2000000005) ∨ 0 ≤ m ∧ m ≤ 7) : BK m (if m = (-2000000005) then -1 else m) ∧ (if m = (-2000000005) then -1 else m) ≤ 7 := by
  rcases h with rfl | h
  · exact ⟨Or.inl ⟨by decide, rfl⟩, by decide⟩
  · rw [if_neg (by grind)]
    exact ⟨Or.inr ⟨h.1, rfl⟩, h.2⟩
theorem nI_0l {n : Nat} (h : n < 2 ^ 31) : 0 ≤ nI n := nI_pos' h
section PM
variable {K : Kt} {M : Mem} {nc nl nb nt nw : Nat}
theorem q_school (h : IV M nc nl nb nt nw) {w n : Int32} : Pair K mX9_school mX10_school [.int w, .int n] M := by
  by_cases ok : (0 ≤ w ∧ w < 120) ∧ (n = (-2000000005) ∨ 0 ≤ n ∧ n ≤ 7)
  · refine Pair.rr (c_X9_school (d := 9) h.xs) (c_X10_school (d := 9) (nc := nc) (nl := nl) (nb := nb) (nw := nw) (by rw [if_pos ok]; exact h.ms)) ?_ ⟨nc, nl, nb, nt, nw, ?_⟩
    · rw [if_pos ok, if_pos ok, if_pos ok]
      obtain ⟨j, hj, rfl, tj⟩ := ix_12 ok.1
      rw [tj]
      exact (BK_o (h.2.2.2.2.1 j hj).1).symm
    · rw [if_pos ok, if_pos ok]
      obtain ⟨j, hj, rfl, tj⟩ := ix_12 ok.1
      rw [tj]
      refine IV.of h.1 h.2.1 h.2.2.1 h.2.2.2.1 (fun i hi => ?_) h.2.2.2.2.2.1 (h.2.2.2.2.2.2.1.keep h.1.2.2.2.1 (fun i h1 h2 => (wr_c (by omega)).trans (wr_c (by omega))) (fun i h1 h2 => (wr_c (by omega)).trans (wr_c (by omega)))) h.2.2.2.2.2.2.2.1 (h.2.2.2.2.2.2.2.2.1.keep (fun i h1 h2 => (wr_c (by omega)).trans (wr_c (by omega))) (fun i h1 h2 => (wr_c (by omega)).trans (wr_c (by omega)))) h.2.2.2.2.2.2.2.2.2
      show BK (va_up (M 27) j n i) (va_up (M 42) j _ i) ∧ va_up (M 42) j _ i ≤ 7
      by_cases e : i = j
      · subst e
        rw [va_up_self, va_up_self]
        exact BK_n ok.2
      · rw [va_up_ne _ _ e, va_up_ne _ _ e]
        exact h.2.2.2.2.1 i hi
  · have h1 := c_X9_school (K := K) (d := 9) (w := w) (n := n) h.xs
    have h2 := c_X10_school (K := K) (d := 9) (w := w) (n := n) h.ms
    rw [if_neg ok, if_neg ok] at h1 h2
    exact Pair.ro ⟨_, _, _, _, _, h⟩ h1 h2 rfl
theorem q_change (h : IV M nc nl nb nt nw) {a b c : Int32} : Pair K mX9_change mX10_change [.int a, .int b, .int c] M := by
  have h80 : nc ≤ 80 := h.1.2.1
  by_cases ok : (okb a b = true ∧ 0 ≤ c ∧ c < 120) ∧ nc ≠ 80
  · refine Pair.rr (c_X9_change (d := 9) h.xs) (c_X10_change (d := 9) (nc := nc) (nl := nl) (nb := nb) (nw := nw) (by rw [if_pos ok]; exact h.ms)) rfl ⟨nc + 1, nl, nb, nt, nw, ?_⟩
    rw [if_pos ok, if_pos ok]
    obtain ⟨x1, x2, x3⟩ := h.1
    obtain ⟨y1, y2, y3, y4⟩ := h.2.1
    obtain ⟨e2, e3, e4, e5, hC⟩ := h.2.2.2.1
    refine IV.of ⟨rfl, by omega, x3⟩ ⟨rfl, y2, y3, y4⟩ h.2.2.1 ?_ h.2.2.2.2.1 h.2.2.2.2.2.1 (h.2.2.2.2.2.2.1.keep h.1.2.2.2.1 (fun i h1 h2 => ?_) (fun i h1 h2 => ?_)) h.2.2.2.2.2.2.2.1 (h.2.2.2.2.2.2.2.2.1.keep (fun i h1 h2 => ?_) (fun i h1 h2 => ?_)) h.2.2.2.2.2.2.2.2.2
    · have ew : M 0 9 = M 36 0 := x3.2.2.2.2.1.trans y4.symm
      show iC (va_up (M 2) nc a) (va_up (M 3) nc b) (va_up (M 4) nc c) (va_up (M 5) nc (M 0 9)) (va_up (M 6) nc (-2000000005)) (va_up (M 37) nc a) (va_up (M 38) nc b) (va_up (M 39) nc c) (va_up (M 40) nc (M 36 0)) (va_up (M 41) nc (-1)) (nc + 1)
      refine ⟨by rw [e2], by rw [e3], by rw [e4], by rw [e5, ew], fun j hj => ?_⟩
      by_cases e : j = nc
      · subst e
        rw [va_up_self, va_up_self, va_up_self, va_up_self]
        exact ⟨ok.1.1, Or.inl ⟨by decide, rfl⟩⟩
      · rw [va_up_ne _ _ e, va_up_ne _ _ e, va_up_ne _ _ e, va_up_ne _ _ e]
        exact hC j (by omega)
    all_goals (simp only [addX, addM]; repeat (first | (rw [wr_c (by omega)]) | rfl))
  · have h1 := c_X9_change (K := K) (d := 9) (a := a) (b := b) (c := c) h.xs
    have h2 := c_X10_change (K := K) (d := 9) (a := a) (b := b) (c := c) h.ms
    rw [if_neg ok] at h1 h2
    exact Pair.ro ⟨_, _, _, _, _, h⟩ h1 h2 rfl
theorem q_takeBack (h : IV M nc nl nb nt nw) {a : Int32} : Pair K mX9_takeBack mX10_takeBack [.int a] M := by
  have h80 : nc ≤ 80 := h.1.2.1
  have hw : nw < 120 := h.1.2.2.2.2.2.2.2
  obtain ⟨e2, e3, e4, e5, hC⟩ := h.2.2.2.1
  by_cases ok1 : 0 ≤ a ∧ a < nI nc
  · obtain ⟨j, hj, rfl, tj⟩ := ix_ex (n := nc) (by omega) ok1
    have hB := BK_x (hC j hj).2
    have h1 := c_X9_takeBack (K := K) (d := 9) (a := nI j) h.xs
    rw [tj, if_pos ok1] at h1
    by_cases ok : M 41 j < 0
    · have h2 := c_X10_takeBack (K := K) (d := 9) (a := nI j) (M := wr M 6 j (M 0 9)) (nc := nc) (nl := nl) (nb := nb) (nw := nw) h.ms
      rw [tj, if_pos ok1] at h2
      rw [if_pos (hB.1.mpr ok), if_pos ⟨ok1, hB.1.mpr ok⟩] at h1
      refine Pair.rr h1 h2 (if_pos ok) ⟨nc, nl, nb, nt, nw, ?_⟩
      rw [if_pos ⟨ok1, ok⟩]
      refine IV.of h.1 h.2.1 h.2.2.1 ?_ h.2.2.2.2.1 h.2.2.2.2.2.1 (h.2.2.2.2.2.2.1.keep h.1.2.2.2.1 (fun i h1 h2 => (wr_c (by omega)).trans (wr_c (by omega))) (fun i h1 h2 => (wr_c (by omega)).trans (wr_c (by omega)))) h.2.2.2.2.2.2.2.1 (h.2.2.2.2.2.2.2.2.1.keep (fun i h1 h2 => (wr_c (by omega)).trans (wr_c (by omega))) (fun i h1 h2 => (wr_c (by omega)).trans (wr_c (by omega)))) h.2.2.2.2.2.2.2.2.2
      show iC (M 2) (M 3) (M 4) (M 5) (va_up (M 6) j (M 0 9)) (M 37) (M 38) (M 39) (M 40) (va_up (M 41) j (M 36 0)) nc
      refine ⟨e2, e3, e4, e5, fun i hi => ⟨(hC i hi).1, ?_⟩⟩
      by_cases e : i = j
      · subst e
        rw [va_up_self, va_up_self, h.1.2.2.2.2.2.2.1, h.2.1.2.2.2]
        exact Or.inr ⟨nI_0l (by omega), rfl⟩
      · rw [va_up_ne _ _ e, va_up_ne _ _ e]
        exact (hC i hi).2
    · have h2 := c_X10_takeBack (K := K) (d := 9) (a := nI j) h.ms
      rw [tj, if_pos ok1, if_neg ok, if_neg (fun z => ok z.2)] at h2
      rw [if_neg (fun z => ok (hB.1.mp z)), if_neg (fun z => ok (hB.1.mp z.2))] at h1
      exact Pair.ro ⟨_, _, _, _, _, h⟩ h1 h2 rfl
  · have h1 := c_X9_takeBack (K := K) (d := 9) (a := a) h.xs
    have h2 := c_X10_takeBack (K := K) (d := 9) (a := a) h.ms
    rw [if_neg ok1, if_neg (fun z => ok1 z.1)] at h1 h2
    exact Pair.ro ⟨_, _, _, _, _, h⟩ h1 h2 rfl
theorem q_line (h : IV M nc nl nb nt nw) {a b c : Int32} : Pair K mX9_line mX10_line [.int a, .int b, .int c] M := by
  have h100 : nb ≤ 100 := h.1.2.2.2.2.2.1
  by_cases ok : ((0 ≤ a ∧ a ≤ nI nw) ∧ (1 ≤ b ∧ b ≤ 1000000) ∧ 0 ≤ c ∧ c < 10) ∧ nb ≠ 100
  · refine Pair.rr (c_X9_line (d := 9) h.xs) (c_X10_line (d := 9) (nc := nc) (nl := nl) (nb := nb) (nw := nw) (by rw [if_pos ok]; exact h.ms)) rfl ⟨nc, nl, nb + 1, nt, nw, ?_⟩
    rw [if_pos ok, if_pos ok]
    obtain ⟨x1, x2, x3, x4, x5, x6, x7⟩ := h.1
    obtain ⟨y1, y2, y3, y4⟩ := h.2.1
    obtain ⟨b1, b2, b3, b4, hB⟩ := h.2.2.2.2.2.2.2.1
    refine IV.of ⟨x1, x2, x3, x4, rfl, by omega, x7⟩ ⟨y1, y2, rfl, y4⟩ h.2.2.1 h.2.2.2.1 h.2.2.2.2.1 h.2.2.2.2.2.1 (h.2.2.2.2.2.2.1.keep h.1.2.2.2.1 (fun i h1 h2 => ?_) (fun i h1 h2 => ?_)) ?_ (h.2.2.2.2.2.2.2.2.1.keep (fun i h1 h2 => ?_) (fun i h1 h2 => ?_)) h.2.2.2.2.2.2.2.2.2
    · simp only [linX, linM]; repeat (first | (rw [wr_c (by omega)]) | rfl)
    · simp only [linX, linM]; repeat (first | (rw [wr_c (by omega)]) | rfl)
    · show iB (va_up (M 29) nb a) (va_up (M 30) nb b) (va_up (M 31) nb c) (va_up (M 52) nb a) (va_up (M 53) nb b) (va_up (M 54) nb c) (M 28 4) (M 36 22) (nb + 1)
      refine ⟨by rw [b1], by rw [b2], by rw [b3], b4, fun j hj => ?_⟩
      by_cases e : j = nb
      · subst e
        rw [va_up_self]
        exact ok.1.2.1
      · rw [va_up_ne _ _ e]
        exact hB j (by omega)
    · simp only [linX, linM]; repeat (first | (rw [wr_c (by omega)]) | rfl)
    · simp only [linX, linM]; repeat (first | (rw [wr_c (by omega)]) | rfl)
  · have h1 := c_X9_line (K := K) (d := 9) (w := a) (c := b) (m := c) h.xs
    have h2 := c_X10_line (K := K) (d := 9) (w := a) (c := b) (m := c) h.ms
    rw [if_neg ok] at h1 h2
    exact Pair.ro ⟨_, _, _, _, _, h⟩ h1 h2 rfl
theorem q_marks (h : IV M nc nl nb nt nw) {a : Int32} : Pair K mX9_marks mX10_marks [.int a] M := by
  obtain ⟨b1, b2, b3, b4, hB⟩ := h.2.2.2.2.2.2.2.1
  by_cases ok : 0 ≤ a ∧ a < 1024
  · refine Pair.rr (c_X9_marks (d := 9) h.xs) (c_X10_marks (d := 9) (nc := nc) (nl := nl) (nb := nb) (nw := nw) (by rw [if_pos ok]; exact h.ms)) ?_ ⟨nc, nl, nb, nt, nw, ?_⟩
    · rw [if_pos ok, if_pos ok, if_pos ok]
      exact b4.symm
    · rw [if_pos ok, if_pos ok]
      exact IV.of h.1 h.2.1 h.2.2.1 h.2.2.2.1 h.2.2.2.2.1 h.2.2.2.2.2.1 (h.2.2.2.2.2.2.1.keep h.1.2.2.2.1 (fun i h1 h2 => (wr_c (by omega)).trans (wr_c (by omega))) (fun i h1 h2 => (wr_c (by omega)).trans (wr_c (by omega)))) ⟨b1, b2, b3, rfl, hB⟩ (h.2.2.2.2.2.2.2.2.1.keep (fun i h1 h2 => (wr_c (by omega)).trans (wr_c (by omega))) (fun i h1 h2 => (wr_c (by omega)).trans (wr_c (by omega)))) h.2.2.2.2.2.2.2.2.2
  · have h1 := c_X9_marks (K := K) (d := 9) (s := a) h.xs
    have h2 := c_X10_marks (K := K) (d := 9) (s := a) h.ms
    rw [if_neg ok, if_neg ok] at h1 h2
    exact Pair.ro ⟨_, _, _, _, _, h⟩ h1 h2 rfl
theorem q_forgive (h : IV M nc nl nb nt nw) {a b : Int32} : Pair K mX9_forgive mX10_forgive [.int a, .int b] M := by
  have e35 : M 35 = M 43 := h.2.2.2.2.2.1
  by_cases ok : (0 ≤ a ∧ a < 120) ∧ (b = 0 ∨ b = 1)
  · refine Pair.rr (c_X9_forgive (d := 9) h.xs) (c_X10_forgive (d := 9) (nc := nc) (nl := nl) (nb := nb) (nw := nw) (by rw [if_pos ok]; exact h.ms)) ?_ ⟨nc, nl, nb, nt, nw, ?_⟩
    · rw [if_pos ok, if_pos ok, if_pos ok, e35]
      rfl
    · rw [if_pos ok, if_pos ok]
      refine IV.of h.1 h.2.1 h.2.2.1 h.2.2.2.1 h.2.2.2.2.1 ?_ (h.2.2.2.2.2.2.1.keep h.1.2.2.2.1 (fun i h1 h2 => (wr_c (by omega)).trans (wr_c (by omega))) (fun i h1 h2 => (wr_c (by omega)).trans (wr_c (by omega)))) h.2.2.2.2.2.2.2.1 (h.2.2.2.2.2.2.2.2.1.keep (fun i h1 h2 => (wr_c (by omega)).trans (wr_c (by omega))) (fun i h1 h2 => (wr_c (by omega)).trans (wr_c (by omega)))) h.2.2.2.2.2.2.2.2.2
      show va_up (M 35) a.toNatClampNeg b = va_up (M 43) a.toNatClampNeg b
      rw [e35]
  · have h1 := c_X9_forgive (K := K) (d := 9) (w := a) (q := b) h.xs
    have h2 := c_X10_forgive (K := K) (d := 9) (w := a) (q := b) h.ms
    rw [if_neg ok, if_neg ok] at h1 h2
    exact Pair.ro ⟨_, _, _, _, _, h⟩ h1 h2 rfl
theorem q_rate (h : IV M nc nl nb nt nw) {a : Int32} : Pair K mX9_rate mX10_rate [.int a] M := by
  by_cases ok : 0 ≤ a ∧ a ≤ 500
  · refine Pair.rr (c_X9_rate (d := 9) h.xs) (c_X10_rate (d := 9) (nc := nc) (nl := nl) (nb := nb) (nw := nw) (by rw [if_pos ok]; exact h.ms)) ?_ ⟨nc, nl, nb, nt, nw, ?_⟩
    · rw [if_pos ok, if_pos ok, if_pos ok]
      exact h.2.2.2.2.2.2.2.2.2.1.symm
    · rw [if_pos ok, if_pos ok]
      exact IV.of h.1 h.2.1 h.2.2.1 h.2.2.2.1 h.2.2.2.2.1 h.2.2.2.2.2.1 (h.2.2.2.2.2.2.1.keep h.1.2.2.2.1 (fun i h1 h2 => (wr_c (by omega)).trans (wr_c (by omega))) (fun i h1 h2 => (wr_c (by omega)).trans (wr_c (by omega)))) h.2.2.2.2.2.2.2.1 (h.2.2.2.2.2.2.2.2.1.keep (fun i h1 h2 => (wr_c (by omega)).trans (wr_c (by omega))) (fun i h1 h2 => (wr_c (by omega)).trans (wr_c (by omega)))) ⟨rfl, ok⟩
  · have h1 := c_X9_rate (K := K) (d := 9) (v := a) h.xs
    have h2 := c_X10_rate (K := K) (d := 9) (v := a) h.ms
    rw [if_neg ok, if_neg ok] at h1 h2
    exact Pair.ro ⟨_, _, _, _, _, h⟩ h1 h2 rfl
theorem q_weeks (h : IV M nc nl nb nt nw) {a : Int32} : Pair K mX9_weeks mX10_weeks [.int a] M := by
  obtain ⟨x1, x2, x3, x4, x5, x6, x7, x8⟩ := h.1
  obtain ⟨y1, y2, y3, y4⟩ := h.2.1
  by_cases ok : (1 ≤ a ∧ a ≤ 60) ∧ nI nw + a < 120
  · obtain ⟨v, hv, rfl⟩ := n_ex (v := a) (b := 60) (c := 60) rfl (by decide) (by grind)
    have hn : nw + v < 120 := by
      have := ok.2
      rw [nI_add] at this
      exact (nI_ltI (a := nw + v) (b := 120) (by omega) (by decide)).mp this
    refine Pair.rr (c_X9_weeks (d := 9) h.xs) (c_X10_weeks (d := 9) (nc := nc) (nl := nl) (nb := nb) (nw := nw) (by rw [if_pos ok]; exact h.ms)) rfl ⟨nc, nl, nb, nt, nw + v, ?_⟩
    rw [if_pos ok, if_pos ok, nI_add]
    exact IV.of ⟨x1, x2, x3, x4, x5, x6, rfl, hn⟩ ⟨y1, y2, y3, rfl⟩ h.2.2.1 h.2.2.2.1 h.2.2.2.2.1 h.2.2.2.2.2.1 (h.2.2.2.2.2.2.1.keep h.1.2.2.2.1 (fun i h1 h2 => (wr_c (by omega)).trans (wr_c (by omega))) (fun i h1 h2 => (wr_c (by omega)).trans (wr_c (by omega)))) h.2.2.2.2.2.2.2.1 (h.2.2.2.2.2.2.2.2.1.keep (fun i h1 h2 => (wr_c (by omega)).trans (wr_c (by omega))) (fun i h1 h2 => (wr_c (by omega)).trans (wr_c (by omega)))) h.2.2.2.2.2.2.2.2.2
  · have h1 := c_X9_weeks (K := K) (d := 9) (n := a) h.xs
    have h2 := c_X10_weeks (K := K) (d := 9) (n := a) h.ms
    rw [if_neg ok, if_neg ok] at h1 h2
    exact Pair.ro ⟨_, _, _, _, _, h⟩ h1 h2 rfl
theorem q_trim (h : IV M nc nl nb nt nw) {a : Int32} : Pair K mX9_trim mX10_trim [.int a] M := by
  obtain ⟨t1, t2, t3, t4⟩ := h.2.2.1
  have h1 := c_X9_trim (K := K) (d := 9) (n := a) h.xs
  rw [t1] at h1
  by_cases ok : 0 ≤ a ∧ a ≤ nI nt
  · obtain ⟨v, hv, rfl, -⟩ := ix_le (by omega) ok
    rw [if_pos ok, if_pos ok] at h1
    have h2 := c_X10_trim (K := K) (d := 9) (n := nI v) (M := wr M 7 1 (nI v)) (nc := nc) (nl := nl) (nb := nb) (nw := nw) h.ms
    have t2' : wr M 7 1 (nI v) 36 25 = nI nt := t2
    rw [t2', if_pos ok, if_pos ok] at h2
    refine Pair.rr h1 h2 rfl ⟨nc, nl, nb, v, nw, ?_⟩
    exact IV.of h.1 h.2.1 ⟨rfl, rfl, by omega, fun j hj => t4 j (by omega)⟩ h.2.2.2.1 h.2.2.2.2.1 h.2.2.2.2.2.1 (h.2.2.2.2.2.2.1.keep h.1.2.2.2.1 (fun i h1 h2 => (wr_c (by omega)).trans (wr_c (by omega))) (fun i h1 h2 => (wr_c (by omega)).trans (wr_c (by omega)))) h.2.2.2.2.2.2.2.1 (h.2.2.2.2.2.2.2.2.1.keep (fun i h1 h2 => (wr_c (by omega)).trans (wr_c (by omega))) (fun i h1 h2 => (wr_c (by omega)).trans (wr_c (by omega)))) h.2.2.2.2.2.2.2.2.2
  · have h2 := c_X10_trim (K := K) (d := 9) (n := a) h.ms
    rw [t2, if_neg ok, if_neg ok] at h2
    rw [if_neg ok, if_neg ok] at h1
    exact Pair.ro ⟨_, _, _, _, _, h⟩ h1 h2 rfl
end PM
