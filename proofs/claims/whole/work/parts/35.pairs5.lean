def TC (t u : Nat → Int32) (n : Nat) : Prop := ∀ i, i < n → (t i = u i ∧ 0 ≤ u i) ∨ (128 ≤ u i ∧ t i < 0)
theorem byte_c : ∀ a : Fin 256, ((nI a.val).toInt8.toInt32 = nI a.val ∧ 0 ≤ nI a.val) ∨ (128 ≤ nI a.val ∧ (nI a.val).toInt8.toInt32 < 0) := by decide +kernel
theorem TC.of {t u : Nat → Int32} {n : Nat} (h : ∀ i, i < n → 0 ≤ u i ∧ u i ≤ 255 ∧ t i = (u i).toInt8.toInt32) : TC t u n := fun i hi => by
  obtain ⟨h1, h2, h3⟩ := h i hi
  obtain ⟨a, ha, e⟩ := n_ex (v := u i) (b := 255) (c := 255) rfl (by decide) ⟨h1, h2⟩
  have := byte_c ⟨a, by omega⟩
  rw [h3, e]
  exact this
theorem TC.c {t u : Nat → Int32} {n i : Nat} (h : TC t u n) (hi : i < n) {c : Int32} (h0 : 0 ≤ c) (h1 : c < 128) : t i = c ↔ u i = c := by
  have := h i hi
  grind
section TT
variable {t u : Nat → Int32} {n : Nat}
theorem e_isb (h : TC t u n) : ∀ i, i < n → isb t i = isb u i := fun i hi => by
  simp only [isb, h.c hi (c := 32) (by decide) (by decide)]
theorem e_tk1 (h : TC t u n) (p : Nat) : tk1 t n p = tk1 u n p := skp_cong (e_isb h) _ _
theorem e_tk2 (h : TC t u n) (p : Nat) : tk2 t n p = tk2 u n p := by
  simp only [tk2, e_tk1 h]
  exact skp_cong (fun i hi => by rw [e_isb h i hi]) _ _
theorem e_step (h : TC t u n) (R : RS) : r_step t n R = r_step u n R := by simp only [r_step, e_tk1 h, e_tk2 h]
def aw (w : List Int32) : Prop := ∀ i, i < w.length → 0 ≤ w.getD i 0 ∧ w.getD i 0 < 128
theorem e_at (h : TC t u n) {w : List Int32} (hw : aw w) (R : RS) : r_at t n w R = r_at u n w R := by
  simp only [r_at]
  refine decide_eq_decide.mpr ?_
  constructor
  · rintro ⟨h1, h2, h3⟩
    exact ⟨h1, h2, fun i hi => (h.c (by omega) (hw i hi).1 (hw i hi).2).mp (h3 i hi)⟩
  · rintro ⟨h1, h2, h3⟩
    exact ⟨h1, h2, fun i hi => (h.c (by omega) (hw i hi).1 (hw i hi).2).mpr (h3 i hi)⟩
theorem e_skip (h : TC t u n) {w : List Int32} (hw : aw w) (R : RS) : r_skip t n w R = r_skip u n w R := by simp only [r_skip, e_at h hw]
theorem e_skS (h : TC t u n) {w : List Int32} (hw : aw w) (R : RS) : r_skS t n w R = r_skS u n w R := by simp only [r_skS, e_skip h hw, e_step h]
theorem e_need (h : TC t u n) {w : List Int32} (hw : aw w) (R : RS) : r_need t n w R = r_need u n w R := by simp only [r_need, e_at h hw, e_step h]
theorem e_dfold (h : TC t u n) : ∀ (k i a : Nat), i + k ≤ n → dfold t k i a = dfold u k i a
  | 0, _, _, _ => rfl
  | k + 1, i, a, hk => by
    simp only [dfold]
    have hh := h i (by omega)
    by_cases hd : 48 ≤ u i ∧ u i ≤ 57
    · have e : t i = u i := by grind
      rw [e, if_pos hd, if_pos hd, e_dfold h k (i + 1) _ (by omega)]
    · rw [if_neg hd, if_neg (by grind)]
theorem e_dnum (h : TC t u n) (R : RS) : dnum t n R = dnum u n R := by
  simp only [dnum]
  by_cases hc : R.1 < R.2.1 ∧ R.2.1 ≤ n
  · rw [if_pos hc, if_pos hc]; exact e_dfold h _ _ _ (by omega)
  · rw [if_neg hc, if_neg hc]
theorem e_val (h : TC t u n) (lo hi : Int32) (R : RS) : r_val t n lo hi R = r_val u n lo hi R := by simp only [r_val, e_dnum h]
theorem e_num (h : TC t u n) (lo hi : Int32) (R : RS) : r_num t n lo hi R = r_num u n lo hi R := by simp only [r_num, e_val h]
theorem e_nuS (h : TC t u n) (lo hi : Int32) (R : RS) : r_nuS t n lo hi R = r_nuS u n lo hi R := by simp only [r_nuS, e_val h, e_step h]
theorem e_opt (h : TC t u n) {w : List Int32} (hw : aw w) (lo hi df : Int32) (R : RS) : r_opt t n w lo hi df R = r_opt u n w lo hi df R := by simp only [r_opt, e_skip h hw, e_num h, e_step h]
theorem e_opS (h : TC t u n) {w : List Int32} (hw : aw w) (lo hi : Int32) (R : RS) : r_opS t n w lo hi R = r_opS u n w lo hi R := by simp only [r_opS, e_skip h hw, e_nuS h, e_step h]
theorem aw_0 : aw (wd 0) := by
  intro i hi
  have : i < 5 := Nat.lt_of_lt_of_le hi (by decide)
  rcases (show i = 0 ∨ i = 1 ∨ i = 2 ∨ i = 3 ∨ i = 4 by omega) with rfl | rfl | rfl | rfl | rfl <;> decide
theorem aw_1 : aw (wd 1) := by
  intro i hi
  have : i < 5 := Nat.lt_of_lt_of_le hi (by decide)
  rcases (show i = 0 ∨ i = 1 ∨ i = 2 ∨ i = 3 ∨ i = 4 by omega) with rfl | rfl | rfl | rfl | rfl <;> decide
theorem aw_2 : aw (wd 2) := by
  intro i hi
  have : i < 5 := Nat.lt_of_lt_of_le hi (by decide)
  rcases (show i = 0 ∨ i = 1 ∨ i = 2 ∨ i = 3 ∨ i = 4 by omega) with rfl | rfl | rfl | rfl | rfl <;> decide
theorem aw_3 : aw (wd 3) := by
  intro i hi
  have : i < 5 := Nat.lt_of_lt_of_le hi (by decide)
  rcases (show i = 0 ∨ i = 1 ∨ i = 2 ∨ i = 3 ∨ i = 4 by omega) with rfl | rfl | rfl | rfl | rfl <;> decide
theorem aw_4 : aw (wd 4) := by
  intro i hi
  have : i < 5 := Nat.lt_of_lt_of_le hi (by decide)
  rcases (show i = 0 ∨ i = 1 ∨ i = 2 ∨ i = 3 ∨ i = 4 by omega) with rfl | rfl | rfl | rfl | rfl <;> decide
theorem aw_5 : aw (wd 5) := by
  intro i hi
  have : i < 5 := Nat.lt_of_lt_of_le hi (by decide)
  rcases (show i = 0 ∨ i = 1 ∨ i = 2 ∨ i = 3 ∨ i = 4 by omega) with rfl | rfl | rfl | rfl | rfl <;> decide
theorem fq_A0 (h : TC t u n) : q_A0 t n = q_A0 u n := by simp only [q_A0, e_step h]
theorem fq_A1 (h : TC t u n) : q_A1 t n = q_A1 u n := by simp only [q_A1, e_need h aw_0, fq_A0 h]
theorem fq_v1 (h : TC t u n) : q_v1 t n = q_v1 u n := by simp only [q_v1, e_num h, fq_A1 h]
theorem fq_A2 (h : TC t u n) : q_A2 t n = q_A2 u n := by simp only [q_A2, e_nuS h, fq_A1 h]
theorem fq_b (h : TC t u n) : q_b t n = q_b u n := by simp only [q_b, e_skip h aw_1, fq_A2 h]
theorem fq_A3 (h : TC t u n) : q_A3 t n = q_A3 u n := by simp only [q_A3, e_skS h aw_1, fq_A2 h]
theorem fq_A4 (h : TC t u n) : q_A4 t n = q_A4 u n := by simp only [q_A4, e_nuS h, fq_A3 h]
theorem fq_A5 (h : TC t u n) : q_A5 t n = q_A5 u n := by simp only [q_A5, e_need h aw_0, fq_A4 h]
theorem fq_v2 (h : TC t u n) : q_v2 t n = q_v2 u n := by simp only [q_v2, fq_b h, e_num h, fq_A3 h]
theorem fq_m2 (h : TC t u n) : q_m2 t n = q_m2 u n := by simp only [q_m2, fq_b h, e_num h, fq_A3 h]
theorem fq_v3 (h : TC t u n) : q_v3 t n = q_v3 u n := by simp only [q_v3, fq_b h, e_num h, fq_A5 h]
theorem fq_A6 (h : TC t u n) : q_A6 t n = q_A6 u n := by simp only [q_A6, fq_b h, e_nuS h, fq_A5 h, fq_A3 h]
theorem fq_v4 (h : TC t u n) : q_v4 t n = q_v4 u n := by simp only [q_v4, e_opt h aw_2, fq_A6 h]
theorem fq_A7 (h : TC t u n) : q_A7 t n = q_A7 u n := by simp only [q_A7, e_opS h aw_2, fq_A6 h]
theorem fq_v5 (h : TC t u n) : q_v5 t n = q_v5 u n := by simp only [q_v5, e_opt h aw_3, fq_A7 h]
theorem fq_A8 (h : TC t u n) : q_A8 t n = q_A8 u n := by simp only [q_A8, e_opS h aw_3, fq_A7 h]
theorem fq_v6 (h : TC t u n) : q_v6 t n = q_v6 u n := by simp only [q_v6, e_opt h aw_4, fq_A8 h]
theorem fq_A9 (h : TC t u n) : q_A9 t n = q_A9 u n := by simp only [q_A9, e_opS h aw_4, fq_A8 h]
theorem fq_lo (h : TC t u n) : q_lo t n = q_lo u n := by simp only [q_lo, fq_v6 h]
theorem fq_v7 (h : TC t u n) : q_v7 t n = q_v7 u n := by simp only [q_v7, e_opt h aw_5, fq_lo h, fq_A9 h]
theorem fq_m7 (h : TC t u n) : q_m7 t n = q_m7 u n := by simp only [q_m7, e_opt h aw_5, fq_lo h, fq_A9 h]
theorem fq_AZ (h : TC t u n) : q_AZ t n = q_AZ u n := by simp only [q_AZ, e_opS h aw_5, fq_lo h, fq_A9 h]
theorem fq_fin (h : TC t u n) : q_fin t n = q_fin u n := by simp only [q_fin, fq_AZ h]
theorem num_r {lo hi : Int32} (R : RS) (h0 : 0 ≤ lo) (h1 : 0 ≤ hi) : 0 ≤ r_num u n lo hi R ∧ r_num u n lo hi R ≤ hi := by
  simp only [r_num]
  cases R.2.2 with
  | some q => dsimp only; exact ⟨by decide, h1⟩
  | none =>
    simp only [r_val]
    by_cases hc : lo ≤ capv 1000000 (dnum u n R) ∧ capv 1000000 (dnum u n R) ≤ hi
    · rw [if_pos hc]
      simp only [Option.getD_some]
      grind
    · rw [if_neg hc]
      exact ⟨by decide, h1⟩
theorem opt_r {w : List Int32} {lo hi : Int32} (R : RS) (h0 : 0 ≤ lo) (h1 : 0 ≤ hi) : 0 ≤ r_opt u n w lo hi 0 R ∧ r_opt u n w lo hi 0 R ≤ hi := by
  simp only [r_opt]
  cases r_skip u n w R with
  | true => dsimp only [cond_true]; exact num_r _ h0 h1
  | false => dsimp only [cond_false]; exact ⟨by decide, h1⟩
theorem lo_r : 0 ≤ q_lo u n := by
  simp only [q_lo]
  by_cases h : 1 < q_v6 u n
  · rw [if_pos h]; grind
  · rw [if_neg h]; decide
theorem BB_2 : BB (q_v2 u n) (q_m2 u n) ∧ q_m2 u n ≤ 100000 := by
  simp only [q_v2, q_m2]
  cases q_b u n with
  | true => dsimp only [cond_true]; exact ⟨Or.inr ⟨(num_r _ (by decide) (by decide)).1, rfl⟩, (num_r _ (by decide) (by decide)).2⟩
  | false => dsimp only [cond_false]; exact ⟨Or.inl ⟨by decide, rfl⟩, by decide⟩
theorem BB_7 : BB (q_v7 u n) (q_m7 u n) ∧ q_m7 u n ≤ 100000 := by
  simp only [q_v7, q_m7, r_opt]
  cases r_skip u n (wd 5) (q_A9 u n) with
  | true => dsimp only [cond_true]; exact ⟨Or.inr ⟨(num_r _ lo_r (by decide)).1, rfl⟩, (num_r _ lo_r (by decide)).2⟩
  | false => dsimp only [cond_false]; exact ⟨Or.inl ⟨by decide, rfl⟩, by decide⟩
theorem v3_r : 0 ≤ q_v3 u n ∧ q_v3 u n ≤ 60 := by
  simp only [q_v3]
  cases q_b u n with
  | true => dsimp only [cond_true]; exact num_r _ (by decide) (by decide)
  | false => dsimp only [cond_false]; exact ⟨by decide, by decide⟩
/-- the new law's row on both sides -/
theorem row_r (h : TC t u n) {w : Int32} {v c44 c45 c46 c47 c48 c49 c50 c51 : Nat → Int32} {j : Nat} (h0 : c44 j = w) (h1 : c45 j = mrow u n 4 0) (h2 : c46 j = mrow u n 4 1) (h3 : c47 j = mrow u n 4 2) (h4 : c48 j = mrow u n 4 3) (h5 : c49 j = mrow u n 4 4) (h6 : c50 j = mrow u n 4 5) (h7 : c51 j = mrow u n 4 6) : iLr (va_up (q_row t n v) 0 w) c44 c45 c46 c47 c48 c49 c50 c51 j := by
  have k1 : c45 j = q_v1 u n := h1
  have k2 : c46 j = q_m2 u n := h2
  have k3 : c47 j = q_v3 u n := h3
  have k4 : c48 j = q_v4 u n := h4
  have k5 : c49 j = q_v5 u n := h5
  have k6 : c50 j = q_v6 u n := h6
  have k7 : c51 j = q_m7 u n := h7
  unfold iLr
  rw [h0, k1, k2, k3, k4, k5, k6, k7]
  have r : ∀ k, k ≠ 0 → va_up (q_row t n v) 0 w k = q_row t n v k := fun k hk => va_up_ne _ _ hk
  rw [va_up_self, r 1 (by decide), r 2 (by decide), r 3 (by decide), r 4 (by decide), r 5 (by decide), r 6 (by decide), r 7 (by decide)]
  refine ⟨rfl, fq_v1 h, ?_, fq_v3 h, fq_v4 h, fq_v5 h, fq_v6 h, ?_, num_r _ (by decide) (by decide), BB_2.2, v3_r, opt_r _ (by decide) (by decide), opt_r _ (by decide) (by decide), opt_r _ (by decide) (by decide), BB_7.2⟩
  · show BB (q_v2 t n) _
    rw [fq_v2 h]; exact BB_2.1
  · show BB (q_v7 t n) _
    rw [fq_v7 h]; exact BB_7.1
end TT
section PL2
variable {K : Kt} {M : Mem} {nc nl nb nt nw : Nat}
theorem IV.law {L : Mem} {nl' : Nat} (h : IV M nc nl nb nt nw) (e : ∀ i, i ≠ 7 → i ≠ 9 → i ≠ 10 → i ≠ 12 + nl → i ≠ 36 → i < 44 ∨ 51 < i → i ≠ 58 → L i = M i) (e36 : ∀ b, b ≠ 9 → b < 25 → L 36 b = M 36 b) (e7 : L 7 1 = 0) (e25 : L 36 25 = 0) (hl : nl' ≤ 8) (e10 : L 10 1 = nI nl') (e9 : L 36 9 = nI nl') (hL : iL L nl') : IV L nc nl' nb 0 nw := by
  have hl0 : nl ≤ 8 := h.1.2.2.2.1
  have E : ∀ i, (i < 7 ∨ i = 8 ∨ 22 < i ∧ i ≠ 36 ∧ (i < 44 ∨ 51 < i) ∧ i ≠ 58) → L i = M i := fun i hi => e i (by omega) (by omega) (by omega) (by omega) (by omega) (by omega) (by omega)
  obtain ⟨x1, x2, x3, x4, x5, x6, x7, x8⟩ := h.1
  obtain ⟨y1, y2, y3, y4⟩ := h.2.1
  refine IV.of ?_ ?_ ⟨e7, e25, by decide, fun j hj => by omega⟩ ?_ ?_ ?_ hL ?_ (h.2.2.2.2.2.2.2.2.1.keep (fun i h1 h2 => E i (by omega)) (fun i h1 h2 => E i (by omega))) ?_
  · rw [E 0 (by decide), E 1 (by decide), E 28 (by decide)]; exact ⟨x1, x2, e10, hl, x5, x6, x7, x8⟩
  · rw [e36 1 (by decide) (by decide), e36 18 (by decide) (by decide), e36 0 (by decide) (by decide)]; exact ⟨y1, e9, y3, y4⟩
  · rw [E 2 (by decide), E 3 (by decide), E 4 (by decide), E 5 (by decide), E 6 (by decide), E 37 (by decide), E 38 (by decide), E 39 (by decide), E 40 (by decide), E 41 (by decide)]; exact h.2.2.2.1
  · rw [E 27 (by decide), E 42 (by decide)]; exact h.2.2.2.2.1
  · rw [E 35 (by decide), E 43 (by decide)]; exact h.2.2.2.2.2.1
  · rw [E 29 (by decide), E 30 (by decide), E 31 (by decide), E 52 (by decide), E 53 (by decide), E 54 (by decide), E 28 (by decide), e36 22 (by decide) (by decide)]; exact h.2.2.2.2.2.2.2.1
  · rw [E 0 (by decide), e36 23 (by decide) (by decide)]; exact h.2.2.2.2.2.2.2.2.2
theorem q_law (hv : (kF K).category = 1) (h : IV M nc nl nb nt nw) {w : Int32} : Pair K mX9_law mX10_law [.int w] M := by
  obtain ⟨t1, t2, t3, t4⟩ := h.2.2.1
  have hT := TC.of t4
  have hl0 : nl ≤ 8 := h.1.2.2.2.1
  have hx10 : M 10 1 = nI nl := h.1.2.2.1
  have hm9 : M 36 9 = nI nl := h.2.1.2.1
  have hLL := h.2.2.2.2.2.2.1
  refine ⟨_, c_X9_law (d := 3) hv t1 t3 hx10 hl0, fun r N hq => ?_⟩
  obtain ⟨N', rfl, hq⟩ := hq
  have kk : ∀ i, i ≠ 9 → i ≠ 10 → i ≠ 12 + nl → N' i = M i := by
    rcases hq with ⟨-, -, rfl⟩ | ⟨-, a1, -⟩
    · exact fun _ _ _ _ => rfl
    · exact a1
  have E : ∀ i, i ≠ 7 → i ≠ 9 → i ≠ 10 → i ≠ 12 + nl → wr N' 7 1 0 i = M i := fun i h1 h2 h3 h4 => (wr_c h1).trans (kk i h2 h3 h4)
  have e36 := E 36 (by decide) (by decide) (by decide) (by omega)
  have e55 := E 55 (by decide) (by decide) (by decide) (by omega)
  refine (c_X10_law (d := 7) (n := nt) (nl := nl) (by rw [e36]; exact t2) t3 (by rw [e36]; exact hm9) hl0).mono (fun r' L hq' => ?_)
  obtain ⟨z1, z2, z3, z4⟩ := hq'
  rw [e55] at z4
  have e7 : L 7 1 = 0 := by rw [z1 7 (by decide) (by decide) (by decide) (by decide)]; exact wr_s
  have eo : ∀ i, i ≠ 7 → i ≠ 9 → i ≠ 10 → i ≠ 12 + nl → i ≠ 36 → i < 44 ∨ 51 < i → i ≠ 58 → L i = M i := fun i h1 h2 h3 h4 h5 h6 h7 => (z1 i h5 (by omega) (by omega) h7).trans (E i h1 h2 h3 h4)
  have eb : ∀ b, b ≠ 9 → b < 25 → L 36 b = M 36 b := fun b h1 h2 => (z2 b h1 (by omega) (by omega) (by omega) (by omega) (by omega)).trans (congrFun e36 b)
  have el : ∀ i, 12 ≤ i → i < 12 + nl → L i = M i := fun i h1 h2 => eo i (by omega) (by omega) (by omega) (by omega) (by omega) (by omega) (by omega)
  have l10 : L 10 = N' 10 := (z1 10 (by decide) (by decide) (by decide) (by decide)).trans (wr_c (by decide))
  -- nothing added
  have none_ : N' 10 = M 10 → (wr N' 7 1 0) 36 9 = L 36 9 → L 44 = (wr N' 7 1 0) 44 → (∀ c, 45 ≤ c → c ≤ 51 → L c = (wr N' 7 1 0) c) → IVe L := fun a1 a2 a3 a4 => by
    have f : ∀ i, 44 ≤ i → i ≤ 51 → L i = M i := fun i h1 h2 => by
      by_cases e : i = 44
      · subst e; rw [a3]; exact E 44 (by decide) (by decide) (by decide) (by omega)
      · rw [a4 i (by omega) h2]; exact E i (by omega) (by omega) (by omega) (by omega)
    refine ⟨nc, nl, nb, 0, nw, h.law eo eb e7 z3 hl0 (by rw [l10, a1]; exact hx10) (by rw [← a2, e36]; exact hm9) (fun j hj => ?_)⟩
    have := hLL j hj
    rw [el (12 + j) (by omega) (by omega), f 44 (by omega) (by omega), f 45 (by omega) (by omega), f 46 (by omega) (by omega), f 47 (by omega) (by omega), f 48 (by omega) (by omega), f 49 (by omega) (by omega), f 50 (by omega) (by omega), f 51 (by omega) (by omega)]
    exact this
  have hf := fq_fin hT
  rcases hq with ⟨k1, rfl, rfl⟩ | ⟨k1, -, hq⟩
  · rcases z4 with ⟨⟨-, rfl⟩ | ⟨m1, -⟩ | ⟨m1, -⟩, g1, g2, g3⟩ | ⟨m1, -⟩
    · exact ⟨rfl, none_ rfl g1.symm g2 g3⟩
    · exact absurd m1 k1
    · exact absurd m1 k1
    · exact absurd m1 k1
  · rw [hf] at hq
    rcases hq with ⟨q, f1, rfl, f2⟩ | ⟨f1, f2, rfl, f3⟩ | ⟨f1, f2, rfl, f3, f4⟩
    · rcases z4 with ⟨⟨m1, -⟩ | ⟨-, q', m1, rfl⟩ | ⟨-, m1, -⟩, g1, g2, g3⟩ | ⟨-, m1, -⟩
      · exact absurd k1 m1
      · rw [f1] at m1
        cases m1
        exact ⟨rfl, none_ f2 g1.symm g2 g3⟩
      · rw [f1] at m1; cases m1
      · rw [f1] at m1; cases m1
    · rcases z4 with ⟨⟨m1, -⟩ | ⟨-, q', m1, -⟩ | ⟨-, -, -, rfl⟩, g1, g2, g3⟩ | ⟨-, -, m1, -⟩
      · exact absurd k1 m1
      · rw [f1] at m1; cases m1
      · exact ⟨rfl, none_ f3 g1.symm g2 g3⟩
      · exact absurd f2 m1
    · rcases z4 with ⟨⟨m1, -⟩ | ⟨-, q', m1, -⟩ | ⟨-, -, m1, -⟩, -⟩ | ⟨-, -, -, rfl, g1, g2, g3⟩
      · exact absurd k1 m1
      · rw [f1] at m1; cases m1
      · exact absurd m1 f2
      · have g3' : ∀ k, k < 7 → L (45 + k) = va_up (M (45 + k)) nl (mrow (M 55) nt 4 k) := fun k hk => by
          rw [g3 k hk, E (45 + k) (by omega) (by omega) (by omega) (by omega)]
        have g2' : L 44 = va_up (M 44) nl w := by rw [g2, E 44 (by decide) (by decide) (by decide) (by omega)]
        refine ⟨rfl, nc, nl + 1, nb, 0, nw, h.law eo eb e7 z3 (by omega) (by rw [l10, f3]; exact va_up_self _ _ _) g1 (fun j hj => ?_)⟩
        have s0 : L 45 = _ := g3' 0 (by decide)
        have s1 : L 46 = _ := g3' 1 (by decide)
        have s2 : L 47 = _ := g3' 2 (by decide)
        have s3 : L 48 = _ := g3' 3 (by decide)
        have s4 : L 49 = _ := g3' 4 (by decide)
        have s5 : L 50 = _ := g3' 5 (by decide)
        have s6 : L 51 = _ := g3' 6 (by decide)
        by_cases ej : j = nl
        · subst ej
          have e12 : L (12 + j) = va_up (q_row (M 8) nt (M (12 + j))) 0 w := by
            rw [z1 (12 + j) (by omega) (by omega) (by omega) (by omega), wr_c (by omega)]; exact f4
          rw [e12]
          exact row_r hT (by rw [g2', va_up_self]) (by rw [s0, va_up_self]) (by rw [s1, va_up_self]) (by rw [s2, va_up_self]) (by rw [s3, va_up_self]) (by rw [s4, va_up_self]) (by rw [s5, va_up_self]) (by rw [s6, va_up_self])
        · have := hLL j (by omega)
          unfold iLr at this ⊢
          rw [el (12 + j) (by omega) (by omega), g2', s0, s1, s2, s3, s4, s5, s6, va_up_ne _ _ ej, va_up_ne _ _ ej, va_up_ne _ _ ej, va_up_ne _ _ ej, va_up_ne _ _ ej, va_up_ne _ _ ej, va_up_ne _ _ ej, va_up_ne _ _ ej]
          exact this
end PL2
