def BK (x m : Int32) : Prop := (m < 0 ∧ x = -2000000005) ∨ (0 ≤ m ∧ x = m)
def BB (x m : Int32) : Prop := (m < 0 ∧ x = 1000000000) ∨ (0 ≤ m ∧ x = m)
def iT (s7 s25 : Int32) (c8 c55 : Nat → Int32) (nt : Nat) : Prop := s7 = nI nt ∧ s25 = nI nt ∧ nt ≤ 72 ∧ ∀ j, j < nt → 0 ≤ c55 j ∧ c55 j ≤ 255 ∧ c8 j = (c55 j).toInt8.toInt32
def iC (c2 c3 c4 c5 c6 c37 c38 c39 c40 c41 : Nat → Int32) (nc : Nat) : Prop := c2 = c37 ∧ c3 = c38 ∧ c4 = c39 ∧ c5 = c40 ∧ ∀ j, j < nc → okb (c37 j) (c38 j) = true ∧ BK (c6 j) (c41 j)
def iS (c27 c42 : Nat → Int32) : Prop := ∀ w, w < 120 → BK (c27 w) (c42 w) ∧ c42 w ≤ 7
def iLr (r c44 c45 c46 c47 c48 c49 c50 c51 : Nat → Int32) (j : Nat) : Prop := r 0 = c44 j ∧ r 1 = c45 j ∧ BB (r 2) (c46 j) ∧ r 3 = c47 j ∧ r 4 = c48 j ∧ r 5 = c49 j ∧ r 6 = c50 j ∧ BB (r 7) (c51 j) ∧ (0 ≤ c45 j ∧ c45 j ≤ 60) ∧ c46 j ≤ 100000 ∧ (0 ≤ c47 j ∧ c47 j ≤ 60) ∧ (0 ≤ c48 j ∧ c48 j ≤ 14) ∧ (0 ≤ c49 j ∧ c49 j ≤ 20) ∧ (0 ≤ c50 j ∧ c50 j ≤ 100000) ∧ c51 j ≤ 100000
def iL (M : Mem) (nl : Nat) : Prop := ∀ j, j < nl → iLr (M (12 + j)) (M 44) (M 45) (M 46) (M 47) (M 48) (M 49) (M 50) (M 51) j
def iB (c29 c30 c31 c52 c53 c54 : Nat → Int32) (p q : Int32) (nb : Nat) : Prop := c29 = c52 ∧ c30 = c53 ∧ c31 = c54 ∧ p = q ∧ ∀ j, j < nb → 1 ≤ c53 j ∧ c53 j ≤ 1000000
def iHs (sz : Int32) (pl : Nat → Int32) (c56 c57 : Nat → Int32) (s : Nat) : Prop := sz = c56 s ∧ (-1 ≤ c56 s ∧ c56 s ≤ 120) ∧ (∀ w, w < 120 → nI w < c56 s → pl w = c57 (120 * s + w)) ∧ ∀ w, w < 120 → fits .byte (.int (pl w)) = true
def iH (M : Mem) : Prop := ∀ s, s < 2 → iHs (M (23 + s) 1) (M (25 + s)) (M 56) (M 57) s
def iR (a b : Int32) : Prop := a = b ∧ 0 ≤ b ∧ b ≤ 500
def iX (c0 c1 c10 c28 : Nat → Int32) (nc nl nb nw : Nat) : Prop := c1 5 = nI nc ∧ nc ≤ 80 ∧ c10 1 = nI nl ∧ nl ≤ 8 ∧ c28 3 = nI nb ∧ nb ≤ 100 ∧ c0 9 = nI nw ∧ nw < 120
def iM (m1 m9 m18 m0 : Int32) (nc nl nb nw : Nat) : Prop := m1 = nI nc ∧ m9 = nI nl ∧ m18 = nI nb ∧ m0 = nI nw
/-- the two sides agree -/
def IV (M : Mem) (nc nl nb nt nw : Nat) : Prop := iX (M 0) (M 1) (M 10) (M 28) nc nl nb nw ∧ iM (M 36 1) (M 36 9) (M 36 18) (M 36 0) nc nl nb nw ∧ iT (M 7 1) (M 36 25) (M 8) (M 55) nt ∧ iC (M 2) (M 3) (M 4) (M 5) (M 6) (M 37) (M 38) (M 39) (M 40) (M 41) nc ∧ iS (M 27) (M 42) ∧ M 35 = M 43 ∧ iL M nl ∧ iB (M 29) (M 30) (M 31) (M 52) (M 53) (M 54) (M 28 4) (M 36 22) nb ∧ iH M ∧ iR (M 0 8) (M 36 23)
theorem okb_v {k v : Int32} (h : okb k v = true) (hk : k ≠ 2) : 0 ≤ v ∧ v ≤ 100000 := by
  simp only [okb] at h
  by_cases h0 : k = 0
  · simp [h0] at h; grind
  · by_cases h1 : k = 1 ∨ k = 3
    · simp [h0, hk, h1] at h; exact h
    · simp [h0, hk, h1] at h
theorem okb_5 {v : Int32} (h : okb 0 v = true) : 0 ≤ v ∧ v ≤ 5 := by
  simp [okb] at h
  exact h
theorem IV.xs {M : Mem} {nc nl nb nt nw : Nat} (h : IV M nc nl nb nt nw) : XS M nc nl nb nw := h.1
theorem IV.ms {M : Mem} {nc nl nb nt nw : Nat} (h : IV M nc nl nb nt nw) : MS M nc nl nb nw := by
  obtain ⟨⟨_, h2, _, h4, _, h6, _, h8⟩, ⟨m1, m2, m3, m4⟩, -, hC, -⟩ := h
  exact ⟨m1, h2, m2, h4, m3, h6, m4, h8, fun i hi hk => (okb_v (hC.2.2.2.2 i hi).1 hk).1⟩
-- numbers
theorem BK_x {x m : Int32} (h : BK x m) : (x = -2000000005 ↔ m < 0) ∧ (0 ≤ m → x = m) := by
  rcases h with ⟨h1, h2⟩ | ⟨h1, h2⟩
  · exact ⟨⟨fun _ => h1, fun _ => h2⟩, fun h => by grind⟩
  · exact ⟨⟨fun e => by grind, fun e => by grind⟩, fun _ => h2⟩
theorem BK_h {x m k : Int32} (h : BK x m) : (x = -2000000005 ∨ k < x) ↔ (m < 0 ∨ k < m) := by
  rcases h with ⟨h1, h2⟩ | ⟨h1, h2⟩
  · exact ⟨fun _ => Or.inl h1, fun _ => Or.inl h2⟩
  · rw [h2]
    constructor
    · rintro (e | e)
      · rw [e] at h1; exact absurd h1 (by decide)
      · exact Or.inr e
    · rintro (e | e)
      · exact absurd e (by grind)
      · exact Or.inr e
section EQ
variable {M : Mem} {nc nl nb nt nw : Nat}
theorem hold_eq (h : IV M nc nl nb nt nw) (k w : Int32) {j : Nat} (hj : j < nc) : xhold M k w j = mhold M k w j := by
  obtain ⟨-, -, -, ⟨-, -, e4, e5, hC⟩, -⟩ := h
  simp only [xhold, mhold, e4, e5]
  have := BK_h (k := k) (hC j hj).2
  simp only [this]
theorem best_eq (h : IV M nc nl nb nt nw) : xbest M nc = mbest M nc := by
  funext kd k w
  have e2 : M 2 = M 37 := h.2.2.2.1.1
  have e4 : M 4 = M 39 := h.2.2.2.1.2.2.1
  simp only [xbest, mbest, e2, e4]
  exact s_best_cong (fun i hi => by rw [hold_eq h k w hi]) (fun _ _ => rfl)
theorem kids_eq (h : IV M nc nl nb nt nw) : xkids M nc = mkids M nc := by
  funext k w
  have e2 : M 2 = M 37 := h.2.2.2.1.1
  have e3 : M 3 = M 38 := h.2.2.2.1.2.1
  simp only [xkids, mkids, e2, e3]
  exact s_sum_cong (fun i hi => by rw [hold_eq h k w hi]) (fun _ _ => rfl)
theorem lb_eq (h : IV M nc nl nb nt nw) (w : Int32) : xlb M nl w = mlb M nl w := by
  have hL : iL M nl := h.2.2.2.2.2.2.1
  simp only [xlb, mlb]
  exact s_best_cong (fun i hi => by rw [(hL i hi).1]) (fun i hi => (hL i hi).1)
theorem sch_eq (h : IV M nc nl nb nt nw) {w : Nat} (hw : w < 120) : xsch M w = msch M w := by
  have hS := (h.2.2.2.2.1 w hw).1
  have hb := BK_x hS
  simp only [xsch, msch]
  by_cases hm : M 42 w < 0
  · rw [if_pos hm, if_pos (hb.1.mpr hm)]
  · rw [if_neg hm, if_neg (fun z => hm (hb.1.mp z)), hb.2 (by grind)]
theorem told_eq (h : IV M nc nl nb nt nw) {s w : Nat} (hs : s < 2) (hw : w < 120) : xtold M s w = mtold M s w := by
  obtain ⟨h1, h2, h3, h4⟩ := h.2.2.2.2.2.2.2.2.1 s hs
  simp only [xtold, mtold, otold, h1]
  by_cases hl : nI w < M 56 s
  · rw [h3 w hw hl]
  · simp [hl]
theorem end_eq (h : IV M nc nl nb nt nw) {w : Nat} (hw : w < 120) (g : Bool) : xend M w g = mend M w g := by
  simp only [xend, mend, sch_eq h hw, told_eq h (show 0 < 2 by decide) hw, told_eq h (show 1 < 2 by decide) hw]
theorem mend_r (h : IV M nc nl nb nt nw) {w : Nat} (hw : w < 120) (g : Bool) : 0 ≤ mend M w g ∧ mend M w g ≤ 7 := by
  have h7 := (h.2.2.2.2.1 w hw).2
  have t0 : ∀ v, mtold M 0 w = some v → 0 ≤ v ∧ v ≤ 7 := fun v hv => otold_r hv
  have t1 : ∀ v, mtold M 1 w = some v → 0 ≤ v ∧ v ≤ 7 := fun v hv => otold_r hv
  simp only [mend, msch]
  by_cases hm : M 42 w < 0
  · rw [if_pos hm]
    cases e0 : mtold M 0 w with
    | none =>
      cases e1 : mtold M 1 w with
      | none => simp [s_end]
      | some y => simp only [s_end]; exact t1 y e1
    | some x =>
      cases e1 : mtold M 1 w with
      | none => simp only [s_end]; exact t0 x e0
      | some y =>
        have a := t0 x e0
        have b := t1 y e1
        cases g <;> simp only [s_end, cond_true, cond_false] <;> grind
  · rw [if_neg hm]
    simp only [s_end]
    grind
end EQ
