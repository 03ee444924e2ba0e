def ixv : Option Nat → Int32
  | none => -2000000005
  | some i => nI i
def ixm : Option Nat → Int32
  | none => -1
  | some i => nI i
def s_best (p : Nat → Bool) (fr : Nat → Int32) : Nat → Option Nat
  | 0 => none
  | n + 1 => bif p n && (match s_best p fr n with | none => true | some b => decide (fr b ≤ fr n)) then some n else s_best p fr n
theorem s_best_lt {p : Nat → Bool} {fr : Nat → Int32} : ∀ {n b : Nat}, s_best p fr n = some b → b < n
  | 0, b, h => by simp [s_best] at h
  | n + 1, b, h => by
    simp only [s_best] at h
    cases hc : (p n && (match s_best p fr n with | none => true | some b => decide (fr b ≤ fr n))) with
    | true => rw [hc] at h; simp at h; omega
    | false => rw [hc] at h; simp at h; have := s_best_lt h; omega
theorem s_best_p {p : Nat → Bool} {fr : Nat → Int32} : ∀ {n b : Nat}, s_best p fr n = some b → p b = true
  | 0, b, h => by simp [s_best] at h
  | n + 1, b, h => by
    simp only [s_best] at h
    cases hc : (p n && (match s_best p fr n with | none => true | some b => decide (fr b ≤ fr n))) with
    | true => rw [hc] at h; simp at h hc; subst h; exact hc.1
    | false => rw [hc] at h; simp at h; exact s_best_p h
theorem s_best_no {p : Nat → Bool} {fr : Nat → Int32} {n : Nat} (h : p n = false) : s_best p fr (n + 1) = s_best p fr n := by simp [s_best, h]
theorem s_best_new {p : Nat → Bool} {fr : Nat → Int32} {n : Nat} (h : p n = true) (h0 : s_best p fr n = none) : s_best p fr (n + 1) = some n := by simp [s_best, h, h0]
theorem s_best_up {p : Nat → Bool} {fr : Nat → Int32} {n b : Nat} (h : p n = true) (h0 : s_best p fr n = some b) (hb : fr b ≤ fr n) : s_best p fr (n + 1) = some n := by simp [s_best, h, h0, hb]
theorem s_best_old {p : Nat → Bool} {fr : Nat → Int32} {n b : Nat} (h0 : s_best p fr n = some b) (hb : ¬ fr b ≤ fr n) : s_best p fr (n + 1) = some b := by simp [s_best, h0, hb]
theorem s_best_cong {p q : Nat → Bool} {f g : Nat → Int32} : ∀ {n : Nat}, (∀ i, i < n → p i = q i) → (∀ i, i < n → f i = g i) → s_best p f n = s_best q g n
  | 0, _, _ => rfl
  | n + 1, h1, h2 => by
    have ih := s_best_cong (n := n) (fun i hi => h1 i (by omega)) (fun i hi => h2 i (by omega))
    simp only [s_best]
    rw [ih, h1 n (by omega)]
    cases hb : s_best q g n with
    | none => rfl
    | some b => simp only []; rw [h2 b (Nat.lt_succ_of_lt (s_best_lt hb)), h2 n (by omega)]
def s_sum (p : Nat → Bool) (f : Nat → Int32) : Nat → Int32
  | 0 => 0
  | n + 1 => bif p n then s_sum p f n + f n else s_sum p f n
theorem s_sum_t {p : Nat → Bool} {f : Nat → Int32} {n : Nat} (h : p n = true) : s_sum p f (n + 1) = s_sum p f n + f n := by simp [s_sum, h]
theorem s_sum_f {p : Nat → Bool} {f : Nat → Int32} {n : Nat} (h : p n = false) : s_sum p f (n + 1) = s_sum p f n := by simp [s_sum, h]
theorem s_sum_cong {p q : Nat → Bool} {f g : Nat → Int32} : ∀ {n : Nat}, (∀ i, i < n → p i = q i) → (∀ i, i < n → f i = g i) → s_sum p f n = s_sum q g n
  | 0, _, _ => rfl
  | n + 1, h1, h2 => by
    simp only [s_sum]
    rw [s_sum_cong (n := n) (fun i hi => h1 i (by omega)) (fun i hi => h2 i (by omega)), h1 n (by omega), h2 n (by omega)]
theorem n_le {a : Int32} {n j N : Nat} (e : a = nI n) (hn : n ≤ N) (hj : j ≤ N) (hN : N < 2 ^ 31) (h : a ≤ nI j) : n ≤ j := by
  subst e
  exact (nI_leI (Nat.lt_of_le_of_lt hn hN) (Nat.lt_of_le_of_lt hj hN)).mp h
theorem n_gt {a : Int32} {n j N : Nat} (e : a = nI n) (hn : n ≤ N) (hj : j ≤ N) (hN : N < 2 ^ 31) (h : ¬ a ≤ nI j) : j < n := by
  subst e
  rcases Nat.lt_or_ge j n with q | q
  · exact q
  · exact absurd ((nI_leI (Nat.lt_of_le_of_lt hn hN) (Nat.lt_of_le_of_lt hj hN)).mpr q) h
theorem nI_ne {j : Nat} (h : j < 2 ^ 31) : ¬ nI j = -2000000005 := fun e => by
  have := nI_pos' h
  rw [e] at this
  exact absurd this (by decide)
theorem ixv_none {o : Option Nat} (hb : ∀ b, o = some b → b < 2 ^ 31) : ixv o = -2000000005 ↔ o = none := by
  cases o with
  | none => simp [ixv]
  | some b => simp [ixv, nI_ne (hb b rfl)]
theorem ixm_neg {o : Option Nat} (hb : ∀ b, o = some b → b < 2 ^ 31) : ixm o < 0 ↔ o = none := by
  cases o with
  | none => simp [ixm]
  | some b => simp only [ixm]; constructor
              · intro h; exact absurd h (nI_pos (hb b rfl))
              · intro h; cases h
