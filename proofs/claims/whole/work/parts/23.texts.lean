def isb (t : Nat → Int32) (i : Nat) : Bool := decide (t i = 32)
def skp (p : Nat → Bool) (n : Nat) : Nat → Nat → Nat
  | 0, i => i
  | k + 1, i => if i < n ∧ p i = true then skp p n k (i + 1) else i
def sk (p : Nat → Bool) (n i : Nat) : Nat := skp p n (n - i) i
theorem sk_t {p : Nat → Bool} {n i : Nat} (h : i < n) (hp : p i = true) : sk p n i = sk p n (i + 1) := by
  unfold sk
  rw [show n - i = (n - (i + 1)) + 1 by omega]
  simp only [skp]
  rw [if_pos ⟨h, hp⟩]
theorem sk_f {p : Nat → Bool} {n i : Nat} (h : ¬ (i < n ∧ p i = true)) : sk p n i = i := by
  unfold sk
  cases e : n - i with
  | zero => rfl
  | succ k => simp only [skp]; rw [if_neg h]
theorem skp_r {p : Nat → Bool} {n : Nat} : ∀ (k i : Nat), i ≤ n → k = n - i → i ≤ skp p n k i ∧ skp p n k i ≤ n
  | 0, i, h, _ => ⟨Nat.le_refl _, h⟩
  | k + 1, i, h, e => by
    simp only [skp]
    split
    next hc => have := skp_r (p := p) (n := n) k (i + 1) (by omega) (by omega); omega
    next => omega
theorem sk_r {p : Nat → Bool} {n i : Nat} (h : i ≤ n) : i ≤ sk p n i ∧ sk p n i ≤ n := skp_r _ _ h rfl
theorem skp_s {p : Nat → Bool} {n : Nat} : ∀ (k i : Nat), i ≤ n → k = n - i → ¬ (skp p n k i < n ∧ p (skp p n k i) = true)
  | 0, i, h, e => fun z => by simp only [skp] at z; omega
  | k + 1, i, h, e => by
    simp only [skp]
    split
    next hc => exact skp_s (p := p) (n := n) k (i + 1) (by omega) (by omega)
    next hc => exact hc
theorem sk_s {p : Nat → Bool} {n i : Nat} (h : i ≤ n) : ¬ (sk p n i < n ∧ p (sk p n i) = true) := skp_s _ _ h rfl
theorem skp_cong {p q : Nat → Bool} {n : Nat} (h : ∀ i, i < n → p i = q i) : ∀ k i, skp p n k i = skp q n k i
  | 0, i => rfl
  | k + 1, i => by
    simp only [skp]
    by_cases hi : i < n
    · rw [h i hi, skp_cong h k (i + 1)]
    · rw [if_neg (fun z => hi z.1), if_neg (fun z => hi z.1)]
abbrev RS : Type := Nat × Nat × Option Nat
def tk1 (t : Nat → Int32) (n p : Nat) : Nat := sk (isb t) n p
def tk2 (t : Nat → Int32) (n p : Nat) : Nat := sk (fun i => !isb t i) n (tk1 t n p)
def r_step (t : Nat → Int32) (n : Nat) (R : RS) : RS := (tk1 t n R.2.1, tk2 t n R.2.1, R.2.2)
def r_at (t : Nat → Int32) (n : Nat) (w : List Int32) (R : RS) : Bool := decide (R.2.1 ≤ n ∧ R.2.1 = R.1 + w.length ∧ ∀ i, i < w.length → t (R.1 + i) = w.getD i 0)
def r_skip (t : Nat → Int32) (n : Nat) (w : List Int32) (R : RS) : Bool := decide (R.2.2 = none) && r_at t n w R
def r_skS (t : Nat → Int32) (n : Nat) (w : List Int32) (R : RS) : RS := bif r_skip t n w R then r_step t n R else R
def r_fl (R : RS) : RS := (R.1, R.2.1, some R.1)
def r_need (t : Nat → Int32) (n : Nat) (w : List Int32) (R : RS) : RS := match R.2.2 with
  | none => bif r_at t n w R then r_step t n R else r_fl R
  | some _ => R
def dfold (t : Nat → Int32) : Nat → Nat → Nat → Option Nat
  | 0, _, a => some a
  | k + 1, i, a => if 48 ≤ t i ∧ t i ≤ 57 then dfold t k (i + 1) (10 * a + (t i - 48).toNatClampNeg) else none
def dnum (t : Nat → Int32) (n : Nat) (R : RS) : Option Nat := if R.1 < R.2.1 ∧ R.2.1 ≤ n then dfold t (R.2.1 - R.1) R.1 0 else none
def capv (c : Nat) : Option Nat → Int32
  | none => -1
  | some v => nI (min v c)
def r_val (t : Nat → Int32) (n : Nat) (lo hi : Int32) (R : RS) : Option Int32 := if lo ≤ capv 1000000 (dnum t n R) ∧ capv 1000000 (dnum t n R) ≤ hi then some (capv 1000000 (dnum t n R)) else none
def r_num (t : Nat → Int32) (n : Nat) (lo hi : Int32) (R : RS) : Int32 := match R.2.2 with
  | none => (r_val t n lo hi R).getD 0
  | some _ => 0
def r_nuS (t : Nat → Int32) (n : Nat) (lo hi : Int32) (R : RS) : RS := match R.2.2 with
  | none => match r_val t n lo hi R with
    | some _ => r_step t n R
    | none => r_fl R
  | some _ => R
def r_opt (t : Nat → Int32) (n : Nat) (w : List Int32) (lo hi df : Int32) (R : RS) : Int32 := bif r_skip t n w R then r_num t n lo hi (r_step t n R) else df
def r_opS (t : Nat → Int32) (n : Nat) (w : List Int32) (lo hi : Int32) (R : RS) : RS := bif r_skip t n w R then r_nuS t n lo hi (r_step t n R) else R
/-- a reader's place: within the tape, its fault too -/
def Rok (n : Nat) (R : RS) : Prop := R.1 ≤ R.2.1 ∧ R.2.1 ≤ n ∧ ∀ q, R.2.2 = some q → q ≤ n
theorem Rok.step {t : Nat → Int32} {n : Nat} {R : RS} (h : Rok n R) : Rok n (r_step t n R) := by
  have h1 := sk_r (p := isb t) h.2.1
  have h2 := sk_r (p := fun i => !isb t i) h1.2
  exact ⟨h2.1, h2.2, h.2.2⟩
theorem Rok.fl {n : Nat} {R : RS} (h : Rok n R) : Rok n (r_fl R) := ⟨h.1, h.2.1, fun q hq => by cases hq; exact Nat.le_trans h.1 h.2.1⟩
theorem Rok.skS {t : Nat → Int32} {n : Nat} {w : List Int32} {R : RS} (h : Rok n R) : Rok n (r_skS t n w R) := by
  unfold r_skS
  cases r_skip t n w R
  · exact h
  · exact h.step
theorem Rok.need {t : Nat → Int32} {n : Nat} {w : List Int32} {R : RS} (h : Rok n R) : Rok n (r_need t n w R) := by
  unfold r_need
  cases hf : R.2.2 with
  | some q => exact h
  | none =>
    simp only []
    cases r_at t n w R
    · exact h.fl
    · exact h.step
theorem Rok.nuS {t : Nat → Int32} {n : Nat} {lo hi : Int32} {R : RS} (h : Rok n R) : Rok n (r_nuS t n lo hi R) := by
  unfold r_nuS
  cases hf : R.2.2 with
  | some q => exact h
  | none =>
    simp only []
    cases r_val t n lo hi R
    · exact h.fl
    · exact h.step
theorem Rok.opS {t : Nat → Int32} {n : Nat} {w : List Int32} {lo hi : Int32} {R : RS} (h : Rok n R) : Rok n (r_opS t n w lo hi R) := by
  unfold r_opS
  cases r_skip t n w R
  · exact h
  · exact h.step.nuS
def RX (M : Mem) (R : RS) : Prop := M 9 1 = nI R.1 ∧ M 9 2 = nI R.2.1 ∧ M 9 3 = ixv R.2.2
def A9 (M N : Mem) : Prop := ∀ i, i ≠ 9 → N i = M i
set_option maxHeartbeats 4000000 in
set_option maxRecDepth 100000 in
theorem c_J0_coder_7d493 {K : Kt} {d : Nat} {M : Mem} {i : Nat} (hi : i < 6) : Ri K d mJ0_coder_7d493 [sf K i] M 0 M := by
  refine Ci.ofG RJ0 rfl (by decide) (fun v N h => by rw [h.1]; rfl) [(0, sf K i)] rfl (Nat.le_of_ble_eq_true rfl) (cat_all rfl) (fun x C => ?_)
  refine G_getC C jf_J0_38 dJ0_coder_7d493_0 ?_
  refine G_if_eq C 13 dJ0_coder_7d493_3 (by decide) (fun h3 => ?_) (fun h3 => ?_)
  · exact absurd h3 (by decide)
  · refine G_aload_s C dJ0_coder_7d493_6 rfl ?_
    refine G_getCo C hi jf_J0_15 dJ0_coder_7d493_7 ?_
    refine G_goto C 14 dJ0_coder_7d493_10 (by decide) ?_
    exact G_retR C dJ0_coder_7d493_14 rfl rfl
set_option maxHeartbeats 4000000 in
set_option maxRecDepth 100000 in
theorem c_J0_isLatin1_aae02 {K : Kt} {d : Nat} {M : Mem} {i : Nat} (hi : i < 6) : Ri K d mJ0_isLatin1_aae02 [sf K i] M 1 M := by
  refine Ri_bool RJ0 [(0, sf K i)] rfl (by decide) rfl (Nat.le_of_ble_eq_true rfl) rfl (Or.inr rfl) (fun x C => ?_)
  refine G_getC C jf_J0_38 dJ0_isLatin1_aae02_0 ?_
  refine G_if_eq C 17 dJ0_isLatin1_aae02_3 (by decide) (fun h3 => ?_) (fun h3 => ?_)
  · exact absurd h3 (by decide)
  · refine G_aload_s C dJ0_isLatin1_aae02_6 rfl ?_
    refine G_getCo C hi jf_J0_15 dJ0_isLatin1_aae02_7 ?_
    refine G_if_ne C 17 dJ0_isLatin1_aae02_10 (by decide) (fun h10 => ?_) (fun h10 => ?_)
    · exact absurd rfl h10
    · refine G_iconst C (1) dJ0_isLatin1_aae02_13 (by decide) ?_
      refine G_goto C 18 dJ0_isLatin1_aae02_14 (by decide) ?_
      exact G_retR C dJ0_isLatin1_aae02_18 rfl rfl
theorem len_0 : ∀ i, i < 6 → nI (slen.getD i 0) >>> ((0 : Int32) &&& 31) = nI (slen.getD i 0) := by decide
theorem ch_ok : ∀ i, i < 6 → ∀ j, j < 5 → (((sbyt.getD i []).getD j 0 &&& 255).toUInt32 % 65536).toInt32 = (sbyt.getD i []).getD j 0 ∧ narrow .char (.int ((sbyt.getD i []).getD j 0)) = .int ((sbyt.getD i []).getD j 0) := by decide
theorem len_5 : ∀ i, i < 6 → slen.getD i 0 ≤ 5 := by decide
theorem len_eq : ∀ i, i < 6 → (sbyt.getD i []).length = slen.getD i 0 := by decide
set_option maxHeartbeats 4000000 in
set_option maxRecDepth 100000 in
theorem c_J0_length_8abf5 {K : Kt} {d : Nat} {M : Mem} {i : Nat} (hi : i < 6) : Ri K (d + 1) mJ0_length_8abf5 [sf K i] M (nI (slen.getD i 0)) M := by
  refine Ri_int RJ0 [(0, sf K i)] rfl (by decide) rfl (Nat.le_of_ble_eq_true rfl) rfl (fun x C => ?_)
  refine G_aload_s C dJ0_length_8abf5_0 rfl ?_
  refine G_getVa C hi jf_J0_9 dJ0_length_8abf5_1 ?_
  refine G_alenS C hi dJ0_length_8abf5_4 ?_
  refine G_aload_s C dJ0_length_8abf5_5 rfl ?_
  refine G_cUr0 C ok_J0_coder_7d493 lk_J0_335 hi rfl (c_J0_coder_7d493 hi) (Nat.le_of_ble_eq_true rfl) dJ0_length_8abf5_6 ?_
  refine G_ishr C dJ0_length_8abf5_9 ?_
  exact G_retR C dJ0_length_8abf5_10 (len_0 i hi) rfl
set_option maxHeartbeats 4000000 in
set_option maxRecDepth 100000 in
theorem c_J3_checkIndex_8e157 {K : Kt} {d : Nat} {M : Mem} {j n : Nat} {v : Value} (hv : v.category = 1) (hj : j < n) (hn : n < 2 ^ 31) : Ri K d mJ3_checkIndex_8e157 [.int (nI j), .int (nI n), v] M (nI j) M := by
  refine Ci.ofG RJ3 rfl (by decide) (fun v N h => vp_nar_int v) [(0, .int (nI j)), (1, .int (nI n)), (2, v)] rfl (by simp [lg_sl, hv, show ∀ z : Int32, (Value.int z).category = 1 from fun _ => rfl]) (fun w hw => by simp at hw; rcases hw with rfl | rfl | rfl; rfl; rfl; exact hv) (fun x C => ?_)
  refine G_iload_n C dJ3_checkIndex_8e157_0 rfl ?_
  refine G_if_lt C 9 dJ3_checkIndex_8e157_1 (by decide) (fun h1 => ?_) (fun h1 => ?_)
  · exact absurd h1 (nI_pos (by omega))
  · refine G_iload_n C dJ3_checkIndex_8e157_4 rfl ?_
    refine G_iload_n C dJ3_checkIndex_8e157_5 rfl ?_
    refine G_icmp_lt C 16 dJ3_checkIndex_8e157_6 (by decide) (fun h6 => ?_) (fun h6 => ?_)
    · refine G_iload_n C dJ3_checkIndex_8e157_16 rfl ?_
      exact G_retR C dJ3_checkIndex_8e157_17 rfl rfl
    · exact absurd ((nI_ltI (by omega) hn).mpr hj) h6
set_option maxHeartbeats 4000000 in
set_option maxRecDepth 100000 in
theorem c_J0_checkIndex_df160 {K : Kt} {d : Nat} {M : Mem} {j n : Nat} (hv : (kF K).category = 1) (hj : j < n) (hn : n < 2 ^ 31) : Rv K (d + 1) mJ0_checkIndex_df160 [.int (nI j), .int (nI n)] M M := by
  refine Rv_of RJ0 [(0, .int (nI j)), (1, .int (nI n))] rfl (by decide) rfl (Nat.le_of_ble_eq_true rfl) rfl (fun x C => ?_)
  refine G_iload_n C dJ0_checkIndex_df160_0 rfl ?_
  refine G_iload_n C dJ0_checkIndex_df160_1 rfl ?_
  refine G_getF C jf_J0_1053 dJ0_checkIndex_df160_2 ?_
  refine G_cSr3 C ok_J3_checkIndex_8e157 lk_J0_1059 (c_J3_checkIndex_8e157 hv hj hn) (Nat.le_of_ble_eq_true rfl) dJ0_checkIndex_df160_5 ?_
  refine G_pop C dJ0_checkIndex_df160_8 rfl ?_
  exact G_vret C dJ0_checkIndex_df160_9 rfl
set_option maxHeartbeats 4000000 in
set_option maxRecDepth 100000 in
theorem c_J1_charAt_3b067 {K : Kt} {d : Nat} {M : Mem} {i j : Nat} (hv : (kF K).category = 1) (hi : i < 6) (hj : j < slen.getD i 0) : Ri K (d + 2) mJ1_charAt_3b067 [sv K i, .int (nI j)] M ((sbyt.getD i []).getD j 0) M := by
  have hl5 := len_5 i hi
  refine Ci.ofG RJ1 rfl (by decide) (fun v N h => by rw [h.1]; exact (ch_ok i hi j (by omega)).2) [(0, sv K i), (1, .int (nI j))] rfl (Nat.le_of_ble_eq_true rfl) (cat_all rfl) (fun x C => ?_)
  refine G_iload_n C dJ1_charAt_3b067_0 rfl ?_
  refine G_aload_v C dJ1_charAt_3b067_1 rfl ?_
  refine G_alenS C hi dJ1_charAt_3b067_2 ?_
  refine G_cSw2 C ok_J0_checkIndex_df160 lk_J1_9 (c_J0_checkIndex_df160 hv hj (by omega)) (Nat.le_of_ble_eq_true rfl) dJ1_charAt_3b067_3 ?_
  refine G_aload_v C dJ1_charAt_3b067_6 rfl ?_
  refine G_iload_n C dJ1_charAt_3b067_7 rfl ?_
  refine G_aldS C hi (vp_in_nI hj (by omega)) dJ1_charAt_3b067_8 ?_
  refine G_sipush C (255) dJ1_charAt_3b067_9 (by decide) ?_
  refine G_iand C dJ1_charAt_3b067_12 ?_
  refine G_i2c C dJ1_charAt_3b067_13 ?_
  exact G_retR C dJ1_charAt_3b067_14 (by rw [nI_clamp (by omega)]; exact (ch_ok i hi j (by omega)).1) rfl
set_option maxHeartbeats 4000000 in
set_option maxRecDepth 100000 in
theorem c_J0_charAt_5068e {K : Kt} {d : Nat} {M : Mem} {i j : Nat} (hv : (kF K).category = 1) (hi : i < 6) (hj : j < slen.getD i 0) : Ri K (d + 3) mJ0_charAt_5068e [sf K i, .int (nI j)] M ((sbyt.getD i []).getD j 0) M := by
  have hl5 := len_5 i hi
  refine Ci.ofG RJ0 rfl (by decide) (fun v N h => by rw [h.1]; exact (ch_ok i hi j (by omega)).2) [(0, sf K i), (1, .int (nI j))] rfl (Nat.le_of_ble_eq_true rfl) (cat_all rfl) (fun x C => ?_)
  refine G_aload_s C dJ0_charAt_5068e_0 rfl ?_
  refine G_cUr0 C ok_J0_isLatin1_aae02 lk_J0_492 hi rfl (c_J0_isLatin1_aae02 hi) (Nat.le_of_ble_eq_true rfl) dJ0_charAt_5068e_1 ?_
  refine G_if_eq C 16 dJ0_charAt_5068e_4 (by decide) (fun h4 => ?_) (fun h4 => ?_)
  · exact absurd h4 (by decide)
  · refine G_aload_s C dJ0_charAt_5068e_7 rfl ?_
    refine G_getVa C hi jf_J0_9 dJ0_charAt_5068e_8 ?_
    refine G_iload_n C dJ0_charAt_5068e_11 rfl ?_
    refine G_cSr2 C ok_J1_charAt_3b067 lk_J0_495 (c_J1_charAt_3b067 hv hi hj) (Nat.le_of_ble_eq_true rfl) dJ0_charAt_5068e_12 ?_
    exact G_retR C dJ0_charAt_5068e_15 rfl rfl
