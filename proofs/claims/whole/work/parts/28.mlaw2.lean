theorem wr_q {M : Mem} {i j a b : Nat} {v : Int32} (h : b ≠ j) : wr M i j v a b = M a b := by
  by_cases e : a = i
  · subst e; exact wr_f h
  · rw [wr_c e]
def Kp (M : Mem) (j : Nat) (N : Mem) : Prop := (∀ i, i ≠ 58 → N i = M i) ∧ ∀ k, k < 7 → N 58 k = M (45 + k) j
def Pb (M : Mem) (j : Nat) (N : Mem) : Prop := (∀ i, ¬ (45 ≤ i ∧ i ≤ 51) → N i = M i) ∧ (∀ c q, q ≠ j → N c q = M c q) ∧ ∀ k, k < 7 → N (45 + k) j = M 58 k
theorem ev7 {P : Nat → Prop} (h0 : P 0) (h1 : P 1) (h2 : P 2) (h3 : P 3) (h4 : P 4) (h5 : P 5) (h6 : P 6) : ∀ k, k < 7 → P k := fun k hk => by
  rcases (show k = 0 ∨ k = 1 ∨ k = 2 ∨ k = 3 ∨ k = 4 ∨ k = 5 ∨ k = 6 by omega) with rfl | rfl | rfl | rfl | rfl | rfl | rfl
  · exact h0
  · exact h1
  · exact h2
  · exact h3
  · exact h4
  · exact h5
  · exact h6
set_option maxHeartbeats 4000000 in
set_option maxRecDepth 100000 in
theorem e_X10_keepAside {K : Kt} {d : Nat} {M : Mem} {j : Nat} (hj : j < 8) : Cv K d mX10_keepAside [rf K 36, .int (nI j)] M (Kp M j) := by
  refine Cv_of RX10 [(0, rf K 36), (1, .int (nI j))] rfl (by decide) rfl (Nat.le_of_ble_eq_true rfl) rfl (fun x C => ?_)
  refine G_aload_r C dX10_keepAside_0 rfl ?_
  refine G_getR C fo_X10_78 rfl rfl dX10_keepAside_1 ?_
  refine G_iconst C (nI 0) dX10_keepAside_4 (by decide) ?_
  refine G_aload_r C dX10_keepAside_5 rfl ?_
  refine G_getR C fo_X10_35 rfl rfl dX10_keepAside_6 ?_
  refine G_iload_n C dX10_keepAside_9 rfl ?_
  refine G_ialdN C rfl (by assumption) (by decide) dX10_keepAside_10 ?_
  refine G_is (M 45 j) rfl ?_
  refine G_iastN C rfl (by decide) (by decide) dX10_keepAside_11 ?_
  refine G_aload_r C dX10_keepAside_12 rfl ?_
  refine G_getR C fo_X10_78 rfl rfl dX10_keepAside_13 ?_
  refine G_iconst C (nI 1) dX10_keepAside_16 (by decide) ?_
  refine G_aload_r C dX10_keepAside_17 rfl ?_
  refine G_getR C fo_X10_38 rfl rfl dX10_keepAside_18 ?_
  refine G_iload_n C dX10_keepAside_21 rfl ?_
  refine G_ialdN C rfl (by assumption) (by decide) dX10_keepAside_22 ?_
  refine G_is (M 46 j) rfl ?_
  refine G_iastN C rfl (by decide) (by decide) dX10_keepAside_23 ?_
  refine G_aload_r C dX10_keepAside_24 rfl ?_
  refine G_getR C fo_X10_78 rfl rfl dX10_keepAside_25 ?_
  refine G_iconst C (nI 2) dX10_keepAside_28 (by decide) ?_
  refine G_aload_r C dX10_keepAside_29 rfl ?_
  refine G_getR C fo_X10_41 rfl rfl dX10_keepAside_30 ?_
  refine G_iload_n C dX10_keepAside_33 rfl ?_
  refine G_ialdN C rfl (by assumption) (by decide) dX10_keepAside_34 ?_
  refine G_is (M 47 j) rfl ?_
  refine G_iastN C rfl (by decide) (by decide) dX10_keepAside_35 ?_
  refine G_aload_r C dX10_keepAside_36 rfl ?_
  refine G_getR C fo_X10_78 rfl rfl dX10_keepAside_37 ?_
  refine G_iconst C (nI 3) dX10_keepAside_40 (by decide) ?_
  refine G_aload_r C dX10_keepAside_41 rfl ?_
  refine G_getR C fo_X10_44 rfl rfl dX10_keepAside_42 ?_
  refine G_iload_n C dX10_keepAside_45 rfl ?_
  refine G_ialdN C rfl (by assumption) (by decide) dX10_keepAside_46 ?_
  refine G_is (M 48 j) rfl ?_
  refine G_iastN C rfl (by decide) (by decide) dX10_keepAside_47 ?_
  refine G_aload_r C dX10_keepAside_48 rfl ?_
  refine G_getR C fo_X10_78 rfl rfl dX10_keepAside_49 ?_
  refine G_iconst C (nI 4) dX10_keepAside_52 (by decide) ?_
  refine G_aload_r C dX10_keepAside_53 rfl ?_
  refine G_getR C fo_X10_47 rfl rfl dX10_keepAside_54 ?_
  refine G_iload_n C dX10_keepAside_57 rfl ?_
  refine G_ialdN C rfl (by assumption) (by decide) dX10_keepAside_58 ?_
  refine G_is (M 49 j) rfl ?_
  refine G_iastN C rfl (by decide) (by decide) dX10_keepAside_59 ?_
  refine G_aload_r C dX10_keepAside_60 rfl ?_
  refine G_getR C fo_X10_78 rfl rfl dX10_keepAside_61 ?_
  refine G_iconst C (nI 5) dX10_keepAside_64 (by decide) ?_
  refine G_aload_r C dX10_keepAside_65 rfl ?_
  refine G_getR C fo_X10_50 rfl rfl dX10_keepAside_66 ?_
  refine G_iload_n C dX10_keepAside_69 rfl ?_
  refine G_ialdN C rfl (by assumption) (by decide) dX10_keepAside_70 ?_
  refine G_is (M 50 j) rfl ?_
  refine G_iastN C rfl (by decide) (by decide) dX10_keepAside_71 ?_
  refine G_aload_r C dX10_keepAside_72 rfl ?_
  refine G_getR C fo_X10_78 rfl rfl dX10_keepAside_73 ?_
  refine G_bipush C (nI 6) dX10_keepAside_76 (by decide) ?_
  refine G_aload_r C dX10_keepAside_78 rfl ?_
  refine G_getR C fo_X10_53 rfl rfl dX10_keepAside_79 ?_
  refine G_iload_n C dX10_keepAside_82 rfl ?_
  refine G_ialdN C rfl (by assumption) (by decide) dX10_keepAside_83 ?_
  refine G_is (M 51 j) rfl ?_
  refine G_iastN C rfl (by decide) (by decide) dX10_keepAside_84 ?_
  exact G_vret C dX10_keepAside_85 ⟨fun i hi => by simp only [wr_c hi], ev7 rfl rfl rfl rfl rfl rfl rfl⟩
set_option maxHeartbeats 4000000 in
set_option maxRecDepth 100000 in
theorem e_X10_putBack {K : Kt} {d : Nat} {M : Mem} {j : Nat} (hj : j < 8) : Cv K d mX10_putBack [rf K 36, .int (nI j)] M (Pb M j) := by
  refine Cv_of RX10 [(0, rf K 36), (1, .int (nI j))] rfl (by decide) rfl (Nat.le_of_ble_eq_true rfl) rfl (fun x C => ?_)
  refine G_aload_r C dX10_putBack_0 rfl ?_
  refine G_getR C fo_X10_35 rfl rfl dX10_putBack_1 ?_
  refine G_iload_n C dX10_putBack_4 rfl ?_
  refine G_aload_r C dX10_putBack_5 rfl ?_
  refine G_getR C fo_X10_78 rfl rfl dX10_putBack_6 ?_
  refine G_iconst C (nI 0) dX10_putBack_9 (by decide) ?_
  refine G_ialdN C rfl (by decide) (by decide) dX10_putBack_10 ?_
  refine G_is (M 58 0) rfl ?_
  refine G_iastN C rfl (by assumption) (by decide) dX10_putBack_11 ?_
  refine G_aload_r C dX10_putBack_12 rfl ?_
  refine G_getR C fo_X10_38 rfl rfl dX10_putBack_13 ?_
  refine G_iload_n C dX10_putBack_16 rfl ?_
  refine G_aload_r C dX10_putBack_17 rfl ?_
  refine G_getR C fo_X10_78 rfl rfl dX10_putBack_18 ?_
  refine G_iconst C (nI 1) dX10_putBack_21 (by decide) ?_
  refine G_ialdN C rfl (by decide) (by decide) dX10_putBack_22 ?_
  refine G_is (M 58 1) rfl ?_
  refine G_iastN C rfl (by assumption) (by decide) dX10_putBack_23 ?_
  refine G_aload_r C dX10_putBack_24 rfl ?_
  refine G_getR C fo_X10_41 rfl rfl dX10_putBack_25 ?_
  refine G_iload_n C dX10_putBack_28 rfl ?_
  refine G_aload_r C dX10_putBack_29 rfl ?_
  refine G_getR C fo_X10_78 rfl rfl dX10_putBack_30 ?_
  refine G_iconst C (nI 2) dX10_putBack_33 (by decide) ?_
  refine G_ialdN C rfl (by decide) (by decide) dX10_putBack_34 ?_
  refine G_is (M 58 2) rfl ?_
  refine G_iastN C rfl (by assumption) (by decide) dX10_putBack_35 ?_
  refine G_aload_r C dX10_putBack_36 rfl ?_
  refine G_getR C fo_X10_44 rfl rfl dX10_putBack_37 ?_
  refine G_iload_n C dX10_putBack_40 rfl ?_
  refine G_aload_r C dX10_putBack_41 rfl ?_
  refine G_getR C fo_X10_78 rfl rfl dX10_putBack_42 ?_
  refine G_iconst C (nI 3) dX10_putBack_45 (by decide) ?_
  refine G_ialdN C rfl (by decide) (by decide) dX10_putBack_46 ?_
  refine G_is (M 58 3) rfl ?_
  refine G_iastN C rfl (by assumption) (by decide) dX10_putBack_47 ?_
  refine G_aload_r C dX10_putBack_48 rfl ?_
  refine G_getR C fo_X10_47 rfl rfl dX10_putBack_49 ?_
  refine G_iload_n C dX10_putBack_52 rfl ?_
  refine G_aload_r C dX10_putBack_53 rfl ?_
  refine G_getR C fo_X10_78 rfl rfl dX10_putBack_54 ?_
  refine G_iconst C (nI 4) dX10_putBack_57 (by decide) ?_
  refine G_ialdN C rfl (by decide) (by decide) dX10_putBack_58 ?_
  refine G_is (M 58 4) rfl ?_
  refine G_iastN C rfl (by assumption) (by decide) dX10_putBack_59 ?_
  refine G_aload_r C dX10_putBack_60 rfl ?_
  refine G_getR C fo_X10_50 rfl rfl dX10_putBack_61 ?_
  refine G_iload_n C dX10_putBack_64 rfl ?_
  refine G_aload_r C dX10_putBack_65 rfl ?_
  refine G_getR C fo_X10_78 rfl rfl dX10_putBack_66 ?_
  refine G_iconst C (nI 5) dX10_putBack_69 (by decide) ?_
  refine G_ialdN C rfl (by decide) (by decide) dX10_putBack_70 ?_
  refine G_is (M 58 5) rfl ?_
  refine G_iastN C rfl (by assumption) (by decide) dX10_putBack_71 ?_
  refine G_aload_r C dX10_putBack_72 rfl ?_
  refine G_getR C fo_X10_53 rfl rfl dX10_putBack_73 ?_
  refine G_iload_n C dX10_putBack_76 rfl ?_
  refine G_aload_r C dX10_putBack_77 rfl ?_
  refine G_getR C fo_X10_78 rfl rfl dX10_putBack_78 ?_
  refine G_bipush C (nI 6) dX10_putBack_81 (by decide) ?_
  refine G_ialdN C rfl (by decide) (by decide) dX10_putBack_83 ?_
  refine G_is (M 58 6) rfl ?_
  refine G_iastN C rfl (by assumption) (by decide) dX10_putBack_84 ?_
  refine G_vret C dX10_putBack_85 ⟨fun i hi => ?_, fun c q hq => ?_, ev7 ?_ ?_ ?_ ?_ ?_ ?_ ?_⟩
  · rw [wr_c (by omega), wr_c (by omega), wr_c (by omega), wr_c (by omega), wr_c (by omega), wr_c (by omega), wr_c (by omega)]
  · rw [wr_q hq, wr_q hq, wr_q hq, wr_q hq, wr_q hq, wr_q hq, wr_q hq]
  · simp [wr, va_up]
  · simp [wr, va_up]
  · simp [wr, va_up]
  · simp [wr, va_up]
  · simp [wr, va_up]
  · simp [wr, va_up]
  · simp [wr, va_up]
def LMX (M : Mem) (nl n : Nat) (w r : Int32) (N : Mem) : Prop :=
  (∀ i, i ≠ 36 → i ≠ 44 → ¬ (45 ≤ i ∧ i ≤ 51) → i ≠ 58 → N i = M i) ∧ (∀ b, b ≠ 9 → b ≠ 25 → b ≠ 28 → b ≠ 29 → b ≠ 30 → b ≠ 31 → N 36 b = M 36 b) ∧ N 36 25 = 0 ∧
  ((((¬ (0 ≤ w ∧ w < 120) ∧ r = -2000000001) ∨ ((0 ≤ w ∧ w < 120) ∧ ∃ q, q_fin (M 55) n = some q ∧ r = -100 - nI q) ∨ ((0 ≤ w ∧ w < 120) ∧ q_fin (M 55) n = none ∧ nl = 8 ∧ r = -2000000003)) ∧ N 36 9 = M 36 9 ∧ N 44 = M 44 ∧ ∀ c, 45 ≤ c → c ≤ 51 → N c = M c) ∨
   ((0 ≤ w ∧ w < 120) ∧ q_fin (M 55) n = none ∧ nl ≠ 8 ∧ r = nI nl ∧ N 36 9 = nI (nl + 1) ∧ N 44 = va_up (M 44) nl w ∧ ∀ k, k < 7 → N (45 + k) = va_up (M (45 + k)) nl (mrow (M 55) n 4 k)))
def PL (M : Mem) (j : Nat) (N : Mem) : Prop := (∀ i, i ≠ 36 → ¬ (45 ≤ i ∧ i ≤ 51) → i ≠ 58 → N i = M i) ∧ (∀ b, b ≠ 28 → b ≠ 29 → b ≠ 30 → b ≠ 31 → N 36 b = M 36 b) ∧ (∀ c q, 45 ≤ c → c ≤ 51 → q ≠ j → N c q = M c q) ∧ ∀ k, k < 7 → N 58 k = M (45 + k) j
theorem PL.of {M N L : Mem} {j : Nat} (h : Kp M j N) (g : LF N j L) : PL M j L := ⟨fun i h1 h2 h3 => (g.1 i h1 h2).trans (h.1 i h3), fun b h1 h2 h3 h4 => (g.2.1 b h1 h2 h3 h4).trans (congrFun (h.1 36 (by decide)) b), fun c q h1 h2 h3 => (g.2.2 c q h1 h2 h3).trans (congrFun (h.1 c (by omega)) q), fun k hk => (congrFun (g.1 58 (by decide) (by decide)) k).trans (h.2 k hk)⟩
/-- behind putBack the laws are as they were -/
theorem PL.back {M N L : Mem} {j : Nat} (h : PL M j N) (g : Pb (wr N 36 25 0) j L) : (∀ i, i ≠ 36 → i ≠ 44 → ¬ (45 ≤ i ∧ i ≤ 51) → i ≠ 58 → L i = M i) ∧ (∀ b, b ≠ 9 → b ≠ 25 → b ≠ 28 → b ≠ 29 → b ≠ 30 → b ≠ 31 → L 36 b = M 36 b) ∧ L 36 25 = 0 ∧ L 36 9 = M 36 9 ∧ L 44 = M 44 ∧ ∀ c, 45 ≤ c → c ≤ 51 → L c = M c := by
  obtain ⟨h1, h2, h3, h4⟩ := h
  obtain ⟨g1, g2, g3⟩ := g
  refine ⟨fun i a b c e => ?_, fun b a1 a2 a3 a4 a5 a6 => ?_, ?_, ?_, ?_, fun c hc hc2 => ?_⟩
  · rw [g1 i c, wr_c a]; exact h1 i a c e
  · rw [g1 36 (by decide), wr_f a2]; exact h2 b a3 a4 a5 a6
  · rw [g1 36 (by decide), wr_s]
  · rw [g1 36 (by decide), wr_f (by decide)]; exact h2 9 (by decide) (by decide) (by decide) (by decide)
  · rw [g1 44 (by decide), wr_c (by decide)]; exact h1 44 (by decide) (by decide) (by decide)
  · funext q
    by_cases hq : q = j
    · subst hq
      obtain ⟨k, hk, rfl⟩ : ∃ k, k < 7 ∧ c = 45 + k := ⟨c - 45, by omega, by omega⟩
      rw [g3 k hk, wr_c (by decide)]
      exact h4 k hk
    · rw [g2 c q hq, wr_c (by omega)]
      exact h3 c q hc hc2 hq
set_option maxHeartbeats 4000000 in
set_option maxRecDepth 100000 in
theorem L29_X10_law {K : Kt} {d : Nat} {M N : Mem} {nl n j : Nat} {w g : Int32} {R : RS} {x : Cx} (hl : M 36 9 = nI nl) (hl8 : nl ≤ 8) (hj : j < 8) (hjl : nl ≠ 8 → j = nl) (hP : PL M j N) (hS : S36 N (M 55) n R) (hg : (g = 0 ∧ q_fin (M 55) n = some R.1) ∨ (g = 1 ∧ q_fin (M 55) n = none ∧ ∀ k, k < 7 → N (45 + k) j = mrow (M 55) n 4 k)) (C : Cok K x RX10 cX10_law 5 (d + 2) (RI (LMX M nl n w))) : G K x 5 29 [(0, rf K 36), (1, .int w), (2, .int (nI j))] [.int g] N := by
  have hlN : N 36 9 = nI nl := (hP.2.1 9 (by decide) (by decide) (by decide) (by decide)).trans hl
  refine G_istore_n C dX10_law_29 (by decide) ?_
  refine G_aload_r C dX10_law_30 rfl ?_
  refine G_cVr0 C ok_X10_here lk_X10_193 rfl rfl (e_X10_here hS) (Nat.le_of_ble_eq_true rfl) dX10_law_31 ?_
  refine G_istore C dX10_law_34 (by decide) ?_
  refine G_aload_r C dX10_law_36 rfl ?_
  refine G_iconst C (0) dX10_law_37 (by decide) ?_
  refine G_putI C fp_X10_143 rfl rfl dX10_law_38 ?_
  refine G_iload_n C dX10_law_41 rfl ?_
  refine G_cSr1 C ok_X10_isWeek lk_X10_102 (c_X10_isWeek) (Nat.le_of_ble_eq_true rfl) dX10_law_42 ?_
  refine G_if_eq C 61 dX10_law_45 (by decide) (fun h45 => ?_) (fun h45 => ?_)
  · rw [bl_z] at h45
    refine G_aload_r C dX10_law_61 rfl ?_
    refine G_iload_n C dX10_law_62 rfl ?_
    refine G_cVv1 C ok_X10_putBack lk_X10_196 rfl rfl (e_X10_putBack hj) (Nat.le_of_ble_eq_true rfl) dX10_law_63 (fun L hq => ?_)
    have B := hP.back hq
    refine G_iload_n C dX10_law_66 rfl ?_
    refine G_cSr1 C ok_X10_isWeek lk_X10_102 (c_X10_isWeek) (Nat.le_of_ble_eq_true rfl) dX10_law_67 ?_
    refine G_if_ne C 78 dX10_law_70 (by decide) (fun h70 => ?_) (fun h70 => ?_)
    · rw [bl_z] at h70
      refine G_iload_n C dX10_law_78 rfl ?_
      refine G_if_ne C 90 dX10_law_79 (by decide) (fun h79 => ?_) (fun h79 => ?_)
      · refine G_ldc C kc_X10_110 dX10_law_90 ?_
        exact absurd (Decidable.not_not.mp h70) h45
      · refine G_bipush C (-100) dX10_law_82 (by decide) ?_
        refine G_iload C dX10_law_84 rfl ?_
        refine G_isub C dX10_law_86 ?_
        refine G_goto C 92 dX10_law_87 (by decide) ?_
        exact absurd (Decidable.not_not.mp h70) h45
    · rw [bl_z] at h70
      refine G_ldc C kc_X10_106 dX10_law_73 ?_
      refine G_goto C 92 dX10_law_75 (by decide) ?_
      exact G_ret C dX10_law_92 ⟨B.1, B.2.1, B.2.2.1, Or.inl ⟨Or.inl ⟨h45, rfl⟩, B.2.2.2⟩⟩
  · rw [bl_z] at h45
    refine G_iload_n C dX10_law_48 rfl ?_
    refine G_if_eq C 61 dX10_law_49 (by decide) (fun h49 => ?_) (fun h49 => ?_)
    · have hg0 := hg.resolve_right (fun z => by rw [z.1] at h49; exact absurd h49 (by decide))
      refine G_aload_r C dX10_law_61 rfl ?_
      refine G_iload_n C dX10_law_62 rfl ?_
      refine G_cVv1 C ok_X10_putBack lk_X10_196 rfl rfl (e_X10_putBack hj) (Nat.le_of_ble_eq_true rfl) dX10_law_63 (fun L hq => ?_)
      have B := hP.back hq
      refine G_iload_n C dX10_law_66 rfl ?_
      refine G_cSr1 C ok_X10_isWeek lk_X10_102 (c_X10_isWeek) (Nat.le_of_ble_eq_true rfl) dX10_law_67 ?_
      refine G_if_ne C 78 dX10_law_70 (by decide) (fun h70 => ?_) (fun h70 => ?_)
      · rw [bl_z] at h70
        refine G_iload_n C dX10_law_78 rfl ?_
        refine G_if_ne C 90 dX10_law_79 (by decide) (fun h79 => ?_) (fun h79 => ?_)
        · refine G_ldc C kc_X10_110 dX10_law_90 ?_
          exact absurd h49 h79
        · refine G_bipush C (-100) dX10_law_82 (by decide) ?_
          refine G_iload C dX10_law_84 rfl ?_
          refine G_isub C dX10_law_86 ?_
          refine G_goto C 92 dX10_law_87 (by decide) ?_
          exact G_ret C dX10_law_92 ⟨B.1, B.2.1, B.2.2.1, Or.inl ⟨Or.inr (Or.inl ⟨Decidable.not_not.mp h45, R.1, hg0.2, rfl⟩), B.2.2.2⟩⟩
      · rw [bl_z] at h70
        refine G_ldc C kc_X10_106 dX10_law_73 ?_
        refine G_goto C 92 dX10_law_75 (by decide) ?_
        exact absurd (Decidable.not_not.mp h45) h70
    · have hg1 := hg.resolve_left (fun z => h49 z.1)
      refine G_aload_r C dX10_law_52 rfl ?_
      refine G_getI C fo_X10_184 rfl rfl dX10_law_53 ?_
      refine G_is (nI nl) ((wr_f (by decide)).trans hlN) ?_
      refine G_bipush C (8) dX10_law_56 (by decide) ?_
      refine G_icmp_ne C 93 dX10_law_58 (by decide) (fun h58 => ?_) (fun h58 => ?_)
      · rw [nI_8 hl8] at h58
        refine G_aload_r C dX10_law_93 rfl ?_
        refine G_getR C fo_X10_32 rfl rfl dX10_law_94 ?_
        refine G_iload_n C dX10_law_97 rfl ?_
        refine G_iload_n C dX10_law_98 rfl ?_
        refine G_iastN C rfl (by omega) (by decide) dX10_law_99 ?_
        refine G_aload_r C dX10_law_100 rfl ?_
        refine G_dup C dX10_law_101 rfl ?_
        refine G_getI C fo_X10_184 rfl rfl dX10_law_102 ?_
        refine G_is (nI nl) ((congrFun (wr_c (by decide)) 9).trans ((wr_f (by decide)).trans hlN)) ?_
        refine G_iconst C (1) dX10_law_105 (by decide) ?_
        refine G_iadd C dX10_law_106 ?_
        rw [nI_1]
        refine G_putI C fp_X10_184 rfl rfl dX10_law_107 ?_
        refine G_iload_n C dX10_law_110 rfl ?_
        have hjn := hjl h58
        subst hjn
        obtain ⟨h1, h2, h3, h4⟩ := hP
        refine G_ret C dX10_law_111 ⟨fun i a b c e => ?_, fun b a1 a2 a3 a4 a5 a6 => ?_, ?_, Or.inr ⟨Decidable.not_not.mp h45, hg1.2.1, h58, rfl, wr_s, ?_, fun k hk => ?_⟩⟩
        · rw [wr_c a, wr_c b, wr_c a]; exact h1 i a c e
        · rw [wr_f a1, wr_c (by decide), wr_f a2]; exact h2 b a3 a4 a5 a6
        · rw [wr_f (by decide), wr_c (by decide), wr_s]
        · rw [wr_c (by decide), wr_r, wr_c (by decide), h1 44 (by decide) (by decide) (by decide)]
        · rw [wr_c (by omega), wr_c (by omega), wr_c (by omega)]
          funext q
          by_cases hq : q = j
          · subst hq
            rw [hg1.2.2 k hk]
            simp [va_up]
          · rw [h3 _ q (by omega) (by omega) hq]
            simp [va_up, hq]
      · rw [nI_8 hl8] at h58
        refine G_aload_r C dX10_law_61 rfl ?_
        refine G_iload_n C dX10_law_62 rfl ?_
        refine G_cVv1 C ok_X10_putBack lk_X10_196 rfl rfl (e_X10_putBack hj) (Nat.le_of_ble_eq_true rfl) dX10_law_63 (fun L hq => ?_)
        have B := hP.back hq
        refine G_iload_n C dX10_law_66 rfl ?_
        refine G_cSr1 C ok_X10_isWeek lk_X10_102 (c_X10_isWeek) (Nat.le_of_ble_eq_true rfl) dX10_law_67 ?_
        refine G_if_ne C 78 dX10_law_70 (by decide) (fun h70 => ?_) (fun h70 => ?_)
        · rw [bl_z] at h70
          refine G_iload_n C dX10_law_78 rfl ?_
          refine G_if_ne C 90 dX10_law_79 (by decide) (fun h79 => ?_) (fun h79 => ?_)
          · refine G_ldc C kc_X10_110 dX10_law_90 ?_
            exact G_ret C dX10_law_92 ⟨B.1, B.2.1, B.2.2.1, Or.inl ⟨Or.inr (Or.inr ⟨Decidable.not_not.mp h45, hg1.2.1, h58, rfl⟩), B.2.2.2⟩⟩
          · refine G_bipush C (-100) dX10_law_82 (by decide) ?_
            refine G_iload C dX10_law_84 rfl ?_
            refine G_isub C dX10_law_86 ?_
            refine G_goto C 92 dX10_law_87 (by decide) ?_
            exact absurd h79 h49
        · rw [bl_z] at h70
          refine G_ldc C kc_X10_106 dX10_law_73 ?_
          refine G_goto C 92 dX10_law_75 (by decide) ?_
          exact absurd (Decidable.not_not.mp h45) h70
set_option maxHeartbeats 4000000 in
set_option maxRecDepth 100000 in
theorem L18_X10_law {K : Kt} {d : Nat} {M : Mem} {nl n j : Nat} {w : Int32} {x : Cx} (hn : M 36 25 = nI n) (h72 : n ≤ 72) (hl : M 36 9 = nI nl) (hl8 : nl ≤ 8) (hj : j < 8) (hjl : nl ≠ 8 → j = nl) (C : Cok K x RX10 cX10_law 5 (d + 5) (RI (LMX M nl n w))) : G K x 5 18 [(0, rf K 36), (1, .int w)] [.int (nI j)] M := by
  refine G_istore_n C dX10_law_18 (by decide) ?_
  refine G_aload_r C dX10_law_19 rfl ?_
  refine G_iload_n C dX10_law_20 rfl ?_
  refine G_cVv1 C ok_X10_keepAside lk_X10_187 rfl rfl (e_X10_keepAside hj) (Nat.le_of_ble_eq_true rfl) dX10_law_21 (fun N hk => ?_)
  refine G_aload_r C dX10_law_24 rfl ?_
  refine G_iload_n C dX10_law_25 rfl ?_
  refine G_cVi1 C ok_X10_readLaw lk_X10_190 rfl rfl (e_X10_readLaw hj ((congrFun (hk.1 36 (by decide)) 25).trans hn) h72) (Nat.le_of_ble_eq_true rfl) dX10_law_26 (fun g N2 hq => ?_)
  rw [hk.1 55 (by decide)] at hq
  refine G_sub [(0, _), (1, _), (2, _)] (by repeat (first | refine And.intro rfl ?_ | exact True.intro)) ?_
  rcases hq with ⟨rfl, hLF, R, hS, hf⟩ | ⟨rfl, hf, R, hE⟩
  · exact L29_X10_law hl hl8 hj hjl (PL.of hk hLF) hS (Or.inl ⟨rfl, hf⟩) C
  · exact L29_X10_law hl hl8 hj hjl (PL.of hk hE.1) hE.2.1 (Or.inr ⟨rfl, hf, hE.2.2⟩) C
set_option maxHeartbeats 4000000 in
set_option maxRecDepth 100000 in
theorem c_X10_law {K : Kt} {d : Nat} {M : Mem} {n nl : Nat} {w : Int32} (hn : M 36 25 = nI n) (h72 : n ≤ 72) (hl : M 36 9 = nI nl) (hl8 : nl ≤ 8) : Ci K (d + 5) mX10_law [rf K 36, .int w] M (LMX M nl n w) := by
  refine Ci_int RX10 [(0, rf K 36), (1, .int w)] rfl (by decide) rfl (Nat.le_of_ble_eq_true rfl) rfl (fun x C => ?_)
  refine G_aload_r C dX10_law_0 rfl ?_
  refine G_getI C fo_X10_184 rfl rfl dX10_law_1 ?_
  refine G_is (nI nl) hl ?_
  refine G_bipush C (nI 8) dX10_law_4 (by decide) ?_
  refine G_icmp_ge C 16 dX10_law_6 (by decide) (fun h6 => ?_) (fun h6 => ?_)
  · have h8 : 8 ≤ nl := (nI_leI (by decide) (by omega)).mp h6
    refine G_bipush C (nI 7) dX10_law_16 (by decide) ?_
    refine G_sub [(0, _), (1, _)] (by repeat (first | refine And.intro rfl ?_ | exact True.intro)) ?_
    exact L18_X10_law hn h72 hl hl8 (by decide) (fun z => absurd z (by omega)) C
  · have h8 : nl < 8 := by rcases Nat.lt_or_ge nl 8 with q | q; exact q; exact absurd (nI_le q (by omega)) h6
    refine G_aload_r C dX10_law_9 rfl ?_
    refine G_getI C fo_X10_184 rfl rfl dX10_law_10 ?_
    refine G_is (nI nl) hl ?_
    refine G_goto C 18 dX10_law_13 (by decide) ?_
    refine G_sub [(0, _), (1, _)] (by repeat (first | refine And.intro rfl ?_ | exact True.intro)) ?_
    exact L18_X10_law hn h72 hl hl8 h8 (fun _ => rfl) C
