abbrev Run (p m sz : Int32) : Prop := 0 ≤ p ∧ 0 ≤ m ∧ p ≤ sz - m
theorem run_ex {p m sz : Int32} (h : Run p m sz) (hs : 0 ≤ sz ∧ sz ≤ 120) : ∃ pp mm : Nat, p = nI pp ∧ m = nI mm ∧ pp + mm ≤ 120 ∧ (nI pp).toNatClampNeg = pp ∧ (nI mm).toNatClampNeg = mm := by
  obtain ⟨h1, h2, h3⟩ := h
  obtain ⟨hs0, hs⟩ := hs
  obtain ⟨pp, p1, rfl⟩ := nI_of (x := p) (by grind)
  obtain ⟨mm, m1, rfl⟩ := nI_of (x := m) (by grind)
  refine ⟨pp, mm, rfl, rfl, ?_, nI_clamp p1, nI_clamp m1⟩
  rw [fa_le] at h3 hs hs0
  rw [Int32.toInt_sub, nI_toInt p1, nI_toInt m1] at h3
  have e120 : (120 : Int32).toInt = 120 := rfl
  have e0 : (0 : Int32).toInt = 0 := rfl
  rw [e120] at hs
  rw [e0] at hs0
  simp only [Int.bmod] at h3
  omega
theorem run_l {p m sz : Int32} (h1 : 0 ≤ p) (h2 : 0 ≤ m) (h3 : 0 ≤ sz) : 0 < lg_cmp (p.toInt64 + m.toInt64) sz.toInt64 ↔ ¬ Run p m sz := by
  have e : Run p m sz ↔ p ≤ sz - m := ⟨fun h => h.2.2, fun h => ⟨h1, h2, h⟩⟩
  rw [e, lg_cmp_gt, Int64.lt_iff_toInt_lt, Int64.toInt_add, Int32.toInt_toInt64, Int32.toInt_toInt64, Int32.toInt_toInt64, fa_le, Int32.toInt_sub]
  have b1 := Int32.toInt_lt p
  have b2 := Int32.toInt_lt m
  have b3 := Int32.toInt_lt sz
  rw [fa_le] at h1 h2 h3
  have e0 : (0 : Int32).toInt = 0 := rfl
  rw [e0] at h1 h2 h3
  simp only [Int.bmod]
  omega
set_option maxHeartbeats 4000000 in
set_option maxRecDepth 100000 in
theorem c_X9_copy {K : Kt} {d : Nat} {M : Mem} {s p t q m : Int32} (hsz : ∀ j, j < 2 → -1 ≤ M (23 + j) 1 ∧ M (23 + j) 1 ≤ 120) (hby : ∀ j, j < 2 → ∀ i, i < 120 → fits .byte (.int (M (25 + j) i)) = true) : Ci K (d + 3) mX9_copy [rf K 0, .int s, .int p, .int t, .int q, .int m] M (fun r N => (r = (-2000000001) ∧ N = M ∧ ¬ ((s = 0 ∨ s = 1) ∧ (t = 0 ∨ t = 1))) ∨ ∃ a b, a < 2 ∧ b < 2 ∧ s = nI a ∧ t = nI b ∧ ((r = (-2000000011) ∧ N = M ∧ (M (23 + a) 1 < 0 ∨ M (23 + b) 1 < 0)) ∨ (r = (-2000000013) ∧ N = M ∧ 0 ≤ M (23 + a) 1 ∧ 0 ≤ M (23 + b) 1 ∧ ¬ (Run p m (M (23 + a) 1) ∧ Run q m (M (23 + b) 1))) ∨ (0 ≤ M (23 + a) 1 ∧ 0 ≤ M (23 + b) 1 ∧ Run p m (M (23 + a) 1) ∧ Run q m (M (23 + b) 1) ∧ r = m ∧ N = va_up M (25 + b) (va_cpy (M (25 + a)) (M (25 + b)) p.toNatClampNeg q.toNatClampNeg m.toNatClampNeg)))) := by
  refine Ci_int RX9 [(0, rf K 0), (1, .int s), (2, .int p), (3, .int t), (4, .int q), (5, .int m)] rfl (by decide) rfl (Nat.le_of_ble_eq_true rfl) rfl (fun x C => ?_)
  refine G_iload_n C dX9_copy_0 rfl ?_
  refine G_iconst C (2) dX9_copy_1 (by decide) ?_
  refine G_cSr2 C ok_X9_isBelow lk_X9_88 (c_X9_isBelow) (Nat.le_of_ble_eq_true rfl) dX9_copy_2 ?_
  refine G_if_eq C 16 dX9_copy_5 (by decide) (fun h5 => ?_) (fun h5 => ?_)
  · rw [bl_z] at h5
    refine G_ldc C kc_X9_72 dX9_copy_16 ?_
    exact G_ret C dX9_copy_18 (Or.inl ⟨rfl, rfl, by clear C; grind⟩)
  · rw [bl_z] at h5
    refine G_iload_n C dX9_copy_8 rfl ?_
    refine G_iconst C (2) dX9_copy_9 (by decide) ?_
    refine G_cSr2 C ok_X9_isBelow lk_X9_88 (c_X9_isBelow) (Nat.le_of_ble_eq_true rfl) dX9_copy_10 ?_
    refine G_if_ne C 19 dX9_copy_13 (by decide) (fun h13 => ?_) (fun h13 => ?_)
    · rw [bl_z] at h13
      obtain ⟨a, ha, rfl, ta⟩ := ix_ex (n := 2) (by decide) (Decidable.not_not.mp h5)
      obtain ⟨b, hb, rfl, tb⟩ := ix_ex (n := 2) (by decide) (Decidable.not_not.mp h13)
      have sa := hsz a ha
      have sb := hsz b hb
      refine G_aload_r C dX9_copy_19 rfl ?_
      refine G_getR C fo_X9_42 rfl rfl dX9_copy_20 ?_
      refine G_getR C fo_X9_243 rfl rfl dX9_copy_23 ?_
      refine G_iload_n C dX9_copy_26 rfl ?_
      refine G_sh C ha dX9_copy_27 ?_
      refine G_astore C dX9_copy_28 (by decide) ?_
      refine G_aload_r C dX9_copy_30 rfl ?_
      refine G_getR C fo_X9_42 rfl rfl dX9_copy_31 ?_
      refine G_getR C fo_X9_243 rfl rfl dX9_copy_34 ?_
      refine G_iload_n C dX9_copy_37 rfl ?_
      refine G_sh C hb dX9_copy_38 ?_
      refine G_astore C dX9_copy_39 (by decide) ?_
      refine G_aload C dX9_copy_41 rfl ?_
      refine G_cVr0 C ok_X7_isMissing lk_X9_252 (lay_sh a ha) rfl (c_X7_isMissing ha) (Nat.le_of_ble_eq_true rfl) dX9_copy_43 ?_
      refine G_if_ne C 57 dX9_copy_46 (by decide) (fun h46 => ?_) (fun h46 => ?_)
      · rw [bl_z] at h46
        refine G_ldcw C kc_X9_256 dX9_copy_57 ?_
        exact G_ret C dX9_copy_60 (Or.inr ⟨a, b, ha, hb, rfl, rfl, Or.inl ⟨rfl, rfl, by clear C; grind⟩⟩)
      · rw [bl_z] at h46
        refine G_aload C dX9_copy_49 rfl ?_
        refine G_cVr0 C ok_X7_isMissing lk_X9_252 (lay_sh b hb) rfl (c_X7_isMissing hb) (Nat.le_of_ble_eq_true rfl) dX9_copy_51 ?_
        refine G_if_eq C 61 dX9_copy_54 (by decide) (fun h54 => ?_) (fun h54 => ?_)
        · rw [bl_z] at h54
          refine G_aload C dX9_copy_61 rfl ?_
          refine G_iload_n C dX9_copy_63 rfl ?_
          refine G_iload C dX9_copy_64 rfl ?_
          refine G_cVr2 C ok_X7_hasRun lk_X9_263 (lay_sh a ha) rfl (c_X7_hasRun ha) (Nat.le_of_ble_eq_true rfl) dX9_copy_66 ?_
          refine G_if_eq C 84 dX9_copy_69 (by decide) (fun h69 => ?_) (fun h69 => ?_)
          · rw [bl_z] at h69
            refine G_ldcw C kc_X9_258 dX9_copy_84 ?_
            exact G_ret C dX9_copy_87 (Or.inr ⟨a, b, ha, hb, rfl, rfl, Or.inr (Or.inl ⟨rfl, rfl, by clear C; grind, by clear C; grind, by clear C; unfold Run; grind⟩)⟩)
          · rw [bl_z] at h69
            refine G_aload C dX9_copy_72 rfl ?_
            refine G_iload C dX9_copy_74 rfl ?_
            refine G_iload C dX9_copy_76 rfl ?_
            refine G_cVr2 C ok_X7_hasRun lk_X9_263 (lay_sh b hb) rfl (c_X7_hasRun hb) (Nat.le_of_ble_eq_true rfl) dX9_copy_78 ?_
            refine G_if_ne C 88 dX9_copy_81 (by decide) (fun h81 => ?_) (fun h81 => ?_)
            · rw [bl_z] at h81
              obtain ⟨pp, mm, rfl, rfl, h1, tp, tm⟩ := run_ex (Decidable.not_not.mp h69) (by grind)
              obtain ⟨qq, m2, rfl, e2, h2, tq, t2⟩ := run_ex (Decidable.not_not.mp h81) (by grind)
              have e3 : mm = m2 := by rw [← tm, e2, t2]
              subst e3
              refine G_aload C dX9_copy_88 rfl ?_
              refine G_getR C fo_X9_259 (lay_sh a ha) rfl dX9_copy_90 ?_
              refine G_iload_n C dX9_copy_93 rfl ?_
              refine G_aload C dX9_copy_94 rfl ?_
              refine G_getR C fo_X9_259 (lay_sh b hb) rfl dX9_copy_96 ?_
              refine G_iload C dX9_copy_99 rfl ?_
              refine G_iload C dX9_copy_101 rfl ?_
              refine G_copy C (lay_pl a ha) (lay_pl b hb) h1 h2 (fun i hi => hby a ha _ (by omega)) (Nat.le_of_ble_eq_true rfl) dX9_copy_103 ?_
              refine G_iload C dX9_copy_106 rfl ?_
              exact G_ret C dX9_copy_108 (Or.inr ⟨a, b, ha, hb, rfl, rfl, Or.inr (Or.inr ⟨by clear C; grind, by clear C; grind, Decidable.not_not.mp h69, Decidable.not_not.mp h81, rfl, by rw [tp, tq, tm]⟩)⟩)
            · rw [bl_z] at h81
              refine G_ldcw C kc_X9_258 dX9_copy_84 ?_
              exact G_ret C dX9_copy_87 (Or.inr ⟨a, b, ha, hb, rfl, rfl, Or.inr (Or.inl ⟨rfl, rfl, by clear C; grind, by clear C; grind, by clear C; unfold Run; grind⟩)⟩)
        · rw [bl_z] at h54
          refine G_ldcw C kc_X9_256 dX9_copy_57 ?_
          exact G_ret C dX9_copy_60 (Or.inr ⟨a, b, ha, hb, rfl, rfl, Or.inl ⟨rfl, rfl, by clear C; grind⟩⟩)
    · rw [bl_z] at h13
      refine G_ldc C kc_X9_72 dX9_copy_16 ?_
      exact G_ret C dX9_copy_18 (Or.inl ⟨rfl, rfl, by clear C; grind⟩)
set_option maxHeartbeats 4000000 in
set_option maxRecDepth 100000 in
theorem L2_X10_copy {K : Kt} {d : Nat} {M : Mem} {a b p q m : Nat} {x : Cx} {Q : Int32 → Mem → Prop} (ha : a < 2) (hb : b < 2) (hp : p + m ≤ 120) (hq : q + m ≤ 120) (hQ : ∀ N : Mem, (∀ i, i ≠ 57 → i ≠ 61 → N i = M i) → (∀ i, N 57 i = va_cpy (M 57) (M 57) (120 * a + p) (120 * b + q) m i) → Q (nI m) N) (C : Cok K x RX10 cX10_copy 7 d (RI Q)) :
    ∀ (t i : Nat) (N : Mem), m < i + t → i ≤ m → ((∀ z, z ≠ 57 → z ≠ 61 → N z = M z) ∧ (∀ z, N 57 z = va_cpy (M 57) (M 57) (120 * a + p) (120 * b + q) i z) ∧ ∀ z, z < m → N 61 z = M 57 (120 * a + p + z)) → G K x 7 130 [(0, rf K 36), (1, .int (nI a)), (2, .int (nI p)), (3, .int (nI b)), (4, .int (nI q)), (5, .int (nI m)), (6, .int (nI i))] [] N := by
  intro t
  induction t with
  | zero => intro i N h1 h2; omega
  | succ t ih =>
    intro i N h1 h2 hI
    obtain ⟨b1, b2, b3⟩ := hI
    refine G_iload C dX10_copy_130 rfl ?_
    refine G_iload C dX10_copy_132 rfl ?_
    refine G_icmp_ge C 165 dX10_copy_134 (by decide) (fun h134 => ?_) (fun h134 => ?_)
    · have hE : i = m := by have := n_le (n := m) (N := 200) rfl (by omega) (by omega) (by decide) h134; omega
      refine G_iload C dX10_copy_165 rfl ?_
      exact G_ret C dX10_copy_167 (hQ N b1 (fun z => by rw [b2 z, hE]))
    · have hi8 : i < m := n_gt (n := m) (N := 200) rfl (by omega) (by omega) (by decide) h134
      refine G_aload_r C dX10_copy_137 rfl ?_
      refine G_getR C fo_X10_75 rfl rfl dX10_copy_138 ?_
      refine G_bipush C (nI 120) dX10_copy_141 (by decide) ?_
      refine G_iload_n C dX10_copy_143 rfl ?_
      refine G_imul C dX10_copy_144 ?_
      refine G_iload C dX10_copy_145 rfl ?_
      refine G_iadd C dX10_copy_147 ?_
      refine G_iload C dX10_copy_148 rfl ?_
      refine G_iadd C dX10_copy_150 ?_
      rw [pk_mul, nI_add, nI_add]
      refine G_aload_r C dX10_copy_151 rfl ?_
      refine G_getR C fo_X10_87 rfl rfl dX10_copy_152 ?_
      refine G_iload C dX10_copy_155 rfl ?_
      refine G_ialdN C rfl (by omega) (by decide) dX10_copy_157 ?_
      refine G_iastN C rfl (by omega) (by decide) dX10_copy_158 ?_
      refine G_iincN C dX10_copy_159 (by decide) rfl ?_
      refine G_goto C 130 dX10_copy_162 (by decide) ?_
      refine G_sub [(0, _), (1, _), (2, _), (3, _), (4, _), (5, _), (6, _)] (by repeat (first | refine And.intro rfl ?_ | exact True.intro)) ?_
      refine ih (i + 1) _ (by omega) (by omega) ⟨fun z h1 h2 => (wr_c h1).trans (b1 z h1 h2), fun z => ?_, fun z hz => (congrFun (wr_c (by decide)) z).trans (b3 z hz)⟩
      by_cases hz : z = 120 * b + q + i
      · subst hz
        rw [wr_s, b3 i hi8, pk_cpy_in (by omega) (by omega), show 120 * b + q + i - (120 * b + q) = i by omega]
      · rw [wr_f hz, b2 z]
        by_cases hin : 120 * b + q ≤ z ∧ z < 120 * b + q + i
        · rw [pk_cpy_in hin.1 hin.2, pk_cpy_in hin.1 (by omega)]
        · rw [pk_cpy_out (by omega), pk_cpy_out (by omega)]
set_option maxHeartbeats 4000000 in
set_option maxRecDepth 100000 in
theorem L1_X10_copy {K : Kt} {d : Nat} {M : Mem} {a b p q m : Nat} {x : Cx} {Q : Int32 → Mem → Prop} (ha : a < 2) (hb : b < 2) (hp : p + m ≤ 120) (hq : q + m ≤ 120) (hQ : ∀ N : Mem, (∀ i, i ≠ 57 → i ≠ 61 → N i = M i) → (∀ i, N 57 i = va_cpy (M 57) (M 57) (120 * a + p) (120 * b + q) m i) → Q (nI m) N) (C : Cok K x RX10 cX10_copy 7 d (RI Q)) :
    ∀ (t i : Nat) (N : Mem), m < i + t → i ≤ m → ((∀ z, z ≠ 61 → N z = M z) ∧ ∀ z, z < i → N 61 z = M 57 (120 * a + p + z)) → G K x 7 93 [(0, rf K 36), (1, .int (nI a)), (2, .int (nI p)), (3, .int (nI b)), (4, .int (nI q)), (5, .int (nI m)), (6, .int (nI i))] [] N := by
  intro t
  induction t with
  | zero => intro i N h1 h2; omega
  | succ t ih =>
    intro i N h1 h2 hI
    obtain ⟨b1, b2⟩ := hI
    refine G_iload C dX10_copy_93 rfl ?_
    refine G_iload C dX10_copy_95 rfl ?_
    refine G_icmp_ge C 127 dX10_copy_97 (by decide) (fun h97 => ?_) (fun h97 => ?_)
    · have hE : i = m := by have := n_le (n := m) (N := 200) rfl (by omega) (by omega) (by decide) h97; omega
      refine G_iconst C (nI 0) dX10_copy_127 (by decide) ?_
      refine G_istore C dX10_copy_128 (by decide) ?_
      refine G_sub [(0, _), (1, _), (2, _), (3, _), (4, _), (5, _), (6, _)] (by repeat (first | refine And.intro rfl ?_ | exact True.intro)) ?_
      exact L2_X10_copy ha hb hp hq hQ C (m + 1) 0 N (by omega) (by omega) ⟨fun z h1 h2 => b1 z h2, fun z => by rw [b1 57 (by decide), pk_cpy_out (by omega)], fun z hz => b2 z (by omega)⟩
    · have hi8 : i < m := n_gt (n := m) (N := 200) rfl (by omega) (by omega) (by decide) h97
      refine G_aload_r C dX10_copy_100 rfl ?_
      refine G_getR C fo_X10_87 rfl rfl dX10_copy_101 ?_
      refine G_iload C dX10_copy_104 rfl ?_
      refine G_aload_r C dX10_copy_106 rfl ?_
      refine G_getR C fo_X10_75 rfl rfl dX10_copy_107 ?_
      refine G_bipush C (nI 120) dX10_copy_110 (by decide) ?_
      refine G_iload_n C dX10_copy_112 rfl ?_
      refine G_imul C dX10_copy_113 ?_
      refine G_iload_n C dX10_copy_114 rfl ?_
      refine G_iadd C dX10_copy_115 ?_
      refine G_iload C dX10_copy_116 rfl ?_
      refine G_iadd C dX10_copy_118 ?_
      rw [pk_mul, nI_add, nI_add]
      refine G_ialdN C rfl (by omega) (by decide) dX10_copy_119 ?_
      refine G_iastN C rfl (by omega) (by decide) dX10_copy_120 ?_
      refine G_iincN C dX10_copy_121 (by decide) rfl ?_
      refine G_goto C 93 dX10_copy_124 (by decide) ?_
      refine G_sub [(0, _), (1, _), (2, _), (3, _), (4, _), (5, _), (6, _)] (by repeat (first | refine And.intro rfl ?_ | exact True.intro)) ?_
      refine ih (i + 1) _ (by omega) (by omega) ⟨fun z h1 => (wr_c h1).trans (b1 z h1), fun z hz => ?_⟩
      rcases Nat.lt_or_ge z i with w | w
      · rw [wr_f (by omega)]; exact b2 z w
      · rw [show z = i by omega, wr_s, b1 57 (by decide)]
set_option maxHeartbeats 4000000 in
set_option maxRecDepth 100000 in
theorem c_X10_copy {K : Kt} {d : Nat} {M : Mem} {s p t q m : Int32} (hsz : ∀ j, j < 2 → -1 ≤ M 56 j ∧ M 56 j ≤ 120) : Ci K (d + 3) mX10_copy [rf K 36, .int s, .int p, .int t, .int q, .int m] M (fun r N => (r = (-2000000001) ∧ N = M ∧ ¬ ((s = 0 ∨ s = 1) ∧ (t = 0 ∨ t = 1))) ∨ ∃ a b, a < 2 ∧ b < 2 ∧ s = nI a ∧ t = nI b ∧ ((r = (-2000000011) ∧ N = M ∧ (M 56 a < 0 ∨ M 56 b < 0)) ∨ (r = (-2000000013) ∧ N = M ∧ 0 ≤ M 56 a ∧ 0 ≤ M 56 b ∧ ¬ (Run p m (M 56 a) ∧ Run q m (M 56 b))) ∨ (0 ≤ M 56 a ∧ 0 ≤ M 56 b ∧ Run p m (M 56 a) ∧ Run q m (M 56 b) ∧ r = m ∧ (∀ i, i ≠ 57 → i ≠ 61 → N i = M i) ∧ ∀ i, N 57 i = va_cpy (M 57) (M 57) (120 * a + p.toNatClampNeg) (120 * b + q.toNatClampNeg) m.toNatClampNeg i))) := by
  refine Ci_int RX10 [(0, rf K 36), (1, .int s), (2, .int p), (3, .int t), (4, .int q), (5, .int m)] rfl (by decide) rfl (Nat.le_of_ble_eq_true rfl) rfl (fun x C => ?_)
  refine G_iload_n C dX10_copy_0 rfl ?_
  refine G_cSr1 C ok_X10_isSheet lk_X10_234 (c_X10_isSheet) (Nat.le_of_ble_eq_true rfl) dX10_copy_1 ?_
  refine G_if_eq C 14 dX10_copy_4 (by decide) (fun h4 => ?_) (fun h4 => ?_)
  · rw [bl_z] at h4
    refine G_ldc C kc_X10_106 dX10_copy_14 ?_
    exact G_ret C dX10_copy_16 (Or.inl ⟨rfl, rfl, by clear C; grind⟩)
  · rw [bl_z] at h4
    refine G_iload_n C dX10_copy_7 rfl ?_
    refine G_cSr1 C ok_X10_isSheet lk_X10_234 (c_X10_isSheet) (Nat.le_of_ble_eq_true rfl) dX10_copy_8 ?_
    refine G_if_ne C 17 dX10_copy_11 (by decide) (fun h11 => ?_) (fun h11 => ?_)
    · rw [bl_z] at h11
      obtain ⟨a, ha, rfl, ta⟩ := ix_s (Decidable.not_not.mp h4)
      obtain ⟨b, hb, rfl, tb⟩ := ix_s (Decidable.not_not.mp h11)
      have sa := hsz a ha
      have sb := hsz b hb
      refine G_aload_r C dX10_copy_17 rfl ?_
      refine G_getR C fo_X10_72 rfl rfl dX10_copy_18 ?_
      refine G_iload_n C dX10_copy_21 rfl ?_
      refine G_ialdN C rfl (by assumption) (by decide) dX10_copy_22 ?_
      refine G_if_lt C 35 dX10_copy_23 (by decide) (fun h23 => ?_) (fun h23 => ?_)
      · refine G_ldc C kc_X10_238 dX10_copy_35 ?_
        exact G_ret C dX10_copy_37 (Or.inr ⟨a, b, ha, hb, rfl, rfl, Or.inl ⟨rfl, rfl, by clear C; grind⟩⟩)
      · refine G_aload_r C dX10_copy_26 rfl ?_
        refine G_getR C fo_X10_72 rfl rfl dX10_copy_27 ?_
        refine G_iload_n C dX10_copy_30 rfl ?_
        refine G_ialdN C rfl (by assumption) (by decide) dX10_copy_31 ?_
        refine G_if_ge C 38 dX10_copy_32 (by decide) (fun h32 => ?_) (fun h32 => ?_)
        · refine G_iload_n C dX10_copy_38 rfl ?_
          refine G_if_lt C 87 dX10_copy_39 (by decide) (fun h39 => ?_) (fun h39 => ?_)
          · refine G_ldc C kc_X10_239 dX10_copy_87 ?_
            exact G_ret C dX10_copy_89 (Or.inr ⟨a, b, ha, hb, rfl, rfl, Or.inr (Or.inl ⟨rfl, rfl, by clear C; grind, by clear C; grind, by clear C; first | (unfold Run; grind) | grind⟩)⟩)
          · refine G_iload C dX10_copy_42 rfl ?_
            refine G_if_lt C 87 dX10_copy_44 (by decide) (fun h44 => ?_) (fun h44 => ?_)
            · refine G_ldc C kc_X10_239 dX10_copy_87 ?_
              exact G_ret C dX10_copy_89 (Or.inr ⟨a, b, ha, hb, rfl, rfl, Or.inr (Or.inl ⟨rfl, rfl, by clear C; grind, by clear C; grind, by clear C; first | (unfold Run; grind) | grind⟩)⟩)
            · refine G_iload C dX10_copy_47 rfl ?_
              refine G_if_lt C 87 dX10_copy_49 (by decide) (fun h49 => ?_) (fun h49 => ?_)
              · refine G_ldc C kc_X10_239 dX10_copy_87 ?_
                exact G_ret C dX10_copy_89 (Or.inr ⟨a, b, ha, hb, rfl, rfl, Or.inr (Or.inl ⟨rfl, rfl, by clear C; grind, by clear C; grind, by clear C; first | (unfold Run; grind) | grind⟩)⟩)
              · refine G_iload_n C dX10_copy_52 rfl ?_
                refine G_i2l C dX10_copy_53 ?_
                refine G_iload C dX10_copy_54 rfl ?_
                refine G_i2l C dX10_copy_56 ?_
                refine G_ladd C dX10_copy_57 ?_
                refine G_aload_r C dX10_copy_58 rfl ?_
                refine G_getR C fo_X10_72 rfl rfl dX10_copy_59 ?_
                refine G_iload_n C dX10_copy_62 rfl ?_
                refine G_ialdN C rfl (by assumption) (by decide) dX10_copy_63 ?_
                refine G_i2l C dX10_copy_64 ?_
                refine G_lcmp C dX10_copy_65 ?_
                refine G_if_gt C 87 dX10_copy_66 (by decide) (fun h66 => ?_) (fun h66 => ?_)
                · rw [run_l (by grind) (by grind) (by grind)] at h66
                  refine G_ldc C kc_X10_239 dX10_copy_87 ?_
                  exact G_ret C dX10_copy_89 (Or.inr ⟨a, b, ha, hb, rfl, rfl, Or.inr (Or.inl ⟨rfl, rfl, by clear C; grind, by clear C; grind, by clear C; first | (unfold Run; grind) | grind⟩)⟩)
                · rw [run_l (by grind) (by grind) (by grind)] at h66
                  refine G_iload C dX10_copy_69 rfl ?_
                  refine G_i2l C dX10_copy_71 ?_
                  refine G_iload C dX10_copy_72 rfl ?_
                  refine G_i2l C dX10_copy_74 ?_
                  refine G_ladd C dX10_copy_75 ?_
                  refine G_aload_r C dX10_copy_76 rfl ?_
                  refine G_getR C fo_X10_72 rfl rfl dX10_copy_77 ?_
                  refine G_iload_n C dX10_copy_80 rfl ?_
                  refine G_ialdN C rfl (by assumption) (by decide) dX10_copy_81 ?_
                  refine G_i2l C dX10_copy_82 ?_
                  refine G_lcmp C dX10_copy_83 ?_
                  refine G_if_le C 90 dX10_copy_84 (by decide) (fun h84 => ?_) (fun h84 => ?_)
                  · have h84b := run_l (p := q) (m := m) (sz := M 56 b) (by grind) (by grind) (by grind)
                    have hr2 : Run q m (M 56 b) := Decidable.not_not.mp (fun hn => by have := h84b.mpr hn; grind)
                    obtain ⟨pp, mm, rfl, rfl, h1, tp, tm⟩ := run_ex (Decidable.not_not.mp h66) (by grind)
                    obtain ⟨qq, m2, rfl, e2, h2, tq, t2⟩ := run_ex hr2 (by grind)
                    have e3 : mm = m2 := by rw [← tm, e2, t2]
                    subst e3
                    refine G_iconst C (nI 0) dX10_copy_90 (by decide) ?_
                    refine G_istore C dX10_copy_91 (by decide) ?_
                    refine G_sub [(0, _), (1, _), (2, _), (3, _), (4, _), (5, _), (6, _)] (by repeat (first | refine And.intro rfl ?_ | exact True.intro)) ?_
                    exact L1_X10_copy ha hb h1 h2 (fun N n1 n2 => Or.inr ⟨a, b, ha, hb, rfl, rfl, Or.inr (Or.inr ⟨by clear C; grind, by clear C; grind, Decidable.not_not.mp h66, hr2, rfl, n1, by rw [tp, tq, tm]; exact n2⟩)⟩) C (mm + 1) 0 M (by omega) (by omega) ⟨fun _ _ => rfl, fun z hz => absurd hz (by omega)⟩
                  · have h84b := run_l (p := q) (m := m) (sz := M 56 b) (by grind) (by grind) (by grind)
                    refine G_ldc C kc_X10_239 dX10_copy_87 ?_
                    exact G_ret C dX10_copy_89 (Or.inr ⟨a, b, ha, hb, rfl, rfl, Or.inr (Or.inl ⟨rfl, rfl, by clear C; grind, by clear C; grind, by clear C; first | (unfold Run; grind) | grind⟩)⟩)
        · refine G_ldc C kc_X10_238 dX10_copy_35 ?_
          exact G_ret C dX10_copy_37 (Or.inr ⟨a, b, ha, hb, rfl, rfl, Or.inl ⟨rfl, rfl, by clear C; grind⟩⟩)
    · rw [bl_z] at h11
      refine G_ldc C kc_X10_106 dX10_copy_14 ?_
      exact G_ret C dX10_copy_16 (Or.inl ⟨rfl, rfl, by clear C; grind⟩)
