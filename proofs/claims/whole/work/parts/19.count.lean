set_option maxHeartbeats 4000000 in
set_option maxRecDepth 100000 in
theorem L_X2_notTakenBack {K : Kt} {d : Nat} {M : Mem} {n : Nat} {x : Cx} {o : Int32} (hn : M 1 5 = nI n) (hN : n ≤ 80) (ho : o = s_cnt (fun i => decide (M 6 i = -2000000005)) n) (C : Cok K x RX2 cX2_notTakenBack 3 d (RI (fun v N => v = o ∧ N = M))) :
    ∀ (t j : Nat) (b : Int32), n < j + t → j ≤ n → b = s_cnt (fun i => decide (M 6 i = -2000000005)) j → G K x 3 4 [(0, rf K 1), (1, .int b), (2, .int (nI j))] [] M := by
  intro t
  induction t with
  | zero => intro j b h1 h2; omega
  | succ t ih =>
    intro j b h1 h2 hb
    have hj : j ≤ 80 := by omega
    refine G_iload_n C dX2_notTakenBack_4 rfl ?_
    refine G_aload_r C dX2_notTakenBack_5 rfl ?_
    refine G_getI C fo_X2_28 rfl rfl dX2_notTakenBack_6 ?_
    refine G_icmp_ge C 32 dX2_notTakenBack_9 (by decide) (fun h9 => ?_) (fun h9 => ?_)
    · have hE : j = n := by have := n_le hn hN hj (by decide) h9; omega
      refine G_iload_n C dX2_notTakenBack_32 rfl ?_
      exact G_retR C dX2_notTakenBack_33 (by rw [ho, hb, hE]) rfl
    · have hlt : j < n := n_gt hn hN hj (by decide) h9
      have hj8 : j < 80 := by omega
      refine G_aload_r C dX2_notTakenBack_12 rfl ?_
      refine G_getR C fo_X2_24 rfl rfl dX2_notTakenBack_13 ?_
      refine G_iload_n C dX2_notTakenBack_16 rfl ?_
      refine G_ialdN C rfl (by assumption) (by decide) dX2_notTakenBack_17 ?_
      refine G_ldc C kc_X2_32 dX2_notTakenBack_18 ?_
      refine G_icmp_ne C 26 dX2_notTakenBack_20 (by decide) (fun h20 => ?_) (fun h20 => ?_)
      · refine G_iincN C dX2_notTakenBack_26 (by decide) rfl ?_
        refine G_goto C 4 dX2_notTakenBack_29 (by decide) ?_
        refine G_sub [(0, _), (1, _), (2, _)] (by repeat (first | refine And.intro rfl ?_ | exact True.intro)) ?_
        exact ih (j + 1) _ (by omega) (by omega) (hb.trans (s_cnt_f (by simpa using h20)).symm)
      · refine G_iinc C dX2_notTakenBack_23 (by decide) rfl rfl ?_
        refine G_iincN C dX2_notTakenBack_26 (by decide) rfl ?_
        refine G_goto C 4 dX2_notTakenBack_29 (by decide) ?_
        refine G_sub [(0, _), (1, _), (2, _)] (by repeat (first | refine And.intro rfl ?_ | exact True.intro)) ?_
        exact ih (j + 1) _ (by omega) (by omega) ((by rw [hb]; rfl : _ = _).trans (s_cnt_t (by simpa using h20)).symm)
set_option maxHeartbeats 4000000 in
set_option maxRecDepth 100000 in
theorem c_X2_notTakenBack {K : Kt} {d : Nat} {M : Mem} {n : Nat} (hn : M 1 5 = nI n) (hN : n ≤ 80) : Ri K d mX2_notTakenBack [rf K 1] M (s_cnt (fun i => decide (M 6 i = -2000000005)) n) M := by
  refine Ri_int RX2 [(0, rf K 1)] rfl (by decide) rfl (Nat.le_of_ble_eq_true rfl) rfl (fun x C => ?_)
  refine G_iconst C (0) dX2_notTakenBack_0 (by decide) ?_
  refine G_istore_n C dX2_notTakenBack_1 (by decide) ?_
  refine G_iconst C (nI 0) dX2_notTakenBack_2 (by decide) ?_
  refine G_istore_n C dX2_notTakenBack_3 (by decide) ?_
  refine G_sub [(0, _), (1, _), (2, _)] (by repeat (first | refine And.intro rfl ?_ | exact True.intro)) ?_
  exact L_X2_notTakenBack hn hN rfl C (n + 1) 0 0 (by omega) (by omega) rfl
set_option maxHeartbeats 4000000 in
set_option maxRecDepth 100000 in
theorem L_X9_forgivenWeeks {K : Kt} {d : Nat} {M : Mem} {x : Cx} {o : Int32} (ho : o = s_cnt (fun i => decide (¬ M 35 i = 0)) 120) (C : Cok K x RX9 cX9_forgivenWeeks 3 d (RI (fun v N => v = o ∧ N = M))) :
    ∀ (t j : Nat) (b : Int32), 120 < j + t → j ≤ 120 → b = s_cnt (fun i => decide (¬ M 35 i = 0)) j → G K x 3 4 [(0, rf K 0), (1, .int b), (2, .int (nI j))] [] M := by
  intro t
  induction t with
  | zero => intro j b h1 h2; omega
  | succ t ih =>
    intro j b h1 h2 hb
    refine G_iload_n C dX9_forgivenWeeks_4 rfl ?_
    refine G_bipush C (nI 120) dX9_forgivenWeeks_5 (by decide) ?_
    refine G_icmp_ge C 28 dX9_forgivenWeeks_7 (by decide) (fun h7 => ?_) (fun h7 => ?_)
    · have hE : j = 120 := by have := n_le (n := 120) rfl (Nat.le_refl _) h2 (by decide) h7; omega
      refine G_iload_n C dX9_forgivenWeeks_28 rfl ?_
      exact G_retR C dX9_forgivenWeeks_29 (by rw [ho, hb, hE]) rfl
    · have hj8 : j < 120 := n_gt (n := 120) rfl (Nat.le_refl _) h2 (by decide) h7
      refine G_aload_r C dX9_forgivenWeeks_10 rfl ?_
      refine G_getR C fo_X9_60 rfl rfl dX9_forgivenWeeks_11 ?_
      refine G_iload_n C dX9_forgivenWeeks_14 rfl ?_
      refine G_zaldN C rfl (by assumption) (by decide) dX9_forgivenWeeks_15 ?_
      refine G_if_eq C 22 dX9_forgivenWeeks_16 (by decide) (fun h16 => ?_) (fun h16 => ?_)
      · refine G_iincN C dX9_forgivenWeeks_22 (by decide) rfl ?_
        refine G_goto C 4 dX9_forgivenWeeks_25 (by decide) ?_
        refine G_sub [(0, _), (1, _), (2, _)] (by repeat (first | refine And.intro rfl ?_ | exact True.intro)) ?_
        exact ih (j + 1) _ (by omega) (by omega) (hb.trans (s_cnt_f (by simpa using h16)).symm)
      · refine G_iinc C dX9_forgivenWeeks_19 (by decide) rfl rfl ?_
        refine G_iincN C dX9_forgivenWeeks_22 (by decide) rfl ?_
        refine G_goto C 4 dX9_forgivenWeeks_25 (by decide) ?_
        refine G_sub [(0, _), (1, _), (2, _)] (by repeat (first | refine And.intro rfl ?_ | exact True.intro)) ?_
        exact ih (j + 1) _ (by omega) (by omega) ((by rw [hb]; rfl : _ = _).trans (s_cnt_t (by simpa using h16)).symm)
set_option maxHeartbeats 4000000 in
set_option maxRecDepth 100000 in
theorem c_X9_forgivenWeeks {K : Kt} {d : Nat} {M : Mem}  : Ri K d mX9_forgivenWeeks [rf K 0] M (s_cnt (fun i => decide (¬ M 35 i = 0)) 120) M := by
  refine Ri_int RX9 [(0, rf K 0)] rfl (by decide) rfl (Nat.le_of_ble_eq_true rfl) rfl (fun x C => ?_)
  refine G_iconst C (0) dX9_forgivenWeeks_0 (by decide) ?_
  refine G_istore_n C dX9_forgivenWeeks_1 (by decide) ?_
  refine G_iconst C (nI 0) dX9_forgivenWeeks_2 (by decide) ?_
  refine G_istore_n C dX9_forgivenWeeks_3 (by decide) ?_
  refine G_sub [(0, _), (1, _), (2, _)] (by repeat (first | refine And.intro rfl ?_ | exact True.intro)) ?_
  exact L_X9_forgivenWeeks rfl C 121 0 0 (by omega) (by omega) rfl
def s_how (q v0 v1 v2 v3 v4 v5 v6 v7 : Int32) : Int32 := if q = 0 then v0 else if q = 1 then v1 else if q = 2 then v2 else if q = 3 then v3 else if q = 4 then v4 else if q = 5 then v5 else if q = 6 then v6 else if q = 7 then v7 else (-2000000001)
set_option maxHeartbeats 4000000 in
set_option maxRecDepth 100000 in
theorem c_X9_count {K : Kt} {d : Nat} {M : Mem} {nc nl nb nw : Nat} {q : Int32} (hx : XS M nc nl nb nw) : Ri K (d + 6) mX9_count [rf K 0, .int q] M (s_how q (nI nc) (s_cnt (fun i => decide (M 6 i = -2000000005)) nc) (nI nl) (nI nb) (nI nw) (s_cnt (fun i => decide (¬ M 35 i = 0)) 120) (s_cnt (fun w => decide (¬ xend M w false = xend M w true)) (nw + 1)) (M 7 1)) (M) := by
  refine Ri_int RX9 [(0, rf K 0), (1, .int q)] rfl (by decide) rfl (Nat.le_of_ble_eq_true rfl) rfl (fun x C => ?_)
  obtain ⟨hc, hc8, hl, hl8, hb, hb8, hw, hw8⟩ := id hx
  refine G_iload_n C dX9_count_0 rfl ?_
  rcases (sw_7 q) with hsw | hsw | hsw | hsw | hsw | hsw | hsw | hsw | hsw
  · refine G_tableOut C 110 dX9_count_1 hsw (by decide) ?_
    refine G_ldc C kc_X9_72 dX9_count_110 ?_
    exact G_retR C dX9_count_112 (by clear C; simp only [s_how]; first | (rw [hsw]; simp [*]; done) | (rw [hsw]; simp; done) | (have hso := sw_out hsw (m := 7) rfl; grind)) rfl
  · refine G_tableIn C (47) 48 dX9_count_1 (by rw [hsw]; decide) (by rw [hsw]; decide) (by rw [hsw]; rfl) (by decide) ?_
    refine G_aload_r C dX9_count_48 rfl ?_
    refine G_getR C fo_X9_10 rfl rfl dX9_count_49 ?_
    refine G_getI C fo_X9_73 rfl rfl dX9_count_52 ?_
    exact G_retR C dX9_count_55 (by clear C; simp only [s_how]; first | (rw [hsw]; simp [*]; done) | (rw [hsw]; simp; done) | (have hso := sw_out hsw (m := 7) rfl; grind)) rfl
  · refine G_tableIn C (55) 56 dX9_count_1 (by rw [hsw]; decide) (by rw [hsw]; decide) (by rw [hsw]; rfl) (by decide) ?_
    refine G_aload_r C dX9_count_56 rfl ?_
    refine G_getR C fo_X9_10 rfl rfl dX9_count_57 ?_
    refine G_cVr0 C ok_X2_notTakenBack lk_X9_272 rfl rfl (c_X2_notTakenBack hc hc8) (Nat.le_of_ble_eq_true rfl) dX9_count_60 ?_
    exact G_retR C dX9_count_63 (by clear C; simp only [s_how]; first | (rw [hsw]; simp [*]; done) | (rw [hsw]; simp; done) | (have hso := sw_out hsw (m := 7) rfl; grind)) rfl
  · refine G_tableIn C (63) 64 dX9_count_1 (by rw [hsw]; decide) (by rw [hsw]; decide) (by rw [hsw]; rfl) (by decide) ?_
    refine G_aload_r C dX9_count_64 rfl ?_
    refine G_getR C fo_X9_35 rfl rfl dX9_count_65 ?_
    refine G_getI C fo_X9_153 rfl rfl dX9_count_68 ?_
    exact G_retR C dX9_count_71 (by clear C; simp only [s_how]; first | (rw [hsw]; simp [*]; done) | (rw [hsw]; simp; done) | (have hso := sw_out hsw (m := 7) rfl; grind)) rfl
  · refine G_tableIn C (71) 72 dX9_count_1 (by rw [hsw]; decide) (by rw [hsw]; decide) (by rw [hsw]; rfl) (by decide) ?_
    refine G_aload_r C dX9_count_72 rfl ?_
    refine G_getR C fo_X9_49 rfl rfl dX9_count_73 ?_
    refine G_getI C fo_X9_191 rfl rfl dX9_count_76 ?_
    exact G_retR C dX9_count_79 (by clear C; simp only [s_how]; first | (rw [hsw]; simp [*]; done) | (rw [hsw]; simp; done) | (have hso := sw_out hsw (m := 7) rfl; grind)) rfl
  · refine G_tableIn C (79) 80 dX9_count_1 (by rw [hsw]; decide) (by rw [hsw]; decide) (by rw [hsw]; rfl) (by decide) ?_
    refine G_aload_r C dX9_count_80 rfl ?_
    refine G_getI C fo_X9_78 rfl rfl dX9_count_81 ?_
    exact G_retR C dX9_count_84 (by clear C; simp only [s_how]; first | (rw [hsw]; simp [*]; done) | (rw [hsw]; simp; done) | (have hso := sw_out hsw (m := 7) rfl; grind)) rfl
  · refine G_tableIn C (84) 85 dX9_count_1 (by rw [hsw]; decide) (by rw [hsw]; decide) (by rw [hsw]; rfl) (by decide) ?_
    refine G_aload_r C dX9_count_85 rfl ?_
    refine G_cVr0 C ok_X9_forgivenWeeks lk_X9_275 rfl rfl (c_X9_forgivenWeeks) (Nat.le_of_ble_eq_true rfl) dX9_count_86 ?_
    exact G_retR C dX9_count_89 (by clear C; simp only [s_how]; first | (rw [hsw]; simp [*]; done) | (rw [hsw]; simp; done) | (have hso := sw_out hsw (m := 7) rfl; grind)) rfl
  · refine G_tableIn C (89) 90 dX9_count_1 (by rw [hsw]; decide) (by rw [hsw]; decide) (by rw [hsw]; rfl) (by decide) ?_
    refine G_aload_r C dX9_count_90 rfl ?_
    refine G_getR C fo_X9_42 rfl rfl dX9_count_91 ?_
    refine G_aload_r C dX9_count_94 rfl ?_
    refine G_getI C fo_X9_78 rfl rfl dX9_count_95 ?_
    refine G_is (nI nw) hw ?_
    refine G_cVr1 C ok_X5_unlikeWeeks lk_X9_278 rfl rfl (c_X5_unlikeWeeks hw8) (Nat.le_of_ble_eq_true rfl) dX9_count_98 ?_
    exact G_retR C dX9_count_101 (by clear C; simp only [s_how]; first | (rw [hsw]; simp [*]; done) | (rw [hsw]; simp; done) | (have hso := sw_out hsw (m := 7) rfl; grind)) rfl
  · refine G_tableIn C (101) 102 dX9_count_1 (by rw [hsw]; decide) (by rw [hsw]; decide) (by rw [hsw]; rfl) (by decide) ?_
    refine G_aload_r C dX9_count_102 rfl ?_
    refine G_getR C fo_X9_19 rfl rfl dX9_count_103 ?_
    refine G_getI C fo_X9_141 rfl rfl dX9_count_106 ?_
    exact G_retR C dX9_count_109 (by clear C; simp only [s_how]; first | (rw [hsw]; simp [*]; done) | (rw [hsw]; simp; done) | (have hso := sw_out hsw (m := 7) rfl; grind)) rfl
set_option maxHeartbeats 4000000 in
set_option maxRecDepth 100000 in
theorem L1_X10_count {K : Kt} {d : Nat} {M : Mem} {n : Nat} {x : Cx} {o : Int32} (hn : M 36 1 = nI n) (hN : n ≤ 80) (ho : o = s_cnt (fun i => decide (M 41 i < 0)) n) (C : Cok K x RX10 cX10_count 4 (d + 3) (RI (fun v N => v = o ∧ N = M))) :
    ∀ (t j : Nat) (b : Int32), n < j + t → j ≤ n → b = s_cnt (fun i => decide (M 41 i < 0)) j → G K x 4 55 [(0, rf K 36), (2, .int b), (3, .int (nI j))] [] M := by
  intro t
  induction t with
  | zero => intro j b h1 h2; omega
  | succ t ih =>
    intro j b h1 h2 hb
    have hj : j ≤ 80 := by omega
    refine G_iload_n C dX10_count_55 rfl ?_
    refine G_aload_r C dX10_count_56 rfl ?_
    refine G_getI C fo_X10_107 rfl rfl dX10_count_57 ?_
    refine G_icmp_ge C 86 dX10_count_60 (by decide) (fun h60 => ?_) (fun h60 => ?_)
    · have hE : j = n := by have := n_le hn hN hj (by decide) h60; omega
      refine G_iload_n C dX10_count_86 rfl ?_
      exact G_retR C dX10_count_87 (by rw [ho, hb, hE]) rfl
    · have hlt : j < n := n_gt hn hN hj (by decide) h60
      have hj8 : j < 80 := by omega
      refine G_iload_n C dX10_count_63 rfl ?_
      refine G_aload_r C dX10_count_64 rfl ?_
      refine G_getR C fo_X10_22 rfl rfl dX10_count_65 ?_
      refine G_iload_n C dX10_count_68 rfl ?_
      refine G_ialdN C rfl (by assumption) (by decide) dX10_count_69 ?_
      refine G_if_ge C 77 dX10_count_70 (by decide) (fun h70 => ?_) (fun h70 => ?_)
      · refine G_iconst C (0) dX10_count_77 (by decide) ?_
        refine G_iadd C dX10_count_78 ?_
        refine G_istore_n C dX10_count_79 (by decide) ?_
        refine G_iincN C dX10_count_80 (by decide) rfl ?_
        refine G_goto C 55 dX10_count_83 (by decide) ?_
        refine G_sub [(0, _), (2, _), (3, _)] (by repeat (first | refine And.intro rfl ?_ | exact True.intro)) ?_
        exact ih (j + 1) _ (by omega) (by omega) ((Int32.add_zero b).trans (hb.trans (s_cnt_f (by simpa using h70)).symm))
      · refine G_iconst C (1) dX10_count_73 (by decide) ?_
        refine G_goto C 78 dX10_count_74 (by decide) ?_
        refine G_iadd C dX10_count_78 ?_
        refine G_istore_n C dX10_count_79 (by decide) ?_
        refine G_iincN C dX10_count_80 (by decide) rfl ?_
        refine G_goto C 55 dX10_count_83 (by decide) ?_
        refine G_sub [(0, _), (2, _), (3, _)] (by repeat (first | refine And.intro rfl ?_ | exact True.intro)) ?_
        exact ih (j + 1) _ (by omega) (by omega) ((by rw [hb] : _ = _).trans (s_cnt_t (by simpa using h70)).symm)
set_option maxHeartbeats 4000000 in
set_option maxRecDepth 100000 in
theorem L5_X10_count {K : Kt} {d : Nat} {M : Mem} {n : Nat} {x : Cx} {o : Int32} (hn : n = 120) (ho : o = s_cnt (fun i => decide (¬ M 43 i = 0)) n) (C : Cok K x RX10 cX10_count 4 (d + 3) (RI (fun v N => v = o ∧ N = M))) :
    ∀ (t j : Nat) (b : Int32), n < j + t → j ≤ n → b = s_cnt (fun i => decide (¬ M 43 i = 0)) j → G K x 4 105 [(0, rf K 36), (2, .int b), (3, .int (nI j))] [] M := by
  intro t
  induction t with
  | zero => intro j b h1 h2; omega
  | succ t ih =>
    intro j b h1 h2 hb
    refine G_iload_n C dX10_count_105 rfl ?_
    refine G_bipush C (nI 120) dX10_count_106 (by decide) ?_
    refine G_icmp_ge C 134 dX10_count_108 (by decide) (fun h108 => ?_) (fun h108 => ?_)
    · have hE : j = n := by have := n_le (n := 120) rfl (Nat.le_refl _) (by omega) (by decide) h108; omega
      refine G_iload_n C dX10_count_134 rfl ?_
      exact G_retR C dX10_count_135 (by rw [ho, hb, hE]) rfl
    · have hj8 : j < 120 := n_gt (n := 120) rfl (Nat.le_refl _) (by omega) (by decide) h108
      refine G_iload_n C dX10_count_111 rfl ?_
      refine G_aload_r C dX10_count_112 rfl ?_
      refine G_getR C fo_X10_28 rfl rfl dX10_count_113 ?_
      refine G_iload_n C dX10_count_116 rfl ?_
      refine G_zaldN C rfl (by assumption) (by decide) dX10_count_117 ?_
      refine G_if_eq C 125 dX10_count_118 (by decide) (fun h118 => ?_) (fun h118 => ?_)
      · refine G_iconst C (0) dX10_count_125 (by decide) ?_
        refine G_iadd C dX10_count_126 ?_
        refine G_istore_n C dX10_count_127 (by decide) ?_
        refine G_iincN C dX10_count_128 (by decide) rfl ?_
        refine G_goto C 105 dX10_count_131 (by decide) ?_
        refine G_sub [(0, _), (2, _), (3, _)] (by repeat (first | refine And.intro rfl ?_ | exact True.intro)) ?_
        exact ih (j + 1) _ (by omega) (by omega) ((Int32.add_zero b).trans (hb.trans (s_cnt_f (by simpa using h118)).symm))
      · refine G_iconst C (1) dX10_count_121 (by decide) ?_
        refine G_goto C 126 dX10_count_122 (by decide) ?_
        refine G_iadd C dX10_count_126 ?_
        refine G_istore_n C dX10_count_127 (by decide) ?_
        refine G_iincN C dX10_count_128 (by decide) rfl ?_
        refine G_goto C 105 dX10_count_131 (by decide) ?_
        refine G_sub [(0, _), (2, _), (3, _)] (by repeat (first | refine And.intro rfl ?_ | exact True.intro)) ?_
        exact ih (j + 1) _ (by omega) (by omega) ((by rw [hb] : _ = _).trans (s_cnt_t (by simpa using h118)).symm)
set_option maxHeartbeats 4000000 in
set_option maxRecDepth 100000 in
theorem L6_X10_count {K : Kt} {d : Nat} {M : Mem} {n : Nat} {x : Cx} {o : Int32} (hw : M 36 0 = nI (n - 1)) (hn : 0 < n) (hN : n ≤ 120) (ho : o = s_cnt (fun w => decide (¬ mend M w false = mend M w true)) n) (C : Cok K x RX10 cX10_count 4 (d + 3) (RI (fun v N => v = o ∧ N = M))) :
    ∀ (t j : Nat) (b : Int32), n < j + t → j ≤ n → b = s_cnt (fun w => decide (¬ mend M w false = mend M w true)) j → G K x 4 138 [(0, rf K 36), (2, .int b), (3, .int (nI j))] [] M := by
  intro t
  induction t with
  | zero => intro j b h1 h2; omega
  | succ t ih =>
    intro j b h1 h2 hb
    refine G_iload_n C dX10_count_138 rfl ?_
    refine G_aload_r C dX10_count_139 rfl ?_
    refine G_getI C fo_X10_94 rfl rfl dX10_count_140 ?_
    refine G_is (nI (n - 1)) hw ?_
    refine G_icmp_gt C 175 dX10_count_143 (by decide) (fun h143 => ?_) (fun h143 => ?_)
    · have hE : j = n := by have := n_gtE (N := 300) (by omega) (by omega) (by decide) h143; omega
      refine G_iload_n C dX10_count_175 rfl ?_
      exact G_retR C dX10_count_176 (by rw [ho, hb, hE]) rfl
    · have hlt : j ≤ n - 1 := n_leE (N := 300) (by omega) (by omega) (by decide) h143
      have hj8 : j < 120 := by omega
      refine G_iload_n C dX10_count_146 rfl ?_
      refine G_aload_r C dX10_count_147 rfl ?_
      refine G_iload_n C dX10_count_148 rfl ?_
      refine G_iconst C (0) dX10_count_149 (by decide) ?_
      refine G_cVr2 C ok_X10_end lk_X10_139 rfl rfl (c_X10_end hj8 (Or.inl rfl)) (Nat.le_of_ble_eq_true rfl) dX10_count_150 ?_
      refine G_aload_r C dX10_count_153 rfl ?_
      refine G_iload_n C dX10_count_154 rfl ?_
      refine G_iconst C (1) dX10_count_155 (by decide) ?_
      refine G_cVr2 C ok_X10_end lk_X10_139 rfl rfl (c_X10_end hj8 (Or.inr rfl)) (Nat.le_of_ble_eq_true rfl) dX10_count_156 ?_
      refine G_icmp_ne C 166 dX10_count_159 (by decide) (fun h159 => ?_) (fun h159 => ?_)
      · refine G_iconst C (1) dX10_count_166 (by decide) ?_
        refine G_iadd C dX10_count_167 ?_
        refine G_istore_n C dX10_count_168 (by decide) ?_
        refine G_iincN C dX10_count_169 (by decide) rfl ?_
        refine G_goto C 138 dX10_count_172 (by decide) ?_
        refine G_sub [(0, _), (2, _), (3, _)] (by repeat (first | refine And.intro rfl ?_ | exact True.intro)) ?_
        exact ih (j + 1) _ (by omega) (by omega) ((by rw [hb] : _ = _).trans (s_cnt_t (by simpa using h159)).symm)
      · refine G_iconst C (0) dX10_count_162 (by decide) ?_
        refine G_goto C 167 dX10_count_163 (by decide) ?_
        refine G_iadd C dX10_count_167 ?_
        refine G_istore_n C dX10_count_168 (by decide) ?_
        refine G_iincN C dX10_count_169 (by decide) rfl ?_
        refine G_goto C 138 dX10_count_172 (by decide) ?_
        refine G_sub [(0, _), (2, _), (3, _)] (by repeat (first | refine And.intro rfl ?_ | exact True.intro)) ?_
        exact ih (j + 1) _ (by omega) (by omega) ((Int32.add_zero b).trans (hb.trans (s_cnt_f (by simpa using h159)).symm))
set_option maxHeartbeats 4000000 in
set_option maxRecDepth 100000 in
theorem c_X10_count {K : Kt} {d : Nat} {M : Mem} {nc nl nb nw : Nat} {q : Int32} (hx : MS M nc nl nb nw) : Ri K (d + 6) mX10_count [rf K 36, .int q] M (s_how q (nI nc) (s_cnt (fun i => decide (M 41 i < 0)) nc) (nI nl) (nI nb) (nI nw) (s_cnt (fun i => decide (¬ M 43 i = 0)) 120) (s_cnt (fun w => decide (¬ mend M w false = mend M w true)) (nw + 1)) (M 36 25)) (M) := by
  refine Ri_int RX10 [(0, rf K 36), (1, .int q)] rfl (by decide) rfl (Nat.le_of_ble_eq_true rfl) rfl (fun x C => ?_)
  obtain ⟨hc, hc8, hl, hl8, hb, hb8, hw, hw8, hv⟩ := id hx
  refine G_iconst C (0) dX10_count_0 (by decide) ?_
  refine G_istore_n C dX10_count_1 (by decide) ?_
  refine G_iload_n C dX10_count_2 rfl ?_
  rcases (sw_7 q) with hsw | hsw | hsw | hsw | hsw | hsw | hsw | hsw | hsw
  · refine G_tableOut C 182 dX10_count_3 hsw (by decide) ?_
    refine G_ldc C kc_X10_106 dX10_count_182 ?_
    exact G_retR C dX10_count_184 (by clear C; simp only [s_how]; first | (rw [hsw]; simp [*]; done) | (rw [hsw]; simp; done) | (have hso := sw_out hsw (m := 7) rfl; grind)) rfl
  · refine G_tableIn C (45) 48 dX10_count_3 (by rw [hsw]; decide) (by rw [hsw]; decide) (by rw [hsw]; rfl) (by decide) ?_
    refine G_aload_r C dX10_count_48 rfl ?_
    refine G_getI C fo_X10_107 rfl rfl dX10_count_49 ?_
    exact G_retR C dX10_count_52 (by clear C; simp only [s_how]; first | (rw [hsw]; simp [*]; done) | (rw [hsw]; simp; done) | (have hso := sw_out hsw (m := 7) rfl; grind)) rfl
  · refine G_tableIn C (50) 53 dX10_count_3 (by rw [hsw]; decide) (by rw [hsw]; decide) (by rw [hsw]; rfl) (by decide) ?_
    refine G_iconst C (nI 0) dX10_count_53 (by decide) ?_
    refine G_istore_n C dX10_count_54 (by decide) ?_
    refine G_sub [(0, _), (2, _), (3, _)] (by repeat (first | refine And.intro rfl ?_ | exact True.intro)) ?_
    exact L1_X10_count hc hc8 (by simp only [s_how]; rw [hsw]; simp) C (nc + 1) 0 0 (by omega) (by omega) rfl
  · refine G_tableIn C (85) 88 dX10_count_3 (by rw [hsw]; decide) (by rw [hsw]; decide) (by rw [hsw]; rfl) (by decide) ?_
    refine G_aload_r C dX10_count_88 rfl ?_
    refine G_getI C fo_X10_184 rfl rfl dX10_count_89 ?_
    exact G_retR C dX10_count_92 (by clear C; simp only [s_how]; first | (rw [hsw]; simp [*]; done) | (rw [hsw]; simp; done) | (have hso := sw_out hsw (m := 7) rfl; grind)) rfl
  · refine G_tableIn C (90) 93 dX10_count_3 (by rw [hsw]; decide) (by rw [hsw]; decide) (by rw [hsw]; rfl) (by decide) ?_
    refine G_aload_r C dX10_count_93 rfl ?_
    refine G_getI C fo_X10_212 rfl rfl dX10_count_94 ?_
    exact G_retR C dX10_count_97 (by clear C; simp only [s_how]; first | (rw [hsw]; simp [*]; done) | (rw [hsw]; simp; done) | (have hso := sw_out hsw (m := 7) rfl; grind)) rfl
  · refine G_tableIn C (95) 98 dX10_count_3 (by rw [hsw]; decide) (by rw [hsw]; decide) (by rw [hsw]; rfl) (by decide) ?_
    refine G_aload_r C dX10_count_98 rfl ?_
    refine G_getI C fo_X10_94 rfl rfl dX10_count_99 ?_
    exact G_retR C dX10_count_102 (by clear C; simp only [s_how]; first | (rw [hsw]; simp [*]; done) | (rw [hsw]; simp; done) | (have hso := sw_out hsw (m := 7) rfl; grind)) rfl
  · refine G_tableIn C (100) 103 dX10_count_3 (by rw [hsw]; decide) (by rw [hsw]; decide) (by rw [hsw]; rfl) (by decide) ?_
    refine G_iconst C (nI 0) dX10_count_103 (by decide) ?_
    refine G_istore_n C dX10_count_104 (by decide) ?_
    refine G_sub [(0, _), (2, _), (3, _)] (by repeat (first | refine And.intro rfl ?_ | exact True.intro)) ?_
    exact L5_X10_count rfl (by simp only [s_how]; rw [hsw]; simp) C 121 0 0 (by omega) (by omega) rfl
  · refine G_tableIn C (133) 136 dX10_count_3 (by rw [hsw]; decide) (by rw [hsw]; decide) (by rw [hsw]; rfl) (by decide) ?_
    refine G_iconst C (nI 0) dX10_count_136 (by decide) ?_
    refine G_istore_n C dX10_count_137 (by decide) ?_
    refine G_sub [(0, _), (2, _), (3, _)] (by repeat (first | refine And.intro rfl ?_ | exact True.intro)) ?_
    exact L6_X10_count (n := nw + 1) hw (by omega) (by omega) (by simp only [s_how]; rw [hsw]; simp) C (nw + 2) 0 0 (by omega) (by omega) rfl
  · refine G_tableIn C (174) 177 dX10_count_3 (by rw [hsw]; decide) (by rw [hsw]; decide) (by rw [hsw]; rfl) (by decide) ?_
    refine G_aload_r C dX10_count_177 rfl ?_
    refine G_getI C fo_X10_143 rfl rfl dX10_count_178 ?_
    exact G_retR C dX10_count_181 (by clear C; simp only [s_how]; first | (rw [hsw]; simp [*]; done) | (rw [hsw]; simp; done) | (have hso := sw_out hsw (m := 7) rfl; grind)) rfl
