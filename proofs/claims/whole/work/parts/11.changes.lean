def s_inc (val : Nat → Int32) (b3 b1 : Option Nat) : Int32 := match b3 with
  | some i => val i
  | none => match b1 with
    | some i => val i
    | none => 0
def s_oth (val : Nat → Int32) (b0 : Option Nat) : Int32 := match b0 with
  | some i => val i
  | none => 0
def s_vlm (val : Nat → Int32) (b0 : Option Nat) : Int32 := match b0 with
  | some i => val i
  | none => -1
def s_kid (x : Int32) : Int32 := if x < 0 then 0 else if 4 < x then 4 else x
def xbest (M : Mem) (n : Nat) (kd k w : Int32) : Option Nat := s_best (fun i => decide (M 2 i = kd) && xhold M k w i) (M 4) n
def mbest (M : Mem) (n : Nat) (kd k w : Int32) : Option Nat := s_best (fun i => decide (M 37 i = kd) && mhold M k w i) (M 39) n
def xkids (M : Mem) (n : Nat) (k w : Int32) : Int32 := s_sum (fun i => decide (M 2 i = 2) && xhold M k w i) (M 3) n
def mkids (M : Mem) (n : Nat) (k w : Int32) : Int32 := s_sum (fun i => decide (M 37 i = 2) && mhold M k w i) (M 38) n
set_option maxHeartbeats 4000000 in
set_option maxRecDepth 100000 in
theorem L_X2_latest {K : Kt} {d : Nat} {M : Mem} {n : Nat} {kd k w : Int32} {x : Cx} {o : Option Nat} (hn : M 1 5 = nI n) (h80 : n ≤ 80) (ho : o = xbest M n kd k w) (C : Cok K x RX2 cX2_latest 6 (d + 1) (RI (fun v N => v = ixv o ∧ N = M))) :
    ∀ (t j : Nat) (b : Option Nat), n < j + t → j ≤ n → b = xbest M j kd k w → G K x 6 7 [(0, rf K 1), (1, .int kd), (2, .int k), (3, .int w), (4, .int (ixv b)), (5, .int (nI j))] [] M := by
  intro t
  induction t with
  | zero => intro j b h1 h2; omega
  | succ t ih =>
    intro j b h1 h2 hb
    have hj : j ≤ 80 := by omega
    have hbl : ∀ q, b = some q → q < j := fun q hq => s_best_lt (hb.symm.trans hq)
    have hbn : ixv b = -2000000005 ↔ b = none := ixv_none (fun q hq => by have := hbl q hq; omega)
    refine G_iload C dX2_latest_7 rfl ?_
    refine G_aload_r C dX2_latest_9 rfl ?_
    refine G_getI C fo_X2_28 rfl rfl dX2_latest_10 ?_
    refine G_icmp_ge C 75 dX2_latest_13 (by decide) (fun h13 => ?_) (fun h13 => ?_)
    · have hE : j = n := by have := n_le hn h80 hj (by decide) h13; omega
      refine G_iload C dX2_latest_75 rfl ?_
      exact G_retR C dX2_latest_77 (by rw [ho, hb, hE]) rfl
    · have hlt : j < n := n_gt hn h80 hj (by decide) h13
      have hj8 : j < 80 := by omega
      refine G_aload_r C dX2_latest_16 rfl ?_
      refine G_getR C fo_X2_9 rfl rfl dX2_latest_17 ?_
      refine G_iload C dX2_latest_20 rfl ?_
      refine G_ialdN C rfl (by assumption) (by decide) dX2_latest_22 ?_
      refine G_iload_n C dX2_latest_23 rfl ?_
      refine G_icmp_ne C 69 dX2_latest_24 (by decide) (fun h24 => ?_) (fun h24 => ?_)
      · refine G_iincN C dX2_latest_69 (by decide) rfl ?_
        refine G_goto C 7 dX2_latest_72 (by decide) ?_
        refine G_sub [(0, _), (1, _), (2, _), (3, _), (4, _), (5, _)] (by repeat (first | refine And.intro rfl ?_ | exact True.intro)) ?_
        exact ih (j + 1) b (by omega) (by omega) (hb.trans (s_best_no (by simp only [xhold] at *; simp; grind)).symm)
      · refine G_aload_r C dX2_latest_27 rfl ?_
        refine G_iload C dX2_latest_28 rfl ?_
        refine G_iload_n C dX2_latest_30 rfl ?_
        refine G_iload_n C dX2_latest_31 rfl ?_
        refine G_cVr3 C ok_X2_counts lk_X2_41 rfl rfl (c_X2_counts hj8) (Nat.le_of_ble_eq_true rfl) dX2_latest_32 ?_
        refine G_if_ne C 41 dX2_latest_35 (by decide) (fun h35 => ?_) (fun h35 => ?_)
        · rw [bl_z] at h35
          refine G_iload C dX2_latest_41 rfl ?_
          refine G_ldc C kc_X2_32 dX2_latest_43 ?_
          refine G_icmp_eq C 65 dX2_latest_45 (by decide) (fun h45 => ?_) (fun h45 => ?_)
          · rw [hbn] at h45
            refine G_iload C dX2_latest_65 rfl ?_
            refine G_istore C dX2_latest_67 (by decide) ?_
            refine G_iincN C dX2_latest_69 (by decide) rfl ?_
            refine G_goto C 7 dX2_latest_72 (by decide) ?_
            refine G_sub [(0, _), (1, _), (2, _), (3, _), (4, _), (5, _)] (by repeat (first | refine And.intro rfl ?_ | exact True.intro)) ?_
            exact ih (j + 1) (some j) (by omega) (by omega) (s_best_new (by simp only [xhold] at *; simp; grind) (hb.symm.trans h45)).symm
          · rw [hbn] at h45
            obtain ⟨q, rfl⟩ : ∃ q, b = some q := by cases b with | none => exact absurd rfl h45 | some q => exact ⟨q, rfl⟩
            have hq8 : q < 80 := by have := hbl q rfl; omega
            simp only [ixv]
            refine G_aload_r C dX2_latest_48 rfl ?_
            refine G_getR C fo_X2_18 rfl rfl dX2_latest_49 ?_
            refine G_iload C dX2_latest_52 rfl ?_
            refine G_ialdN C rfl (by assumption) (by decide) dX2_latest_54 ?_
            refine G_aload_r C dX2_latest_55 rfl ?_
            refine G_getR C fo_X2_18 rfl rfl dX2_latest_56 ?_
            refine G_iload C dX2_latest_59 rfl ?_
            refine G_ialdN C rfl (by assumption) (by decide) dX2_latest_61 ?_
            refine G_icmp_lt C 69 dX2_latest_62 (by decide) (fun h62 => ?_) (fun h62 => ?_)
            · refine G_iincN C dX2_latest_69 (by decide) rfl ?_
              refine G_goto C 7 dX2_latest_72 (by decide) ?_
              refine G_sub [(0, _), (1, _), (2, _), (3, _), (4, _), (5, _)] (by repeat (first | refine And.intro rfl ?_ | exact True.intro)) ?_
              exact ih (j + 1) (some q) (by omega) (by omega) (s_best_old hb.symm (by grind)).symm
            · refine G_iload C dX2_latest_65 rfl ?_
              refine G_istore C dX2_latest_67 (by decide) ?_
              refine G_iincN C dX2_latest_69 (by decide) rfl ?_
              refine G_goto C 7 dX2_latest_72 (by decide) ?_
              refine G_sub [(0, _), (1, _), (2, _), (3, _), (4, _), (5, _)] (by repeat (first | refine And.intro rfl ?_ | exact True.intro)) ?_
              exact ih (j + 1) (some j) (by omega) (by omega) (s_best_up (by simp only [xhold] at *; simp; grind) hb.symm (by grind)).symm
        · rw [bl_z] at h35
          refine G_goto C 69 dX2_latest_38 (by decide) ?_
          refine G_iincN C dX2_latest_69 (by decide) rfl ?_
          refine G_goto C 7 dX2_latest_72 (by decide) ?_
          refine G_sub [(0, _), (1, _), (2, _), (3, _), (4, _), (5, _)] (by repeat (first | refine And.intro rfl ?_ | exact True.intro)) ?_
          exact ih (j + 1) b (by omega) (by omega) (hb.trans (s_best_no (by simp only [xhold] at *; simp; grind)).symm)
set_option maxHeartbeats 4000000 in
set_option maxRecDepth 100000 in
theorem c_X2_latest {K : Kt} {d : Nat} {M : Mem} {n : Nat} {kd k w : Int32} (hn : M 1 5 = nI n) (h80 : n ≤ 80) : Ri K (d + 1) mX2_latest [rf K 1, .int kd, .int k, .int w] M (ixv (xbest M n kd k w)) M := by
  refine Ri_int RX2 [(0, rf K 1), (1, .int kd), (2, .int k), (3, .int w)] rfl (by decide) rfl (Nat.le_of_ble_eq_true rfl) rfl (fun x C => ?_)
  refine G_ldc C kc_X2_32 dX2_latest_0 ?_
  refine G_istore C dX2_latest_2 (by decide) ?_
  refine G_iconst C (nI 0) dX2_latest_4 (by decide) ?_
  refine G_istore C dX2_latest_5 (by decide) ?_
  refine G_sub [(0, _), (1, _), (2, _), (3, _), (4, _), (5, _)] (by repeat (first | refine And.intro rfl ?_ | exact True.intro)) ?_
  exact L_X2_latest hn h80 rfl C (n + 1) 0 none (by omega) (by omega) rfl
set_option maxHeartbeats 4000000 in
set_option maxRecDepth 100000 in
theorem L_X10_latest {K : Kt} {d : Nat} {M : Mem} {n : Nat} {kd k w : Int32} {x : Cx} {o : Option Nat} (hn : M 36 1 = nI n) (h80 : n ≤ 80) (ho : o = mbest M n kd k w) (C : Cok K x RX10 cX10_latest 6 (d + 1) (RI (fun v N => v = s_vlm (M 38) o ∧ N = M))) :
    ∀ (t j : Nat) (b : Option Nat), n < j + t → j ≤ n → b = mbest M j kd k w → G K x 6 6 [(0, rf K 36), (1, .int kd), (2, .int k), (3, .int w), (4, .int (ixm b)), (5, .int (nI j))] [] M := by
  intro t
  induction t with
  | zero => intro j b h1 h2; omega
  | succ t ih =>
    intro j b h1 h2 hb
    have hj : j ≤ 80 := by omega
    have hbl : ∀ q, b = some q → q < j := fun q hq => s_best_lt (hb.symm.trans hq)
    have hbn : ixm b < 0 ↔ b = none := ixm_neg (fun q hq => by have := hbl q hq; omega)
    refine G_iload C dX10_latest_6 rfl ?_
    refine G_aload_r C dX10_latest_8 rfl ?_
    refine G_getI C fo_X10_107 rfl rfl dX10_latest_9 ?_
    refine G_icmp_ge C 69 dX10_latest_12 (by decide) (fun h12 => ?_) (fun h12 => ?_)
    · have hE : j = n := by have := n_le hn h80 hj (by decide) h12; omega
      refine G_iload C dX10_latest_69 rfl ?_
      refine G_if_ge C 78 dX10_latest_71 (by decide) (fun h71 => ?_) (fun h71 => ?_)
      · have hbn2 := hbn
        obtain ⟨q, rfl⟩ : ∃ q, b = some q := by cases b with | none => exact absurd h71 (by decide) | some q => exact ⟨q, rfl⟩
        have hq8 : q < 80 := by have := hbl q rfl; omega
        simp only [ixm]
        refine G_aload_r C dX10_latest_78 rfl ?_
        refine G_getR C fo_X10_13 rfl rfl dX10_latest_79 ?_
        refine G_iload C dX10_latest_82 rfl ?_
        refine G_ialdN C rfl (by assumption) (by decide) dX10_latest_84 ?_
        exact G_retR C dX10_latest_85 (by rw [ho, ← hE, ← hb]; rfl) rfl
      · have hbn2 := hbn
        have hb0 : b = none := hbn.mp (by grind)
        subst hb0
        refine G_iconst C (-1) dX10_latest_74 (by decide) ?_
        refine G_goto C 85 dX10_latest_75 (by decide) ?_
        exact G_retR C dX10_latest_85 (by rw [ho, ← hE, ← hb]; rfl) rfl
    · have hlt : j < n := n_gt hn h80 hj (by decide) h12
      have hj8 : j < 80 := by omega
      refine G_aload_r C dX10_latest_15 rfl ?_
      refine G_getR C fo_X10_7 rfl rfl dX10_latest_16 ?_
      refine G_iload C dX10_latest_19 rfl ?_
      refine G_ialdN C rfl (by assumption) (by decide) dX10_latest_21 ?_
      refine G_iload_n C dX10_latest_22 rfl ?_
      refine G_icmp_ne C 63 dX10_latest_23 (by decide) (fun h23 => ?_) (fun h23 => ?_)
      · refine G_iincN C dX10_latest_63 (by decide) rfl ?_
        refine G_goto C 6 dX10_latest_66 (by decide) ?_
        refine G_sub [(0, _), (1, _), (2, _), (3, _), (4, _), (5, _)] (by repeat (first | refine And.intro rfl ?_ | exact True.intro)) ?_
        exact ih (j + 1) b (by omega) (by omega) (hb.trans (s_best_no (by simp only [mhold] at *; simp; grind)).symm)
      · refine G_aload_r C dX10_latest_26 rfl ?_
        refine G_iload C dX10_latest_27 rfl ?_
        refine G_iload_n C dX10_latest_29 rfl ?_
        refine G_iload_n C dX10_latest_30 rfl ?_
        refine G_cVr3 C ok_X10_holds lk_X10_116 rfl rfl (c_X10_holds hj8) (Nat.le_of_ble_eq_true rfl) dX10_latest_31 ?_
        refine G_if_eq C 63 dX10_latest_34 (by decide) (fun h34 => ?_) (fun h34 => ?_)
        · rw [bl_z] at h34
          refine G_iincN C dX10_latest_63 (by decide) rfl ?_
          refine G_goto C 6 dX10_latest_66 (by decide) ?_
          refine G_sub [(0, _), (1, _), (2, _), (3, _), (4, _), (5, _)] (by repeat (first | refine And.intro rfl ?_ | exact True.intro)) ?_
          exact ih (j + 1) b (by omega) (by omega) (hb.trans (s_best_no (by simp only [mhold] at *; simp; grind)).symm)
        · rw [bl_z] at h34
          refine G_iload C dX10_latest_37 rfl ?_
          refine G_if_lt C 59 dX10_latest_39 (by decide) (fun h39 => ?_) (fun h39 => ?_)
          · rw [hbn] at h39
            refine G_iload C dX10_latest_59 rfl ?_
            refine G_istore C dX10_latest_61 (by decide) ?_
            refine G_iincN C dX10_latest_63 (by decide) rfl ?_
            refine G_goto C 6 dX10_latest_66 (by decide) ?_
            refine G_sub [(0, _), (1, _), (2, _), (3, _), (4, _), (5, _)] (by repeat (first | refine And.intro rfl ?_ | exact True.intro)) ?_
            exact ih (j + 1) (some j) (by omega) (by omega) (s_best_new (by simp only [mhold] at *; simp; grind) (hb.symm.trans h39)).symm
          · rw [hbn] at h39
            obtain ⟨q, rfl⟩ : ∃ q, b = some q := by cases b with | none => exact absurd rfl h39 | some q => exact ⟨q, rfl⟩
            have hq8 : q < 80 := by have := hbl q rfl; omega
            simp only [ixm]
            refine G_aload_r C dX10_latest_42 rfl ?_
            refine G_getR C fo_X10_16 rfl rfl dX10_latest_43 ?_
            refine G_iload C dX10_latest_46 rfl ?_
            refine G_ialdN C rfl (by assumption) (by decide) dX10_latest_48 ?_
            refine G_aload_r C dX10_latest_49 rfl ?_
            refine G_getR C fo_X10_16 rfl rfl dX10_latest_50 ?_
            refine G_iload C dX10_latest_53 rfl ?_
            refine G_ialdN C rfl (by assumption) (by decide) dX10_latest_55 ?_
            refine G_icmp_lt C 63 dX10_latest_56 (by decide) (fun h56 => ?_) (fun h56 => ?_)
            · refine G_iincN C dX10_latest_63 (by decide) rfl ?_
              refine G_goto C 6 dX10_latest_66 (by decide) ?_
              refine G_sub [(0, _), (1, _), (2, _), (3, _), (4, _), (5, _)] (by repeat (first | refine And.intro rfl ?_ | exact True.intro)) ?_
              exact ih (j + 1) (some q) (by omega) (by omega) (s_best_old hb.symm (by grind)).symm
            · refine G_iload C dX10_latest_59 rfl ?_
              refine G_istore C dX10_latest_61 (by decide) ?_
              refine G_iincN C dX10_latest_63 (by decide) rfl ?_
              refine G_goto C 6 dX10_latest_66 (by decide) ?_
              refine G_sub [(0, _), (1, _), (2, _), (3, _), (4, _), (5, _)] (by repeat (first | refine And.intro rfl ?_ | exact True.intro)) ?_
              exact ih (j + 1) (some j) (by omega) (by omega) (s_best_up (by simp only [mhold] at *; simp; grind) hb.symm (by grind)).symm
set_option maxHeartbeats 4000000 in
set_option maxRecDepth 100000 in
theorem c_X10_latest {K : Kt} {d : Nat} {M : Mem} {n : Nat} {kd k w : Int32} (hn : M 36 1 = nI n) (h80 : n ≤ 80) : Ri K (d + 1) mX10_latest [rf K 36, .int kd, .int k, .int w] M (s_vlm (M 38) (mbest M n kd k w)) M := by
  refine Ri_int RX10 [(0, rf K 36), (1, .int kd), (2, .int k), (3, .int w)] rfl (by decide) rfl (Nat.le_of_ble_eq_true rfl) rfl (fun x C => ?_)
  refine G_iconst C (-1) dX10_latest_0 (by decide) ?_
  refine G_istore C dX10_latest_1 (by decide) ?_
  refine G_iconst C (nI 0) dX10_latest_3 (by decide) ?_
  refine G_istore C dX10_latest_4 (by decide) ?_
  refine G_sub [(0, _), (1, _), (2, _), (3, _), (4, _), (5, _)] (by repeat (first | refine And.intro rfl ?_ | exact True.intro)) ?_
  exact L_X10_latest hn h80 rfl C (n + 1) 0 none (by omega) (by omega) rfl
set_option maxHeartbeats 4000000 in
set_option maxRecDepth 100000 in
theorem c_X2_incomeAt {K : Kt} {d : Nat} {M : Mem} {n : Nat} {k w : Int32} (hn : M 1 5 = nI n) (h80 : n ≤ 80) : Ri K (d + 2) mX2_incomeAt [rf K 1, .int k, .int w] M (s_inc (M 3) (xbest M n 3 k w) (xbest M n 1 k w)) M := by
  refine Ri_int RX2 [(0, rf K 1), (1, .int k), (2, .int w)] rfl (by decide) rfl (Nat.le_of_ble_eq_true rfl) rfl (fun x C => ?_)
  refine G_aload_r C dX2_incomeAt_0 rfl ?_
  refine G_iconst C (3) dX2_incomeAt_1 (by decide) ?_
  refine G_iload_n C dX2_incomeAt_2 rfl ?_
  refine G_iload_n C dX2_incomeAt_3 rfl ?_
  refine G_cVr3 C ok_X2_latest lk_X2_37 rfl rfl (c_X2_latest hn h80) (Nat.le_of_ble_eq_true rfl) dX2_incomeAt_4 ?_
  generalize hb3 : xbest M n 3 k w = b3
  have hlb3 : ∀ q, b3 = some q → q < n := fun q hq => s_best_lt (hb3.trans hq)
  have hnb3 : ixv b3 = -2000000005 ↔ b3 = none := ixv_none (fun q hq => by have := hlb3 q hq; omega)
  refine G_istore_n C dX2_incomeAt_7 (by decide) ?_
  refine G_iload_n C dX2_incomeAt_8 rfl ?_
  refine G_ldc C kc_X2_32 dX2_incomeAt_9 ?_
  refine G_icmp_ne C 22 dX2_incomeAt_11 (by decide) (fun h11 => ?_) (fun h11 => ?_)
  · rw [hnb3] at h11
    refine G_iload_n C dX2_incomeAt_22 rfl ?_
    refine G_ldc C kc_X2_32 dX2_incomeAt_23 ?_
    refine G_icmp_ne C 32 dX2_incomeAt_25 (by decide) (fun h25 => ?_) (fun h25 => ?_)
    · rw [hnb3] at h25
      obtain ⟨q, rfl⟩ : ∃ q, b3 = some q := by cases b3 with | none => exact absurd rfl h25 | some q => exact ⟨q, rfl⟩
      have hq8 : q < 80 := by have := hlb3 q rfl; omega
      simp only [ixv]
      refine G_aload_r C dX2_incomeAt_32 rfl ?_
      refine G_getR C fo_X2_15 rfl rfl dX2_incomeAt_33 ?_
      refine G_iload_n C dX2_incomeAt_36 rfl ?_
      refine G_ialdN C rfl (by assumption) (by decide) dX2_incomeAt_37 ?_
      exact G_retR C dX2_incomeAt_38 (by simp only [s_inc, *]) rfl
    · exact absurd (hnb3.mp h25) h11
  · rw [hnb3] at h11
    refine G_aload_r C dX2_incomeAt_14 rfl ?_
    refine G_iconst C (1) dX2_incomeAt_15 (by decide) ?_
    refine G_iload_n C dX2_incomeAt_16 rfl ?_
    refine G_iload_n C dX2_incomeAt_17 rfl ?_
    refine G_cVr3 C ok_X2_latest lk_X2_37 rfl rfl (c_X2_latest hn h80) (Nat.le_of_ble_eq_true rfl) dX2_incomeAt_18 ?_
    generalize hb1 : xbest M n 1 k w = b1
    have hlb1 : ∀ q, b1 = some q → q < n := fun q hq => s_best_lt (hb1.trans hq)
    have hnb1 : ixv b1 = -2000000005 ↔ b1 = none := ixv_none (fun q hq => by have := hlb1 q hq; omega)
    refine G_istore_n C dX2_incomeAt_21 (by decide) ?_
    refine G_iload_n C dX2_incomeAt_22 rfl ?_
    refine G_ldc C kc_X2_32 dX2_incomeAt_23 ?_
    refine G_icmp_ne C 32 dX2_incomeAt_25 (by decide) (fun h25 => ?_) (fun h25 => ?_)
    · rw [hnb1] at h25
      obtain ⟨q, rfl⟩ : ∃ q, b1 = some q := by cases b1 with | none => exact absurd rfl h25 | some q => exact ⟨q, rfl⟩
      have hq8 : q < 80 := by have := hlb1 q rfl; omega
      simp only [ixv]
      refine G_aload_r C dX2_incomeAt_32 rfl ?_
      refine G_getR C fo_X2_15 rfl rfl dX2_incomeAt_33 ?_
      refine G_iload_n C dX2_incomeAt_36 rfl ?_
      refine G_ialdN C rfl (by assumption) (by decide) dX2_incomeAt_37 ?_
      exact G_retR C dX2_incomeAt_38 (by simp only [s_inc, *]) rfl
    · rw [hnb1] at h25
      refine G_iconst C (0) dX2_incomeAt_28 (by decide) ?_
      refine G_goto C 38 dX2_incomeAt_29 (by decide) ?_
      exact G_retR C dX2_incomeAt_38 (by simp only [s_inc, *]) rfl
set_option maxHeartbeats 4000000 in
set_option maxRecDepth 100000 in
theorem c_X2_othersAt {K : Kt} {d : Nat} {M : Mem} {n : Nat} {k w : Int32} (hn : M 1 5 = nI n) (h80 : n ≤ 80) : Ri K (d + 2) mX2_othersAt [rf K 1, .int k, .int w] M (s_oth (M 3) (xbest M n 0 k w)) M := by
  refine Ri_int RX2 [(0, rf K 1), (1, .int k), (2, .int w)] rfl (by decide) rfl (Nat.le_of_ble_eq_true rfl) rfl (fun x C => ?_)
  refine G_aload_r C dX2_othersAt_0 rfl ?_
  refine G_iconst C (0) dX2_othersAt_1 (by decide) ?_
  refine G_iload_n C dX2_othersAt_2 rfl ?_
  refine G_iload_n C dX2_othersAt_3 rfl ?_
  refine G_cVr3 C ok_X2_latest lk_X2_37 rfl rfl (c_X2_latest hn h80) (Nat.le_of_ble_eq_true rfl) dX2_othersAt_4 ?_
  generalize hb0 : xbest M n 0 k w = b0
  have hlb0 : ∀ q, b0 = some q → q < n := fun q hq => s_best_lt (hb0.trans hq)
  have hnb0 : ixv b0 = -2000000005 ↔ b0 = none := ixv_none (fun q hq => by have := hlb0 q hq; omega)
  refine G_istore_n C dX2_othersAt_7 (by decide) ?_
  refine G_iload_n C dX2_othersAt_8 rfl ?_
  refine G_ldc C kc_X2_32 dX2_othersAt_9 ?_
  refine G_icmp_ne C 18 dX2_othersAt_11 (by decide) (fun h11 => ?_) (fun h11 => ?_)
  · rw [hnb0] at h11
    obtain ⟨q, rfl⟩ : ∃ q, b0 = some q := by cases b0 with | none => exact absurd rfl h11 | some q => exact ⟨q, rfl⟩
    have hq8 : q < 80 := by have := hlb0 q rfl; omega
    simp only [ixv]
    refine G_aload_r C dX2_othersAt_18 rfl ?_
    refine G_getR C fo_X2_15 rfl rfl dX2_othersAt_19 ?_
    refine G_iload_n C dX2_othersAt_22 rfl ?_
    refine G_ialdN C rfl (by assumption) (by decide) dX2_othersAt_23 ?_
    exact G_retR C dX2_othersAt_24 (by simp only [s_oth, *]) rfl
  · rw [hnb0] at h11
    refine G_iconst C (0) dX2_othersAt_14 (by decide) ?_
    refine G_goto C 24 dX2_othersAt_15 (by decide) ?_
    exact G_retR C dX2_othersAt_24 (by simp only [s_oth, *]) rfl
theorem vlm_neg {val : Nat → Int32} {b : Option Nat} (h : ∀ q, b = some q → 0 ≤ val q) : s_vlm val b < 0 ↔ b = none := by
  cases b with
  | none => simp [s_vlm]
  | some q =>
    have := h q rfl
    simp only [s_vlm]
    constructor
    · intro h2; grind
    · intro h2; cases h2
theorem mbest_val {M : Mem} {n : Nat} {kd k w : Int32} (hk : kd ≠ 2) (hv : ∀ i, i < n → M 37 i ≠ 2 → 0 ≤ M 38 i) : ∀ q, mbest M n kd k w = some q → 0 ≤ M 38 q := fun q hq => by
  have h1 := s_best_lt hq
  have h2 := s_best_p hq
  simp at h2
  exact hv q h1 (by rw [h2.1]; exact hk)
set_option maxHeartbeats 4000000 in
set_option maxRecDepth 100000 in
theorem c_X10_income {K : Kt} {d : Nat} {M : Mem} {n : Nat} {k w : Int32} (hn : M 36 1 = nI n) (h80 : n ≤ 80) (hv : ∀ i, i < n → M 37 i ≠ 2 → 0 ≤ M 38 i) : Ri K (d + 2) mX10_income [rf K 36, .int k, .int w] M (s_inc (M 38) (mbest M n 3 k w) (mbest M n 1 k w)) M := by
  refine Ri_int RX10 [(0, rf K 36), (1, .int k), (2, .int w)] rfl (by decide) rfl (Nat.le_of_ble_eq_true rfl) rfl (fun x C => ?_)
  have hn3 := vlm_neg (mbest_val (M := M) (n := n) (kd := 3) (k := k) (w := w) (by decide) hv)
  have hn1 := vlm_neg (mbest_val (M := M) (n := n) (kd := 1) (k := k) (w := w) (by decide) hv)
  refine G_aload_r C dX10_income_0 rfl ?_
  refine G_iconst C (3) dX10_income_1 (by decide) ?_
  refine G_iload_n C dX10_income_2 rfl ?_
  refine G_iload_n C dX10_income_3 rfl ?_
  refine G_cVr3 C ok_X10_latest lk_X10_119 rfl rfl (c_X10_latest hn h80) (Nat.le_of_ble_eq_true rfl) dX10_income_4 ?_
  refine G_istore_n C dX10_income_7 (by decide) ?_
  refine G_iload_n C dX10_income_8 rfl ?_
  refine G_if_ge C 22 dX10_income_9 (by decide) (fun h9 => ?_) (fun h9 => ?_)
  · have h9b : mbest M n 3 k w = none ↔ ¬ 0 ≤ s_vlm (M 38) (mbest M n 3 k w) := by rw [← hn3]; grind
    refine G_iload_n C dX10_income_22 rfl ?_
    refine G_istore_n C dX10_income_23 (by decide) ?_
    refine G_iload_n C dX10_income_24 rfl ?_
    refine G_if_ge C 32 dX10_income_25 (by decide) (fun h25 => ?_) (fun h25 => ?_)
    · refine G_iload_n C dX10_income_32 rfl ?_
      exact G_retR C dX10_income_33 (by cases e3 : mbest M n 3 k w <;> cases e1 : mbest M n 1 k w <;> simp_all [s_inc, s_vlm]) rfl
    · exact absurd h9 h25
  · have h9b : mbest M n 3 k w = none ↔ ¬ 0 ≤ s_vlm (M 38) (mbest M n 3 k w) := by rw [← hn3]; grind
    refine G_aload_r C dX10_income_12 rfl ?_
    refine G_iconst C (1) dX10_income_13 (by decide) ?_
    refine G_iload_n C dX10_income_14 rfl ?_
    refine G_iload_n C dX10_income_15 rfl ?_
    refine G_cVr3 C ok_X10_latest lk_X10_119 rfl rfl (c_X10_latest hn h80) (Nat.le_of_ble_eq_true rfl) dX10_income_16 ?_
    refine G_goto C 23 dX10_income_19 (by decide) ?_
    refine G_istore_n C dX10_income_23 (by decide) ?_
    refine G_iload_n C dX10_income_24 rfl ?_
    refine G_if_ge C 32 dX10_income_25 (by decide) (fun h25 => ?_) (fun h25 => ?_)
    · have h25b : mbest M n 1 k w = none ↔ ¬ 0 ≤ s_vlm (M 38) (mbest M n 1 k w) := by rw [← hn1]; grind
      refine G_iload_n C dX10_income_32 rfl ?_
      exact G_retR C dX10_income_33 (by cases e3 : mbest M n 3 k w <;> cases e1 : mbest M n 1 k w <;> simp_all [s_inc, s_vlm]) rfl
    · have h25b : mbest M n 1 k w = none ↔ ¬ 0 ≤ s_vlm (M 38) (mbest M n 1 k w) := by rw [← hn1]; grind
      refine G_iconst C (0) dX10_income_28 (by decide) ?_
      refine G_goto C 33 dX10_income_29 (by decide) ?_
      exact G_retR C dX10_income_33 (by cases e3 : mbest M n 3 k w <;> cases e1 : mbest M n 1 k w <;> simp_all [s_inc, s_vlm]) rfl
set_option maxHeartbeats 4000000 in
set_option maxRecDepth 100000 in
theorem c_X10_others {K : Kt} {d : Nat} {M : Mem} {n : Nat} {k w : Int32} (hn : M 36 1 = nI n) (h80 : n ≤ 80) (hv : ∀ i, i < n → M 37 i ≠ 2 → 0 ≤ M 38 i) : Ri K (d + 2) mX10_others [rf K 36, .int k, .int w] M (s_oth (M 38) (mbest M n 0 k w)) M := by
  refine Ri_int RX10 [(0, rf K 36), (1, .int k), (2, .int w)] rfl (by decide) rfl (Nat.le_of_ble_eq_true rfl) rfl (fun x C => ?_)
  have hn0 := vlm_neg (mbest_val (M := M) (n := n) (kd := 0) (k := k) (w := w) (by decide) hv)
  refine G_aload_r C dX10_others_0 rfl ?_
  refine G_iconst C (0) dX10_others_1 (by decide) ?_
  refine G_iload_n C dX10_others_2 rfl ?_
  refine G_iload_n C dX10_others_3 rfl ?_
  refine G_cVr3 C ok_X10_latest lk_X10_119 rfl rfl (c_X10_latest hn h80) (Nat.le_of_ble_eq_true rfl) dX10_others_4 ?_
  refine G_istore_n C dX10_others_7 (by decide) ?_
  refine G_iload_n C dX10_others_8 rfl ?_
  refine G_if_ge C 16 dX10_others_9 (by decide) (fun h9 => ?_) (fun h9 => ?_)
  · have h9b : mbest M n 0 k w = none ↔ ¬ 0 ≤ s_vlm (M 38) (mbest M n 0 k w) := by rw [← hn0]; grind
    refine G_iload_n C dX10_others_16 rfl ?_
    exact G_retR C dX10_others_17 (by cases e0 : mbest M n 0 k w <;> simp_all [s_oth, s_vlm]) rfl
  · have h9b : mbest M n 0 k w = none ↔ ¬ 0 ≤ s_vlm (M 38) (mbest M n 0 k w) := by rw [← hn0]; grind
    refine G_iconst C (0) dX10_others_12 (by decide) ?_
    refine G_goto C 17 dX10_others_13 (by decide) ?_
    exact G_retR C dX10_others_17 (by cases e0 : mbest M n 0 k w <;> simp_all [s_oth, s_vlm]) rfl
set_option maxHeartbeats 4000000 in
set_option maxRecDepth 100000 in
theorem L_X2_childrenAt {K : Kt} {d : Nat} {M : Mem} {n : Nat} {k w : Int32} {x : Cx} {o : Int32} (hn : M 1 5 = nI n) (h80 : n ≤ 80) (ho : o = s_kid (xkids M n k w)) (C : Cok K x RX2 cX2_childrenAt 5 (d + 1) (RI (fun v N => v = o ∧ N = M))) :
    ∀ (t j : Nat) (b : Int32), n < j + t → j ≤ n → b = xkids M j k w → G K x 5 5 [(0, rf K 1), (1, .int k), (2, .int w), (3, .int b), (4, .int (nI j))] [] M := by
  intro t
  induction t with
  | zero => intro j b h1 h2; omega
  | succ t ih =>
    intro j b h1 h2 hb
    have hj : j ≤ 80 := by omega
    refine G_iload C dX2_childrenAt_5 rfl ?_
    refine G_aload_r C dX2_childrenAt_7 rfl ?_
    refine G_getI C fo_X2_28 rfl rfl dX2_childrenAt_8 ?_
    refine G_icmp_ge C 52 dX2_childrenAt_11 (by decide) (fun h11 => ?_) (fun h11 => ?_)
    · have hE : j = n := by have := n_le hn h80 hj (by decide) h11; omega
      refine G_iconst C (0) dX2_childrenAt_52 (by decide) ?_
      refine G_iconst C (4) dX2_childrenAt_53 (by decide) ?_
      refine G_iload_n C dX2_childrenAt_54 rfl ?_
      refine G_mmin C lk_X2_45 ms_min mi_math mc_min (Nat.le_of_ble_eq_true rfl) dX2_childrenAt_55 ?_
      refine G_mmax C lk_X2_51 ms_max mi_math mc_max (Nat.le_of_ble_eq_true rfl) dX2_childrenAt_58 ?_
      exact G_retR C dX2_childrenAt_61 (by rw [ho, ← hE, ← hb]; simp only [s_kid]; grind) rfl
    · have hlt : j < n := n_gt hn h80 hj (by decide) h11
      have hj8 : j < 80 := by omega
      refine G_aload_r C dX2_childrenAt_14 rfl ?_
      refine G_getR C fo_X2_9 rfl rfl dX2_childrenAt_15 ?_
      refine G_iload C dX2_childrenAt_18 rfl ?_
      refine G_ialdN C rfl (by assumption) (by decide) dX2_childrenAt_20 ?_
      refine G_iconst C (2) dX2_childrenAt_21 (by decide) ?_
      refine G_icmp_ne C 46 dX2_childrenAt_22 (by decide) (fun h22 => ?_) (fun h22 => ?_)
      · refine G_iincN C dX2_childrenAt_46 (by decide) rfl ?_
        refine G_goto C 5 dX2_childrenAt_49 (by decide) ?_
        refine G_sub [(0, _), (1, _), (2, _), (3, _), (4, _)] (by repeat (first | refine And.intro rfl ?_ | exact True.intro)) ?_
        exact ih (j + 1) _ (by omega) (by omega) (hb.trans (s_sum_f (by simp only [xhold] at *; simp; grind)).symm)
      · refine G_aload_r C dX2_childrenAt_25 rfl ?_
        refine G_iload C dX2_childrenAt_26 rfl ?_
        refine G_iload_n C dX2_childrenAt_28 rfl ?_
        refine G_iload_n C dX2_childrenAt_29 rfl ?_
        refine G_cVr3 C ok_X2_counts lk_X2_41 rfl rfl (c_X2_counts hj8) (Nat.le_of_ble_eq_true rfl) dX2_childrenAt_30 ?_
        refine G_if_eq C 46 dX2_childrenAt_33 (by decide) (fun h33 => ?_) (fun h33 => ?_)
        · rw [bl_z] at h33
          refine G_iincN C dX2_childrenAt_46 (by decide) rfl ?_
          refine G_goto C 5 dX2_childrenAt_49 (by decide) ?_
          refine G_sub [(0, _), (1, _), (2, _), (3, _), (4, _)] (by repeat (first | refine And.intro rfl ?_ | exact True.intro)) ?_
          exact ih (j + 1) _ (by omega) (by omega) (hb.trans (s_sum_f (by simp only [xhold] at *; simp; grind)).symm)
        · rw [bl_z] at h33
          refine G_iload_n C dX2_childrenAt_36 rfl ?_
          refine G_aload_r C dX2_childrenAt_37 rfl ?_
          refine G_getR C fo_X2_15 rfl rfl dX2_childrenAt_38 ?_
          refine G_iload C dX2_childrenAt_41 rfl ?_
          refine G_ialdN C rfl (by assumption) (by decide) dX2_childrenAt_43 ?_
          refine G_iadd C dX2_childrenAt_44 ?_
          refine G_istore_n C dX2_childrenAt_45 (by decide) ?_
          refine G_iincN C dX2_childrenAt_46 (by decide) rfl ?_
          refine G_goto C 5 dX2_childrenAt_49 (by decide) ?_
          refine G_sub [(0, _), (1, _), (2, _), (3, _), (4, _)] (by repeat (first | refine And.intro rfl ?_ | exact True.intro)) ?_
          exact ih (j + 1) _ (by omega) (by omega) ((by rw [hb]; rfl : _ = _).trans (s_sum_t (by simp only [xhold] at *; simp; grind)).symm)
set_option maxHeartbeats 4000000 in
set_option maxRecDepth 100000 in
theorem c_X2_childrenAt {K : Kt} {d : Nat} {M : Mem} {n : Nat} {k w : Int32} (hn : M 1 5 = nI n) (h80 : n ≤ 80) : Ri K (d + 1) mX2_childrenAt [rf K 1, .int k, .int w] M (s_kid (xkids M n k w)) M := by
  refine Ri_int RX2 [(0, rf K 1), (1, .int k), (2, .int w)] rfl (by decide) rfl (Nat.le_of_ble_eq_true rfl) rfl (fun x C => ?_)
  refine G_iconst C (0) dX2_childrenAt_0 (by decide) ?_
  refine G_istore_n C dX2_childrenAt_1 (by decide) ?_
  refine G_iconst C (nI 0) dX2_childrenAt_2 (by decide) ?_
  refine G_istore C dX2_childrenAt_3 (by decide) ?_
  refine G_sub [(0, _), (1, _), (2, _), (3, _), (4, _)] (by repeat (first | refine And.intro rfl ?_ | exact True.intro)) ?_
  exact L_X2_childrenAt hn h80 rfl C (n + 1) 0 0 (by omega) (by omega) rfl
set_option maxHeartbeats 4000000 in
set_option maxRecDepth 100000 in
theorem L_X10_children {K : Kt} {d : Nat} {M : Mem} {n : Nat} {k w : Int32} {x : Cx} {o : Int32} (hn : M 36 1 = nI n) (h80 : n ≤ 80) (ho : o = s_kid (mkids M n k w)) (C : Cok K x RX10 cX10_children 5 (d + 1) (RI (fun v N => v = o ∧ N = M))) :
    ∀ (t j : Nat) (b : Int32), n < j + t → j ≤ n → b = mkids M j k w → G K x 5 5 [(0, rf K 36), (1, .int k), (2, .int w), (3, .int b), (4, .int (nI j))] [] M := by
  intro t
  induction t with
  | zero => intro j b h1 h2; omega
  | succ t ih =>
    intro j b h1 h2 hb
    have hj : j ≤ 80 := by omega
    refine G_iload C dX10_children_5 rfl ?_
    refine G_aload_r C dX10_children_7 rfl ?_
    refine G_getI C fo_X10_107 rfl rfl dX10_children_8 ?_
    refine G_icmp_ge C 56 dX10_children_11 (by decide) (fun h11 => ?_) (fun h11 => ?_)
    · have hE : j = n := by have := n_le hn h80 hj (by decide) h11; omega
      refine G_iload_n C dX10_children_56 rfl ?_
      refine G_if_ge C 64 dX10_children_57 (by decide) (fun h57 => ?_) (fun h57 => ?_)
      · refine G_iload_n C dX10_children_64 rfl ?_
        refine G_iconst C (4) dX10_children_65 (by decide) ?_
        refine G_icmp_le C 73 dX10_children_66 (by decide) (fun h66 => ?_) (fun h66 => ?_)
        · refine G_iload_n C dX10_children_73 rfl ?_
          exact G_retR C dX10_children_74 (by rw [ho, ← hE, ← hb]; simp only [s_kid]; grind) rfl
        · refine G_iconst C (4) dX10_children_69 (by decide) ?_
          refine G_goto C 74 dX10_children_70 (by decide) ?_
          exact G_retR C dX10_children_74 (by rw [ho, ← hE, ← hb]; simp only [s_kid]; grind) rfl
      · refine G_iconst C (0) dX10_children_60 (by decide) ?_
        refine G_goto C 74 dX10_children_61 (by decide) ?_
        exact G_retR C dX10_children_74 (by rw [ho, ← hE, ← hb]; simp only [s_kid]; grind) rfl
    · have hlt : j < n := n_gt hn h80 hj (by decide) h11
      have hj8 : j < 80 := by omega
      refine G_iload_n C dX10_children_14 rfl ?_
      refine G_aload_r C dX10_children_15 rfl ?_
      refine G_getR C fo_X10_7 rfl rfl dX10_children_16 ?_
      refine G_iload C dX10_children_19 rfl ?_
      refine G_ialdN C rfl (by assumption) (by decide) dX10_children_21 ?_
      refine G_iconst C (2) dX10_children_22 (by decide) ?_
      refine G_icmp_ne C 47 dX10_children_23 (by decide) (fun h23 => ?_) (fun h23 => ?_)
      · refine G_iconst C (0) dX10_children_47 (by decide) ?_
        refine G_iadd C dX10_children_48 ?_
        refine G_istore_n C dX10_children_49 (by decide) ?_
        refine G_iincN C dX10_children_50 (by decide) rfl ?_
        refine G_goto C 5 dX10_children_53 (by decide) ?_
        refine G_sub [(0, _), (1, _), (2, _), (3, _), (4, _)] (by repeat (first | refine And.intro rfl ?_ | exact True.intro)) ?_
        exact ih (j + 1) _ (by omega) (by omega) ((by simp [hb]; rfl : _ = _).trans (s_sum_f (by simp only [mhold] at *; simp; grind)).symm)
      · refine G_aload_r C dX10_children_26 rfl ?_
        refine G_iload C dX10_children_27 rfl ?_
        refine G_iload_n C dX10_children_29 rfl ?_
        refine G_iload_n C dX10_children_30 rfl ?_
        refine G_cVr3 C ok_X10_holds lk_X10_116 rfl rfl (c_X10_holds hj8) (Nat.le_of_ble_eq_true rfl) dX10_children_31 ?_
        refine G_if_eq C 47 dX10_children_34 (by decide) (fun h34 => ?_) (fun h34 => ?_)
        · rw [bl_z] at h34
          refine G_iconst C (0) dX10_children_47 (by decide) ?_
          refine G_iadd C dX10_children_48 ?_
          refine G_istore_n C dX10_children_49 (by decide) ?_
          refine G_iincN C dX10_children_50 (by decide) rfl ?_
          refine G_goto C 5 dX10_children_53 (by decide) ?_
          refine G_sub [(0, _), (1, _), (2, _), (3, _), (4, _)] (by repeat (first | refine And.intro rfl ?_ | exact True.intro)) ?_
          exact ih (j + 1) _ (by omega) (by omega) ((by simp [hb]; rfl : _ = _).trans (s_sum_f (by simp only [mhold] at *; simp; grind)).symm)
        · rw [bl_z] at h34
          refine G_aload_r C dX10_children_37 rfl ?_
          refine G_getR C fo_X10_13 rfl rfl dX10_children_38 ?_
          refine G_iload C dX10_children_41 rfl ?_
          refine G_ialdN C rfl (by assumption) (by decide) dX10_children_43 ?_
          refine G_goto C 48 dX10_children_44 (by decide) ?_
          refine G_iadd C dX10_children_48 ?_
          refine G_istore_n C dX10_children_49 (by decide) ?_
          refine G_iincN C dX10_children_50 (by decide) rfl ?_
          refine G_goto C 5 dX10_children_53 (by decide) ?_
          refine G_sub [(0, _), (1, _), (2, _), (3, _), (4, _)] (by repeat (first | refine And.intro rfl ?_ | exact True.intro)) ?_
          exact ih (j + 1) _ (by omega) (by omega) ((by rw [hb]; rfl : _ = _).trans (s_sum_t (by simp only [mhold] at *; simp; grind)).symm)
set_option maxHeartbeats 4000000 in
set_option maxRecDepth 100000 in
theorem c_X10_children {K : Kt} {d : Nat} {M : Mem} {n : Nat} {k w : Int32} (hn : M 36 1 = nI n) (h80 : n ≤ 80) : Ri K (d + 1) mX10_children [rf K 36, .int k, .int w] M (s_kid (mkids M n k w)) M := by
  refine Ri_int RX10 [(0, rf K 36), (1, .int k), (2, .int w)] rfl (by decide) rfl (Nat.le_of_ble_eq_true rfl) rfl (fun x C => ?_)
  refine G_iconst C (0) dX10_children_0 (by decide) ?_
  refine G_istore_n C dX10_children_1 (by decide) ?_
  refine G_iconst C (nI 0) dX10_children_2 (by decide) ?_
  refine G_istore C dX10_children_3 (by decide) ?_
  refine G_sub [(0, _), (1, _), (2, _), (3, _), (4, _)] (by repeat (first | refine And.intro rfl ?_ | exact True.intro)) ?_
  exact L_X10_children hn h80 rfl C (n + 1) 0 0 (by omega) (by omega) rfl
