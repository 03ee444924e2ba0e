def otold (sz : Int32) (pl : Nat → Int32) (w : Nat) : Option Int32 := if nI w < sz ∧ 0 ≤ pl w ∧ pl w ≤ 7 then some (pl w) else none
def ov (o : Option Int32) : Int32 := o.getD (-2000000005)
def om (o : Option Int32) : Int32 := o.getD (-1)
def s_end (s a b : Option Int32) (g : Bool) : Int32 := match s with
  | some v => v
  | none => match a, b with
    | none, none => 0
    | none, some y => y
    | some x, none => x
    | some x, some y => bif g then (if x < y then y else x) else (if y < x then y else x)
def xsch (M : Mem) (w : Nat) : Option Int32 := if M 27 w = -2000000005 then none else some (M 27 w)
def msch (M : Mem) (w : Nat) : Option Int32 := if M 42 w < 0 then none else some (M 42 w)
def xtold (M : Mem) (s w : Nat) : Option Int32 := otold (M (23 + s) 1) (M (25 + s)) w
def mtold (M : Mem) (s w : Nat) : Option Int32 := otold (M 56 s) (fun w => M 57 (120 * s + w)) w
def xend (M : Mem) (w : Nat) (g : Bool) : Int32 := s_end (xsch M w) (xtold M 0 w) (xtold M 1 w) g
def mend (M : Mem) (w : Nat) (g : Bool) : Int32 := s_end (msch M w) (mtold M 0 w) (mtold M 1 w) g
theorem otold_r {sz : Int32} {pl : Nat → Int32} {w : Nat} {v : Int32} (h : otold sz pl w = some v) : 0 ≤ v ∧ v ≤ 7 := by
  unfold otold at h
  split at h
  next hc => simp at h; subst h; exact hc.2
  next => cases h
theorem ov_no {sz : Int32} {pl : Nat → Int32} {w : Nat} : ov (otold sz pl w) = -2000000005 ↔ otold sz pl w = none := by
  cases h : otold sz pl w with
  | none => simp [ov]
  | some v =>
    have := otold_r h
    simp only [ov, Option.getD_some]
    constructor
    · intro e; rw [e] at this; exact absurd this.1 (by decide)
    · intro e; cases e
theorem om_no {sz : Int32} {pl : Nat → Int32} {w : Nat} : om (otold sz pl w) < 0 ↔ otold sz pl w = none := by
  cases h : otold sz pl w with
  | none => simp [om]
  | some v =>
    have := otold_r h
    simp only [om, Option.getD_some]
    constructor
    · intro e; exact absurd e (by grind)
    · intro e; cases e
set_option maxHeartbeats 4000000 in
set_option maxRecDepth 100000 in
theorem c_X7_toldFor_0 {K : Kt} {d : Nat} {M : Mem} {w : Nat} (hw : w < 120) : Ri K (d + 1) mX7_toldFor [rf K 23, .int (nI w)] M (ov (xtold M 0 w)) M := by
  refine Ri_int RX7 [(0, rf K 23), (1, .int (nI w))] rfl (by decide) rfl (Nat.le_of_ble_eq_true rfl) rfl (fun x C => ?_)
  have hw0 : 0 ≤ nI w := nI_pos' (by omega)
  refine G_iload_n C dX7_toldFor_0 rfl ?_
  refine G_aload_r C dX7_toldFor_1 rfl ?_
  refine G_getI C fo_X7_15 rfl rfl dX7_toldFor_2 ?_
  refine G_cNr2 C ok_X9_isBelow lk_X7_25 (c_X9_isBelow) (Nat.le_of_ble_eq_true rfl) dX7_toldFor_5 ?_
  refine G_if_eq C 23 dX7_toldFor_8 (by decide) (fun h8 => ?_) (fun h8 => ?_)
  · rw [bl_z] at h8
    refine G_ldc C kc_X7_33 dX7_toldFor_23 ?_
    exact G_retR C dX7_toldFor_25 (by simp only [ov, xtold, otold]; grind) rfl
  · rw [bl_z] at h8
    refine G_aload_r C dX7_toldFor_11 rfl ?_
    refine G_getR C fo_X7_9 rfl rfl dX7_toldFor_12 ?_
    refine G_iload_n C dX7_toldFor_15 rfl ?_
    refine G_baldN C rfl (by assumption) (by decide) dX7_toldFor_16 ?_
    refine G_cNr1 C ok_X9_areNights lk_X7_29 (c_X9_areNights) (Nat.le_of_ble_eq_true rfl) dX7_toldFor_17 ?_
    refine G_if_ne C 26 dX7_toldFor_20 (by decide) (fun h20 => ?_) (fun h20 => ?_)
    · rw [bl_z] at h20
      refine G_aload_r C dX7_toldFor_26 rfl ?_
      refine G_getR C fo_X7_9 rfl rfl dX7_toldFor_27 ?_
      refine G_iload_n C dX7_toldFor_30 rfl ?_
      refine G_baldN C rfl (by assumption) (by decide) dX7_toldFor_31 ?_
      exact G_retR C dX7_toldFor_32 (by simp only [ov, xtold, otold]; grind) rfl
    · rw [bl_z] at h20
      refine G_ldc C kc_X7_33 dX7_toldFor_23 ?_
      exact G_retR C dX7_toldFor_25 (by simp only [ov, xtold, otold]; grind) rfl
set_option maxHeartbeats 4000000 in
set_option maxRecDepth 100000 in
theorem c_X7_toldFor_1 {K : Kt} {d : Nat} {M : Mem} {w : Nat} (hw : w < 120) : Ri K (d + 1) mX7_toldFor [rf K 24, .int (nI w)] M (ov (xtold M 1 w)) M := by
  refine Ri_int RX7 [(0, rf K 24), (1, .int (nI w))] rfl (by decide) rfl (Nat.le_of_ble_eq_true rfl) rfl (fun x C => ?_)
  have hw0 : 0 ≤ nI w := nI_pos' (by omega)
  refine G_iload_n C dX7_toldFor_0 rfl ?_
  refine G_aload_r C dX7_toldFor_1 rfl ?_
  refine G_getI C fo_X7_15 rfl rfl dX7_toldFor_2 ?_
  refine G_cNr2 C ok_X9_isBelow lk_X7_25 (c_X9_isBelow) (Nat.le_of_ble_eq_true rfl) dX7_toldFor_5 ?_
  refine G_if_eq C 23 dX7_toldFor_8 (by decide) (fun h8 => ?_) (fun h8 => ?_)
  · rw [bl_z] at h8
    refine G_ldc C kc_X7_33 dX7_toldFor_23 ?_
    exact G_retR C dX7_toldFor_25 (by simp only [ov, xtold, otold]; grind) rfl
  · rw [bl_z] at h8
    refine G_aload_r C dX7_toldFor_11 rfl ?_
    refine G_getR C fo_X7_9 rfl rfl dX7_toldFor_12 ?_
    refine G_iload_n C dX7_toldFor_15 rfl ?_
    refine G_baldN C rfl (by assumption) (by decide) dX7_toldFor_16 ?_
    refine G_cNr1 C ok_X9_areNights lk_X7_29 (c_X9_areNights) (Nat.le_of_ble_eq_true rfl) dX7_toldFor_17 ?_
    refine G_if_ne C 26 dX7_toldFor_20 (by decide) (fun h20 => ?_) (fun h20 => ?_)
    · rw [bl_z] at h20
      refine G_aload_r C dX7_toldFor_26 rfl ?_
      refine G_getR C fo_X7_9 rfl rfl dX7_toldFor_27 ?_
      refine G_iload_n C dX7_toldFor_30 rfl ?_
      refine G_baldN C rfl (by assumption) (by decide) dX7_toldFor_31 ?_
      exact G_retR C dX7_toldFor_32 (by simp only [ov, xtold, otold]; grind) rfl
    · rw [bl_z] at h20
      refine G_ldc C kc_X7_33 dX7_toldFor_23 ?_
      exact G_retR C dX7_toldFor_25 (by simp only [ov, xtold, otold]; grind) rfl
set_option maxHeartbeats 4000000 in
set_option maxRecDepth 100000 in
theorem c_X10_diary {K : Kt} {d : Nat} {M : Mem} {s w : Nat} (hs : s < 2) (hw : w < 120) : Ri K (d + 1) mX10_diary [rf K 36, .int (nI s), .int (nI w)] M (om (mtold M s w)) M := by
  refine Ri_int RX10 [(0, rf K 36), (1, .int (nI s)), (2, .int (nI w))] rfl (by decide) rfl (Nat.le_of_ble_eq_true rfl) rfl (fun x C => ?_)
  refine G_iload_n C dX10_diary_0 rfl ?_
  refine G_aload_r C dX10_diary_1 rfl ?_
  refine G_getR C fo_X10_72 rfl rfl dX10_diary_2 ?_
  refine G_iload_n C dX10_diary_5 rfl ?_
  refine G_ialdN C rfl (by assumption) (by decide) dX10_diary_6 ?_
  refine G_icmp_lt C 12 dX10_diary_7 (by decide) (fun h7 => ?_) (fun h7 => ?_)
  · refine G_aload_r C dX10_diary_12 rfl ?_
    refine G_getR C fo_X10_75 rfl rfl dX10_diary_13 ?_
    refine G_bipush C (nI 120) dX10_diary_16 (by decide) ?_
    refine G_iload_n C dX10_diary_18 rfl ?_
    refine G_imul C dX10_diary_19 ?_
    refine G_iload_n C dX10_diary_20 rfl ?_
    refine G_iadd C dX10_diary_21 ?_
    rw [pk_mul, nI_add]
    refine G_ialdN C rfl (by omega) (by decide) dX10_diary_22 ?_
    refine G_istore_n C dX10_diary_23 (by decide) ?_
    refine G_iload_n C dX10_diary_24 rfl ?_
    refine G_iconst C (0) dX10_diary_25 (by decide) ?_
    refine G_bipush C (7) dX10_diary_26 (by decide) ?_
    refine G_cSr3 C ok_X10_isIn lk_X10_90 (c_X10_isIn) (Nat.le_of_ble_eq_true rfl) dX10_diary_28 ?_
    refine G_if_eq C 38 dX10_diary_31 (by decide) (fun h31 => ?_) (fun h31 => ?_)
    · rw [bl_z] at h31
      refine G_iconst C (-1) dX10_diary_38 (by decide) ?_
      exact G_retR C dX10_diary_39 (by simp only [om, mtold, otold]; grind) rfl
    · rw [bl_z] at h31
      refine G_iload_n C dX10_diary_34 rfl ?_
      refine G_goto C 39 dX10_diary_35 (by decide) ?_
      exact G_retR C dX10_diary_39 (by simp only [om, mtold, otold]; grind) rfl
  · refine G_iconst C (-1) dX10_diary_10 (by decide) ?_
    exact G_retR C dX10_diary_11 (by simp only [om, mtold, otold]; grind) rfl
set_option maxHeartbeats 4000000 in
set_option maxRecDepth 100000 in
theorem c_X5_atEnd {K : Kt} {d : Nat} {M : Mem} {w : Nat} {g : Int32} (hw : w < 120) : Ri K (d + 2) mX5_atEnd [rf K 21, .int (nI w), .int g] M (xend M w (decide (¬ g = 0))) M := by
  refine Ri_int RX5 [(0, rf K 21), (1, .int (nI w)), (2, .int g)] rfl (by decide) rfl (Nat.le_of_ble_eq_true rfl) rfl (fun x C => ?_)
  have n0 : ov (xtold M 0 w) = -2000000005 ↔ xtold M 0 w = none := ov_no
  have n1 : ov (xtold M 1 w) = -2000000005 ↔ xtold M 1 w = none := ov_no
  refine G_aload_r C dX5_atEnd_0 rfl ?_
  refine G_getR C fo_X5_18 rfl rfl dX5_atEnd_1 ?_
  refine G_iload_n C dX5_atEnd_4 rfl ?_
  refine G_ialdN C rfl (by assumption) (by decide) dX5_atEnd_5 ?_
  refine G_ldc C kc_X5_22 dX5_atEnd_6 ?_
  refine G_icmp_eq C 18 dX5_atEnd_8 (by decide) (fun h8 => ?_) (fun h8 => ?_)
  · refine G_aload_r C dX5_atEnd_18 rfl ?_
    refine G_getR C fo_X5_12 rfl rfl dX5_atEnd_19 ?_
    refine G_iconst C (nI 0) dX5_atEnd_22 (by decide) ?_
    refine G_aald C rfl (by decide) (vp_in_nI (by decide) (by decide)) rfl dX5_atEnd_23 ?_
    refine G_iload_n C dX5_atEnd_24 rfl ?_
    refine G_cVr1 C ok_X7_toldFor lk_X5_44 rfl rfl (c_X7_toldFor_0 hw) (Nat.le_of_ble_eq_true rfl) dX5_atEnd_25 ?_
    refine G_istore_n C dX5_atEnd_28 (by decide) ?_
    refine G_aload_r C dX5_atEnd_29 rfl ?_
    refine G_getR C fo_X5_12 rfl rfl dX5_atEnd_30 ?_
    refine G_iconst C (nI 1) dX5_atEnd_33 (by decide) ?_
    refine G_aald C rfl (by decide) (vp_in_nI (by decide) (by decide)) rfl dX5_atEnd_34 ?_
    refine G_iload_n C dX5_atEnd_35 rfl ?_
    refine G_cVr1 C ok_X7_toldFor lk_X5_44 rfl rfl (c_X7_toldFor_1 hw) (Nat.le_of_ble_eq_true rfl) dX5_atEnd_36 ?_
    refine G_istore C dX5_atEnd_39 (by decide) ?_
    refine G_iload_n C dX5_atEnd_41 rfl ?_
    refine G_ldc C kc_X5_22 dX5_atEnd_42 ?_
    refine G_icmp_ne C 56 dX5_atEnd_44 (by decide) (fun h44 => ?_) (fun h44 => ?_)
    · refine G_iload_n C dX5_atEnd_56 rfl ?_
      refine G_ldc C kc_X5_22 dX5_atEnd_57 ?_
      refine G_icmp_ne C 65 dX5_atEnd_59 (by decide) (fun h59 => ?_) (fun h59 => ?_)
      · refine G_iload C dX5_atEnd_65 rfl ?_
        refine G_ldc C kc_X5_22 dX5_atEnd_67 ?_
        refine G_icmp_ne C 74 dX5_atEnd_69 (by decide) (fun h69 => ?_) (fun h69 => ?_)
        · refine G_iload_n C dX5_atEnd_74 rfl ?_
          refine G_if_eq C 87 dX5_atEnd_75 (by decide) (fun h75 => ?_) (fun h75 => ?_)
          · refine G_iload_n C dX5_atEnd_87 rfl ?_
            refine G_iload C dX5_atEnd_88 rfl ?_
            refine G_mmin C lk_X5_53 ms_min mi_math mc_min (Nat.le_of_ble_eq_true rfl) dX5_atEnd_90 ?_
            exact G_retR C dX5_atEnd_93 (by clear C; simp only [xend, xsch]; cases e0 : xtold M 0 w <;> cases e1 : xtold M 1 w <;> simp_all [s_end, ov] <;> grind) rfl
          · refine G_iload_n C dX5_atEnd_78 rfl ?_
            refine G_iload C dX5_atEnd_79 rfl ?_
            refine G_mmax C lk_X5_47 ms_max mi_math mc_max (Nat.le_of_ble_eq_true rfl) dX5_atEnd_81 ?_
            refine G_goto C 93 dX5_atEnd_84 (by decide) ?_
            exact G_retR C dX5_atEnd_93 (by clear C; simp only [xend, xsch]; cases e0 : xtold M 0 w <;> cases e1 : xtold M 1 w <;> simp_all [s_end, ov] <;> grind) rfl
        · refine G_iload_n C dX5_atEnd_72 rfl ?_
          exact G_retR C dX5_atEnd_73 (by clear C; simp only [xend, xsch]; cases e0 : xtold M 0 w <;> cases e1 : xtold M 1 w <;> simp_all [s_end, ov] <;> grind) rfl
      · refine G_iload C dX5_atEnd_62 rfl ?_
        exact G_retR C dX5_atEnd_64 (by clear C; simp only [xend, xsch]; cases e0 : xtold M 0 w <;> cases e1 : xtold M 1 w <;> simp_all [s_end, ov] <;> grind) rfl
    · refine G_iload C dX5_atEnd_47 rfl ?_
      refine G_ldc C kc_X5_22 dX5_atEnd_49 ?_
      refine G_icmp_ne C 56 dX5_atEnd_51 (by decide) (fun h51 => ?_) (fun h51 => ?_)
      · refine G_iload_n C dX5_atEnd_56 rfl ?_
        refine G_ldc C kc_X5_22 dX5_atEnd_57 ?_
        refine G_icmp_ne C 65 dX5_atEnd_59 (by decide) (fun h59 => ?_) (fun h59 => ?_)
        · refine G_iload C dX5_atEnd_65 rfl ?_
          refine G_ldc C kc_X5_22 dX5_atEnd_67 ?_
          refine G_icmp_ne C 74 dX5_atEnd_69 (by decide) (fun h69 => ?_) (fun h69 => ?_)
          · refine G_iload_n C dX5_atEnd_74 rfl ?_
            refine G_if_eq C 87 dX5_atEnd_75 (by decide) (fun h75 => ?_) (fun h75 => ?_)
            · refine G_iload_n C dX5_atEnd_87 rfl ?_
              refine G_iload C dX5_atEnd_88 rfl ?_
              refine G_mmin C lk_X5_53 ms_min mi_math mc_min (Nat.le_of_ble_eq_true rfl) dX5_atEnd_90 ?_
              exact G_retR C dX5_atEnd_93 (by clear C; simp only [xend, xsch]; cases e0 : xtold M 0 w <;> cases e1 : xtold M 1 w <;> simp_all [s_end, ov] <;> grind) rfl
            · refine G_iload_n C dX5_atEnd_78 rfl ?_
              refine G_iload C dX5_atEnd_79 rfl ?_
              refine G_mmax C lk_X5_47 ms_max mi_math mc_max (Nat.le_of_ble_eq_true rfl) dX5_atEnd_81 ?_
              refine G_goto C 93 dX5_atEnd_84 (by decide) ?_
              exact G_retR C dX5_atEnd_93 (by clear C; simp only [xend, xsch]; cases e0 : xtold M 0 w <;> cases e1 : xtold M 1 w <;> simp_all [s_end, ov] <;> grind) rfl
          · refine G_iload_n C dX5_atEnd_72 rfl ?_
            exact G_retR C dX5_atEnd_73 (by clear C; simp only [xend, xsch]; cases e0 : xtold M 0 w <;> cases e1 : xtold M 1 w <;> simp_all [s_end, ov] <;> grind) rfl
        · refine G_iload C dX5_atEnd_62 rfl ?_
          exact G_retR C dX5_atEnd_64 (by clear C; simp only [xend, xsch]; cases e0 : xtold M 0 w <;> cases e1 : xtold M 1 w <;> simp_all [s_end, ov] <;> grind) rfl
      · refine G_iconst C (0) dX5_atEnd_54 (by decide) ?_
        exact G_retR C dX5_atEnd_55 (by clear C; simp only [xend, xsch]; cases e0 : xtold M 0 w <;> cases e1 : xtold M 1 w <;> simp_all [s_end, ov] <;> grind) rfl
  · refine G_aload_r C dX5_atEnd_11 rfl ?_
    refine G_getR C fo_X5_18 rfl rfl dX5_atEnd_12 ?_
    refine G_iload_n C dX5_atEnd_15 rfl ?_
    refine G_ialdN C rfl (by assumption) (by decide) dX5_atEnd_16 ?_
    exact G_retR C dX5_atEnd_17 (by clear C; simp only [xend, xsch]; cases e0 : xtold M 0 w <;> cases e1 : xtold M 1 w <;> simp_all [s_end, ov] <;> grind) rfl
set_option maxHeartbeats 4000000 in
set_option maxRecDepth 100000 in
theorem c_X5_lesser {K : Kt} {d : Nat} {M : Mem} {w : Nat} (hw : w < 120) : Ri K (d + 3) mX5_lesser [rf K 21, .int (nI w)] M (xend M w false) M := by
  refine Ri_int RX5 [(0, rf K 21), (1, .int (nI w))] rfl (by decide) rfl (Nat.le_of_ble_eq_true rfl) rfl (fun x C => ?_)
  refine G_aload_r C dX5_lesser_0 rfl ?_
  refine G_iload_n C dX5_lesser_1 rfl ?_
  refine G_iconst C (0) dX5_lesser_2 (by decide) ?_
  refine G_cVr2 C ok_X5_atEnd lk_X5_29 rfl rfl (c_X5_atEnd hw) (Nat.le_of_ble_eq_true rfl) dX5_lesser_3 ?_
  exact G_retR C dX5_lesser_6 (by simp) rfl
set_option maxHeartbeats 4000000 in
set_option maxRecDepth 100000 in
theorem c_X5_greater {K : Kt} {d : Nat} {M : Mem} {w : Nat} (hw : w < 120) : Ri K (d + 3) mX5_greater [rf K 21, .int (nI w)] M (xend M w true) M := by
  refine Ri_int RX5 [(0, rf K 21), (1, .int (nI w))] rfl (by decide) rfl (Nat.le_of_ble_eq_true rfl) rfl (fun x C => ?_)
  refine G_aload_r C dX5_greater_0 rfl ?_
  refine G_iload_n C dX5_greater_1 rfl ?_
  refine G_iconst C (1) dX5_greater_2 (by decide) ?_
  refine G_cVr2 C ok_X5_atEnd lk_X5_29 rfl rfl (c_X5_atEnd hw) (Nat.le_of_ble_eq_true rfl) dX5_greater_3 ?_
  exact G_retR C dX5_greater_6 (by simp) rfl
set_option maxHeartbeats 4000000 in
set_option maxRecDepth 100000 in
theorem c_X5_areUnlike {K : Kt} {d : Nat} {M : Mem} {w : Nat} (hw : w < 120) : Ri K (d + 4) mX5_areUnlike [rf K 21, .int (nI w)] M (bl (¬ xend M w false = xend M w true)) M := by
  refine Ri_bool RX5 [(0, rf K 21), (1, .int (nI w))] rfl (by decide) rfl (Nat.le_of_ble_eq_true rfl) rfl bl_or (fun x C => ?_)
  refine G_aload_r C dX5_areUnlike_0 rfl ?_
  refine G_iload_n C dX5_areUnlike_1 rfl ?_
  refine G_cVr1 C ok_X5_lesser lk_X5_33 rfl rfl (c_X5_lesser hw) (Nat.le_of_ble_eq_true rfl) dX5_areUnlike_2 ?_
  refine G_aload_r C dX5_areUnlike_5 rfl ?_
  refine G_iload_n C dX5_areUnlike_6 rfl ?_
  refine G_cVr1 C ok_X5_greater lk_X5_37 rfl rfl (c_X5_greater hw) (Nat.le_of_ble_eq_true rfl) dX5_areUnlike_7 ?_
  refine G_icmp_eq C 17 dX5_areUnlike_10 (by decide) (fun h10 => ?_) (fun h10 => ?_)
  · refine G_iconst C (0) dX5_areUnlike_17 (by decide) ?_
    exact G_retR C dX5_areUnlike_18 (by first | exact (bl_t (by assumption)).symm | exact (bl_f (by simp; assumption)).symm) rfl
  · refine G_iconst C (1) dX5_areUnlike_13 (by decide) ?_
    refine G_goto C 18 dX5_areUnlike_14 (by decide) ?_
    exact G_retR C dX5_areUnlike_18 (by first | exact (bl_t (by assumption)).symm | exact (bl_f (by simp; assumption)).symm) rfl
def s_cnt (p : Nat → Bool) : Nat → Int32
  | 0 => 0
  | n + 1 => bif p n then s_cnt p n + 1 else s_cnt p n
theorem s_cnt_t {p : Nat → Bool} {n : Nat} (h : p n = true) : s_cnt p (n + 1) = s_cnt p n + 1 := by simp [s_cnt, h]
theorem s_cnt_f {p : Nat → Bool} {n : Nat} (h : p n = false) : s_cnt p (n + 1) = s_cnt p n := by simp [s_cnt, h]
theorem s_cnt_cong {p q : Nat → Bool} : ∀ {n : Nat}, (∀ i, i < n → p i = q i) → s_cnt p n = s_cnt q n
  | 0, _ => rfl
  | n + 1, h => by
    simp only [s_cnt]
    rw [s_cnt_cong (n := n) (fun i hi => h i (by omega)), h n (by omega)]
set_option maxHeartbeats 4000000 in
set_option maxRecDepth 100000 in
theorem L_X5_unlikeWeeks {K : Kt} {d : Nat} {M : Mem} {n : Nat} {x : Cx} {o : Int32} (h120 : n < 120) (ho : o = s_cnt (fun w => decide (¬ xend M w false = xend M w true)) (n + 1)) (C : Cok K x RX5 cX5_unlikeWeeks 4 (d + 5) (RI (fun v N => v = o ∧ N = M))) :
    ∀ (t j : Nat) (b : Int32), n + 1 < j + t → j ≤ n + 1 → b = s_cnt (fun w => decide (¬ xend M w false = xend M w true)) j → G K x 4 4 [(0, rf K 21), (1, .int (nI n)), (2, .int b), (3, .int (nI j))] [] M := by
  intro t
  induction t with
  | zero => intro j b h1 h2; omega
  | succ t ih =>
    intro j b h1 h2 hb
    refine G_iload_n C dX5_unlikeWeeks_4 rfl ?_
    refine G_iload_n C dX5_unlikeWeeks_5 rfl ?_
    refine G_icmp_gt C 26 dX5_unlikeWeeks_6 (by decide) (fun h6 => ?_) (fun h6 => ?_)
    · have hE : j = n + 1 := by have := (nI_ltI (a := n) (b := j) (by omega) (by omega)).mp h6; omega
      refine G_iload_n C dX5_unlikeWeeks_26 rfl ?_
      exact G_retR C dX5_unlikeWeeks_27 (by rw [ho, hb, hE]) rfl
    · have hlt : j < n + 1 := by rcases Nat.lt_or_ge n j with q | q; exact absurd ((nI_ltI (by omega) (by omega)).mpr q) h6; omega
      refine G_aload_r C dX5_unlikeWeeks_9 rfl ?_
      refine G_iload_n C dX5_unlikeWeeks_10 rfl ?_
      refine G_cVr1 C ok_X5_areUnlike lk_X5_40 rfl rfl (c_X5_areUnlike (by omega)) (Nat.le_of_ble_eq_true rfl) dX5_unlikeWeeks_11 ?_
      refine G_if_eq C 20 dX5_unlikeWeeks_14 (by decide) (fun h14 => ?_) (fun h14 => ?_)
      · rw [bl_z] at h14
        refine G_iincN C dX5_unlikeWeeks_20 (by decide) rfl ?_
        refine G_goto C 4 dX5_unlikeWeeks_23 (by decide) ?_
        refine G_sub [(0, _), (1, _), (2, _), (3, _)] (by repeat (first | refine And.intro rfl ?_ | exact True.intro)) ?_
        exact ih (j + 1) _ (by omega) (by omega) (hb.trans (s_cnt_f (by simpa using h14)).symm)
      · rw [bl_z] at h14
        refine G_iinc C dX5_unlikeWeeks_17 (by decide) rfl rfl ?_
        refine G_iincN C dX5_unlikeWeeks_20 (by decide) rfl ?_
        refine G_goto C 4 dX5_unlikeWeeks_23 (by decide) ?_
        refine G_sub [(0, _), (1, _), (2, _), (3, _)] (by repeat (first | refine And.intro rfl ?_ | exact True.intro)) ?_
        exact ih (j + 1) _ (by omega) (by omega) ((by rw [hb]; rfl : _ = _).trans (s_cnt_t (by simpa using h14)).symm)
set_option maxHeartbeats 4000000 in
set_option maxRecDepth 100000 in
theorem c_X5_unlikeWeeks {K : Kt} {d : Nat} {M : Mem} {n : Nat} (h120 : n < 120) : Ri K (d + 5) mX5_unlikeWeeks [rf K 21, .int (nI n)] M (s_cnt (fun w => decide (¬ xend M w false = xend M w true)) (n + 1)) M := by
  refine Ri_int RX5 [(0, rf K 21), (1, .int (nI n))] rfl (by decide) rfl (Nat.le_of_ble_eq_true rfl) rfl (fun x C => ?_)
  refine G_iconst C (0) dX5_unlikeWeeks_0 (by decide) ?_
  refine G_istore_n C dX5_unlikeWeeks_1 (by decide) ?_
  refine G_iconst C (nI 0) dX5_unlikeWeeks_2 (by decide) ?_
  refine G_istore_n C dX5_unlikeWeeks_3 (by decide) ?_
  refine G_sub [(0, _), (1, _), (2, _), (3, _)] (by repeat (first | refine And.intro rfl ?_ | exact True.intro)) ?_
  exact L_X5_unlikeWeeks h120 rfl C (n + 2) 0 0 (by omega) (by omega) rfl
set_option maxHeartbeats 4000000 in
set_option maxRecDepth 100000 in
theorem c_X10_end {K : Kt} {d : Nat} {M : Mem} {w : Nat} {g : Int32} (hw : w < 120) (hg : g = 0 ∨ g = 1) : Ri K (d + 2) mX10_end [rf K 36, .int (nI w), .int g] M (mend M w (decide (g = 1))) M := by
  refine Ri_int RX10 [(0, rf K 36), (1, .int (nI w)), (2, .int g)] rfl (by decide) rfl (Nat.le_of_ble_eq_true rfl) rfl (fun x C => ?_)
  have n0 : om (mtold M 0 w) < 0 ↔ mtold M 0 w = none := om_no
  have n1 : om (mtold M 1 w) < 0 ↔ mtold M 1 w = none := om_no
  refine G_aload_r C dX10_end_0 rfl ?_
  refine G_getR C fo_X10_25 rfl rfl dX10_end_1 ?_
  refine G_iload_n C dX10_end_4 rfl ?_
  refine G_ialdN C rfl (by assumption) (by decide) dX10_end_5 ?_
  refine G_if_lt C 16 dX10_end_6 (by decide) (fun h6 => ?_) (fun h6 => ?_)
  · refine G_aload_r C dX10_end_16 rfl ?_
    refine G_iconst C (nI 0) dX10_end_17 (by decide) ?_
    refine G_iload_n C dX10_end_18 rfl ?_
    refine G_cVr2 C ok_X10_diary lk_X10_136 rfl rfl (c_X10_diary (by decide) hw) (Nat.le_of_ble_eq_true rfl) dX10_end_19 ?_
    refine G_istore_n C dX10_end_22 (by decide) ?_
    refine G_aload_r C dX10_end_23 rfl ?_
    refine G_iconst C (nI 1) dX10_end_24 (by decide) ?_
    refine G_iload_n C dX10_end_25 rfl ?_
    refine G_cVr2 C ok_X10_diary lk_X10_136 rfl rfl (c_X10_diary (by decide) hw) (Nat.le_of_ble_eq_true rfl) dX10_end_26 ?_
    refine G_istore C dX10_end_29 (by decide) ?_
    refine G_iload_n C dX10_end_31 rfl ?_
    refine G_if_lt C 40 dX10_end_32 (by decide) (fun h32 => ?_) (fun h32 => ?_)
    · refine G_iload_n C dX10_end_40 rfl ?_
      refine G_if_ge C 49 dX10_end_41 (by decide) (fun h41 => ?_) (fun h41 => ?_)
      · refine G_iload_n C dX10_end_49 rfl ?_
        refine G_istore C dX10_end_50 (by decide) ?_
        refine G_iload C dX10_end_52 rfl ?_
        refine G_if_ge C 61 dX10_end_54 (by decide) (fun h54 => ?_) (fun h54 => ?_)
        · refine G_iload C dX10_end_61 rfl ?_
          exact G_retR C dX10_end_63 (by clear C; simp only [mend, msch]; cases e0 : mtold M 0 w <;> cases e1 : mtold M 1 w <;> simp_all [s_end, om] <;> grind) rfl
        · refine G_iconst C (0) dX10_end_57 (by decide) ?_
          refine G_goto C 63 dX10_end_58 (by decide) ?_
          exact G_retR C dX10_end_63 (by clear C; simp only [mend, msch]; cases e0 : mtold M 0 w <;> cases e1 : mtold M 1 w <;> simp_all [s_end, om] <;> grind) rfl
      · refine G_iload C dX10_end_44 rfl ?_
        refine G_goto C 50 dX10_end_46 (by decide) ?_
        refine G_istore C dX10_end_50 (by decide) ?_
        refine G_iload C dX10_end_52 rfl ?_
        refine G_if_ge C 61 dX10_end_54 (by decide) (fun h54 => ?_) (fun h54 => ?_)
        · refine G_iload C dX10_end_61 rfl ?_
          exact G_retR C dX10_end_63 (by clear C; simp only [mend, msch]; cases e0 : mtold M 0 w <;> cases e1 : mtold M 1 w <;> simp_all [s_end, om] <;> grind) rfl
        · refine G_iconst C (0) dX10_end_57 (by decide) ?_
          refine G_goto C 63 dX10_end_58 (by decide) ?_
          exact G_retR C dX10_end_63 (by clear C; simp only [mend, msch]; cases e0 : mtold M 0 w <;> cases e1 : mtold M 1 w <;> simp_all [s_end, om] <;> grind) rfl
    · refine G_iload C dX10_end_35 rfl ?_
      refine G_if_ge C 64 dX10_end_37 (by decide) (fun h37 => ?_) (fun h37 => ?_)
      · refine G_iload_n C dX10_end_64 rfl ?_
        refine G_iload C dX10_end_65 rfl ?_
        refine G_icmp_ge C 74 dX10_end_67 (by decide) (fun h67 => ?_) (fun h67 => ?_)
        · refine G_iconst C (0) dX10_end_74 (by decide) ?_
          refine G_iload_n C dX10_end_75 rfl ?_
          refine G_icmp_ne C 84 dX10_end_76 (by decide) (fun h76 => ?_) (fun h76 => ?_)
          · refine G_iload_n C dX10_end_84 rfl ?_
            exact G_retR C dX10_end_85 (by clear C; simp only [mend, msch]; cases e0 : mtold M 0 w <;> cases e1 : mtold M 1 w <;> simp_all [s_end, om] <;> grind) rfl
          · refine G_iload C dX10_end_79 rfl ?_
            refine G_goto C 85 dX10_end_81 (by decide) ?_
            exact G_retR C dX10_end_85 (by clear C; simp only [mend, msch]; cases e0 : mtold M 0 w <;> cases e1 : mtold M 1 w <;> simp_all [s_end, om] <;> grind) rfl
        · refine G_iconst C (1) dX10_end_70 (by decide) ?_
          refine G_goto C 75 dX10_end_71 (by decide) ?_
          refine G_iload_n C dX10_end_75 rfl ?_
          refine G_icmp_ne C 84 dX10_end_76 (by decide) (fun h76 => ?_) (fun h76 => ?_)
          · refine G_iload_n C dX10_end_84 rfl ?_
            exact G_retR C dX10_end_85 (by clear C; simp only [mend, msch]; cases e0 : mtold M 0 w <;> cases e1 : mtold M 1 w <;> simp_all [s_end, om] <;> grind) rfl
          · refine G_iload C dX10_end_79 rfl ?_
            refine G_goto C 85 dX10_end_81 (by decide) ?_
            exact G_retR C dX10_end_85 (by clear C; simp only [mend, msch]; cases e0 : mtold M 0 w <;> cases e1 : mtold M 1 w <;> simp_all [s_end, om] <;> grind) rfl
      · refine G_iload_n C dX10_end_40 rfl ?_
        refine G_if_ge C 49 dX10_end_41 (by decide) (fun h41 => ?_) (fun h41 => ?_)
        · refine G_iload_n C dX10_end_49 rfl ?_
          refine G_istore C dX10_end_50 (by decide) ?_
          refine G_iload C dX10_end_52 rfl ?_
          refine G_if_ge C 61 dX10_end_54 (by decide) (fun h54 => ?_) (fun h54 => ?_)
          · refine G_iload C dX10_end_61 rfl ?_
            exact G_retR C dX10_end_63 (by clear C; simp only [mend, msch]; cases e0 : mtold M 0 w <;> cases e1 : mtold M 1 w <;> simp_all [s_end, om] <;> grind) rfl
          · refine G_iconst C (0) dX10_end_57 (by decide) ?_
            refine G_goto C 63 dX10_end_58 (by decide) ?_
            exact G_retR C dX10_end_63 (by clear C; simp only [mend, msch]; cases e0 : mtold M 0 w <;> cases e1 : mtold M 1 w <;> simp_all [s_end, om] <;> grind) rfl
        · refine G_iload C dX10_end_44 rfl ?_
          refine G_goto C 50 dX10_end_46 (by decide) ?_
          refine G_istore C dX10_end_50 (by decide) ?_
          refine G_iload C dX10_end_52 rfl ?_
          refine G_if_ge C 61 dX10_end_54 (by decide) (fun h54 => ?_) (fun h54 => ?_)
          · refine G_iload C dX10_end_61 rfl ?_
            exact G_retR C dX10_end_63 (by clear C; simp only [mend, msch]; cases e0 : mtold M 0 w <;> cases e1 : mtold M 1 w <;> simp_all [s_end, om] <;> grind) rfl
          · refine G_iconst C (0) dX10_end_57 (by decide) ?_
            refine G_goto C 63 dX10_end_58 (by decide) ?_
            exact G_retR C dX10_end_63 (by clear C; simp only [mend, msch]; cases e0 : mtold M 0 w <;> cases e1 : mtold M 1 w <;> simp_all [s_end, om] <;> grind) rfl
  · refine G_aload_r C dX10_end_9 rfl ?_
    refine G_getR C fo_X10_25 rfl rfl dX10_end_10 ?_
    refine G_iload_n C dX10_end_13 rfl ?_
    refine G_ialdN C rfl (by assumption) (by decide) dX10_end_14 ?_
    exact G_retR C dX10_end_15 (by clear C; simp only [mend, msch]; cases e0 : mtold M 0 w <;> cases e1 : mtold M 1 w <;> simp_all [s_end, om] <;> grind) rfl
