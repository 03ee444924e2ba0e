set_option maxHeartbeats 4000000 in
set_option maxRecDepth 100000 in
theorem c_X9_nights {K : Kt} {d : Nat} {M : Mem} {nc nl nb nw : Nat} {w q : Int32} (hx : XS M nc nl nb nw) : Ri K (d + 5) mX9_nights [rf K 0, .int w, .int q] M (if 0 ≤ w ∧ w < 120 then s_know q (xend M w.toNatClampNeg false) (xend M w.toNatClampNeg true) (bl (¬ xend M w.toNatClampNeg false = xend M w.toNatClampNeg true)) else (-2000000001)) (M) := by
  refine Ri_int RX9 [(0, rf K 0), (1, .int w), (2, .int q)] rfl (by decide) rfl (Nat.le_of_ble_eq_true rfl) rfl (fun x C => ?_)
  obtain ⟨hc, hc8, hl, hl8, hb, hb8, hw, hw8⟩ := id hx
  refine G_iload_n C dX9_nights_0 rfl ?_
  refine G_cSr1 C ok_X9_isWeek lk_X9_68 (c_X9_isWeek) (Nat.le_of_ble_eq_true rfl) dX9_nights_1 ?_
  refine G_if_ne C 10 dX9_nights_4 (by decide) (fun h4 => ?_) (fun h4 => ?_)
  · rw [bl_z] at h4
    obtain ⟨j, hj, rfl, tj⟩ := ix_12 (Decidable.not_not.mp h4)
    refine G_iload_n C dX9_nights_10 rfl ?_
    rcases (sw_2 q) with hsw | hsw | hsw | hsw
    · refine G_tableOut C 71 dX9_nights_11 hsw (by decide) ?_
      refine G_ldc C kc_X9_72 dX9_nights_71 ?_
      exact G_retR C dX9_nights_73 (by clear C; simp only [s_know, bl]; first | grind | (have hso := sw_out hsw (m := 2) rfl; grind)) rfl
    · refine G_tableIn C (25) 36 dX9_nights_11 (by rw [hsw]; decide) (by rw [hsw]; decide) (by rw [hsw]; rfl) (by decide) ?_
      refine G_aload_r C dX9_nights_36 rfl ?_
      refine G_getR C fo_X9_42 rfl rfl dX9_nights_37 ?_
      refine G_iload_n C dX9_nights_40 rfl ?_
      refine G_cVr1 C ok_X5_lesser lk_X9_131 rfl rfl (c_X5_lesser hj) (Nat.le_of_ble_eq_true rfl) dX9_nights_41 ?_
      exact G_retR C dX9_nights_44 (by clear C; simp only [s_know, bl]; first | grind | (have hso := sw_out hsw (m := 2) rfl; grind)) rfl
    · refine G_tableIn C (34) 45 dX9_nights_11 (by rw [hsw]; decide) (by rw [hsw]; decide) (by rw [hsw]; rfl) (by decide) ?_
      refine G_aload_r C dX9_nights_45 rfl ?_
      refine G_getR C fo_X9_42 rfl rfl dX9_nights_46 ?_
      refine G_iload_n C dX9_nights_49 rfl ?_
      refine G_cVr1 C ok_X5_greater lk_X9_135 rfl rfl (c_X5_greater hj) (Nat.le_of_ble_eq_true rfl) dX9_nights_50 ?_
      exact G_retR C dX9_nights_53 (by clear C; simp only [s_know, bl]; first | grind | (have hso := sw_out hsw (m := 2) rfl; grind)) rfl
    · refine G_tableIn C (43) 54 dX9_nights_11 (by rw [hsw]; decide) (by rw [hsw]; decide) (by rw [hsw]; rfl) (by decide) ?_
      refine G_aload_r C dX9_nights_54 rfl ?_
      refine G_getR C fo_X9_42 rfl rfl dX9_nights_55 ?_
      refine G_iload_n C dX9_nights_58 rfl ?_
      refine G_cVr1 C ok_X5_areUnlike lk_X9_138 rfl rfl (c_X5_areUnlike hj) (Nat.le_of_ble_eq_true rfl) dX9_nights_59 ?_
      refine G_if_eq C 69 dX9_nights_62 (by decide) (fun h62 => ?_) (fun h62 => ?_)
      · rw [bl_z] at h62
        refine G_iconst C (0) dX9_nights_69 (by decide) ?_
        exact G_retR C dX9_nights_70 (by clear C; simp only [s_know, bl]; first | grind | (have hso := sw_out hsw (m := 2) rfl; grind)) rfl
      · rw [bl_z] at h62
        refine G_iconst C (1) dX9_nights_65 (by decide) ?_
        refine G_goto C 70 dX9_nights_66 (by decide) ?_
        exact G_retR C dX9_nights_70 (by clear C; simp only [s_know, bl]; first | grind | (have hso := sw_out hsw (m := 2) rfl; grind)) rfl
  · rw [bl_z] at h4
    refine G_ldc C kc_X9_72 dX9_nights_7 ?_
    exact G_retR C dX9_nights_9 (by clear C; simp only [s_know, bl]; first | grind | (have hso := sw_out hsw (m := 2) rfl; grind)) rfl
theorem mend_ne {M : Mem} {w : Nat} : (¬ mend M w false = mend M w true) ↔ (M 42 w < 0 ∧ ¬ om (mtold M 0 w) < 0 ∧ ¬ om (mtold M 1 w) < 0 ∧ ¬ om (mtold M 0 w) = om (mtold M 1 w)) := by
  have n0 : om (mtold M 0 w) < 0 ↔ mtold M 0 w = none := om_no
  have n1 : om (mtold M 1 w) < 0 ↔ mtold M 1 w = none := om_no
  simp only [mend, msch]
  cases e0 : mtold M 0 w <;> cases e1 : mtold M 1 w <;> by_cases hs : M 42 w < 0 <;> simp_all [s_end, om] <;> grind
set_option maxHeartbeats 4000000 in
set_option maxRecDepth 100000 in
theorem c_X10_nights {K : Kt} {d : Nat} {M : Mem} {nc nl nb nw : Nat} {w q : Int32} (hx : MS M nc nl nb nw) : Ri K (d + 5) mX10_nights [rf K 36, .int w, .int q] M (if 0 ≤ w ∧ w < 120 then s_know q (mend M w.toNatClampNeg false) (mend M w.toNatClampNeg true) (bl (¬ mend M w.toNatClampNeg false = mend M w.toNatClampNeg true)) else (-2000000001)) (M) := by
  refine Ri_int RX10 [(0, rf K 36), (1, .int w), (2, .int q)] rfl (by decide) rfl (Nat.le_of_ble_eq_true rfl) rfl (fun x C => ?_)
  obtain ⟨hc, hc8, hl, hl8, hb, hb8, hw, hw8, hv⟩ := id hx
  refine G_iload_n C dX10_nights_0 rfl ?_
  refine G_cSr1 C ok_X10_isWeek lk_X10_102 (c_X10_isWeek) (Nat.le_of_ble_eq_true rfl) dX10_nights_1 ?_
  refine G_if_eq C 16 dX10_nights_4 (by decide) (fun h4 => ?_) (fun h4 => ?_)
  · rw [bl_z] at h4
    refine G_ldc C kc_X10_106 dX10_nights_16 ?_
    exact G_retR C dX10_nights_18 (by clear C; first | (have hme := mend_ne (M := M) (w := j); simp only [s_know, bl]; grind) | (simp only [s_know, bl]; grind)) rfl
  · rw [bl_z] at h4
    obtain ⟨j, hj, rfl, tj⟩ := ix_12 (Decidable.not_not.mp h4)
    refine G_iload_n C dX10_nights_7 rfl ?_
    refine G_iconst C (0) dX10_nights_8 (by decide) ?_
    refine G_iconst C (2) dX10_nights_9 (by decide) ?_
    refine G_cSr3 C ok_X10_isIn lk_X10_90 (c_X10_isIn) (Nat.le_of_ble_eq_true rfl) dX10_nights_10 ?_
    refine G_if_ne C 19 dX10_nights_13 (by decide) (fun h13 => ?_) (fun h13 => ?_)
    · rw [bl_z] at h13
      refine G_iload_n C dX10_nights_19 rfl ?_
      refine G_iconst C (2) dX10_nights_20 (by decide) ?_
      refine G_icmp_ge C 40 dX10_nights_21 (by decide) (fun h21 => ?_) (fun h21 => ?_)
      · refine G_aload_r C dX10_nights_40 rfl ?_
        refine G_iconst C (nI 0) dX10_nights_41 (by decide) ?_
        refine G_iload_n C dX10_nights_42 rfl ?_
        refine G_cVr2 C ok_X10_diary lk_X10_136 rfl rfl (c_X10_diary (by decide) hj) (Nat.le_of_ble_eq_true rfl) dX10_nights_43 ?_
        refine G_istore_n C dX10_nights_46 (by decide) ?_
        refine G_aload_r C dX10_nights_47 rfl ?_
        refine G_iconst C (nI 1) dX10_nights_48 (by decide) ?_
        refine G_iload_n C dX10_nights_49 rfl ?_
        refine G_cVr2 C ok_X10_diary lk_X10_136 rfl rfl (c_X10_diary (by decide) hj) (Nat.le_of_ble_eq_true rfl) dX10_nights_50 ?_
        refine G_istore C dX10_nights_53 (by decide) ?_
        refine G_aload_r C dX10_nights_55 rfl ?_
        refine G_getR C fo_X10_25 rfl rfl dX10_nights_56 ?_
        refine G_iload_n C dX10_nights_59 rfl ?_
        refine G_ialdN C rfl (by assumption) (by decide) dX10_nights_60 ?_
        refine G_if_ge C 83 dX10_nights_61 (by decide) (fun h61 => ?_) (fun h61 => ?_)
        · refine G_iconst C (0) dX10_nights_83 (by decide) ?_
          exact G_retR C dX10_nights_84 (by clear C; first | (have hme := mend_ne (M := M) (w := j); simp only [s_know, bl]; grind) | (simp only [s_know, bl]; grind)) rfl
        · refine G_iload_n C dX10_nights_64 rfl ?_
          refine G_if_lt C 83 dX10_nights_65 (by decide) (fun h65 => ?_) (fun h65 => ?_)
          · refine G_iconst C (0) dX10_nights_83 (by decide) ?_
            exact G_retR C dX10_nights_84 (by clear C; first | (have hme := mend_ne (M := M) (w := j); simp only [s_know, bl]; grind) | (simp only [s_know, bl]; grind)) rfl
          · refine G_iload C dX10_nights_68 rfl ?_
            refine G_if_lt C 83 dX10_nights_70 (by decide) (fun h70 => ?_) (fun h70 => ?_)
            · refine G_iconst C (0) dX10_nights_83 (by decide) ?_
              exact G_retR C dX10_nights_84 (by clear C; first | (have hme := mend_ne (M := M) (w := j); simp only [s_know, bl]; grind) | (simp only [s_know, bl]; grind)) rfl
            · refine G_iload_n C dX10_nights_73 rfl ?_
              refine G_iload C dX10_nights_74 rfl ?_
              refine G_icmp_eq C 83 dX10_nights_76 (by decide) (fun h76 => ?_) (fun h76 => ?_)
              · refine G_iconst C (0) dX10_nights_83 (by decide) ?_
                exact G_retR C dX10_nights_84 (by clear C; first | (have hme := mend_ne (M := M) (w := j); simp only [s_know, bl]; grind) | (simp only [s_know, bl]; grind)) rfl
              · refine G_iconst C (1) dX10_nights_79 (by decide) ?_
                refine G_goto C 84 dX10_nights_80 (by decide) ?_
                exact G_retR C dX10_nights_84 (by clear C; first | (have hme := mend_ne (M := M) (w := j); simp only [s_know, bl]; grind) | (simp only [s_know, bl]; grind)) rfl
      · refine G_aload_r C dX10_nights_24 rfl ?_
        refine G_iload_n C dX10_nights_25 rfl ?_
        refine G_iload_n C dX10_nights_26 rfl ?_
        refine G_iconst C (1) dX10_nights_27 (by decide) ?_
        refine G_icmp_ne C 35 dX10_nights_28 (by decide) (fun h28 => ?_) (fun h28 => ?_)
        · refine G_iconst C (0) dX10_nights_35 (by decide) ?_
          refine G_cVr2 C ok_X10_end lk_X10_139 rfl rfl (c_X10_end hj (Or.inl rfl)) (Nat.le_of_ble_eq_true rfl) dX10_nights_36 ?_
          exact G_retR C dX10_nights_39 (by clear C; first | (have hme := mend_ne (M := M) (w := j); simp only [s_know, bl]; grind) | (simp only [s_know, bl]; grind)) rfl
        · refine G_iconst C (1) dX10_nights_31 (by decide) ?_
          refine G_goto C 36 dX10_nights_32 (by decide) ?_
          refine G_cVr2 C ok_X10_end lk_X10_139 rfl rfl (c_X10_end hj (Or.inr rfl)) (Nat.le_of_ble_eq_true rfl) dX10_nights_36 ?_
          exact G_retR C dX10_nights_39 (by clear C; first | (have hme := mend_ne (M := M) (w := j); simp only [s_know, bl]; grind) | (simp only [s_know, bl]; grind)) rfl
    · rw [bl_z] at h13
      refine G_ldc C kc_X10_106 dX10_nights_16 ?_
      exact G_retR C dX10_nights_18 (by clear C; first | (have hme := mend_ne (M := M) (w := j); simp only [s_know, bl]; grind) | (simp only [s_know, bl]; grind)) rfl
set_option maxHeartbeats 4000000 in
set_option maxRecDepth 100000 in
theorem c_X9_trim {K : Kt} {d : Nat} {M : Mem} {nc nl nb nw : Nat} {n : Int32} (hx : XS M nc nl nb nw) : Ri K (d + 3) mX9_trim [rf K 0, .int n] M (if 0 ≤ n ∧ n ≤ M 7 1 then n else (-2000000001)) (if 0 ≤ n ∧ n ≤ M 7 1 then wr M 7 1 n else M) := by
  refine Ri_int RX9 [(0, rf K 0), (1, .int n)] rfl (by decide) rfl (Nat.le_of_ble_eq_true rfl) rfl (fun x C => ?_)
  obtain ⟨hc, hc8, hl, hl8, hb, hb8, hw, hw8⟩ := id hx
  refine G_iload_n C dX9_trim_0 rfl ?_
  refine G_if_lt C 15 dX9_trim_1 (by decide) (fun h1 => ?_) (fun h1 => ?_)
  · refine G_ldc C kc_X9_72 dX9_trim_15 ?_
    exact G_retR C dX9_trim_17 (by clear C; grind) (by clear C; grind)
  · refine G_iload_n C dX9_trim_4 rfl ?_
    refine G_aload_r C dX9_trim_5 rfl ?_
    refine G_getR C fo_X9_19 rfl rfl dX9_trim_6 ?_
    refine G_getI C fo_X9_141 rfl rfl dX9_trim_9 ?_
    refine G_icmp_le C 18 dX9_trim_12 (by decide) (fun h12 => ?_) (fun h12 => ?_)
    · refine G_aload_r C dX9_trim_18 rfl ?_
      refine G_getR C fo_X9_19 rfl rfl dX9_trim_19 ?_
      refine G_iload_n C dX9_trim_22 rfl ?_
      refine G_putI C fp_X9_141 rfl rfl dX9_trim_23 ?_
      refine G_iload_n C dX9_trim_26 rfl ?_
      exact G_retR C dX9_trim_27 (by clear C; grind) (by clear C; grind)
    · refine G_ldc C kc_X9_72 dX9_trim_15 ?_
      exact G_retR C dX9_trim_17 (by clear C; grind) (by clear C; grind)
set_option maxHeartbeats 4000000 in
set_option maxRecDepth 100000 in
theorem c_X10_trim {K : Kt} {d : Nat} {M : Mem} {nc nl nb nw : Nat} {n : Int32} (hx : MS M nc nl nb nw) : Ri K (d + 3) mX10_trim [rf K 36, .int n] M (if 0 ≤ n ∧ n ≤ M 36 25 then n else (-2000000001)) (if 0 ≤ n ∧ n ≤ M 36 25 then wr M 36 25 n else M) := by
  refine Ri_int RX10 [(0, rf K 36), (1, .int n)] rfl (by decide) rfl (Nat.le_of_ble_eq_true rfl) rfl (fun x C => ?_)
  obtain ⟨hc, hc8, hl, hl8, hb, hb8, hw, hw8, hv⟩ := id hx
  refine G_iload_n C dX10_trim_0 rfl ?_
  refine G_iconst C (0) dX10_trim_1 (by decide) ?_
  refine G_aload_r C dX10_trim_2 rfl ?_
  refine G_getI C fo_X10_143 rfl rfl dX10_trim_3 ?_
  refine G_cSr3 C ok_X10_isIn lk_X10_90 (c_X10_isIn) (Nat.le_of_ble_eq_true rfl) dX10_trim_6 ?_
  refine G_if_ne C 15 dX10_trim_9 (by decide) (fun h9 => ?_) (fun h9 => ?_)
  · rw [bl_z] at h9
    refine G_aload_r C dX10_trim_15 rfl ?_
    refine G_iload_n C dX10_trim_16 rfl ?_
    refine G_putI C fp_X10_143 rfl rfl dX10_trim_17 ?_
    refine G_iload_n C dX10_trim_20 rfl ?_
    exact G_retR C dX10_trim_21 (by clear C; grind) (by clear C; grind)
  · rw [bl_z] at h9
    refine G_ldc C kc_X10_106 dX10_trim_12 ?_
    exact G_retR C dX10_trim_14 (by clear C; grind) (by clear C; grind)
set_option maxHeartbeats 4000000 in
set_option maxRecDepth 100000 in
theorem c_X9_inForce {K : Kt} {d : Nat} {M : Mem} {nc nl nb nw : Nat} {w : Int32} (hx : XS M nc nl nb nw) : Ri K (d + 3) mX9_inForce [rf K 0, .int w] M (if 0 ≤ w ∧ w < 120 then ixv (xlb M nl w) else (-2000000001)) (M) := by
  refine Ri_int RX9 [(0, rf K 0), (1, .int w)] rfl (by decide) rfl (Nat.le_of_ble_eq_true rfl) rfl (fun x C => ?_)
  obtain ⟨hc, hc8, hl, hl8, hb, hb8, hw, hw8⟩ := id hx
  refine G_iload_n C dX9_inForce_0 rfl ?_
  refine G_cSr1 C ok_X9_isWeek lk_X9_68 (c_X9_isWeek) (Nat.le_of_ble_eq_true rfl) dX9_inForce_1 ?_
  refine G_if_ne C 10 dX9_inForce_4 (by decide) (fun h4 => ?_) (fun h4 => ?_)
  · rw [bl_z] at h4
    refine G_aload_r C dX9_inForce_10 rfl ?_
    refine G_getR C fo_X9_35 rfl rfl dX9_inForce_11 ?_
    refine G_iload_n C dX9_inForce_14 rfl ?_
    refine G_cVr1 C ok_X4_numberAt lk_X9_163 rfl rfl (c_X4_numberAt hl hl8) (Nat.le_of_ble_eq_true rfl) dX9_inForce_15 ?_
    exact G_retR C dX9_inForce_18 (by clear C; grind) (by clear C; grind)
  · rw [bl_z] at h4
    refine G_ldc C kc_X9_72 dX9_inForce_7 ?_
    exact G_retR C dX9_inForce_9 (by clear C; grind) (by clear C; grind)
set_option maxHeartbeats 4000000 in
set_option maxRecDepth 100000 in
theorem c_X10_inForce {K : Kt} {d : Nat} {M : Mem} {nc nl nb nw : Nat} {w : Int32} (hx : MS M nc nl nb nw) : Ri K (d + 3) mX10_inForce [rf K 36, .int w] M (if 0 ≤ w ∧ w < 120 then ixv (mlb M nl w) else (-2000000001)) (M) := by
  refine Ri_int RX10 [(0, rf K 36), (1, .int w)] rfl (by decide) rfl (Nat.le_of_ble_eq_true rfl) rfl (fun x C => ?_)
  obtain ⟨hc, hc8, hl, hl8, hb, hb8, hw, hw8, hv⟩ := id hx
  have hbl : ∀ q, mlb M nl w = some q → q < nl := fun q hq => s_best_lt hq
  have hbn : ixm (mlb M nl w) < 0 ↔ mlb M nl w = none := ixm_neg (fun q hq => by have := hbl q hq; omega)
  refine G_iload_n C dX10_inForce_0 rfl ?_
  refine G_cSr1 C ok_X10_isWeek lk_X10_102 (c_X10_isWeek) (Nat.le_of_ble_eq_true rfl) dX10_inForce_1 ?_
  refine G_if_ne C 10 dX10_inForce_4 (by decide) (fun h4 => ?_) (fun h4 => ?_)
  · rw [bl_z] at h4
    refine G_aload_r C dX10_inForce_10 rfl ?_
    refine G_iload_n C dX10_inForce_11 rfl ?_
    refine G_cVr1 C ok_X10_lawOf lk_X10_199 rfl rfl (c_X10_lawOf hl hl8) (Nat.le_of_ble_eq_true rfl) dX10_inForce_12 ?_
    refine G_istore_n C dX10_inForce_15 (by decide) ?_
    refine G_iload_n C dX10_inForce_16 rfl ?_
    refine G_if_ge C 25 dX10_inForce_17 (by decide) (fun h17 => ?_) (fun h17 => ?_)
    · refine G_iload_n C dX10_inForce_25 rfl ?_
      exact G_retR C dX10_inForce_26 (by clear C; cases e : mlb M nl w <;> simp_all [ixv, ixm] <;> grind) rfl
    · refine G_ldc C kc_X10_115 dX10_inForce_20 ?_
      refine G_goto C 26 dX10_inForce_22 (by decide) ?_
      exact G_retR C dX10_inForce_26 (by clear C; cases e : mlb M nl w <;> simp_all [ixv, ixm] <;> grind) rfl
  · rw [bl_z] at h4
    refine G_ldc C kc_X10_106 dX10_inForce_7 ?_
    exact G_retR C dX10_inForce_9 (by clear C; cases e : mlb M nl w <;> simp_all [ixv, ixm] <;> grind) rfl
set_option maxHeartbeats 4000000 in
set_option maxRecDepth 100000 in
theorem c_X9_sum {K : Kt} {d : Nat} {M : Mem} {nc nl nb nw : Nat} {w n k : Int32} (hx : XS M nc nl nb nw) : Ri K (d + 4) mX9_sum [rf K 0, .int w, .int n, .int k] M (if (0 ≤ w ∧ w < 120) ∧ (0 ≤ n ∧ n ≤ 7) ∧ 0 ≤ k ∧ k ≤ nI nw then xsumv M nl nc w n k else (-2000000001)) (M) := by
  refine Ri_int RX9 [(0, rf K 0), (1, .int w), (2, .int n), (3, .int k)] rfl (by decide) rfl (Nat.le_of_ble_eq_true rfl) rfl (fun x C => ?_)
  obtain ⟨hc, hc8, hl, hl8, hb, hb8, hw, hw8⟩ := id hx
  refine G_iload_n C dX9_sum_0 rfl ?_
  refine G_cSr1 C ok_X9_isWeek lk_X9_68 (c_X9_isWeek) (Nat.le_of_ble_eq_true rfl) dX9_sum_1 ?_
  refine G_if_eq C 22 dX9_sum_4 (by decide) (fun h4 => ?_) (fun h4 => ?_)
  · rw [bl_z] at h4
    refine G_ldc C kc_X9_72 dX9_sum_22 ?_
    exact G_retR C dX9_sum_24 (by clear C; grind) (by clear C; grind)
  · rw [bl_z] at h4
    refine G_iload_n C dX9_sum_7 rfl ?_
    refine G_cSr1 C ok_X9_areNights lk_X9_125 (c_X9_areNights) (Nat.le_of_ble_eq_true rfl) dX9_sum_8 ?_
    refine G_if_eq C 22 dX9_sum_11 (by decide) (fun h11 => ?_) (fun h11 => ?_)
    · rw [bl_z] at h11
      refine G_ldc C kc_X9_72 dX9_sum_22 ?_
      exact G_retR C dX9_sum_24 (by clear C; grind) (by clear C; grind)
    · rw [bl_z] at h11
      refine G_aload_r C dX9_sum_14 rfl ?_
      refine G_iload_n C dX9_sum_15 rfl ?_
      refine G_cVr1 C ok_X9_isPast lk_X9_112 rfl rfl (c_X9_isPast) (Nat.le_of_ble_eq_true rfl) dX9_sum_16 ?_
      refine G_if_ne C 25 dX9_sum_19 (by decide) (fun h19 => ?_) (fun h19 => ?_)
      · rw [bl_z] at h19
        rw [hw] at h19
        refine G_aload_r C dX9_sum_25 rfl ?_
        refine G_iload_n C dX9_sum_26 rfl ?_
        refine G_iload_n C dX9_sum_27 rfl ?_
        refine G_iload_n C dX9_sum_28 rfl ?_
        refine G_cVr3 C ok_X9_sumOf lk_X9_166 rfl rfl (c_X9_sumOf hl hl8 hc hc8) (Nat.le_of_ble_eq_true rfl) dX9_sum_29 ?_
        exact G_retR C dX9_sum_32 (by clear C; grind) (by clear C; grind)
      · rw [bl_z] at h19
        rw [hw] at h19
        refine G_ldc C kc_X9_72 dX9_sum_22 ?_
        exact G_retR C dX9_sum_24 (by clear C; grind) (by clear C; grind)
set_option maxHeartbeats 4000000 in
set_option maxRecDepth 100000 in
theorem c_X10_sum {K : Kt} {d : Nat} {M : Mem} {nc nl nb nw : Nat} {w n k : Int32} (hx : MS M nc nl nb nw) : Ri K (d + 4) mX10_sum [rf K 36, .int w, .int n, .int k] M (if (0 ≤ w ∧ w < 120) ∧ (0 ≤ n ∧ n ≤ 7) ∧ 0 ≤ k ∧ k ≤ nI nw then msumv M nl nc w n k else (-2000000001)) (M) := by
  refine Ri_int RX10 [(0, rf K 36), (1, .int w), (2, .int n), (3, .int k)] rfl (by decide) rfl (Nat.le_of_ble_eq_true rfl) rfl (fun x C => ?_)
  obtain ⟨hc, hc8, hl, hl8, hb, hb8, hw, hw8, hv⟩ := id hx
  refine G_iload_n C dX10_sum_0 rfl ?_
  refine G_cSr1 C ok_X10_isWeek lk_X10_102 (c_X10_isWeek) (Nat.le_of_ble_eq_true rfl) dX10_sum_1 ?_
  refine G_if_eq C 35 dX10_sum_4 (by decide) (fun h4 => ?_) (fun h4 => ?_)
  · rw [bl_z] at h4
    refine G_ldc C kc_X10_106 dX10_sum_35 ?_
    exact G_retR C dX10_sum_37 (by clear C; grind) (by clear C; grind)
  · rw [bl_z] at h4
    refine G_iload_n C dX10_sum_7 rfl ?_
    refine G_iconst C (0) dX10_sum_8 (by decide) ?_
    refine G_bipush C (7) dX10_sum_9 (by decide) ?_
    refine G_cSr3 C ok_X10_isIn lk_X10_90 (c_X10_isIn) (Nat.le_of_ble_eq_true rfl) dX10_sum_11 ?_
    refine G_if_eq C 35 dX10_sum_14 (by decide) (fun h14 => ?_) (fun h14 => ?_)
    · rw [bl_z] at h14
      refine G_ldc C kc_X10_106 dX10_sum_35 ?_
      exact G_retR C dX10_sum_37 (by clear C; grind) (by clear C; grind)
    · rw [bl_z] at h14
      refine G_aload_r C dX10_sum_17 rfl ?_
      refine G_iload_n C dX10_sum_18 rfl ?_
      refine G_cVr1 C ok_X10_isPast lk_X10_123 rfl rfl (c_X10_isPast) (Nat.le_of_ble_eq_true rfl) dX10_sum_19 ?_
      refine G_if_eq C 35 dX10_sum_22 (by decide) (fun h22 => ?_) (fun h22 => ?_)
      · rw [bl_z] at h22
        rw [hw] at h22
        refine G_ldc C kc_X10_106 dX10_sum_35 ?_
        exact G_retR C dX10_sum_37 (by clear C; grind) (by clear C; grind)
      · rw [bl_z] at h22
        rw [hw] at h22
        refine G_aload_r C dX10_sum_25 rfl ?_
        refine G_iload_n C dX10_sum_26 rfl ?_
        refine G_iload_n C dX10_sum_27 rfl ?_
        refine G_iload_n C dX10_sum_28 rfl ?_
        refine G_cVr3 C ok_X10_sumOf lk_X10_203 rfl rfl (c_X10_sumOf hl hl8 hc hc8 hv) (Nat.le_of_ble_eq_true rfl) dX10_sum_29 ?_
        refine G_goto C 37 dX10_sum_32 (by decide) ?_
        exact G_retR C dX10_sum_37 (by clear C; grind) (by clear C; grind)
set_option maxHeartbeats 4000000 in
set_option maxRecDepth 100000 in
theorem c_X9_due {K : Kt} {d : Nat} {M : Mem} {nc nl nb nw : Nat} {w s k : Int32} (hx : XS M nc nl nb nw) : Ri K (d + 5) mX9_due [rf K 0, .int w, .int s, .int k] M (if (0 ≤ w ∧ w < 120) ∧ (s = 0 ∨ s = 1) ∧ 0 ≤ k ∧ k ≤ nI nw then xduev M nl nc s k w.toNatClampNeg else (-2000000001)) (M) := by
  refine Ri_int RX9 [(0, rf K 0), (1, .int w), (2, .int s), (3, .int k)] rfl (by decide) rfl (Nat.le_of_ble_eq_true rfl) rfl (fun x C => ?_)
  obtain ⟨hc, hc8, hl, hl8, hb, hb8, hw, hw8⟩ := id hx
  refine G_iload_n C dX9_due_0 rfl ?_
  refine G_cSr1 C ok_X9_isWeek lk_X9_68 (c_X9_isWeek) (Nat.le_of_ble_eq_true rfl) dX9_due_1 ?_
  refine G_if_eq C 23 dX9_due_4 (by decide) (fun h4 => ?_) (fun h4 => ?_)
  · rw [bl_z] at h4
    refine G_ldc C kc_X9_72 dX9_due_23 ?_
    exact G_retR C dX9_due_25 (by clear C; grind) (by clear C; grind)
  · rw [bl_z] at h4
    refine G_iload_n C dX9_due_7 rfl ?_
    refine G_iconst C (2) dX9_due_8 (by decide) ?_
    refine G_cSr2 C ok_X9_isBelow lk_X9_88 (c_X9_isBelow) (Nat.le_of_ble_eq_true rfl) dX9_due_9 ?_
    refine G_if_eq C 23 dX9_due_12 (by decide) (fun h12 => ?_) (fun h12 => ?_)
    · rw [bl_z] at h12
      refine G_ldc C kc_X9_72 dX9_due_23 ?_
      exact G_retR C dX9_due_25 (by clear C; grind) (by clear C; grind)
    · rw [bl_z] at h12
      refine G_aload_r C dX9_due_15 rfl ?_
      refine G_iload_n C dX9_due_16 rfl ?_
      refine G_cVr1 C ok_X9_isPast lk_X9_112 rfl rfl (c_X9_isPast) (Nat.le_of_ble_eq_true rfl) dX9_due_17 ?_
      refine G_if_ne C 26 dX9_due_20 (by decide) (fun h20 => ?_) (fun h20 => ?_)
      · rw [bl_z] at h20
        rw [hw] at h20
        obtain ⟨j, hj, rfl, tj⟩ := ix_12 (Decidable.not_not.mp h4)
        refine G_aload_r C dX9_due_26 rfl ?_
        refine G_iload_n C dX9_due_27 rfl ?_
        refine G_iload_n C dX9_due_28 rfl ?_
        refine G_iload_n C dX9_due_29 rfl ?_
        refine G_cVr3 C ok_X9_dueOf lk_X9_170 rfl rfl (c_X9_dueOf hl hl8 hc hc8 hj) (Nat.le_of_ble_eq_true rfl) dX9_due_30 ?_
        exact G_retR C dX9_due_33 (by clear C; grind) (by clear C; grind)
      · rw [bl_z] at h20
        rw [hw] at h20
        refine G_ldc C kc_X9_72 dX9_due_23 ?_
        exact G_retR C dX9_due_25 (by clear C; grind) (by clear C; grind)
set_option maxHeartbeats 4000000 in
set_option maxRecDepth 100000 in
theorem c_X10_due {K : Kt} {d : Nat} {M : Mem} {nc nl nb nw : Nat} {w s k : Int32} (hx : MS M nc nl nb nw) : Ri K (d + 5) mX10_due [rf K 36, .int w, .int s, .int k] M (if (0 ≤ w ∧ w < 120) ∧ (s = 0 ∨ s = 1) ∧ 0 ≤ k ∧ k ≤ nI nw then mduev M nl nc s k w.toNatClampNeg else (-2000000001)) (M) := by
  refine Ri_int RX10 [(0, rf K 36), (1, .int w), (2, .int s), (3, .int k)] rfl (by decide) rfl (Nat.le_of_ble_eq_true rfl) rfl (fun x C => ?_)
  obtain ⟨hc, hc8, hl, hl8, hb, hb8, hw, hw8, hv⟩ := id hx
  refine G_iload_n C dX10_due_0 rfl ?_
  refine G_cSr1 C ok_X10_isWeek lk_X10_102 (c_X10_isWeek) (Nat.le_of_ble_eq_true rfl) dX10_due_1 ?_
  refine G_if_eq C 32 dX10_due_4 (by decide) (fun h4 => ?_) (fun h4 => ?_)
  · rw [bl_z] at h4
    refine G_ldc C kc_X10_106 dX10_due_32 ?_
    exact G_retR C dX10_due_34 (by clear C; grind) (by clear C; grind)
  · rw [bl_z] at h4
    refine G_iload_n C dX10_due_7 rfl ?_
    refine G_cSr1 C ok_X10_isSide lk_X10_206 (c_X10_isSide) (Nat.le_of_ble_eq_true rfl) dX10_due_8 ?_
    refine G_if_eq C 32 dX10_due_11 (by decide) (fun h11 => ?_) (fun h11 => ?_)
    · rw [bl_z] at h11
      refine G_ldc C kc_X10_106 dX10_due_32 ?_
      exact G_retR C dX10_due_34 (by clear C; grind) (by clear C; grind)
    · rw [bl_z] at h11
      refine G_aload_r C dX10_due_14 rfl ?_
      refine G_iload_n C dX10_due_15 rfl ?_
      refine G_cVr1 C ok_X10_isPast lk_X10_123 rfl rfl (c_X10_isPast) (Nat.le_of_ble_eq_true rfl) dX10_due_16 ?_
      refine G_if_eq C 32 dX10_due_19 (by decide) (fun h19 => ?_) (fun h19 => ?_)
      · rw [bl_z] at h19
        rw [hw] at h19
        refine G_ldc C kc_X10_106 dX10_due_32 ?_
        exact G_retR C dX10_due_34 (by clear C; grind) (by clear C; grind)
      · rw [bl_z] at h19
        rw [hw] at h19
        obtain ⟨j, hj, rfl, tj⟩ := ix_12 (Decidable.not_not.mp h4)
        refine G_aload_r C dX10_due_22 rfl ?_
        refine G_iload_n C dX10_due_23 rfl ?_
        refine G_iload_n C dX10_due_24 rfl ?_
        refine G_iload_n C dX10_due_25 rfl ?_
        refine G_cVr3 C ok_X10_dueOf lk_X10_209 rfl rfl (c_X10_dueOf hl hl8 hc hc8 hv hj) (Nat.le_of_ble_eq_true rfl) dX10_due_26 ?_
        refine G_goto C 34 dX10_due_29 (by decide) ?_
        exact G_retR C dX10_due_34 (by clear C; grind) (by clear C; grind)
set_option maxHeartbeats 4000000 in
set_option maxRecDepth 100000 in
theorem c_X9_edge {K : Kt} {d : Nat} {M : Mem} {nc nl nb nw : Nat} {w n : Int32} (hx : XS M nc nl nb nw) : Ri K (d + 4) mX9_edge [rf K 0, .int w, .int n] M (if (0 ≤ w ∧ w < 120) ∧ 0 ≤ n ∧ n ≤ 6 then xsumv M nl nc w n (nI nw) - xsumv M nl nc w (n + 1) (nI nw) else (-2000000001)) (M) := by
  refine Ri_int RX9 [(0, rf K 0), (1, .int w), (2, .int n)] rfl (by decide) rfl (Nat.le_of_ble_eq_true rfl) rfl (fun x C => ?_)
  obtain ⟨hc, hc8, hl, hl8, hb, hb8, hw, hw8⟩ := id hx
  refine G_iload_n C dX9_edge_0 rfl ?_
  refine G_cSr1 C ok_X9_isWeek lk_X9_68 (c_X9_isWeek) (Nat.le_of_ble_eq_true rfl) dX9_edge_1 ?_
  refine G_if_eq C 16 dX9_edge_4 (by decide) (fun h4 => ?_) (fun h4 => ?_)
  · rw [bl_z] at h4
    refine G_ldc C kc_X9_72 dX9_edge_16 ?_
    exact G_retR C dX9_edge_18 (by clear C; grind) (by clear C; grind)
  · rw [bl_z] at h4
    refine G_iload_n C dX9_edge_7 rfl ?_
    refine G_bipush C (7) dX9_edge_8 (by decide) ?_
    refine G_cSr2 C ok_X9_isBelow lk_X9_88 (c_X9_isBelow) (Nat.le_of_ble_eq_true rfl) dX9_edge_10 ?_
    refine G_if_ne C 19 dX9_edge_13 (by decide) (fun h13 => ?_) (fun h13 => ?_)
    · rw [bl_z] at h13
      refine G_aload_r C dX9_edge_19 rfl ?_
      refine G_iload_n C dX9_edge_20 rfl ?_
      refine G_iload_n C dX9_edge_21 rfl ?_
      refine G_aload_r C dX9_edge_22 rfl ?_
      refine G_getI C fo_X9_78 rfl rfl dX9_edge_23 ?_
      refine G_is (nI nw) hw ?_
      refine G_cVr3 C ok_X9_sumOf lk_X9_166 rfl rfl (c_X9_sumOf hl hl8 hc hc8) (Nat.le_of_ble_eq_true rfl) dX9_edge_26 ?_
      refine G_aload_r C dX9_edge_29 rfl ?_
      refine G_iload_n C dX9_edge_30 rfl ?_
      refine G_iload_n C dX9_edge_31 rfl ?_
      refine G_iconst C (1) dX9_edge_32 (by decide) ?_
      refine G_iadd C dX9_edge_33 ?_
      refine G_aload_r C dX9_edge_34 rfl ?_
      refine G_getI C fo_X9_78 rfl rfl dX9_edge_35 ?_
      refine G_is (nI nw) hw ?_
      refine G_cVr3 C ok_X9_sumOf lk_X9_166 rfl rfl (c_X9_sumOf hl hl8 hc hc8) (Nat.le_of_ble_eq_true rfl) dX9_edge_38 ?_
      refine G_isub C dX9_edge_41 ?_
      exact G_retR C dX9_edge_42 (by clear C; grind) (by clear C; grind)
    · rw [bl_z] at h13
      refine G_ldc C kc_X9_72 dX9_edge_16 ?_
      exact G_retR C dX9_edge_18 (by clear C; grind) (by clear C; grind)
set_option maxHeartbeats 4000000 in
set_option maxRecDepth 100000 in
theorem c_X10_edge {K : Kt} {d : Nat} {M : Mem} {nc nl nb nw : Nat} {w n : Int32} (hx : MS M nc nl nb nw) : Ri K (d + 4) mX10_edge [rf K 36, .int w, .int n] M (if (0 ≤ w ∧ w < 120) ∧ 0 ≤ n ∧ n ≤ 6 then msumv M nl nc w n (nI nw) - msumv M nl nc w (n + 1) (nI nw) else (-2000000001)) (M) := by
  refine Ri_int RX10 [(0, rf K 36), (1, .int w), (2, .int n)] rfl (by decide) rfl (Nat.le_of_ble_eq_true rfl) rfl (fun x C => ?_)
  obtain ⟨hc, hc8, hl, hl8, hb, hb8, hw, hw8, hv⟩ := id hx
  refine G_iload_n C dX10_edge_0 rfl ?_
  refine G_cSr1 C ok_X10_isWeek lk_X10_102 (c_X10_isWeek) (Nat.le_of_ble_eq_true rfl) dX10_edge_1 ?_
  refine G_if_eq C 17 dX10_edge_4 (by decide) (fun h4 => ?_) (fun h4 => ?_)
  · rw [bl_z] at h4
    refine G_ldc C kc_X10_106 dX10_edge_17 ?_
    exact G_retR C dX10_edge_19 (by clear C; grind) (by clear C; grind)
  · rw [bl_z] at h4
    refine G_iload_n C dX10_edge_7 rfl ?_
    refine G_iconst C (0) dX10_edge_8 (by decide) ?_
    refine G_bipush C (6) dX10_edge_9 (by decide) ?_
    refine G_cSr3 C ok_X10_isIn lk_X10_90 (c_X10_isIn) (Nat.le_of_ble_eq_true rfl) dX10_edge_11 ?_
    refine G_if_ne C 20 dX10_edge_14 (by decide) (fun h14 => ?_) (fun h14 => ?_)
    · rw [bl_z] at h14
      refine G_aload_r C dX10_edge_20 rfl ?_
      refine G_iload_n C dX10_edge_21 rfl ?_
      refine G_iload_n C dX10_edge_22 rfl ?_
      refine G_aload_r C dX10_edge_23 rfl ?_
      refine G_getI C fo_X10_94 rfl rfl dX10_edge_24 ?_
      refine G_is (nI nw) hw ?_
      refine G_cVr3 C ok_X10_sumOf lk_X10_203 rfl rfl (c_X10_sumOf hl hl8 hc hc8 hv) (Nat.le_of_ble_eq_true rfl) dX10_edge_27 ?_
      refine G_aload_r C dX10_edge_30 rfl ?_
      refine G_iload_n C dX10_edge_31 rfl ?_
      refine G_iload_n C dX10_edge_32 rfl ?_
      refine G_iconst C (1) dX10_edge_33 (by decide) ?_
      refine G_iadd C dX10_edge_34 ?_
      refine G_aload_r C dX10_edge_35 rfl ?_
      refine G_getI C fo_X10_94 rfl rfl dX10_edge_36 ?_
      refine G_is (nI nw) hw ?_
      refine G_cVr3 C ok_X10_sumOf lk_X10_203 rfl rfl (c_X10_sumOf hl hl8 hc hc8 hv) (Nat.le_of_ble_eq_true rfl) dX10_edge_39 ?_
      refine G_isub C dX10_edge_42 ?_
      exact G_retR C dX10_edge_43 (by clear C; grind) (by clear C; grind)
    · rw [bl_z] at h14
      refine G_ldc C kc_X10_106 dX10_edge_17 ?_
      exact G_retR C dX10_edge_19 (by clear C; grind) (by clear C; grind)
def linX (M : Mem) (n : Nat) (a b c : Int32) : Mem := wr (wr (wr (wr M 29 n a) 30 n b) 31 n c) 28 3 (nI (n + 1))
def linM (M : Mem) (n : Nat) (a b c : Int32) : Mem := wr (wr (wr (wr M 52 n a) 53 n b) 54 n c) 36 18 (nI (n + 1))
set_option maxHeartbeats 4000000 in
set_option maxRecDepth 100000 in
theorem c_X1_add {K : Kt} {d : Nat} {M : Mem} {n : Nat} {a b c : Int32} (hn : M 28 3 = nI n) (h8 : n < 100) : Ri K d mX1_add [rf K 28, .int a, .int b, .int c] M (nI n) (linX M n a b c) := by
  refine Ri_int RX1 [(0, rf K 28), (1, .int a), (2, .int b), (3, .int c)] rfl (by decide) rfl (Nat.le_of_ble_eq_true rfl) rfl (fun x C => ?_)
  refine G_aload_r C dX1_add_0 rfl ?_
  refine G_getR C fo_X1_9 rfl rfl dX1_add_1 ?_
  refine G_aload_r C dX1_add_4 rfl ?_
  refine G_getI C fo_X1_25 rfl rfl dX1_add_5 ?_
  refine G_is (nI n) hn ?_
  refine G_iload_n C dX1_add_8 rfl ?_
  refine G_iastN C rfl (by assumption) (by decide) dX1_add_9 ?_
  refine G_aload_r C dX1_add_10 rfl ?_
  refine G_getR C fo_X1_15 rfl rfl dX1_add_11 ?_
  refine G_aload_r C dX1_add_14 rfl ?_
  refine G_getI C fo_X1_25 rfl rfl dX1_add_15 ?_
  refine G_is (nI n) hn ?_
  refine G_iload_n C dX1_add_18 rfl ?_
  refine G_iastN C rfl (by assumption) (by decide) dX1_add_19 ?_
  refine G_aload_r C dX1_add_20 rfl ?_
  refine G_getR C fo_X1_18 rfl rfl dX1_add_21 ?_
  refine G_aload_r C dX1_add_24 rfl ?_
  refine G_getI C fo_X1_25 rfl rfl dX1_add_25 ?_
  refine G_is (nI n) hn ?_
  refine G_iload_n C dX1_add_28 rfl ?_
  refine G_iastN C rfl (by assumption) (by decide) dX1_add_29 ?_
  refine G_aload_r C dX1_add_30 rfl ?_
  refine G_dup C dX1_add_31 rfl ?_
  refine G_getI C fo_X1_25 rfl rfl dX1_add_32 ?_
  refine G_is (nI n) hn ?_
  refine G_iconst C (1) dX1_add_35 (by decide) ?_
  refine G_iadd C dX1_add_36 ?_
  rw [nI_1]
  refine G_putI C fp_X1_25 rfl rfl dX1_add_37 ?_
  refine G_aload_r C dX1_add_40 rfl ?_
  refine G_getI C fo_X1_25 rfl rfl dX1_add_41 ?_
  refine G_is (nI (n + 1)) rfl ?_
  refine G_iconst C (1) dX1_add_44 (by decide) ?_
  refine G_isub C dX1_add_45 ?_
  exact G_retR C dX1_add_46 (nI_pred n) rfl
set_option maxHeartbeats 4000000 in
set_option maxRecDepth 100000 in
theorem c_X9_line {K : Kt} {d : Nat} {M : Mem} {nc nl nb nw : Nat} {w c m : Int32} (hx : XS M nc nl nb nw) : Ri K (d + 3) mX9_line [rf K 0, .int w, .int c, .int m] M (if (0 ≤ w ∧ w ≤ nI nw) ∧ (1 ≤ c ∧ c ≤ 1000000) ∧ 0 ≤ m ∧ m < 10 then (if nb = 100 then (-2000000003) else nI nb) else (-2000000001)) (if ((0 ≤ w ∧ w ≤ nI nw) ∧ (1 ≤ c ∧ c ≤ 1000000) ∧ 0 ≤ m ∧ m < 10) ∧ nb ≠ 100 then linX M nb w c m else M) := by
  refine Ri_int RX9 [(0, rf K 0), (1, .int w), (2, .int c), (3, .int m)] rfl (by decide) rfl (Nat.le_of_ble_eq_true rfl) rfl (fun x C => ?_)
  obtain ⟨hc, hc8, hl, hl8, hb, hb8, hw, hw8⟩ := id hx
  refine G_aload_r C dX9_line_0 rfl ?_
  refine G_iload_n C dX9_line_1 rfl ?_
  refine G_cVr1 C ok_X9_isPast lk_X9_112 rfl rfl (c_X9_isPast) (Nat.le_of_ble_eq_true rfl) dX9_line_2 ?_
  refine G_if_eq C 28 dX9_line_5 (by decide) (fun h5 => ?_) (fun h5 => ?_)
  · rw [bl_z] at h5
    rw [hw] at h5
    refine G_ldc C kc_X9_72 dX9_line_28 ?_
    exact G_retR C dX9_line_30 (by clear C; grind) (by clear C; grind)
  · rw [bl_z] at h5
    rw [hw] at h5
    refine G_iload_n C dX9_line_8 rfl ?_
    refine G_iconst C (1) dX9_line_9 (by decide) ?_
    refine G_icmp_lt C 28 dX9_line_10 (by decide) (fun h10 => ?_) (fun h10 => ?_)
    · refine G_ldc C kc_X9_72 dX9_line_28 ?_
      exact G_retR C dX9_line_30 (by clear C; grind) (by clear C; grind)
    · refine G_iload_n C dX9_line_13 rfl ?_
      refine G_ldc C kc_X9_190 dX9_line_14 ?_
      refine G_icmp_gt C 28 dX9_line_16 (by decide) (fun h16 => ?_) (fun h16 => ?_)
      · refine G_ldc C kc_X9_72 dX9_line_28 ?_
        exact G_retR C dX9_line_30 (by clear C; grind) (by clear C; grind)
      · refine G_iload_n C dX9_line_19 rfl ?_
        refine G_bipush C (10) dX9_line_20 (by decide) ?_
        refine G_cSr2 C ok_X9_isBelow lk_X9_88 (c_X9_isBelow) (Nat.le_of_ble_eq_true rfl) dX9_line_22 ?_
        refine G_if_ne C 31 dX9_line_25 (by decide) (fun h25 => ?_) (fun h25 => ?_)
        · rw [bl_z] at h25
          refine G_aload_r C dX9_line_31 rfl ?_
          refine G_getR C fo_X9_49 rfl rfl dX9_line_32 ?_
          refine G_getI C fo_X9_191 rfl rfl dX9_line_35 ?_
          refine G_is (nI nb) hb ?_
          refine G_bipush C (100) dX9_line_38 (by decide) ?_
          refine G_icmp_ne C 46 dX9_line_40 (by decide) (fun h40 => ?_) (fun h40 => ?_)
          · rw [nI_100 hb8] at h40
            refine G_aload_r C dX9_line_46 rfl ?_
            refine G_getR C fo_X9_49 rfl rfl dX9_line_47 ?_
            refine G_iload_n C dX9_line_50 rfl ?_
            refine G_iload_n C dX9_line_51 rfl ?_
            refine G_iload_n C dX9_line_52 rfl ?_
            refine G_cVr3 C ok_X1_add lk_X9_192 rfl rfl (c_X1_add hb (by omega)) (Nat.le_of_ble_eq_true rfl) dX9_line_53 ?_
            exact G_retR C dX9_line_56 (by clear C; grind) (by clear C; grind)
          · rw [nI_100 hb8] at h40
            refine G_ldc C kc_X9_77 dX9_line_43 ?_
            exact G_retR C dX9_line_45 (by clear C; grind) (by clear C; grind)
        · rw [bl_z] at h25
          refine G_ldc C kc_X9_72 dX9_line_28 ?_
          exact G_retR C dX9_line_30 (by clear C; grind) (by clear C; grind)
set_option maxHeartbeats 4000000 in
set_option maxRecDepth 100000 in
theorem c_X10_line {K : Kt} {d : Nat} {M : Mem} {nc nl nb nw : Nat} {w c m : Int32} (hx : MS M nc nl nb nw) : Ri K (d + 3) mX10_line [rf K 36, .int w, .int c, .int m] M (if (0 ≤ w ∧ w ≤ nI nw) ∧ (1 ≤ c ∧ c ≤ 1000000) ∧ 0 ≤ m ∧ m < 10 then (if nb = 100 then (-2000000003) else nI nb) else (-2000000001)) (if ((0 ≤ w ∧ w ≤ nI nw) ∧ (1 ≤ c ∧ c ≤ 1000000) ∧ 0 ≤ m ∧ m < 10) ∧ nb ≠ 100 then linM M nb w c m else M) := by
  refine Ri_int RX10 [(0, rf K 36), (1, .int w), (2, .int c), (3, .int m)] rfl (by decide) rfl (Nat.le_of_ble_eq_true rfl) rfl (fun x C => ?_)
  obtain ⟨hc, hc8, hl, hl8, hb, hb8, hw, hw8, hv⟩ := id hx
  refine G_aload_r C dX10_line_0 rfl ?_
  refine G_iload_n C dX10_line_1 rfl ?_
  refine G_cVr1 C ok_X10_isPast lk_X10_123 rfl rfl (c_X10_isPast) (Nat.le_of_ble_eq_true rfl) dX10_line_2 ?_
  refine G_if_eq C 28 dX10_line_5 (by decide) (fun h5 => ?_) (fun h5 => ?_)
  · rw [bl_z] at h5
    rw [hw] at h5
    refine G_ldc C kc_X10_106 dX10_line_28 ?_
    exact G_retR C dX10_line_30 (by clear C; first | grind | (rw [nI_pred]; grind)) (by clear C; first | grind | (rw [if_pos (by grind)]; rfl))
  · rw [bl_z] at h5
    rw [hw] at h5
    refine G_iload_n C dX10_line_8 rfl ?_
    refine G_iconst C (1) dX10_line_9 (by decide) ?_
    refine G_ldc C kc_X10_159 dX10_line_10 ?_
    refine G_cSr3 C ok_X10_isIn lk_X10_90 (c_X10_isIn) (Nat.le_of_ble_eq_true rfl) dX10_line_12 ?_
    refine G_if_eq C 28 dX10_line_15 (by decide) (fun h15 => ?_) (fun h15 => ?_)
    · rw [bl_z] at h15
      refine G_ldc C kc_X10_106 dX10_line_28 ?_
      exact G_retR C dX10_line_30 (by clear C; first | grind | (rw [nI_pred]; grind)) (by clear C; first | grind | (rw [if_pos (by grind)]; rfl))
    · rw [bl_z] at h15
      refine G_iload_n C dX10_line_18 rfl ?_
      refine G_iconst C (0) dX10_line_19 (by decide) ?_
      refine G_bipush C (9) dX10_line_20 (by decide) ?_
      refine G_cSr3 C ok_X10_isIn lk_X10_90 (c_X10_isIn) (Nat.le_of_ble_eq_true rfl) dX10_line_22 ?_
      refine G_if_ne C 31 dX10_line_25 (by decide) (fun h25 => ?_) (fun h25 => ?_)
      · rw [bl_z] at h25
        refine G_aload_r C dX10_line_31 rfl ?_
        refine G_getI C fo_X10_212 rfl rfl dX10_line_32 ?_
        refine G_is (nI nb) hb ?_
        refine G_bipush C (100) dX10_line_35 (by decide) ?_
        refine G_icmp_ne C 43 dX10_line_37 (by decide) (fun h37 => ?_) (fun h37 => ?_)
        · rw [nI_100 hb8] at h37
          have h8 : nb < 100 := by omega
          refine G_aload_r C dX10_line_43 rfl ?_
          refine G_getR C fo_X10_56 rfl rfl dX10_line_44 ?_
          refine G_aload_r C dX10_line_47 rfl ?_
          refine G_getI C fo_X10_212 rfl rfl dX10_line_48 ?_
          refine G_is (nI nb) hb ?_
          refine G_iload_n C dX10_line_51 rfl ?_
          refine G_iastN C rfl (by assumption) (by decide) dX10_line_52 ?_
          refine G_aload_r C dX10_line_53 rfl ?_
          refine G_getR C fo_X10_59 rfl rfl dX10_line_54 ?_
          refine G_aload_r C dX10_line_57 rfl ?_
          refine G_getI C fo_X10_212 rfl rfl dX10_line_58 ?_
          refine G_is (nI nb) hb ?_
          refine G_iload_n C dX10_line_61 rfl ?_
          refine G_iastN C rfl (by assumption) (by decide) dX10_line_62 ?_
          refine G_aload_r C dX10_line_63 rfl ?_
          refine G_getR C fo_X10_62 rfl rfl dX10_line_64 ?_
          refine G_aload_r C dX10_line_67 rfl ?_
          refine G_getI C fo_X10_212 rfl rfl dX10_line_68 ?_
          refine G_is (nI nb) hb ?_
          refine G_iload_n C dX10_line_71 rfl ?_
          refine G_iastN C rfl (by assumption) (by decide) dX10_line_72 ?_
          refine G_aload_r C dX10_line_73 rfl ?_
          refine G_dup C dX10_line_74 rfl ?_
          refine G_getI C fo_X10_212 rfl rfl dX10_line_75 ?_
          refine G_is (nI nb) hb ?_
          refine G_iconst C (1) dX10_line_78 (by decide) ?_
          refine G_iadd C dX10_line_79 ?_
          rw [nI_1]
          refine G_putI C fp_X10_212 rfl rfl dX10_line_80 ?_
          refine G_aload_r C dX10_line_83 rfl ?_
          refine G_getI C fo_X10_212 rfl rfl dX10_line_84 ?_
          refine G_is (nI (nb + 1)) rfl ?_
          refine G_iconst C (1) dX10_line_87 (by decide) ?_
          refine G_isub C dX10_line_88 ?_
          exact G_retR C dX10_line_89 (by clear C; first | grind | (rw [nI_pred]; grind)) (by clear C; first | grind | (rw [if_pos (by grind)]; rfl))
        · rw [nI_100 hb8] at h37
          refine G_ldc C kc_X10_110 dX10_line_40 ?_
          exact G_retR C dX10_line_42 (by clear C; first | grind | (rw [nI_pred]; grind)) (by clear C; first | grind | (rw [if_pos (by grind)]; rfl))
      · rw [bl_z] at h25
        refine G_ldc C kc_X10_106 dX10_line_28 ?_
        exact G_retR C dX10_line_30 (by clear C; first | grind | (rw [nI_pred]; grind)) (by clear C; first | grind | (rw [if_pos (by grind)]; rfl))
set_option maxHeartbeats 4000000 in
set_option maxRecDepth 100000 in
theorem c_X9_marks {K : Kt} {d : Nat} {M : Mem} {nc nl nb nw : Nat} {s : Int32} (hx : XS M nc nl nb nw) : Ri K (d + 3) mX9_marks [rf K 0, .int s] M (if 0 ≤ s ∧ s < 1024 then M 28 4 else (-2000000001)) (if 0 ≤ s ∧ s < 1024 then wr M 28 4 s else M) := by
  refine Ri_int RX9 [(0, rf K 0), (1, .int s)] rfl (by decide) rfl (Nat.le_of_ble_eq_true rfl) rfl (fun x C => ?_)
  obtain ⟨hc, hc8, hl, hl8, hb, hb8, hw, hw8⟩ := id hx
  refine G_iload_n C dX9_marks_0 rfl ?_
  refine G_sipush C (1024) dX9_marks_1 (by decide) ?_
  refine G_cSr2 C ok_X9_isBelow lk_X9_88 (c_X9_isBelow) (Nat.le_of_ble_eq_true rfl) dX9_marks_4 ?_
  refine G_if_ne C 13 dX9_marks_7 (by decide) (fun h7 => ?_) (fun h7 => ?_)
  · rw [bl_z] at h7
    refine G_aload_r C dX9_marks_13 rfl ?_
    refine G_getR C fo_X9_49 rfl rfl dX9_marks_14 ?_
    refine G_getI C fo_X9_194 rfl rfl dX9_marks_17 ?_
    refine G_istore_n C dX9_marks_20 (by decide) ?_
    refine G_aload_r C dX9_marks_21 rfl ?_
    refine G_getR C fo_X9_49 rfl rfl dX9_marks_22 ?_
    refine G_iload_n C dX9_marks_25 rfl ?_
    refine G_putI C fp_X9_194 rfl rfl dX9_marks_26 ?_
    refine G_iload_n C dX9_marks_29 rfl ?_
    exact G_retR C dX9_marks_30 (by clear C; grind) (by clear C; grind)
  · rw [bl_z] at h7
    refine G_ldc C kc_X9_72 dX9_marks_10 ?_
    exact G_retR C dX9_marks_12 (by clear C; grind) (by clear C; grind)
set_option maxHeartbeats 4000000 in
set_option maxRecDepth 100000 in
theorem c_X10_marks {K : Kt} {d : Nat} {M : Mem} {nc nl nb nw : Nat} {s : Int32} (hx : MS M nc nl nb nw) : Ri K (d + 3) mX10_marks [rf K 36, .int s] M (if 0 ≤ s ∧ s < 1024 then M 36 22 else (-2000000001)) (if 0 ≤ s ∧ s < 1024 then wr M 36 22 s else M) := by
  refine Ri_int RX10 [(0, rf K 36), (1, .int s)] rfl (by decide) rfl (Nat.le_of_ble_eq_true rfl) rfl (fun x C => ?_)
  obtain ⟨hc, hc8, hl, hl8, hb, hb8, hw, hw8, hv⟩ := id hx
  refine G_iload_n C dX10_marks_0 rfl ?_
  refine G_iconst C (0) dX10_marks_1 (by decide) ?_
  refine G_sipush C (1023) dX10_marks_2 (by decide) ?_
  refine G_cSr3 C ok_X10_isIn lk_X10_90 (c_X10_isIn) (Nat.le_of_ble_eq_true rfl) dX10_marks_5 ?_
  refine G_if_ne C 14 dX10_marks_8 (by decide) (fun h8 => ?_) (fun h8 => ?_)
  · rw [bl_z] at h8
    refine G_aload_r C dX10_marks_14 rfl ?_
    refine G_getI C fo_X10_65 rfl rfl dX10_marks_15 ?_
    refine G_istore_n C dX10_marks_18 (by decide) ?_
    refine G_aload_r C dX10_marks_19 rfl ?_
    refine G_iload_n C dX10_marks_20 rfl ?_
    refine G_putI C fp_X10_65 rfl rfl dX10_marks_21 ?_
    refine G_iload_n C dX10_marks_24 rfl ?_
    exact G_retR C dX10_marks_25 (by clear C; grind) (by clear C; grind)
  · rw [bl_z] at h8
    refine G_ldc C kc_X10_106 dX10_marks_11 ?_
    exact G_retR C dX10_marks_13 (by clear C; grind) (by clear C; grind)
set_option maxHeartbeats 4000000 in
set_option maxRecDepth 100000 in
theorem c_X9_paid {K : Kt} {d : Nat} {M : Mem} {nc nl nb nw : Nat} {w q : Int32} (hx : XS M nc nl nb nw) : Ri K (d + 3) mX9_paid [rf K 0, .int w, .int q] M (if (0 ≤ w ∧ w < 120) ∧ (q = 0 ∨ q = 1) then s_coin (M 29) (M 30) (M 31) (M 28 4) w (decide (q = 0)) nb else (-2000000001)) (M) := by
  refine Ri_int RX9 [(0, rf K 0), (1, .int w), (2, .int q)] rfl (by decide) rfl (Nat.le_of_ble_eq_true rfl) rfl (fun x C => ?_)
  obtain ⟨hc, hc8, hl, hl8, hb, hb8, hw, hw8⟩ := id hx
  refine G_iload_n C dX9_paid_0 rfl ?_
  refine G_cSr1 C ok_X9_isWeek lk_X9_68 (c_X9_isWeek) (Nat.le_of_ble_eq_true rfl) dX9_paid_1 ?_
  refine G_if_eq C 15 dX9_paid_4 (by decide) (fun h4 => ?_) (fun h4 => ?_)
  · rw [bl_z] at h4
    refine G_ldc C kc_X9_72 dX9_paid_15 ?_
    exact G_retR C dX9_paid_17 (by clear C; first | grind | (rw [if_pos (by grind)]; simp [*]; done)) rfl
  · rw [bl_z] at h4
    refine G_iload_n C dX9_paid_7 rfl ?_
    refine G_iconst C (2) dX9_paid_8 (by decide) ?_
    refine G_cSr2 C ok_X9_isBelow lk_X9_88 (c_X9_isBelow) (Nat.le_of_ble_eq_true rfl) dX9_paid_9 ?_
    refine G_if_ne C 18 dX9_paid_12 (by decide) (fun h12 => ?_) (fun h12 => ?_)
    · rw [bl_z] at h12
      refine G_aload_r C dX9_paid_18 rfl ?_
      refine G_getR C fo_X9_49 rfl rfl dX9_paid_19 ?_
      refine G_iload_n C dX9_paid_22 rfl ?_
      refine G_iload_n C dX9_paid_23 rfl ?_
      refine G_if_ne C 31 dX9_paid_24 (by decide) (fun h24 => ?_) (fun h24 => ?_)
      · refine G_iconst C (0) dX9_paid_31 (by decide) ?_
        refine G_cVr2 C ok_X1_coinsIn lk_X9_197 rfl rfl (c_X1_coinsIn (g := false) hb hb8) (Nat.le_of_ble_eq_true rfl) dX9_paid_32 ?_
        exact G_retR C dX9_paid_35 (by clear C; first | grind | (rw [if_pos (by grind)]; simp [*]; done)) rfl
      · refine G_iconst C (1) dX9_paid_27 (by decide) ?_
        refine G_goto C 32 dX9_paid_28 (by decide) ?_
        refine G_cVr2 C ok_X1_coinsIn lk_X9_197 rfl rfl (c_X1_coinsIn (g := true) hb hb8) (Nat.le_of_ble_eq_true rfl) dX9_paid_32 ?_
        exact G_retR C dX9_paid_35 (by clear C; first | grind | (rw [if_pos (by grind)]; simp [*]; done)) rfl
    · rw [bl_z] at h12
      refine G_ldc C kc_X9_72 dX9_paid_15 ?_
      exact G_retR C dX9_paid_17 (by clear C; first | grind | (rw [if_pos (by grind)]; simp [*]; done)) rfl
set_option maxHeartbeats 4000000 in
set_option maxRecDepth 100000 in
theorem L_X10_paid {K : Kt} {d : Nat} {M : Mem} {n : Nat} {w q : Int32} {x : Cx} {o : Int32} (hn : M 36 18 = nI n) (hN : n ≤ 100) (hq : q = 0 ∨ q = 1) (ho : o = s_coin (M 52) (M 53) (M 54) (M 36 22) w (decide (q = 0)) n) (C : Cok K x RX10 cX10_paid 5 (d + 1) (RI (fun v N => v = o ∧ N = M))) :
    ∀ (t j : Nat) (b : Int32), n < j + t → j ≤ n → b = s_coin (M 52) (M 53) (M 54) (M 36 22) w (decide (q = 0)) j → G K x 5 24 [(0, rf K 36), (1, .int w), (2, .int q), (3, .int b), (4, .int (nI j))] [] M := by
  intro t
  induction t with
  | zero => intro j b h1 h2; omega
  | succ t ih =>
    intro j b h1 h2 hb
    have hj : j ≤ 100 := by omega
    refine G_iload C dX10_paid_24 rfl ?_
    refine G_aload_r C dX10_paid_26 rfl ?_
    refine G_getI C fo_X10_212 rfl rfl dX10_paid_27 ?_
    refine G_icmp_ge C 82 dX10_paid_30 (by decide) (fun h30 => ?_) (fun h30 => ?_)
    · have hE : j = n := by have := n_le hn hN hj (by decide) h30; omega
      refine G_iload_n C dX10_paid_82 rfl ?_
      exact G_retR C dX10_paid_83 (by rw [ho, hb, hE]) rfl
    · have hlt : j < n := n_gt hn hN hj (by decide) h30
      have hj8 : j < 100 := by omega
      refine G_iload_n C dX10_paid_33 rfl ?_
      refine G_aload_r C dX10_paid_34 rfl ?_
      refine G_getR C fo_X10_56 rfl rfl dX10_paid_35 ?_
      refine G_iload C dX10_paid_38 rfl ?_
      refine G_ialdN C rfl (by assumption) (by decide) dX10_paid_40 ?_
      refine G_iload_n C dX10_paid_41 rfl ?_
      refine G_icmp_ne C 73 dX10_paid_42 (by decide) (fun h42 => ?_) (fun h42 => ?_)
      · refine G_iconst C (0) dX10_paid_73 (by decide) ?_
        refine G_iadd C dX10_paid_74 ?_
        refine G_istore_n C dX10_paid_75 (by decide) ?_
        refine G_iincN C dX10_paid_76 (by decide) rfl ?_
        refine G_goto C 24 dX10_paid_79 (by decide) ?_
        refine G_sub [(0, _), (1, _), (2, _), (3, _), (4, _)] (by repeat (first | refine And.intro rfl ?_ | exact True.intro)) ?_
        exact ih (j + 1) _ (by omega) (by omega) ((Int32.add_zero b).trans (hb.trans (s_sum_f (by cases hp : payb (M 36 22) (M 54) j <;> simp_all [bl])).symm))
      · refine G_aload_r C dX10_paid_45 rfl ?_
        refine G_iload C dX10_paid_46 rfl ?_
        refine G_cVr1 C ok_X10_isPay lk_X10_215 rfl rfl (c_X10_isPay hj8) (Nat.le_of_ble_eq_true rfl) dX10_paid_48 ?_
        refine G_iload_n C dX10_paid_51 rfl ?_
        refine G_if_ne C 59 dX10_paid_52 (by decide) (fun h52 => ?_) (fun h52 => ?_)
        · refine G_iconst C (0) dX10_paid_59 (by decide) ?_
          refine G_icmp_ne C 73 dX10_paid_60 (by decide) (fun h60 => ?_) (fun h60 => ?_)
          · refine G_iconst C (0) dX10_paid_73 (by decide) ?_
            refine G_iadd C dX10_paid_74 ?_
            refine G_istore_n C dX10_paid_75 (by decide) ?_
            refine G_iincN C dX10_paid_76 (by decide) rfl ?_
            refine G_goto C 24 dX10_paid_79 (by decide) ?_
            refine G_sub [(0, _), (1, _), (2, _), (3, _), (4, _)] (by repeat (first | refine And.intro rfl ?_ | exact True.intro)) ?_
            exact ih (j + 1) _ (by omega) (by omega) ((Int32.add_zero b).trans (hb.trans (s_sum_f (by cases hp : payb (M 36 22) (M 54) j <;> simp_all [bl])).symm))
          · refine G_aload_r C dX10_paid_63 rfl ?_
            refine G_getR C fo_X10_59 rfl rfl dX10_paid_64 ?_
            refine G_iload C dX10_paid_67 rfl ?_
            refine G_ialdN C rfl (by assumption) (by decide) dX10_paid_69 ?_
            refine G_goto C 74 dX10_paid_70 (by decide) ?_
            refine G_iadd C dX10_paid_74 ?_
            refine G_istore_n C dX10_paid_75 (by decide) ?_
            refine G_iincN C dX10_paid_76 (by decide) rfl ?_
            refine G_goto C 24 dX10_paid_79 (by decide) ?_
            refine G_sub [(0, _), (1, _), (2, _), (3, _), (4, _)] (by repeat (first | refine And.intro rfl ?_ | exact True.intro)) ?_
            exact ih (j + 1) _ (by omega) (by omega) ((by rw [hb]; rfl : _ = _).trans (s_sum_t (by cases hp : payb (M 36 22) (M 54) j <;> simp_all [bl])).symm)
        · refine G_iconst C (1) dX10_paid_55 (by decide) ?_
          refine G_goto C 60 dX10_paid_56 (by decide) ?_
          refine G_icmp_ne C 73 dX10_paid_60 (by decide) (fun h60 => ?_) (fun h60 => ?_)
          · refine G_iconst C (0) dX10_paid_73 (by decide) ?_
            refine G_iadd C dX10_paid_74 ?_
            refine G_istore_n C dX10_paid_75 (by decide) ?_
            refine G_iincN C dX10_paid_76 (by decide) rfl ?_
            refine G_goto C 24 dX10_paid_79 (by decide) ?_
            refine G_sub [(0, _), (1, _), (2, _), (3, _), (4, _)] (by repeat (first | refine And.intro rfl ?_ | exact True.intro)) ?_
            exact ih (j + 1) _ (by omega) (by omega) ((Int32.add_zero b).trans (hb.trans (s_sum_f (by cases hp : payb (M 36 22) (M 54) j <;> simp_all [bl])).symm))
          · refine G_aload_r C dX10_paid_63 rfl ?_
            refine G_getR C fo_X10_59 rfl rfl dX10_paid_64 ?_
            refine G_iload C dX10_paid_67 rfl ?_
            refine G_ialdN C rfl (by assumption) (by decide) dX10_paid_69 ?_
            refine G_goto C 74 dX10_paid_70 (by decide) ?_
            refine G_iadd C dX10_paid_74 ?_
            refine G_istore_n C dX10_paid_75 (by decide) ?_
            refine G_iincN C dX10_paid_76 (by decide) rfl ?_
            refine G_goto C 24 dX10_paid_79 (by decide) ?_
            refine G_sub [(0, _), (1, _), (2, _), (3, _), (4, _)] (by repeat (first | refine And.intro rfl ?_ | exact True.intro)) ?_
            exact ih (j + 1) _ (by omega) (by omega) ((by rw [hb]; rfl : _ = _).trans (s_sum_t (by cases hp : payb (M 36 22) (M 54) j <;> simp_all [bl])).symm)
set_option maxHeartbeats 4000000 in
set_option maxRecDepth 100000 in
theorem c_X10_paid {K : Kt} {d : Nat} {M : Mem} {nc nl nb nw : Nat} {w q : Int32} (hx : MS M nc nl nb nw) : Ri K (d + 3) mX10_paid [rf K 36, .int w, .int q] M (if (0 ≤ w ∧ w < 120) ∧ (q = 0 ∨ q = 1) then s_coin (M 52) (M 53) (M 54) (M 36 22) w (decide (q = 0)) nb else (-2000000001)) (M) := by
  refine Ri_int RX10 [(0, rf K 36), (1, .int w), (2, .int q)] rfl (by decide) rfl (Nat.le_of_ble_eq_true rfl) rfl (fun x C => ?_)
  obtain ⟨hc, hc8, hl, hl8, hb, hb8, hw, hw8, hv⟩ := id hx
  refine G_iload_n C dX10_paid_0 rfl ?_
  refine G_cSr1 C ok_X10_isWeek lk_X10_102 (c_X10_isWeek) (Nat.le_of_ble_eq_true rfl) dX10_paid_1 ?_
  refine G_if_eq C 16 dX10_paid_4 (by decide) (fun h4 => ?_) (fun h4 => ?_)
  · rw [bl_z] at h4
    refine G_ldc C kc_X10_106 dX10_paid_16 ?_
    exact G_retR C dX10_paid_18 (by clear C; grind) (by clear C; grind)
  · rw [bl_z] at h4
    refine G_iload_n C dX10_paid_7 rfl ?_
    refine G_iconst C (0) dX10_paid_8 (by decide) ?_
    refine G_iconst C (1) dX10_paid_9 (by decide) ?_
    refine G_cSr3 C ok_X10_isIn lk_X10_90 (c_X10_isIn) (Nat.le_of_ble_eq_true rfl) dX10_paid_10 ?_
    refine G_if_ne C 19 dX10_paid_13 (by decide) (fun h13 => ?_) (fun h13 => ?_)
    · rw [bl_z] at h13
      refine G_iconst C (0) dX10_paid_19 (by decide) ?_
      refine G_istore_n C dX10_paid_20 (by decide) ?_
      refine G_iconst C (nI 0) dX10_paid_21 (by decide) ?_
      refine G_istore C dX10_paid_22 (by decide) ?_
      refine G_sub [(0, _), (1, _), (2, _), (3, _), (4, _)] (by repeat (first | refine And.intro rfl ?_ | exact True.intro)) ?_
      exact L_X10_paid hb hb8 (by grind) (by rw [if_pos (by grind)]) C (nb + 1) 0 0 (by omega) (by omega) rfl
    · rw [bl_z] at h13
      refine G_ldc C kc_X10_106 dX10_paid_16 ?_
      exact G_retR C dX10_paid_18 (by clear C; grind) (by clear C; grind)
set_option maxHeartbeats 4000000 in
set_option maxRecDepth 100000 in
theorem c_X9_forgive {K : Kt} {d : Nat} {M : Mem} {nc nl nb nw : Nat} {w q : Int32} (hx : XS M nc nl nb nw) : Ri K (d + 3) mX9_forgive [rf K 0, .int w, .int q] M (if (0 ≤ w ∧ w < 120) ∧ (q = 0 ∨ q = 1) then (if M 35 w.toNatClampNeg = 0 then 0 else 1) else (-2000000001)) (if (0 ≤ w ∧ w < 120) ∧ (q = 0 ∨ q = 1) then wr M 35 w.toNatClampNeg q else M) := by
  refine Ri_int RX9 [(0, rf K 0), (1, .int w), (2, .int q)] rfl (by decide) rfl (Nat.le_of_ble_eq_true rfl) rfl (fun x C => ?_)
  obtain ⟨hc, hc8, hl, hl8, hb, hb8, hw, hw8⟩ := id hx
  refine G_iload_n C dX9_forgive_0 rfl ?_
  refine G_cSr1 C ok_X9_isWeek lk_X9_68 (c_X9_isWeek) (Nat.le_of_ble_eq_true rfl) dX9_forgive_1 ?_
  refine G_if_eq C 15 dX9_forgive_4 (by decide) (fun h4 => ?_) (fun h4 => ?_)
  · rw [bl_z] at h4
    refine G_ldc C kc_X9_72 dX9_forgive_15 ?_
    exact G_retR C dX9_forgive_17 (by clear C; grind) (by clear C; grind)
  · rw [bl_z] at h4
    obtain ⟨j, hj, rfl, tj⟩ := ix_12 (Decidable.not_not.mp h4)
    refine G_iload_n C dX9_forgive_7 rfl ?_
    refine G_iconst C (2) dX9_forgive_8 (by decide) ?_
    refine G_cSr2 C ok_X9_isBelow lk_X9_88 (c_X9_isBelow) (Nat.le_of_ble_eq_true rfl) dX9_forgive_9 ?_
    refine G_if_ne C 18 dX9_forgive_12 (by decide) (fun h12 => ?_) (fun h12 => ?_)
    · rw [bl_z] at h12
      refine G_aload_r C dX9_forgive_18 rfl ?_
      refine G_getR C fo_X9_60 rfl rfl dX9_forgive_19 ?_
      refine G_iload_n C dX9_forgive_22 rfl ?_
      refine G_zaldN C rfl (by assumption) (by decide) dX9_forgive_23 ?_
      refine G_if_eq C 31 dX9_forgive_24 (by decide) (fun h24 => ?_) (fun h24 => ?_)
      · refine G_iconst C (0) dX9_forgive_31 (by decide) ?_
        refine G_istore_n C dX9_forgive_32 (by decide) ?_
        refine G_aload_r C dX9_forgive_33 rfl ?_
        refine G_getR C fo_X9_60 rfl rfl dX9_forgive_34 ?_
        refine G_iload_n C dX9_forgive_37 rfl ?_
        refine G_iload_n C dX9_forgive_38 rfl ?_
        refine G_iconst C (1) dX9_forgive_39 (by decide) ?_
        refine G_icmp_ne C 47 dX9_forgive_40 (by decide) (fun h40 => ?_) (fun h40 => ?_)
        · refine G_iconst C (0) dX9_forgive_47 (by decide) ?_
          refine G_zastN C rfl (by assumption) (by decide) (by decide) dX9_forgive_48 ?_
          refine G_iload_n C dX9_forgive_49 rfl ?_
          exact G_retR C dX9_forgive_50 (by clear C; grind) (by clear C; grind)
        · refine G_iconst C (1) dX9_forgive_43 (by decide) ?_
          refine G_goto C 48 dX9_forgive_44 (by decide) ?_
          refine G_zastN C rfl (by assumption) (by decide) (by decide) dX9_forgive_48 ?_
          refine G_iload_n C dX9_forgive_49 rfl ?_
          exact G_retR C dX9_forgive_50 (by clear C; grind) (by clear C; grind)
      · refine G_iconst C (1) dX9_forgive_27 (by decide) ?_
        refine G_goto C 32 dX9_forgive_28 (by decide) ?_
        refine G_istore_n C dX9_forgive_32 (by decide) ?_
        refine G_aload_r C dX9_forgive_33 rfl ?_
        refine G_getR C fo_X9_60 rfl rfl dX9_forgive_34 ?_
        refine G_iload_n C dX9_forgive_37 rfl ?_
        refine G_iload_n C dX9_forgive_38 rfl ?_
        refine G_iconst C (1) dX9_forgive_39 (by decide) ?_
        refine G_icmp_ne C 47 dX9_forgive_40 (by decide) (fun h40 => ?_) (fun h40 => ?_)
        · refine G_iconst C (0) dX9_forgive_47 (by decide) ?_
          refine G_zastN C rfl (by assumption) (by decide) (by decide) dX9_forgive_48 ?_
          refine G_iload_n C dX9_forgive_49 rfl ?_
          exact G_retR C dX9_forgive_50 (by clear C; grind) (by clear C; grind)
        · refine G_iconst C (1) dX9_forgive_43 (by decide) ?_
          refine G_goto C 48 dX9_forgive_44 (by decide) ?_
          refine G_zastN C rfl (by assumption) (by decide) (by decide) dX9_forgive_48 ?_
          refine G_iload_n C dX9_forgive_49 rfl ?_
          exact G_retR C dX9_forgive_50 (by clear C; grind) (by clear C; grind)
    · rw [bl_z] at h12
      refine G_ldc C kc_X9_72 dX9_forgive_15 ?_
      exact G_retR C dX9_forgive_17 (by clear C; grind) (by clear C; grind)
set_option maxHeartbeats 4000000 in
set_option maxRecDepth 100000 in
theorem c_X10_forgive {K : Kt} {d : Nat} {M : Mem} {nc nl nb nw : Nat} {w q : Int32} (hx : MS M nc nl nb nw) : Ri K (d + 3) mX10_forgive [rf K 36, .int w, .int q] M (if (0 ≤ w ∧ w < 120) ∧ (q = 0 ∨ q = 1) then (if M 43 w.toNatClampNeg = 0 then 0 else 1) else (-2000000001)) (if (0 ≤ w ∧ w < 120) ∧ (q = 0 ∨ q = 1) then wr M 43 w.toNatClampNeg q else M) := by
  refine Ri_int RX10 [(0, rf K 36), (1, .int w), (2, .int q)] rfl (by decide) rfl (Nat.le_of_ble_eq_true rfl) rfl (fun x C => ?_)
  obtain ⟨hc, hc8, hl, hl8, hb, hb8, hw, hw8, hv⟩ := id hx
  refine G_iload_n C dX10_forgive_0 rfl ?_
  refine G_cSr1 C ok_X10_isWeek lk_X10_102 (c_X10_isWeek) (Nat.le_of_ble_eq_true rfl) dX10_forgive_1 ?_
  refine G_if_eq C 16 dX10_forgive_4 (by decide) (fun h4 => ?_) (fun h4 => ?_)
  · rw [bl_z] at h4
    refine G_ldc C kc_X10_106 dX10_forgive_16 ?_
    exact G_retR C dX10_forgive_18 (by clear C; grind) (by clear C; grind)
  · rw [bl_z] at h4
    obtain ⟨j, hj, rfl, tj⟩ := ix_12 (Decidable.not_not.mp h4)
    refine G_iload_n C dX10_forgive_7 rfl ?_
    refine G_iconst C (0) dX10_forgive_8 (by decide) ?_
    refine G_iconst C (1) dX10_forgive_9 (by decide) ?_
    refine G_cSr3 C ok_X10_isIn lk_X10_90 (c_X10_isIn) (Nat.le_of_ble_eq_true rfl) dX10_forgive_10 ?_
    refine G_if_ne C 19 dX10_forgive_13 (by decide) (fun h13 => ?_) (fun h13 => ?_)
    · rw [bl_z] at h13
      refine G_aload_r C dX10_forgive_19 rfl ?_
      refine G_getR C fo_X10_28 rfl rfl dX10_forgive_20 ?_
      refine G_iload_n C dX10_forgive_23 rfl ?_
      refine G_zaldN C rfl (by assumption) (by decide) dX10_forgive_24 ?_
      refine G_if_eq C 32 dX10_forgive_25 (by decide) (fun h25 => ?_) (fun h25 => ?_)
      · refine G_iconst C (0) dX10_forgive_32 (by decide) ?_
        refine G_istore_n C dX10_forgive_33 (by decide) ?_
        refine G_aload_r C dX10_forgive_34 rfl ?_
        refine G_getR C fo_X10_28 rfl rfl dX10_forgive_35 ?_
        refine G_iload_n C dX10_forgive_38 rfl ?_
        refine G_iload_n C dX10_forgive_39 rfl ?_
        refine G_iconst C (1) dX10_forgive_40 (by decide) ?_
        refine G_icmp_ne C 48 dX10_forgive_41 (by decide) (fun h41 => ?_) (fun h41 => ?_)
        · refine G_iconst C (0) dX10_forgive_48 (by decide) ?_
          refine G_zastN C rfl (by assumption) (by decide) (by decide) dX10_forgive_49 ?_
          refine G_iload_n C dX10_forgive_50 rfl ?_
          exact G_retR C dX10_forgive_51 (by clear C; grind) (by clear C; grind)
        · refine G_iconst C (1) dX10_forgive_44 (by decide) ?_
          refine G_goto C 49 dX10_forgive_45 (by decide) ?_
          refine G_zastN C rfl (by assumption) (by decide) (by decide) dX10_forgive_49 ?_
          refine G_iload_n C dX10_forgive_50 rfl ?_
          exact G_retR C dX10_forgive_51 (by clear C; grind) (by clear C; grind)
      · refine G_iconst C (1) dX10_forgive_28 (by decide) ?_
        refine G_goto C 33 dX10_forgive_29 (by decide) ?_
        refine G_istore_n C dX10_forgive_33 (by decide) ?_
        refine G_aload_r C dX10_forgive_34 rfl ?_
        refine G_getR C fo_X10_28 rfl rfl dX10_forgive_35 ?_
        refine G_iload_n C dX10_forgive_38 rfl ?_
        refine G_iload_n C dX10_forgive_39 rfl ?_
        refine G_iconst C (1) dX10_forgive_40 (by decide) ?_
        refine G_icmp_ne C 48 dX10_forgive_41 (by decide) (fun h41 => ?_) (fun h41 => ?_)
        · refine G_iconst C (0) dX10_forgive_48 (by decide) ?_
          refine G_zastN C rfl (by assumption) (by decide) (by decide) dX10_forgive_49 ?_
          refine G_iload_n C dX10_forgive_50 rfl ?_
          exact G_retR C dX10_forgive_51 (by clear C; grind) (by clear C; grind)
        · refine G_iconst C (1) dX10_forgive_44 (by decide) ?_
          refine G_goto C 49 dX10_forgive_45 (by decide) ?_
          refine G_zastN C rfl (by assumption) (by decide) (by decide) dX10_forgive_49 ?_
          refine G_iload_n C dX10_forgive_50 rfl ?_
          exact G_retR C dX10_forgive_51 (by clear C; grind) (by clear C; grind)
    · rw [bl_z] at h13
      refine G_ldc C kc_X10_106 dX10_forgive_16 ?_
      exact G_retR C dX10_forgive_18 (by clear C; grind) (by clear C; grind)
set_option maxHeartbeats 4000000 in
set_option maxRecDepth 100000 in
theorem c_X9_rate {K : Kt} {d : Nat} {M : Mem} {nc nl nb nw : Nat} {v : Int32} (hx : XS M nc nl nb nw) : Ri K (d + 3) mX9_rate [rf K 0, .int v] M (if 0 ≤ v ∧ v ≤ 500 then M 0 8 else (-2000000001)) (if 0 ≤ v ∧ v ≤ 500 then wr M 0 8 v else M) := by
  refine Ri_int RX9 [(0, rf K 0), (1, .int v)] rfl (by decide) rfl (Nat.le_of_ble_eq_true rfl) rfl (fun x C => ?_)
  obtain ⟨hc, hc8, hl, hl8, hb, hb8, hw, hw8⟩ := id hx
  refine G_iload_n C dX9_rate_0 rfl ?_
  refine G_if_lt C 11 dX9_rate_1 (by decide) (fun h1 => ?_) (fun h1 => ?_)
  · refine G_ldc C kc_X9_72 dX9_rate_11 ?_
    exact G_retR C dX9_rate_13 (by clear C; grind) (by clear C; grind)
  · refine G_iload_n C dX9_rate_4 rfl ?_
    refine G_sipush C (500) dX9_rate_5 (by decide) ?_
    refine G_icmp_le C 14 dX9_rate_8 (by decide) (fun h8 => ?_) (fun h8 => ?_)
    · refine G_aload_r C dX9_rate_14 rfl ?_
      refine G_getI C fo_X9_233 rfl rfl dX9_rate_15 ?_
      refine G_istore_n C dX9_rate_18 (by decide) ?_
      refine G_aload_r C dX9_rate_19 rfl ?_
      refine G_iload_n C dX9_rate_20 rfl ?_
      refine G_putI C fp_X9_233 rfl rfl dX9_rate_21 ?_
      refine G_iload_n C dX9_rate_24 rfl ?_
      exact G_retR C dX9_rate_25 (by clear C; grind) (by clear C; grind)
    · refine G_ldc C kc_X9_72 dX9_rate_11 ?_
      exact G_retR C dX9_rate_13 (by clear C; grind) (by clear C; grind)
set_option maxHeartbeats 4000000 in
set_option maxRecDepth 100000 in
theorem c_X10_rate {K : Kt} {d : Nat} {M : Mem} {nc nl nb nw : Nat} {v : Int32} (hx : MS M nc nl nb nw) : Ri K (d + 3) mX10_rate [rf K 36, .int v] M (if 0 ≤ v ∧ v ≤ 500 then M 36 23 else (-2000000001)) (if 0 ≤ v ∧ v ≤ 500 then wr M 36 23 v else M) := by
  refine Ri_int RX10 [(0, rf K 36), (1, .int v)] rfl (by decide) rfl (Nat.le_of_ble_eq_true rfl) rfl (fun x C => ?_)
  obtain ⟨hc, hc8, hl, hl8, hb, hb8, hw, hw8, hv⟩ := id hx
  refine G_iload_n C dX10_rate_0 rfl ?_
  refine G_iconst C (0) dX10_rate_1 (by decide) ?_
  refine G_sipush C (500) dX10_rate_2 (by decide) ?_
  refine G_cSr3 C ok_X10_isIn lk_X10_90 (c_X10_isIn) (Nat.le_of_ble_eq_true rfl) dX10_rate_5 ?_
  refine G_if_ne C 14 dX10_rate_8 (by decide) (fun h8 => ?_) (fun h8 => ?_)
  · rw [bl_z] at h8
    refine G_aload_r C dX10_rate_14 rfl ?_
    refine G_getI C fo_X10_231 rfl rfl dX10_rate_15 ?_
    refine G_istore_n C dX10_rate_18 (by decide) ?_
    refine G_aload_r C dX10_rate_19 rfl ?_
    refine G_iload_n C dX10_rate_20 rfl ?_
    refine G_putI C fp_X10_231 rfl rfl dX10_rate_21 ?_
    refine G_iload_n C dX10_rate_24 rfl ?_
    exact G_retR C dX10_rate_25 (by clear C; grind) (by clear C; grind)
  · rw [bl_z] at h8
    refine G_ldc C kc_X10_106 dX10_rate_11 ?_
    exact G_retR C dX10_rate_13 (by clear C; grind) (by clear C; grind)
theorem nw_r {n : Nat} (h : n < 120) : 0 ≤ nI n ∧ nI n < 120 := ⟨nI_pos' (by omega), (nI_ltI (b := 120) (by omega) (by decide)).mpr h⟩
set_option maxHeartbeats 4000000 in
set_option maxRecDepth 100000 in
theorem c_X9_weeks {K : Kt} {d : Nat} {M : Mem} {nc nl nb nw : Nat} {n : Int32} (hx : XS M nc nl nb nw) : Ri K (d + 3) mX9_weeks [rf K 0, .int n] M (if (1 ≤ n ∧ n ≤ 60) ∧ nI nw + n < 120 then nI nw + n else (-2000000001)) (if (1 ≤ n ∧ n ≤ 60) ∧ nI nw + n < 120 then wr M 0 9 (nI nw + n) else M) := by
  refine Ri_int RX9 [(0, rf K 0), (1, .int n)] rfl (by decide) rfl (Nat.le_of_ble_eq_true rfl) rfl (fun x C => ?_)
  obtain ⟨hc, hc8, hl, hl8, hb, hb8, hw, hw8⟩ := id hx
  have hr := nw_r hw8
  refine G_iload_n C dX9_weeks_0 rfl ?_
  refine G_iconst C (1) dX9_weeks_1 (by decide) ?_
  refine G_icmp_lt C 23 dX9_weeks_2 (by decide) (fun h2 => ?_) (fun h2 => ?_)
  · refine G_ldc C kc_X9_72 dX9_weeks_23 ?_
    exact G_retR C dX9_weeks_25 (by clear C; grind) (by clear C; grind)
  · refine G_iload_n C dX9_weeks_5 rfl ?_
    refine G_bipush C (60) dX9_weeks_6 (by decide) ?_
    refine G_icmp_gt C 23 dX9_weeks_8 (by decide) (fun h8 => ?_) (fun h8 => ?_)
    · refine G_ldc C kc_X9_72 dX9_weeks_23 ?_
      exact G_retR C dX9_weeks_25 (by clear C; grind) (by clear C; grind)
    · refine G_aload_r C dX9_weeks_11 rfl ?_
      refine G_getI C fo_X9_78 rfl rfl dX9_weeks_12 ?_
      refine G_is (nI nw) hw ?_
      refine G_iload_n C dX9_weeks_15 rfl ?_
      refine G_iadd C dX9_weeks_16 ?_
      refine G_cSr1 C ok_X9_isWeek lk_X9_68 (c_X9_isWeek) (Nat.le_of_ble_eq_true rfl) dX9_weeks_17 ?_
      refine G_if_ne C 26 dX9_weeks_20 (by decide) (fun h20 => ?_) (fun h20 => ?_)
      · rw [bl_z] at h20
        refine G_aload_r C dX9_weeks_26 rfl ?_
        refine G_dup C dX9_weeks_27 rfl ?_
        refine G_getI C fo_X9_78 rfl rfl dX9_weeks_28 ?_
        refine G_is (nI nw) hw ?_
        refine G_iload_n C dX9_weeks_31 rfl ?_
        refine G_iadd C dX9_weeks_32 ?_
        refine G_putI C fp_X9_78 rfl rfl dX9_weeks_33 ?_
        refine G_aload_r C dX9_weeks_36 rfl ?_
        refine G_getI C fo_X9_78 rfl rfl dX9_weeks_37 ?_
        refine G_is (nI nw + n) rfl ?_
        exact G_retR C dX9_weeks_40 (by clear C; grind) (by clear C; grind)
      · rw [bl_z] at h20
        refine G_ldc C kc_X9_72 dX9_weeks_23 ?_
        exact G_retR C dX9_weeks_25 (by clear C; grind) (by clear C; grind)
set_option maxHeartbeats 4000000 in
set_option maxRecDepth 100000 in
theorem c_X10_weeks {K : Kt} {d : Nat} {M : Mem} {nc nl nb nw : Nat} {n : Int32} (hx : MS M nc nl nb nw) : Ri K (d + 3) mX10_weeks [rf K 36, .int n] M (if (1 ≤ n ∧ n ≤ 60) ∧ nI nw + n < 120 then nI nw + n else (-2000000001)) (if (1 ≤ n ∧ n ≤ 60) ∧ nI nw + n < 120 then wr M 36 0 (nI nw + n) else M) := by
  refine Ri_int RX10 [(0, rf K 36), (1, .int n)] rfl (by decide) rfl (Nat.le_of_ble_eq_true rfl) rfl (fun x C => ?_)
  obtain ⟨hc, hc8, hl, hl8, hb, hb8, hw, hw8, hv⟩ := id hx
  have hr := nw_r hw8
  refine G_iload_n C dX10_weeks_0 rfl ?_
  refine G_iconst C (1) dX10_weeks_1 (by decide) ?_
  refine G_bipush C (60) dX10_weeks_2 (by decide) ?_
  refine G_cSr3 C ok_X10_isIn lk_X10_90 (c_X10_isIn) (Nat.le_of_ble_eq_true rfl) dX10_weeks_4 ?_
  refine G_if_eq C 21 dX10_weeks_7 (by decide) (fun h7 => ?_) (fun h7 => ?_)
  · rw [bl_z] at h7
    refine G_ldc C kc_X10_106 dX10_weeks_21 ?_
    exact G_retR C dX10_weeks_23 (by clear C; grind) (by clear C; grind)
  · rw [bl_z] at h7
    refine G_aload_r C dX10_weeks_10 rfl ?_
    refine G_getI C fo_X10_94 rfl rfl dX10_weeks_11 ?_
    refine G_is (nI nw) hw ?_
    refine G_iload_n C dX10_weeks_14 rfl ?_
    refine G_iadd C dX10_weeks_15 ?_
    refine G_bipush C (120) dX10_weeks_16 (by decide) ?_
    refine G_icmp_lt C 24 dX10_weeks_18 (by decide) (fun h18 => ?_) (fun h18 => ?_)
    · refine G_aload_r C dX10_weeks_24 rfl ?_
      refine G_dup C dX10_weeks_25 rfl ?_
      refine G_getI C fo_X10_94 rfl rfl dX10_weeks_26 ?_
      refine G_is (nI nw) hw ?_
      refine G_iload_n C dX10_weeks_29 rfl ?_
      refine G_iadd C dX10_weeks_30 ?_
      refine G_putI C fp_X10_94 rfl rfl dX10_weeks_31 ?_
      refine G_aload_r C dX10_weeks_34 rfl ?_
      refine G_getI C fo_X10_94 rfl rfl dX10_weeks_35 ?_
      refine G_is (nI nw + n) rfl ?_
      exact G_retR C dX10_weeks_38 (by clear C; grind) (by clear C; grind)
    · refine G_ldc C kc_X10_106 dX10_weeks_21 ?_
      exact G_retR C dX10_weeks_23 (by clear C; grind) (by clear C; grind)
