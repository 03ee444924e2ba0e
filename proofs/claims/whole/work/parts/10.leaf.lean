set_option maxHeartbeats 4000000 in
set_option maxRecDepth 100000 in
theorem c_X9_isBelow {K : Kt} {d : Nat} {M : Mem} {a b : Int32} : Ri K d mX9_isBelow [.int a, .int b] M (bl (0 ≤ a ∧ a < b)) M := by
  refine Ri_bool RX9 [(0, .int a), (1, .int b)] rfl (by decide) rfl (Nat.le_of_ble_eq_true rfl) rfl bl_or (fun x C => ?_)
  refine G_iload_n C dX9_isBelow_0 rfl ?_
  refine G_if_lt C 13 dX9_isBelow_1 (by decide) (fun h1 => ?_) (fun h1 => ?_)
  · refine G_iconst C (0) dX9_isBelow_13 (by decide) ?_
    exact G_retR C dX9_isBelow_14 (by first | exact (bl_t (by grind)).symm | exact (bl_f (by grind)).symm) rfl
  · refine G_iload_n C dX9_isBelow_4 rfl ?_
    refine G_iload_n C dX9_isBelow_5 rfl ?_
    refine G_icmp_ge C 13 dX9_isBelow_6 (by decide) (fun h6 => ?_) (fun h6 => ?_)
    · refine G_iconst C (0) dX9_isBelow_13 (by decide) ?_
      exact G_retR C dX9_isBelow_14 (by first | exact (bl_t (by grind)).symm | exact (bl_f (by grind)).symm) rfl
    · refine G_iconst C (1) dX9_isBelow_9 (by decide) ?_
      refine G_goto C 14 dX9_isBelow_10 (by decide) ?_
      exact G_retR C dX9_isBelow_14 (by first | exact (bl_t (by grind)).symm | exact (bl_f (by grind)).symm) rfl
set_option maxHeartbeats 4000000 in
set_option maxRecDepth 100000 in
theorem c_X10_isIn {K : Kt} {d : Nat} {M : Mem} {a b c : Int32} : Ri K d mX10_isIn [.int a, .int b, .int c] M (bl (b ≤ a ∧ a ≤ c)) M := by
  refine Ri_bool RX10 [(0, .int a), (1, .int b), (2, .int c)] rfl (by decide) rfl (Nat.le_of_ble_eq_true rfl) rfl bl_or (fun x C => ?_)
  refine G_iload_n C dX10_isIn_0 rfl ?_
  refine G_iload_n C dX10_isIn_1 rfl ?_
  refine G_icmp_lt C 14 dX10_isIn_2 (by decide) (fun h2 => ?_) (fun h2 => ?_)
  · refine G_iconst C (0) dX10_isIn_14 (by decide) ?_
    exact G_retR C dX10_isIn_15 (by first | exact (bl_t (by grind)).symm | exact (bl_f (by grind)).symm) rfl
  · refine G_iload_n C dX10_isIn_5 rfl ?_
    refine G_iload_n C dX10_isIn_6 rfl ?_
    refine G_icmp_gt C 14 dX10_isIn_7 (by decide) (fun h7 => ?_) (fun h7 => ?_)
    · refine G_iconst C (0) dX10_isIn_14 (by decide) ?_
      exact G_retR C dX10_isIn_15 (by first | exact (bl_t (by grind)).symm | exact (bl_f (by grind)).symm) rfl
    · refine G_iconst C (1) dX10_isIn_10 (by decide) ?_
      refine G_goto C 15 dX10_isIn_11 (by decide) ?_
      exact G_retR C dX10_isIn_15 (by first | exact (bl_t (by grind)).symm | exact (bl_f (by grind)).symm) rfl
set_option maxHeartbeats 4000000 in
set_option maxRecDepth 100000 in
theorem c_X2_counts {K : Kt} {d : Nat} {M : Mem} {j : Nat} {k w : Int32} (hj : j < 80) : Ri K d mX2_counts [rf K 1, .int (nI j), .int k, .int w] M (bl (M 4 j ≤ w ∧ M 5 j ≤ k ∧ (M 6 j = (-2000000005) ∨ k < M 6 j))) M := by
  refine Ri_bool RX2 [(0, rf K 1), (1, .int (nI j)), (2, .int k), (3, .int w)] rfl (by decide) rfl (Nat.le_of_ble_eq_true rfl) rfl bl_or (fun x C => ?_)
  refine G_aload_r C dX2_counts_0 rfl ?_
  refine G_getR C fo_X2_18 rfl rfl dX2_counts_1 ?_
  refine G_iload_n C dX2_counts_4 rfl ?_
  refine G_ialdN C rfl (by assumption) (by decide) dX2_counts_5 ?_
  refine G_iload_n C dX2_counts_6 rfl ?_
  refine G_icmp_gt C 45 dX2_counts_7 (by decide) (fun h7 => ?_) (fun h7 => ?_)
  · refine G_iconst C (0) dX2_counts_45 (by decide) ?_
    exact G_retR C dX2_counts_46 (by first | exact (bl_t (by grind)).symm | exact (bl_f (by grind)).symm) rfl
  · refine G_aload_r C dX2_counts_10 rfl ?_
    refine G_getR C fo_X2_21 rfl rfl dX2_counts_11 ?_
    refine G_iload_n C dX2_counts_14 rfl ?_
    refine G_ialdN C rfl (by assumption) (by decide) dX2_counts_15 ?_
    refine G_iload_n C dX2_counts_16 rfl ?_
    refine G_icmp_gt C 45 dX2_counts_17 (by decide) (fun h17 => ?_) (fun h17 => ?_)
    · refine G_iconst C (0) dX2_counts_45 (by decide) ?_
      exact G_retR C dX2_counts_46 (by first | exact (bl_t (by grind)).symm | exact (bl_f (by grind)).symm) rfl
    · refine G_aload_r C dX2_counts_20 rfl ?_
      refine G_getR C fo_X2_24 rfl rfl dX2_counts_21 ?_
      refine G_iload_n C dX2_counts_24 rfl ?_
      refine G_ialdN C rfl (by assumption) (by decide) dX2_counts_25 ?_
      refine G_ldc C kc_X2_32 dX2_counts_26 ?_
      refine G_icmp_eq C 41 dX2_counts_28 (by decide) (fun h28 => ?_) (fun h28 => ?_)
      · refine G_iconst C (1) dX2_counts_41 (by decide) ?_
        refine G_goto C 46 dX2_counts_42 (by decide) ?_
        exact G_retR C dX2_counts_46 (by first | exact (bl_t (by grind)).symm | exact (bl_f (by grind)).symm) rfl
      · refine G_aload_r C dX2_counts_31 rfl ?_
        refine G_getR C fo_X2_24 rfl rfl dX2_counts_32 ?_
        refine G_iload_n C dX2_counts_35 rfl ?_
        refine G_ialdN C rfl (by assumption) (by decide) dX2_counts_36 ?_
        refine G_iload_n C dX2_counts_37 rfl ?_
        refine G_icmp_le C 45 dX2_counts_38 (by decide) (fun h38 => ?_) (fun h38 => ?_)
        · refine G_iconst C (0) dX2_counts_45 (by decide) ?_
          exact G_retR C dX2_counts_46 (by first | exact (bl_t (by grind)).symm | exact (bl_f (by grind)).symm) rfl
        · refine G_iconst C (1) dX2_counts_41 (by decide) ?_
          refine G_goto C 46 dX2_counts_42 (by decide) ?_
          exact G_retR C dX2_counts_46 (by first | exact (bl_t (by grind)).symm | exact (bl_f (by grind)).symm) rfl
