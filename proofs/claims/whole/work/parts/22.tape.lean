def xb (v k : Int32) : Int32 := (v.toUInt32 >>> (k.toUInt32 &&& Int32.toUInt32 31)).toInt32.toInt8.toInt32
def mb (v k : Int32) : Int32 := v >>> (k &&& 31) &&& 255
def putX (M : Mem) (n : Nat) (v : Int32) : Mem := wr (wr (wr (wr (wr (wr (wr (wr M 8 n (xb v 24)) 7 1 (nI (n + 1))) 8 (n + 1) (xb v 16)) 7 1 (nI (n + 2))) 8 (n + 2) (xb v 8)) 7 1 (nI (n + 3))) 8 (n + 3) (xb v 0)) 7 1 (nI (n + 4))
def putM (M : Mem) (n : Nat) (v : Int32) : Mem := wr (wr (wr (wr (wr (wr (wr (wr M 55 n (mb v 24)) 36 25 (nI (n + 1))) 55 (n + 1) (mb v 16)) 36 25 (nI (n + 2))) 55 (n + 2) (mb v 8)) 36 25 (nI (n + 3))) 55 (n + 3) (mb v 0)) 36 25 (nI (n + 4))
set_option maxHeartbeats 4000000 in
set_option maxRecDepth 100000 in
theorem c_X8_put {K : Kt} {d : Nat} {M : Mem} {n : Nat} {v : Int32} (hn : M 7 1 = nI n) (h72 : n + 4 ≤ 72) : Rv K d mX8_put [rf K 7, .int v] M (putX M n v) := by
  refine Rv_of RX8 [(0, rf K 7), (1, .int v)] rfl (by decide) rfl (Nat.le_of_ble_eq_true rfl) rfl (fun x C => ?_)
  refine G_bipush C (24) dX8_put_0 (by decide) ?_
  refine G_istore_n C dX8_put_2 (by decide) ?_
  refine G_iload_n C dX8_put_3 rfl ?_
  refine G_if_lt C 45 dX8_put_4 (by decide) (fun h4 => ?_) (fun h4 => ?_)
  · exact absurd h4 (by decide)
  · refine G_aload_r C dX8_put_7 rfl ?_
    refine G_getI C fo_X8_15 rfl rfl dX8_put_8 ?_
    refine G_is (nI (n)) hn ?_
    refine G_bipush C (nI 72) dX8_put_11 (by decide) ?_
    refine G_icmp_ge C 45 dX8_put_13 (by decide) (fun h13 => ?_) (fun h13 => ?_)
    · exact absurd h13 (nI_ge (by omega) (by decide))
    · refine G_aload_r C dX8_put_16 rfl ?_
      refine G_getR C fo_X8_9 rfl rfl dX8_put_17 ?_
      refine G_aload_r C dX8_put_20 rfl ?_
      refine G_getI C fo_X8_15 rfl rfl dX8_put_21 ?_
      refine G_is (nI (n)) hn ?_
      refine G_iload_n C dX8_put_24 rfl ?_
      refine G_iload_n C dX8_put_25 rfl ?_
      refine G_iushr C dX8_put_26 ?_
      refine G_i2b C dX8_put_27 ?_
      refine G_bastN C rfl (by omega) (by decide) dX8_put_28 ?_
      refine G_aload_r C dX8_put_29 rfl ?_
      refine G_dup C dX8_put_30 rfl ?_
      refine G_getI C fo_X8_15 rfl rfl dX8_put_31 ?_
      refine G_is (nI (n)) hn ?_
      refine G_iconst C (1) dX8_put_34 (by decide) ?_
      refine G_iadd C dX8_put_35 ?_
      refine G_is (nI (n + 1)) (nI_1 (n)) ?_
      refine G_putI C fp_X8_15 rfl rfl dX8_put_36 ?_
      refine G_iinc C (w := 16) dX8_put_39 (by decide) rfl (by decide) ?_
      refine G_goto C 3 dX8_put_42 (by decide) ?_
      refine G_iload_n C dX8_put_3 rfl ?_
      refine G_if_lt C 45 dX8_put_4 (by decide) (fun h4 => ?_) (fun h4 => ?_)
      · exact absurd h4 (by decide)
      · refine G_aload_r C dX8_put_7 rfl ?_
        refine G_getI C fo_X8_15 rfl rfl dX8_put_8 ?_
        refine G_is (nI (n + 1)) rfl ?_
        refine G_bipush C (nI 72) dX8_put_11 (by decide) ?_
        refine G_icmp_ge C 45 dX8_put_13 (by decide) (fun h13 => ?_) (fun h13 => ?_)
        · exact absurd h13 (nI_ge (by omega) (by decide))
        · refine G_aload_r C dX8_put_16 rfl ?_
          refine G_getR C fo_X8_9 rfl rfl dX8_put_17 ?_
          refine G_aload_r C dX8_put_20 rfl ?_
          refine G_getI C fo_X8_15 rfl rfl dX8_put_21 ?_
          refine G_is (nI (n + 1)) rfl ?_
          refine G_iload_n C dX8_put_24 rfl ?_
          refine G_iload_n C dX8_put_25 rfl ?_
          refine G_iushr C dX8_put_26 ?_
          refine G_i2b C dX8_put_27 ?_
          refine G_bastN C rfl (by omega) (by decide) dX8_put_28 ?_
          refine G_aload_r C dX8_put_29 rfl ?_
          refine G_dup C dX8_put_30 rfl ?_
          refine G_getI C fo_X8_15 rfl rfl dX8_put_31 ?_
          refine G_is (nI (n + 1)) rfl ?_
          refine G_iconst C (1) dX8_put_34 (by decide) ?_
          refine G_iadd C dX8_put_35 ?_
          refine G_is (nI (n + 2)) (nI_1 (n + 1)) ?_
          refine G_putI C fp_X8_15 rfl rfl dX8_put_36 ?_
          refine G_iinc C (w := 8) dX8_put_39 (by decide) rfl (by decide) ?_
          refine G_goto C 3 dX8_put_42 (by decide) ?_
          refine G_iload_n C dX8_put_3 rfl ?_
          refine G_if_lt C 45 dX8_put_4 (by decide) (fun h4 => ?_) (fun h4 => ?_)
          · exact absurd h4 (by decide)
          · refine G_aload_r C dX8_put_7 rfl ?_
            refine G_getI C fo_X8_15 rfl rfl dX8_put_8 ?_
            refine G_is (nI (n + 2)) rfl ?_
            refine G_bipush C (nI 72) dX8_put_11 (by decide) ?_
            refine G_icmp_ge C 45 dX8_put_13 (by decide) (fun h13 => ?_) (fun h13 => ?_)
            · exact absurd h13 (nI_ge (by omega) (by decide))
            · refine G_aload_r C dX8_put_16 rfl ?_
              refine G_getR C fo_X8_9 rfl rfl dX8_put_17 ?_
              refine G_aload_r C dX8_put_20 rfl ?_
              refine G_getI C fo_X8_15 rfl rfl dX8_put_21 ?_
              refine G_is (nI (n + 2)) rfl ?_
              refine G_iload_n C dX8_put_24 rfl ?_
              refine G_iload_n C dX8_put_25 rfl ?_
              refine G_iushr C dX8_put_26 ?_
              refine G_i2b C dX8_put_27 ?_
              refine G_bastN C rfl (by omega) (by decide) dX8_put_28 ?_
              refine G_aload_r C dX8_put_29 rfl ?_
              refine G_dup C dX8_put_30 rfl ?_
              refine G_getI C fo_X8_15 rfl rfl dX8_put_31 ?_
              refine G_is (nI (n + 2)) rfl ?_
              refine G_iconst C (1) dX8_put_34 (by decide) ?_
              refine G_iadd C dX8_put_35 ?_
              refine G_is (nI (n + 3)) (nI_1 (n + 2)) ?_
              refine G_putI C fp_X8_15 rfl rfl dX8_put_36 ?_
              refine G_iinc C (w := 0) dX8_put_39 (by decide) rfl (by decide) ?_
              refine G_goto C 3 dX8_put_42 (by decide) ?_
              refine G_iload_n C dX8_put_3 rfl ?_
              refine G_if_lt C 45 dX8_put_4 (by decide) (fun h4 => ?_) (fun h4 => ?_)
              · exact absurd h4 (by decide)
              · refine G_aload_r C dX8_put_7 rfl ?_
                refine G_getI C fo_X8_15 rfl rfl dX8_put_8 ?_
                refine G_is (nI (n + 3)) rfl ?_
                refine G_bipush C (nI 72) dX8_put_11 (by decide) ?_
                refine G_icmp_ge C 45 dX8_put_13 (by decide) (fun h13 => ?_) (fun h13 => ?_)
                · exact absurd h13 (nI_ge (by omega) (by decide))
                · refine G_aload_r C dX8_put_16 rfl ?_
                  refine G_getR C fo_X8_9 rfl rfl dX8_put_17 ?_
                  refine G_aload_r C dX8_put_20 rfl ?_
                  refine G_getI C fo_X8_15 rfl rfl dX8_put_21 ?_
                  refine G_is (nI (n + 3)) rfl ?_
                  refine G_iload_n C dX8_put_24 rfl ?_
                  refine G_iload_n C dX8_put_25 rfl ?_
                  refine G_iushr C dX8_put_26 ?_
                  refine G_i2b C dX8_put_27 ?_
                  refine G_bastN C rfl (by omega) (by decide) dX8_put_28 ?_
                  refine G_aload_r C dX8_put_29 rfl ?_
                  refine G_dup C dX8_put_30 rfl ?_
                  refine G_getI C fo_X8_15 rfl rfl dX8_put_31 ?_
                  refine G_is (nI (n + 3)) rfl ?_
                  refine G_iconst C (1) dX8_put_34 (by decide) ?_
                  refine G_iadd C dX8_put_35 ?_
                  refine G_is (nI (n + 4)) (nI_1 (n + 3)) ?_
                  refine G_putI C fp_X8_15 rfl rfl dX8_put_36 ?_
                  refine G_iinc C (w := -8) dX8_put_39 (by decide) rfl (by decide) ?_
                  refine G_goto C 3 dX8_put_42 (by decide) ?_
                  refine G_iload_n C dX8_put_3 rfl ?_
                  refine G_if_lt C 45 dX8_put_4 (by decide) (fun h4 => ?_) (fun h4 => ?_)
                  · exact G_vret C dX8_put_45 (by simp only [putX, xb, mb, bb])
                  · exact absurd (by decide) h4
set_option maxHeartbeats 4000000 in
set_option maxRecDepth 100000 in
theorem c_X10_four {K : Kt} {d : Nat} {M : Mem} {n : Nat} {v : Int32} (hn : M 36 25 = nI n) (h72 : n + 4 ≤ 72) : Rv K d mX10_four [rf K 36, .int v] M (putM M n v) := by
  refine Rv_of RX10 [(0, rf K 36), (1, .int v)] rfl (by decide) rfl (Nat.le_of_ble_eq_true rfl) rfl (fun x C => ?_)
  refine G_bipush C (24) dX10_four_0 (by decide) ?_
  refine G_istore_n C dX10_four_2 (by decide) ?_
  refine G_iload_n C dX10_four_3 rfl ?_
  refine G_if_lt C 39 dX10_four_4 (by decide) (fun h4 => ?_) (fun h4 => ?_)
  · exact absurd h4 (by decide)
  · refine G_aload_r C dX10_four_7 rfl ?_
    refine G_getR C fo_X10_69 rfl rfl dX10_four_8 ?_
    refine G_aload_r C dX10_four_11 rfl ?_
    refine G_getI C fo_X10_143 rfl rfl dX10_four_12 ?_
    refine G_is (nI (n)) hn ?_
    refine G_iload_n C dX10_four_15 rfl ?_
    refine G_iload_n C dX10_four_16 rfl ?_
    refine G_ishr C dX10_four_17 ?_
    refine G_sipush C (255) dX10_four_18 (by decide) ?_
    refine G_iand C dX10_four_21 ?_
    refine G_iastN C rfl (by omega) (by decide) dX10_four_22 ?_
    refine G_aload_r C dX10_four_23 rfl ?_
    refine G_dup C dX10_four_24 rfl ?_
    refine G_getI C fo_X10_143 rfl rfl dX10_four_25 ?_
    refine G_is (nI (n)) hn ?_
    refine G_iconst C (1) dX10_four_28 (by decide) ?_
    refine G_iadd C dX10_four_29 ?_
    refine G_is (nI (n + 1)) (nI_1 (n)) ?_
    refine G_putI C fp_X10_143 rfl rfl dX10_four_30 ?_
    refine G_iinc C (w := 16) dX10_four_33 (by decide) rfl (by decide) ?_
    refine G_goto C 3 dX10_four_36 (by decide) ?_
    refine G_iload_n C dX10_four_3 rfl ?_
    refine G_if_lt C 39 dX10_four_4 (by decide) (fun h4 => ?_) (fun h4 => ?_)
    · exact absurd h4 (by decide)
    · refine G_aload_r C dX10_four_7 rfl ?_
      refine G_getR C fo_X10_69 rfl rfl dX10_four_8 ?_
      refine G_aload_r C dX10_four_11 rfl ?_
      refine G_getI C fo_X10_143 rfl rfl dX10_four_12 ?_
      refine G_is (nI (n + 1)) rfl ?_
      refine G_iload_n C dX10_four_15 rfl ?_
      refine G_iload_n C dX10_four_16 rfl ?_
      refine G_ishr C dX10_four_17 ?_
      refine G_sipush C (255) dX10_four_18 (by decide) ?_
      refine G_iand C dX10_four_21 ?_
      refine G_iastN C rfl (by omega) (by decide) dX10_four_22 ?_
      refine G_aload_r C dX10_four_23 rfl ?_
      refine G_dup C dX10_four_24 rfl ?_
      refine G_getI C fo_X10_143 rfl rfl dX10_four_25 ?_
      refine G_is (nI (n + 1)) rfl ?_
      refine G_iconst C (1) dX10_four_28 (by decide) ?_
      refine G_iadd C dX10_four_29 ?_
      refine G_is (nI (n + 2)) (nI_1 (n + 1)) ?_
      refine G_putI C fp_X10_143 rfl rfl dX10_four_30 ?_
      refine G_iinc C (w := 8) dX10_four_33 (by decide) rfl (by decide) ?_
      refine G_goto C 3 dX10_four_36 (by decide) ?_
      refine G_iload_n C dX10_four_3 rfl ?_
      refine G_if_lt C 39 dX10_four_4 (by decide) (fun h4 => ?_) (fun h4 => ?_)
      · exact absurd h4 (by decide)
      · refine G_aload_r C dX10_four_7 rfl ?_
        refine G_getR C fo_X10_69 rfl rfl dX10_four_8 ?_
        refine G_aload_r C dX10_four_11 rfl ?_
        refine G_getI C fo_X10_143 rfl rfl dX10_four_12 ?_
        refine G_is (nI (n + 2)) rfl ?_
        refine G_iload_n C dX10_four_15 rfl ?_
        refine G_iload_n C dX10_four_16 rfl ?_
        refine G_ishr C dX10_four_17 ?_
        refine G_sipush C (255) dX10_four_18 (by decide) ?_
        refine G_iand C dX10_four_21 ?_
        refine G_iastN C rfl (by omega) (by decide) dX10_four_22 ?_
        refine G_aload_r C dX10_four_23 rfl ?_
        refine G_dup C dX10_four_24 rfl ?_
        refine G_getI C fo_X10_143 rfl rfl dX10_four_25 ?_
        refine G_is (nI (n + 2)) rfl ?_
        refine G_iconst C (1) dX10_four_28 (by decide) ?_
        refine G_iadd C dX10_four_29 ?_
        refine G_is (nI (n + 3)) (nI_1 (n + 2)) ?_
        refine G_putI C fp_X10_143 rfl rfl dX10_four_30 ?_
        refine G_iinc C (w := 0) dX10_four_33 (by decide) rfl (by decide) ?_
        refine G_goto C 3 dX10_four_36 (by decide) ?_
        refine G_iload_n C dX10_four_3 rfl ?_
        refine G_if_lt C 39 dX10_four_4 (by decide) (fun h4 => ?_) (fun h4 => ?_)
        · exact absurd h4 (by decide)
        · refine G_aload_r C dX10_four_7 rfl ?_
          refine G_getR C fo_X10_69 rfl rfl dX10_four_8 ?_
          refine G_aload_r C dX10_four_11 rfl ?_
          refine G_getI C fo_X10_143 rfl rfl dX10_four_12 ?_
          refine G_is (nI (n + 3)) rfl ?_
          refine G_iload_n C dX10_four_15 rfl ?_
          refine G_iload_n C dX10_four_16 rfl ?_
          refine G_ishr C dX10_four_17 ?_
          refine G_sipush C (255) dX10_four_18 (by decide) ?_
          refine G_iand C dX10_four_21 ?_
          refine G_iastN C rfl (by omega) (by decide) dX10_four_22 ?_
          refine G_aload_r C dX10_four_23 rfl ?_
          refine G_dup C dX10_four_24 rfl ?_
          refine G_getI C fo_X10_143 rfl rfl dX10_four_25 ?_
          refine G_is (nI (n + 3)) rfl ?_
          refine G_iconst C (1) dX10_four_28 (by decide) ?_
          refine G_iadd C dX10_four_29 ?_
          refine G_is (nI (n + 4)) (nI_1 (n + 3)) ?_
          refine G_putI C fp_X10_143 rfl rfl dX10_four_30 ?_
          refine G_iinc C (w := -8) dX10_four_33 (by decide) rfl (by decide) ?_
          refine G_goto C 3 dX10_four_36 (by decide) ?_
          refine G_iload_n C dX10_four_3 rfl ?_
          refine G_if_lt C 39 dX10_four_4 (by decide) (fun h4 => ?_) (fun h4 => ?_)
          · exact G_vret C dX10_four_39 rfl
          · exact absurd (by decide) h4
theorem putX_n {M : Mem} {n : Nat} {v : Int32} : putX M n v 7 1 = nI (n + 4) := wr_s
theorem putM_n {M : Mem} {n : Nat} {v : Int32} : putM M n v 36 25 = nI (n + 4) := wr_s
set_option maxHeartbeats 4000000 in
set_option maxRecDepth 100000 in
theorem c_X9_feed {K : Kt} {d : Nat} {M : Mem} {n : Nat} {a b c : Int32} (hn : M 7 1 = nI n) (h72 : n ≤ 72) : Ri K (d + 1) mX9_feed [rf K 0, .int a, .int b, .int c] M (if n + 12 ≤ 72 then nI (n + 12) else (-2000000003)) (if n + 12 ≤ 72 then putX (putX (putX M n a) (n + 4) b) (n + 4 + 4) c else M) := by
  refine Ri_int RX9 [(0, rf K 0), (1, .int a), (2, .int b), (3, .int c)] rfl (by decide) rfl (Nat.le_of_ble_eq_true rfl) rfl (fun x C => ?_)
  refine G_aload_r C dX9_feed_0 rfl ?_
  refine G_getR C fo_X9_19 rfl rfl dX9_feed_1 ?_
  refine G_getI C fo_X9_141 rfl rfl dX9_feed_4 ?_
  refine G_is (nI n) hn ?_
  refine G_bipush C (nI 12) dX9_feed_7 (by decide) ?_
  refine G_iadd C dX9_feed_9 ?_
  rw [nI_add]
  refine G_bipush C (nI 72) dX9_feed_10 (by decide) ?_
  refine G_icmp_le C 18 dX9_feed_12 (by decide) (fun h12 => ?_) (fun h12 => ?_)
  · have hle : n + 12 ≤ 72 := (nI_leI (by omega) (by decide)).mp h12
    refine G_aload_r C dX9_feed_18 rfl ?_
    refine G_getR C fo_X9_19 rfl rfl dX9_feed_19 ?_
    refine G_iload_n C dX9_feed_22 rfl ?_
    refine G_cVw1 C ok_X8_put lk_X9_142 rfl rfl (c_X8_put hn (by omega)) (Nat.le_of_ble_eq_true rfl) dX9_feed_23 ?_
    refine G_aload_r C dX9_feed_26 rfl ?_
    refine G_getR C fo_X9_19 rfl rfl dX9_feed_27 ?_
    refine G_iload_n C dX9_feed_30 rfl ?_
    refine G_cVw1 C ok_X8_put lk_X9_142 rfl rfl (c_X8_put (n := n + 4) putX_n (by omega)) (Nat.le_of_ble_eq_true rfl) dX9_feed_31 ?_
    refine G_aload_r C dX9_feed_34 rfl ?_
    refine G_getR C fo_X9_19 rfl rfl dX9_feed_35 ?_
    refine G_iload_n C dX9_feed_38 rfl ?_
    refine G_cVw1 C ok_X8_put lk_X9_142 rfl rfl (c_X8_put (n := n + 4 + 4) putX_n (by omega)) (Nat.le_of_ble_eq_true rfl) dX9_feed_39 ?_
    refine G_aload_r C dX9_feed_42 rfl ?_
    refine G_getR C fo_X9_19 rfl rfl dX9_feed_43 ?_
    refine G_getI C fo_X9_141 rfl rfl dX9_feed_46 ?_
    refine G_is (nI (n + 4 + 4 + 4)) putX_n ?_
    first | exact G_retR C dX9_feed_49 (by rw [if_pos hle]) (by rw [if_pos hle]) | exact G_retR C dX9_feed_49 (by rw [if_neg hgt]) (by rw [if_neg hgt])
  · have hgt : ¬ n + 12 ≤ 72 := fun z => h12 (nI_le z (by decide))
    refine G_ldc C kc_X9_77 dX9_feed_15 ?_
    first | exact G_retR C dX9_feed_17 (by rw [if_pos hle]) (by rw [if_pos hle]) | exact G_retR C dX9_feed_17 (by rw [if_neg hgt]) (by rw [if_neg hgt])
set_option maxHeartbeats 4000000 in
set_option maxRecDepth 100000 in
theorem c_X10_feed {K : Kt} {d : Nat} {M : Mem} {n : Nat} {a b c : Int32} (hn : M 36 25 = nI n) (h72 : n ≤ 72) : Ri K (d + 1) mX10_feed [rf K 36, .int a, .int b, .int c] M (if n + 12 ≤ 72 then nI (n + 12) else (-2000000003)) (if n + 12 ≤ 72 then putM (putM (putM M n a) (n + 4) b) (n + 4 + 4) c else M) := by
  refine Ri_int RX10 [(0, rf K 36), (1, .int a), (2, .int b), (3, .int c)] rfl (by decide) rfl (Nat.le_of_ble_eq_true rfl) rfl (fun x C => ?_)
  refine G_aload_r C dX10_feed_0 rfl ?_
  refine G_getI C fo_X10_143 rfl rfl dX10_feed_1 ?_
  refine G_is (nI n) hn ?_
  refine G_bipush C (nI 12) dX10_feed_4 (by decide) ?_
  refine G_iadd C dX10_feed_6 ?_
  rw [nI_add]
  refine G_bipush C (nI 72) dX10_feed_7 (by decide) ?_
  refine G_icmp_le C 15 dX10_feed_9 (by decide) (fun h9 => ?_) (fun h9 => ?_)
  · have hle : n + 12 ≤ 72 := (nI_leI (by omega) (by decide)).mp h9
    refine G_aload_r C dX10_feed_15 rfl ?_
    refine G_iload_n C dX10_feed_16 rfl ?_
    refine G_cVw1 C ok_X10_four lk_X10_146 rfl rfl (c_X10_four hn (by omega)) (Nat.le_of_ble_eq_true rfl) dX10_feed_17 ?_
    refine G_aload_r C dX10_feed_20 rfl ?_
    refine G_iload_n C dX10_feed_21 rfl ?_
    refine G_cVw1 C ok_X10_four lk_X10_146 rfl rfl (c_X10_four (n := n + 4) putM_n (by omega)) (Nat.le_of_ble_eq_true rfl) dX10_feed_22 ?_
    refine G_aload_r C dX10_feed_25 rfl ?_
    refine G_iload_n C dX10_feed_26 rfl ?_
    refine G_cVw1 C ok_X10_four lk_X10_146 rfl rfl (c_X10_four (n := n + 4 + 4) putM_n (by omega)) (Nat.le_of_ble_eq_true rfl) dX10_feed_27 ?_
    refine G_aload_r C dX10_feed_30 rfl ?_
    refine G_getI C fo_X10_143 rfl rfl dX10_feed_31 ?_
    refine G_is (nI (n + 4 + 4 + 4)) putM_n ?_
    first | exact G_retR C dX10_feed_34 (by rw [if_pos hle]) (by rw [if_pos hle]) | exact G_retR C dX10_feed_34 (by rw [if_neg hgt]) (by rw [if_neg hgt])
  · have hgt : ¬ n + 12 ≤ 72 := fun z => h9 (nI_le z (by decide))
    refine G_ldc C kc_X10_110 dX10_feed_12 ?_
    first | exact G_retR C dX10_feed_14 (by rw [if_pos hle]) (by rw [if_pos hle]) | exact G_retR C dX10_feed_14 (by rw [if_neg hgt]) (by rw [if_neg hgt])
