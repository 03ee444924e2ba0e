set_option maxHeartbeats 4000000 in
set_option maxRecDepth 100000 in
theorem c_X9_isBelow {K : Kt} {d : Nat} {M : Mem} {a b : Int32} : Ri K d mX9_isBelow [.int a, .int b] M (bl (0 ≤ a ∧ a < b)) M := by
  refine Ri_bool RX9 [(0, .int a), (1, .int b)] rfl (by decide) rfl (Nat.le_of_ble_eq_true rfl) rfl bl_or (fun x C => ?_)
  refine G_iload_n C dX9_isBelow_0 rfl ?_
  refine G_if_lt C 13 dX9_isBelow_1 (by decide) (fun h1 => ?_) (fun h1 => ?_)
  · refine G_iconst C (0) dX9_isBelow_13 (by decide) ?_
    exact G_retR C dX9_isBelow_14 (by first | exact (bl_t (by grind)).symm | exact (bl_f (by grind)).symm) rfl
  · refine G_iload_n C dX9_isBelow_4 rfl ?_
    refine G_iload_n C dX9_isBelow_5 rfl ?_
    refine G_icmp_ge C 13 dX9_isBelow_6 (by decide) (fun h6 => ?_) (fun h6 => ?_)
    · refine G_iconst C (0) dX9_isBelow_13 (by decide) ?_
      exact G_retR C dX9_isBelow_14 (by first | exact (bl_t (by grind)).symm | exact (bl_f (by grind)).symm) rfl
    · refine G_iconst C (1) dX9_isBelow_9 (by decide) ?_
      refine G_goto C 14 dX9_isBelow_10 (by decide) ?_
      exact G_retR C dX9_isBelow_14 (by first | exact (bl_t (by grind)).symm | exact (bl_f (by grind)).symm) rfl
set_option maxHeartbeats 4000000 in
set_option maxRecDepth 100000 in
theorem c_X10_isIn {K : Kt} {d : Nat} {M : Mem} {a b c : Int32} : Ri K d mX10_isIn [.int a, .int b, .int c] M (bl (b ≤ a ∧ a ≤ c)) M := by
  refine Ri_bool RX10 [(0, .int a), (1, .int b), (2, .int c)] rfl (by decide) rfl (Nat.le_of_ble_eq_true rfl) rfl bl_or (fun x C => ?_)
  refine G_iload_n C dX10_isIn_0 rfl ?_
  refine G_iload_n C dX10_isIn_1 rfl ?_
  refine G_icmp_lt C 14 dX10_isIn_2 (by decide) (fun h2 => ?_) (fun h2 => ?_)
  · refine G_iconst C (0) dX10_isIn_14 (by decide) ?_
    exact G_retR C dX10_isIn_15 (by first | exact (bl_t (by grind)).symm | exact (bl_f (by grind)).symm) rfl
  · refine G_iload_n C dX10_isIn_5 rfl ?_
    refine G_iload_n C dX10_isIn_6 rfl ?_
    refine G_icmp_gt C 14 dX10_isIn_7 (by decide) (fun h7 => ?_) (fun h7 => ?_)
    · refine G_iconst C (0) dX10_isIn_14 (by decide) ?_
      exact G_retR C dX10_isIn_15 (by first | exact (bl_t (by grind)).symm | exact (bl_f (by grind)).symm) rfl
    · refine G_iconst C (1) dX10_isIn_10 (by decide) ?_
      refine G_goto C 15 dX10_isIn_11 (by decide) ?_
      exact G_retR C dX10_isIn_15 (by first | exact (bl_t (by grind)).symm | exact (bl_f (by grind)).symm) rfl
set_option maxHeartbeats 4000000 in
set_option maxRecDepth 100000 in
theorem c_X9_isWeek {K : Kt} {d : Nat} {M : Mem} {a : Int32} : Ri K (d + 1) mX9_isWeek [.int a] M (bl (0 ≤ a ∧ a < 120)) M := by
  refine Ri_bool RX9 [(0, .int a)] rfl (by decide) rfl (Nat.le_of_ble_eq_true rfl) rfl bl_or (fun x C => ?_)
  refine G_iload_n C dX9_isWeek_0 rfl ?_
  refine G_bipush C (120) dX9_isWeek_1 (by decide) ?_
  refine G_cSr2 C ok_X9_isBelow lk_X9_88 (c_X9_isBelow) (Nat.le_of_ble_eq_true rfl) dX9_isWeek_3 ?_
  exact G_retR C dX9_isWeek_6 rfl rfl
set_option maxHeartbeats 4000000 in
set_option maxRecDepth 100000 in
theorem c_X10_isWeek {K : Kt} {d : Nat} {M : Mem} {a : Int32} : Ri K (d + 1) mX10_isWeek [.int a] M (bl (0 ≤ a ∧ a < 120)) M := by
  refine Ri_bool RX10 [(0, .int a)] rfl (by decide) rfl (Nat.le_of_ble_eq_true rfl) rfl bl_or (fun x C => ?_)
  refine G_iload_n C dX10_isWeek_0 rfl ?_
  refine G_iconst C (0) dX10_isWeek_1 (by decide) ?_
  refine G_bipush C (119) dX10_isWeek_2 (by decide) ?_
  refine G_cSr3 C ok_X10_isIn lk_X10_90 (c_X10_isIn) (Nat.le_of_ble_eq_true rfl) dX10_isWeek_4 ?_
  exact G_retR C dX10_isWeek_7 (bl_c (by grind)) rfl
set_option maxHeartbeats 4000000 in
set_option maxRecDepth 100000 in
theorem c_X9_areNights {K : Kt} {d : Nat} {M : Mem} {a : Int32} : Ri K d mX9_areNights [.int a] M (bl (0 ≤ a ∧ a ≤ 7)) M := by
  refine Ri_bool RX9 [(0, .int a)] rfl (by decide) rfl (Nat.le_of_ble_eq_true rfl) rfl bl_or (fun x C => ?_)
  refine G_iload_n C dX9_areNights_0 rfl ?_
  refine G_if_lt C 14 dX9_areNights_1 (by decide) (fun h1 => ?_) (fun h1 => ?_)
  · refine G_iconst C (0) dX9_areNights_14 (by decide) ?_
    exact G_retR C dX9_areNights_15 (by first | exact (bl_t (by grind)).symm | exact (bl_f (by grind)).symm) rfl
  · refine G_iload_n C dX9_areNights_4 rfl ?_
    refine G_bipush C (7) dX9_areNights_5 (by decide) ?_
    refine G_icmp_gt C 14 dX9_areNights_7 (by decide) (fun h7 => ?_) (fun h7 => ?_)
    · refine G_iconst C (0) dX9_areNights_14 (by decide) ?_
      exact G_retR C dX9_areNights_15 (by first | exact (bl_t (by grind)).symm | exact (bl_f (by grind)).symm) rfl
    · refine G_iconst C (1) dX9_areNights_10 (by decide) ?_
      refine G_goto C 15 dX9_areNights_11 (by decide) ?_
      exact G_retR C dX9_areNights_15 (by first | exact (bl_t (by grind)).symm | exact (bl_f (by grind)).symm) rfl
set_option maxHeartbeats 4000000 in
set_option maxRecDepth 100000 in
theorem c_X9_isPast {K : Kt} {d : Nat} {M : Mem} {a : Int32} : Ri K d mX9_isPast [rf K 0, .int a] M (bl (0 ≤ a ∧ a ≤ M 0 9)) M := by
  refine Ri_bool RX9 [(0, rf K 0), (1, .int a)] rfl (by decide) rfl (Nat.le_of_ble_eq_true rfl) rfl bl_or (fun x C => ?_)
  refine G_iload_n C dX9_isPast_0 rfl ?_
  refine G_if_lt C 16 dX9_isPast_1 (by decide) (fun h1 => ?_) (fun h1 => ?_)
  · refine G_iconst C (0) dX9_isPast_16 (by decide) ?_
    exact G_retR C dX9_isPast_17 (by first | exact (bl_t (by grind)).symm | exact (bl_f (by grind)).symm) rfl
  · refine G_iload_n C dX9_isPast_4 rfl ?_
    refine G_aload_r C dX9_isPast_5 rfl ?_
    refine G_getI C fo_X9_78 rfl rfl dX9_isPast_6 ?_
    refine G_icmp_gt C 16 dX9_isPast_9 (by decide) (fun h9 => ?_) (fun h9 => ?_)
    · refine G_iconst C (0) dX9_isPast_16 (by decide) ?_
      exact G_retR C dX9_isPast_17 (by first | exact (bl_t (by grind)).symm | exact (bl_f (by grind)).symm) rfl
    · refine G_iconst C (1) dX9_isPast_12 (by decide) ?_
      refine G_goto C 17 dX9_isPast_13 (by decide) ?_
      exact G_retR C dX9_isPast_17 (by first | exact (bl_t (by grind)).symm | exact (bl_f (by grind)).symm) rfl
set_option maxHeartbeats 4000000 in
set_option maxRecDepth 100000 in
theorem c_X10_isPast {K : Kt} {d : Nat} {M : Mem} {a : Int32} : Ri K (d + 1) mX10_isPast [rf K 36, .int a] M (bl (0 ≤ a ∧ a ≤ M 36 0)) M := by
  refine Ri_bool RX10 [(0, rf K 36), (1, .int a)] rfl (by decide) rfl (Nat.le_of_ble_eq_true rfl) rfl bl_or (fun x C => ?_)
  refine G_iload_n C dX10_isPast_0 rfl ?_
  refine G_iconst C (0) dX10_isPast_1 (by decide) ?_
  refine G_aload_r C dX10_isPast_2 rfl ?_
  refine G_getI C fo_X10_94 rfl rfl dX10_isPast_3 ?_
  refine G_cSr3 C ok_X10_isIn lk_X10_90 (c_X10_isIn) (Nat.le_of_ble_eq_true rfl) dX10_isPast_6 ?_
  exact G_retR C dX10_isPast_9 rfl rfl
set_option maxHeartbeats 4000000 in
set_option maxRecDepth 100000 in
theorem c_X10_isSide {K : Kt} {d : Nat} {M : Mem} {a : Int32} : Ri K (d + 1) mX10_isSide [.int a] M (bl (a = 0 ∨ a = 1)) M := by
  refine Ri_bool RX10 [(0, .int a)] rfl (by decide) rfl (Nat.le_of_ble_eq_true rfl) rfl bl_or (fun x C => ?_)
  refine G_iload_n C dX10_isSide_0 rfl ?_
  refine G_iconst C (0) dX10_isSide_1 (by decide) ?_
  refine G_iconst C (1) dX10_isSide_2 (by decide) ?_
  refine G_cSr3 C ok_X10_isIn lk_X10_90 (c_X10_isIn) (Nat.le_of_ble_eq_true rfl) dX10_isSide_3 ?_
  exact G_retR C dX10_isSide_6 (bl_c (by grind)) rfl
set_option maxHeartbeats 4000000 in
set_option maxRecDepth 100000 in
theorem c_X10_isSheet {K : Kt} {d : Nat} {M : Mem} {a : Int32} : Ri K (d + 1) mX10_isSheet [.int a] M (bl (a = 0 ∨ a = 1)) M := by
  refine Ri_bool RX10 [(0, .int a)] rfl (by decide) rfl (Nat.le_of_ble_eq_true rfl) rfl bl_or (fun x C => ?_)
  refine G_iload_n C dX10_isSheet_0 rfl ?_
  refine G_iconst C (0) dX10_isSheet_1 (by decide) ?_
  refine G_iconst C (1) dX10_isSheet_2 (by decide) ?_
  refine G_cSr3 C ok_X10_isIn lk_X10_90 (c_X10_isIn) (Nat.le_of_ble_eq_true rfl) dX10_isSheet_3 ?_
  exact G_retR C dX10_isSheet_6 (bl_c (by grind)) rfl
set_option maxHeartbeats 4000000 in
set_option maxRecDepth 100000 in
theorem c_X10_isAsked {K : Kt} {d : Nat} {M : Mem} {a b : Int32} : Ri K (d + 2) mX10_isAsked [rf K 36, .int a, .int b] M (bl ((a = 0 ∨ a = 1) ∧ 0 ≤ b ∧ b ≤ M 36 0)) M := by
  refine Ri_bool RX10 [(0, rf K 36), (1, .int a), (2, .int b)] rfl (by decide) rfl (Nat.le_of_ble_eq_true rfl) rfl bl_or (fun x C => ?_)
  refine G_iload_n C dX10_isAsked_0 rfl ?_
  refine G_cSr1 C ok_X10_isSide lk_X10_206 (c_X10_isSide) (Nat.le_of_ble_eq_true rfl) dX10_isAsked_1 ?_
  refine G_if_eq C 19 dX10_isAsked_4 (by decide) (fun h4 => ?_) (fun h4 => ?_)
  · rw [bl_z] at h4
    refine G_iconst C (0) dX10_isAsked_19 (by decide) ?_
    exact G_retR C dX10_isAsked_20 (by first | exact (bl_t (by grind)).symm | exact (bl_f (by grind)).symm) rfl
  · rw [bl_z] at h4
    refine G_aload_r C dX10_isAsked_7 rfl ?_
    refine G_iload_n C dX10_isAsked_8 rfl ?_
    refine G_cVr1 C ok_X10_isPast lk_X10_123 rfl rfl (c_X10_isPast) (Nat.le_of_ble_eq_true rfl) dX10_isAsked_9 ?_
    refine G_if_eq C 19 dX10_isAsked_12 (by decide) (fun h12 => ?_) (fun h12 => ?_)
    · rw [bl_z] at h12
      refine G_iconst C (0) dX10_isAsked_19 (by decide) ?_
      exact G_retR C dX10_isAsked_20 (by first | exact (bl_t (by grind)).symm | exact (bl_f (by grind)).symm) rfl
    · rw [bl_z] at h12
      refine G_iconst C (1) dX10_isAsked_15 (by decide) ?_
      refine G_goto C 20 dX10_isAsked_16 (by decide) ?_
      exact G_retR C dX10_isAsked_20 (by first | exact (bl_t (by grind)).symm | exact (bl_f (by grind)).symm) rfl
def okv (k v : Int32) : Prop := (k = 0 ∧ 0 ≤ v ∧ v ≤ 5) ∨ (k = 2 ∧ (v = 1 ∨ v = -1)) ∨ ((k = 1 ∨ k = 3) ∧ 0 ≤ v ∧ v ≤ 100000)
def okb (k v : Int32) : Bool := bif decide (k = 0) then decide (0 ≤ v ∧ v ≤ 5) else bif decide (k = 2) then decide (v = 1 ∨ v = -1) else bif decide (k = 1 ∨ k = 3) then decide (0 ≤ v ∧ v ≤ 100000) else false
theorem sw_3 (v : Int32) : (v.toInt < 0 ∨ 3 < v.toInt) ∨ v = 0 ∨ v = 1 ∨ v = 2 ∨ v = 3 := by
  simp only [fa_eq]
  rw [show (0 : Int32).toInt = 0 from rfl, show (1 : Int32).toInt = 1 from rfl, show (2 : Int32).toInt = 2 from rfl, show (3 : Int32).toInt = 3 from rfl]
  omega
theorem sw_no {v : Int32} {n : Int} (h : v.toInt < 0 ∨ n < v.toInt) {c : Int32} (h1 : 0 ≤ c.toInt) (h2 : c.toInt ≤ n) : ¬ v = c := fun e => by
  subst e
  omega
set_option maxHeartbeats 4000000 in
set_option maxRecDepth 100000 in
theorem c_X2_mayHold {K : Kt} {d : Nat} {M : Mem} {a b : Int32} : Ri K d mX2_mayHold [.int a, .int b] M (bl (okb a b = true)) M := by
  refine Ri_bool RX2 [(0, .int a), (1, .int b)] rfl (by decide) rfl (Nat.le_of_ble_eq_true rfl) rfl bl_or (fun x C => ?_)
  refine G_iload_n C dX2_mayHold_0 rfl ?_
  rcases (sw_3 a) with hsw | hsw | hsw | hsw | hsw
  · refine G_tableOut C 79 dX2_mayHold_1 hsw (by decide) ?_
    refine G_iconst C (0) dX2_mayHold_79 (by decide) ?_
    exact G_retR C dX2_mayHold_80 (by first | (subst hsw; simp [okb, bl]; done) | (subst hsw; simp [okb, bl]; grind) | (subst hsw; exact bl_c (by simp [okb])) | (simp [okb, bl, sw_no hsw (c := 0) (by decide) (by decide), sw_no hsw (c := 1) (by decide) (by decide), sw_no hsw (c := 2) (by decide) (by decide), sw_no hsw (c := 3) (by decide) (by decide)])) rfl
  · refine G_tableIn C (31) 32 dX2_mayHold_1 (by rw [hsw]; decide) (by rw [hsw]; decide) (by rw [hsw]; rfl) (by decide) ?_
    refine G_iload_n C dX2_mayHold_32 rfl ?_
    refine G_if_lt C 45 dX2_mayHold_33 (by decide) (fun h33 => ?_) (fun h33 => ?_)
    · refine G_iconst C (0) dX2_mayHold_45 (by decide) ?_
      exact G_retR C dX2_mayHold_46 (by first | (subst hsw; simp [okb, bl]; done) | (subst hsw; simp [okb, bl]; grind) | (subst hsw; exact bl_c (by simp [okb])) | (simp [okb, bl, sw_no hsw (c := 0) (by decide) (by decide), sw_no hsw (c := 1) (by decide) (by decide), sw_no hsw (c := 2) (by decide) (by decide), sw_no hsw (c := 3) (by decide) (by decide)])) rfl
    · refine G_iload_n C dX2_mayHold_36 rfl ?_
      refine G_iconst C (5) dX2_mayHold_37 (by decide) ?_
      refine G_icmp_gt C 45 dX2_mayHold_38 (by decide) (fun h38 => ?_) (fun h38 => ?_)
      · refine G_iconst C (0) dX2_mayHold_45 (by decide) ?_
        exact G_retR C dX2_mayHold_46 (by first | (subst hsw; simp [okb, bl]; done) | (subst hsw; simp [okb, bl]; grind) | (subst hsw; exact bl_c (by simp [okb])) | (simp [okb, bl, sw_no hsw (c := 0) (by decide) (by decide), sw_no hsw (c := 1) (by decide) (by decide), sw_no hsw (c := 2) (by decide) (by decide), sw_no hsw (c := 3) (by decide) (by decide)])) rfl
      · refine G_iconst C (1) dX2_mayHold_41 (by decide) ?_
        refine G_goto C 46 dX2_mayHold_42 (by decide) ?_
        exact G_retR C dX2_mayHold_46 (by first | (subst hsw; simp [okb, bl]; done) | (subst hsw; simp [okb, bl]; grind) | (subst hsw; exact bl_c (by simp [okb])) | (simp [okb, bl, sw_no hsw (c := 0) (by decide) (by decide), sw_no hsw (c := 1) (by decide) (by decide), sw_no hsw (c := 2) (by decide) (by decide), sw_no hsw (c := 3) (by decide) (by decide)])) rfl
  · refine G_tableIn C (46) 47 dX2_mayHold_1 (by rw [hsw]; decide) (by rw [hsw]; decide) (by rw [hsw]; rfl) (by decide) ?_
    refine G_iload_n C dX2_mayHold_47 rfl ?_
    refine G_if_lt C 61 dX2_mayHold_48 (by decide) (fun h48 => ?_) (fun h48 => ?_)
    · refine G_iconst C (0) dX2_mayHold_61 (by decide) ?_
      exact G_retR C dX2_mayHold_62 (by first | (subst hsw; simp [okb, bl]; done) | (subst hsw; simp [okb, bl]; grind) | (subst hsw; exact bl_c (by simp [okb])) | (simp [okb, bl, sw_no hsw (c := 0) (by decide) (by decide), sw_no hsw (c := 1) (by decide) (by decide), sw_no hsw (c := 2) (by decide) (by decide), sw_no hsw (c := 3) (by decide) (by decide)])) rfl
    · refine G_iload_n C dX2_mayHold_51 rfl ?_
      refine G_ldc C kc_X2_27 dX2_mayHold_52 ?_
      refine G_icmp_gt C 61 dX2_mayHold_54 (by decide) (fun h54 => ?_) (fun h54 => ?_)
      · refine G_iconst C (0) dX2_mayHold_61 (by decide) ?_
        exact G_retR C dX2_mayHold_62 (by first | (subst hsw; simp [okb, bl]; done) | (subst hsw; simp [okb, bl]; grind) | (subst hsw; exact bl_c (by simp [okb])) | (simp [okb, bl, sw_no hsw (c := 0) (by decide) (by decide), sw_no hsw (c := 1) (by decide) (by decide), sw_no hsw (c := 2) (by decide) (by decide), sw_no hsw (c := 3) (by decide) (by decide)])) rfl
      · refine G_iconst C (1) dX2_mayHold_57 (by decide) ?_
        refine G_goto C 62 dX2_mayHold_58 (by decide) ?_
        exact G_retR C dX2_mayHold_62 (by first | (subst hsw; simp [okb, bl]; done) | (subst hsw; simp [okb, bl]; grind) | (subst hsw; exact bl_c (by simp [okb])) | (simp [okb, bl, sw_no hsw (c := 0) (by decide) (by decide), sw_no hsw (c := 1) (by decide) (by decide), sw_no hsw (c := 2) (by decide) (by decide), sw_no hsw (c := 3) (by decide) (by decide)])) rfl
  · refine G_tableIn C (62) 63 dX2_mayHold_1 (by rw [hsw]; decide) (by rw [hsw]; decide) (by rw [hsw]; rfl) (by decide) ?_
    refine G_iload_n C dX2_mayHold_63 rfl ?_
    refine G_iconst C (1) dX2_mayHold_64 (by decide) ?_
    refine G_icmp_eq C 73 dX2_mayHold_65 (by decide) (fun h65 => ?_) (fun h65 => ?_)
    · refine G_iconst C (1) dX2_mayHold_73 (by decide) ?_
      refine G_goto C 78 dX2_mayHold_74 (by decide) ?_
      exact G_retR C dX2_mayHold_78 (by first | (subst hsw; simp [okb, bl]; done) | (subst hsw; simp [okb, bl]; grind) | (subst hsw; exact bl_c (by simp [okb])) | (simp [okb, bl, sw_no hsw (c := 0) (by decide) (by decide), sw_no hsw (c := 1) (by decide) (by decide), sw_no hsw (c := 2) (by decide) (by decide), sw_no hsw (c := 3) (by decide) (by decide)])) rfl
    · refine G_iload_n C dX2_mayHold_68 rfl ?_
      refine G_iconst C (-1) dX2_mayHold_69 (by decide) ?_
      refine G_icmp_ne C 77 dX2_mayHold_70 (by decide) (fun h70 => ?_) (fun h70 => ?_)
      · refine G_iconst C (0) dX2_mayHold_77 (by decide) ?_
        exact G_retR C dX2_mayHold_78 (by first | (subst hsw; simp [okb, bl]; done) | (subst hsw; simp [okb, bl]; grind) | (subst hsw; exact bl_c (by simp [okb])) | (simp [okb, bl, sw_no hsw (c := 0) (by decide) (by decide), sw_no hsw (c := 1) (by decide) (by decide), sw_no hsw (c := 2) (by decide) (by decide), sw_no hsw (c := 3) (by decide) (by decide)])) rfl
      · refine G_iconst C (1) dX2_mayHold_73 (by decide) ?_
        refine G_goto C 78 dX2_mayHold_74 (by decide) ?_
        exact G_retR C dX2_mayHold_78 (by first | (subst hsw; simp [okb, bl]; done) | (subst hsw; simp [okb, bl]; grind) | (subst hsw; exact bl_c (by simp [okb])) | (simp [okb, bl, sw_no hsw (c := 0) (by decide) (by decide), sw_no hsw (c := 1) (by decide) (by decide), sw_no hsw (c := 2) (by decide) (by decide), sw_no hsw (c := 3) (by decide) (by decide)])) rfl
  · refine G_tableIn C (46) 47 dX2_mayHold_1 (by rw [hsw]; decide) (by rw [hsw]; decide) (by rw [hsw]; rfl) (by decide) ?_
    refine G_iload_n C dX2_mayHold_47 rfl ?_
    refine G_if_lt C 61 dX2_mayHold_48 (by decide) (fun h48 => ?_) (fun h48 => ?_)
    · refine G_iconst C (0) dX2_mayHold_61 (by decide) ?_
      exact G_retR C dX2_mayHold_62 (by first | (subst hsw; simp [okb, bl]; done) | (subst hsw; simp [okb, bl]; grind) | (subst hsw; exact bl_c (by simp [okb])) | (simp [okb, bl, sw_no hsw (c := 0) (by decide) (by decide), sw_no hsw (c := 1) (by decide) (by decide), sw_no hsw (c := 2) (by decide) (by decide), sw_no hsw (c := 3) (by decide) (by decide)])) rfl
    · refine G_iload_n C dX2_mayHold_51 rfl ?_
      refine G_ldc C kc_X2_27 dX2_mayHold_52 ?_
      refine G_icmp_gt C 61 dX2_mayHold_54 (by decide) (fun h54 => ?_) (fun h54 => ?_)
      · refine G_iconst C (0) dX2_mayHold_61 (by decide) ?_
        exact G_retR C dX2_mayHold_62 (by first | (subst hsw; simp [okb, bl]; done) | (subst hsw; simp [okb, bl]; grind) | (subst hsw; exact bl_c (by simp [okb])) | (simp [okb, bl, sw_no hsw (c := 0) (by decide) (by decide), sw_no hsw (c := 1) (by decide) (by decide), sw_no hsw (c := 2) (by decide) (by decide), sw_no hsw (c := 3) (by decide) (by decide)])) rfl
      · refine G_iconst C (1) dX2_mayHold_57 (by decide) ?_
        refine G_goto C 62 dX2_mayHold_58 (by decide) ?_
        exact G_retR C dX2_mayHold_62 (by first | (subst hsw; simp [okb, bl]; done) | (subst hsw; simp [okb, bl]; grind) | (subst hsw; exact bl_c (by simp [okb])) | (simp [okb, bl, sw_no hsw (c := 0) (by decide) (by decide), sw_no hsw (c := 1) (by decide) (by decide), sw_no hsw (c := 2) (by decide) (by decide), sw_no hsw (c := 3) (by decide) (by decide)])) rfl
set_option maxHeartbeats 4000000 in
set_option maxRecDepth 100000 in
theorem c_X10_isValue {K : Kt} {d : Nat} {M : Mem} {a b : Int32} : Ri K (d + 1) mX10_isValue [.int a, .int b] M (bl (okb a b = true)) M := by
  refine Ri_bool RX10 [(0, .int a), (1, .int b)] rfl (by decide) rfl (Nat.le_of_ble_eq_true rfl) rfl bl_or (fun x C => ?_)
  refine G_iload_n C dX10_isValue_0 rfl ?_
  rcases (sw_3 a) with hsw | hsw | hsw | hsw | hsw
  · refine G_tableOut C 63 dX10_isValue_1 hsw (by decide) ?_
    refine G_iconst C (0) dX10_isValue_63 (by decide) ?_
    exact G_retR C dX10_isValue_64 (by first | (subst hsw; simp [okb, bl]; done) | (subst hsw; simp [okb, bl]; grind) | (subst hsw; exact bl_c (by simp [okb])) | (simp [okb, bl, sw_no hsw (c := 0) (by decide) (by decide), sw_no hsw (c := 1) (by decide) (by decide), sw_no hsw (c := 2) (by decide) (by decide), sw_no hsw (c := 3) (by decide) (by decide)])) rfl
  · refine G_tableIn C (31) 32 dX10_isValue_1 (by rw [hsw]; decide) (by rw [hsw]; decide) (by rw [hsw]; rfl) (by decide) ?_
    refine G_iload_n C dX10_isValue_32 rfl ?_
    refine G_iconst C (0) dX10_isValue_33 (by decide) ?_
    refine G_iconst C (5) dX10_isValue_34 (by decide) ?_
    refine G_cSr3 C ok_X10_isIn lk_X10_90 (c_X10_isIn) (Nat.le_of_ble_eq_true rfl) dX10_isValue_35 ?_
    exact G_retR C dX10_isValue_38 (by first | (subst hsw; simp [okb, bl]; done) | (subst hsw; simp [okb, bl]; grind) | (subst hsw; exact bl_c (by simp [okb])) | (simp [okb, bl, sw_no hsw (c := 0) (by decide) (by decide), sw_no hsw (c := 1) (by decide) (by decide), sw_no hsw (c := 2) (by decide) (by decide), sw_no hsw (c := 3) (by decide) (by decide)])) rfl
  · refine G_tableIn C (54) 55 dX10_isValue_1 (by rw [hsw]; decide) (by rw [hsw]; decide) (by rw [hsw]; rfl) (by decide) ?_
    refine G_iload_n C dX10_isValue_55 rfl ?_
    refine G_iconst C (0) dX10_isValue_56 (by decide) ?_
    refine G_ldc C kc_X10_97 dX10_isValue_57 ?_
    refine G_cSr3 C ok_X10_isIn lk_X10_90 (c_X10_isIn) (Nat.le_of_ble_eq_true rfl) dX10_isValue_59 ?_
    exact G_retR C dX10_isValue_62 (by first | (subst hsw; simp [okb, bl]; done) | (subst hsw; simp [okb, bl]; grind) | (subst hsw; exact bl_c (by simp [okb])) | (simp [okb, bl, sw_no hsw (c := 0) (by decide) (by decide), sw_no hsw (c := 1) (by decide) (by decide), sw_no hsw (c := 2) (by decide) (by decide), sw_no hsw (c := 3) (by decide) (by decide)])) rfl
  · refine G_tableIn C (38) 39 dX10_isValue_1 (by rw [hsw]; decide) (by rw [hsw]; decide) (by rw [hsw]; rfl) (by decide) ?_
    refine G_iload_n C dX10_isValue_39 rfl ?_
    refine G_iconst C (1) dX10_isValue_40 (by decide) ?_
    refine G_icmp_eq C 49 dX10_isValue_41 (by decide) (fun h41 => ?_) (fun h41 => ?_)
    · refine G_iconst C (1) dX10_isValue_49 (by decide) ?_
      refine G_goto C 54 dX10_isValue_50 (by decide) ?_
      exact G_retR C dX10_isValue_54 (by first | (subst hsw; simp [okb, bl]; done) | (subst hsw; simp [okb, bl]; grind) | (subst hsw; exact bl_c (by simp [okb])) | (simp [okb, bl, sw_no hsw (c := 0) (by decide) (by decide), sw_no hsw (c := 1) (by decide) (by decide), sw_no hsw (c := 2) (by decide) (by decide), sw_no hsw (c := 3) (by decide) (by decide)])) rfl
    · refine G_iload_n C dX10_isValue_44 rfl ?_
      refine G_iconst C (-1) dX10_isValue_45 (by decide) ?_
      refine G_icmp_ne C 53 dX10_isValue_46 (by decide) (fun h46 => ?_) (fun h46 => ?_)
      · refine G_iconst C (0) dX10_isValue_53 (by decide) ?_
        exact G_retR C dX10_isValue_54 (by first | (subst hsw; simp [okb, bl]; done) | (subst hsw; simp [okb, bl]; grind) | (subst hsw; exact bl_c (by simp [okb])) | (simp [okb, bl, sw_no hsw (c := 0) (by decide) (by decide), sw_no hsw (c := 1) (by decide) (by decide), sw_no hsw (c := 2) (by decide) (by decide), sw_no hsw (c := 3) (by decide) (by decide)])) rfl
      · refine G_iconst C (1) dX10_isValue_49 (by decide) ?_
        refine G_goto C 54 dX10_isValue_50 (by decide) ?_
        exact G_retR C dX10_isValue_54 (by first | (subst hsw; simp [okb, bl]; done) | (subst hsw; simp [okb, bl]; grind) | (subst hsw; exact bl_c (by simp [okb])) | (simp [okb, bl, sw_no hsw (c := 0) (by decide) (by decide), sw_no hsw (c := 1) (by decide) (by decide), sw_no hsw (c := 2) (by decide) (by decide), sw_no hsw (c := 3) (by decide) (by decide)])) rfl
  · refine G_tableIn C (54) 55 dX10_isValue_1 (by rw [hsw]; decide) (by rw [hsw]; decide) (by rw [hsw]; rfl) (by decide) ?_
    refine G_iload_n C dX10_isValue_55 rfl ?_
    refine G_iconst C (0) dX10_isValue_56 (by decide) ?_
    refine G_ldc C kc_X10_97 dX10_isValue_57 ?_
    refine G_cSr3 C ok_X10_isIn lk_X10_90 (c_X10_isIn) (Nat.le_of_ble_eq_true rfl) dX10_isValue_59 ?_
    exact G_retR C dX10_isValue_62 (by first | (subst hsw; simp [okb, bl]; done) | (subst hsw; simp [okb, bl]; grind) | (subst hsw; exact bl_c (by simp [okb])) | (simp [okb, bl, sw_no hsw (c := 0) (by decide) (by decide), sw_no hsw (c := 1) (by decide) (by decide), sw_no hsw (c := 2) (by decide) (by decide), sw_no hsw (c := 3) (by decide) (by decide)])) rfl
set_option maxHeartbeats 4000000 in
set_option maxRecDepth 100000 in
theorem c_X2_has {K : Kt} {d : Nat} {M : Mem} {a : Int32} : Ri K (d + 1) mX2_has [rf K 1, .int a] M (bl (0 ≤ a ∧ a < M 1 5)) M := by
  refine Ri_bool RX2 [(0, rf K 1), (1, .int a)] rfl (by decide) rfl (Nat.le_of_ble_eq_true rfl) rfl bl_or (fun x C => ?_)
  refine G_iload_n C dX2_has_0 rfl ?_
  refine G_aload_r C dX2_has_1 rfl ?_
  refine G_getI C fo_X2_28 rfl rfl dX2_has_2 ?_
  refine G_cNr2 C ok_X9_isBelow lk_X2_33 (c_X9_isBelow) (Nat.le_of_ble_eq_true rfl) dX2_has_5 ?_
  exact G_retR C dX2_has_8 rfl rfl
set_option maxHeartbeats 4000000 in
set_option maxRecDepth 100000 in
theorem c_X10_isChange {K : Kt} {d : Nat} {M : Mem} {a : Int32} (h0 : 0 ≤ M 36 1) : Ri K (d + 1) mX10_isChange [rf K 36, .int a] M (bl (0 ≤ a ∧ a < M 36 1)) M := by
  refine Ri_bool RX10 [(0, rf K 36), (1, .int a)] rfl (by decide) rfl (Nat.le_of_ble_eq_true rfl) rfl bl_or (fun x C => ?_)
  refine G_iload_n C dX10_isChange_0 rfl ?_
  refine G_iconst C (0) dX10_isChange_1 (by decide) ?_
  refine G_aload_r C dX10_isChange_2 rfl ?_
  refine G_getI C fo_X10_107 rfl rfl dX10_isChange_3 ?_
  refine G_iconst C (1) dX10_isChange_6 (by decide) ?_
  refine G_isub C dX10_isChange_7 ?_
  refine G_cSr3 C ok_X10_isIn lk_X10_90 (c_X10_isIn) (Nat.le_of_ble_eq_true rfl) dX10_isChange_8 ?_
  exact G_retR C dX10_isChange_11 (bl_c (by grind)) rfl
set_option maxHeartbeats 4000000 in
set_option maxRecDepth 100000 in
theorem c_X2_isOfKind {K : Kt} {d : Nat} {M : Mem} {j : Nat} {k : Int32} (hj : j < 80) : Ri K d mX2_isOfKind [rf K 1, .int (nI j), .int k] M (bl (k = 0 ∨ M 2 j = k ∨ (k = 1 ∧ M 2 j = 3))) M := by
  refine Ri_bool RX2 [(0, rf K 1), (1, .int (nI j)), (2, .int k)] rfl (by decide) rfl (Nat.le_of_ble_eq_true rfl) rfl bl_or (fun x C => ?_)
  refine G_aload_r C dX2_isOfKind_0 rfl ?_
  refine G_getR C fo_X2_9 rfl rfl dX2_isOfKind_1 ?_
  refine G_iload_n C dX2_isOfKind_4 rfl ?_
  refine G_ialdN C rfl (by assumption) (by decide) dX2_isOfKind_5 ?_
  refine G_istore_n C dX2_isOfKind_6 (by decide) ?_
  refine G_iload_n C dX2_isOfKind_7 rfl ?_
  refine G_if_eq C 26 dX2_isOfKind_8 (by decide) (fun h8 => ?_) (fun h8 => ?_)
  · refine G_iconst C (1) dX2_isOfKind_26 (by decide) ?_
    refine G_goto C 31 dX2_isOfKind_27 (by decide) ?_
    exact G_retR C dX2_isOfKind_31 (by first | exact (bl_t (by grind)).symm | exact (bl_f (by grind)).symm) rfl
  · refine G_iload_n C dX2_isOfKind_11 rfl ?_
    refine G_iload_n C dX2_isOfKind_12 rfl ?_
    refine G_icmp_eq C 26 dX2_isOfKind_13 (by decide) (fun h13 => ?_) (fun h13 => ?_)
    · refine G_iconst C (1) dX2_isOfKind_26 (by decide) ?_
      refine G_goto C 31 dX2_isOfKind_27 (by decide) ?_
      exact G_retR C dX2_isOfKind_31 (by first | exact (bl_t (by grind)).symm | exact (bl_f (by grind)).symm) rfl
    · refine G_iload_n C dX2_isOfKind_16 rfl ?_
      refine G_iconst C (1) dX2_isOfKind_17 (by decide) ?_
      refine G_icmp_ne C 30 dX2_isOfKind_18 (by decide) (fun h18 => ?_) (fun h18 => ?_)
      · refine G_iconst C (0) dX2_isOfKind_30 (by decide) ?_
        exact G_retR C dX2_isOfKind_31 (by first | exact (bl_t (by grind)).symm | exact (bl_f (by grind)).symm) rfl
      · refine G_iload_n C dX2_isOfKind_21 rfl ?_
        refine G_iconst C (3) dX2_isOfKind_22 (by decide) ?_
        refine G_icmp_ne C 30 dX2_isOfKind_23 (by decide) (fun h23 => ?_) (fun h23 => ?_)
        · refine G_iconst C (0) dX2_isOfKind_30 (by decide) ?_
          exact G_retR C dX2_isOfKind_31 (by first | exact (bl_t (by grind)).symm | exact (bl_f (by grind)).symm) rfl
        · refine G_iconst C (1) dX2_isOfKind_26 (by decide) ?_
          refine G_goto C 31 dX2_isOfKind_27 (by decide) ?_
          exact G_retR C dX2_isOfKind_31 (by first | exact (bl_t (by grind)).symm | exact (bl_f (by grind)).symm) rfl
def xhold (M : Mem) (k w : Int32) (j : Nat) : Bool := decide (M 4 j ≤ w ∧ M 5 j ≤ k ∧ (M 6 j = (-2000000005) ∨ k < M 6 j))
def mhold (M : Mem) (k w : Int32) (j : Nat) : Bool := decide (M 39 j ≤ w ∧ M 40 j ≤ k ∧ (M 41 j < 0 ∨ k < M 41 j))
set_option maxHeartbeats 4000000 in
set_option maxRecDepth 100000 in
theorem c_X2_counts {K : Kt} {d : Nat} {M : Mem} {j : Nat} {k w : Int32} (hj : j < 80) : Ri K d mX2_counts [rf K 1, .int (nI j), .int k, .int w] M (bl (xhold M k w j = true)) M := by
  refine Ri_bool RX2 [(0, rf K 1), (1, .int (nI j)), (2, .int k), (3, .int w)] rfl (by decide) rfl (Nat.le_of_ble_eq_true rfl) rfl bl_or (fun x C => ?_)
  refine G_aload_r C dX2_counts_0 rfl ?_
  refine G_getR C fo_X2_18 rfl rfl dX2_counts_1 ?_
  refine G_iload_n C dX2_counts_4 rfl ?_
  refine G_ialdN C rfl (by assumption) (by decide) dX2_counts_5 ?_
  refine G_iload_n C dX2_counts_6 rfl ?_
  refine G_icmp_gt C 45 dX2_counts_7 (by decide) (fun h7 => ?_) (fun h7 => ?_)
  · refine G_iconst C (0) dX2_counts_45 (by decide) ?_
    exact G_retR C dX2_counts_46 (by first | exact (bl_t (by simp only [xhold, mhold]; simp; grind)).symm | exact (bl_f (by simp only [xhold, mhold]; simp; grind)).symm) rfl
  · refine G_aload_r C dX2_counts_10 rfl ?_
    refine G_getR C fo_X2_21 rfl rfl dX2_counts_11 ?_
    refine G_iload_n C dX2_counts_14 rfl ?_
    refine G_ialdN C rfl (by assumption) (by decide) dX2_counts_15 ?_
    refine G_iload_n C dX2_counts_16 rfl ?_
    refine G_icmp_gt C 45 dX2_counts_17 (by decide) (fun h17 => ?_) (fun h17 => ?_)
    · refine G_iconst C (0) dX2_counts_45 (by decide) ?_
      exact G_retR C dX2_counts_46 (by first | exact (bl_t (by simp only [xhold, mhold]; simp; grind)).symm | exact (bl_f (by simp only [xhold, mhold]; simp; grind)).symm) rfl
    · refine G_aload_r C dX2_counts_20 rfl ?_
      refine G_getR C fo_X2_24 rfl rfl dX2_counts_21 ?_
      refine G_iload_n C dX2_counts_24 rfl ?_
      refine G_ialdN C rfl (by assumption) (by decide) dX2_counts_25 ?_
      refine G_ldc C kc_X2_32 dX2_counts_26 ?_
      refine G_icmp_eq C 41 dX2_counts_28 (by decide) (fun h28 => ?_) (fun h28 => ?_)
      · refine G_iconst C (1) dX2_counts_41 (by decide) ?_
        refine G_goto C 46 dX2_counts_42 (by decide) ?_
        exact G_retR C dX2_counts_46 (by first | exact (bl_t (by simp only [xhold, mhold]; simp; grind)).symm | exact (bl_f (by simp only [xhold, mhold]; simp; grind)).symm) rfl
      · refine G_aload_r C dX2_counts_31 rfl ?_
        refine G_getR C fo_X2_24 rfl rfl dX2_counts_32 ?_
        refine G_iload_n C dX2_counts_35 rfl ?_
        refine G_ialdN C rfl (by assumption) (by decide) dX2_counts_36 ?_
        refine G_iload_n C dX2_counts_37 rfl ?_
        refine G_icmp_le C 45 dX2_counts_38 (by decide) (fun h38 => ?_) (fun h38 => ?_)
        · refine G_iconst C (0) dX2_counts_45 (by decide) ?_
          exact G_retR C dX2_counts_46 (by first | exact (bl_t (by simp only [xhold, mhold]; simp; grind)).symm | exact (bl_f (by simp only [xhold, mhold]; simp; grind)).symm) rfl
        · refine G_iconst C (1) dX2_counts_41 (by decide) ?_
          refine G_goto C 46 dX2_counts_42 (by decide) ?_
          exact G_retR C dX2_counts_46 (by first | exact (bl_t (by simp only [xhold, mhold]; simp; grind)).symm | exact (bl_f (by simp only [xhold, mhold]; simp; grind)).symm) rfl
set_option maxHeartbeats 4000000 in
set_option maxRecDepth 100000 in
theorem c_X10_holds {K : Kt} {d : Nat} {M : Mem} {j : Nat} {k w : Int32} (hj : j < 80) : Ri K d mX10_holds [rf K 36, .int (nI j), .int k, .int w] M (bl (mhold M k w j = true)) M := by
  refine Ri_bool RX10 [(0, rf K 36), (1, .int (nI j)), (2, .int k), (3, .int w)] rfl (by decide) rfl (Nat.le_of_ble_eq_true rfl) rfl bl_or (fun x C => ?_)
  refine G_aload_r C dX10_holds_0 rfl ?_
  refine G_getR C fo_X10_19 rfl rfl dX10_holds_1 ?_
  refine G_iload_n C dX10_holds_4 rfl ?_
  refine G_ialdN C rfl (by assumption) (by decide) dX10_holds_5 ?_
  refine G_iload_n C dX10_holds_6 rfl ?_
  refine G_icmp_gt C 43 dX10_holds_7 (by decide) (fun h7 => ?_) (fun h7 => ?_)
  · refine G_iconst C (0) dX10_holds_43 (by decide) ?_
    exact G_retR C dX10_holds_44 (by first | exact (bl_t (by simp only [xhold, mhold]; simp; grind)).symm | exact (bl_f (by simp only [xhold, mhold]; simp; grind)).symm) rfl
  · refine G_aload_r C dX10_holds_10 rfl ?_
    refine G_getR C fo_X10_22 rfl rfl dX10_holds_11 ?_
    refine G_iload_n C dX10_holds_14 rfl ?_
    refine G_ialdN C rfl (by assumption) (by decide) dX10_holds_15 ?_
    refine G_if_lt C 29 dX10_holds_16 (by decide) (fun h16 => ?_) (fun h16 => ?_)
    · refine G_aload_r C dX10_holds_29 rfl ?_
      refine G_getR C fo_X10_16 rfl rfl dX10_holds_30 ?_
      refine G_iload_n C dX10_holds_33 rfl ?_
      refine G_ialdN C rfl (by assumption) (by decide) dX10_holds_34 ?_
      refine G_iload_n C dX10_holds_35 rfl ?_
      refine G_icmp_gt C 43 dX10_holds_36 (by decide) (fun h36 => ?_) (fun h36 => ?_)
      · refine G_iconst C (0) dX10_holds_43 (by decide) ?_
        exact G_retR C dX10_holds_44 (by first | exact (bl_t (by simp only [xhold, mhold]; simp; grind)).symm | exact (bl_f (by simp only [xhold, mhold]; simp; grind)).symm) rfl
      · refine G_iconst C (1) dX10_holds_39 (by decide) ?_
        refine G_goto C 44 dX10_holds_40 (by decide) ?_
        exact G_retR C dX10_holds_44 (by first | exact (bl_t (by simp only [xhold, mhold]; simp; grind)).symm | exact (bl_f (by simp only [xhold, mhold]; simp; grind)).symm) rfl
    · refine G_aload_r C dX10_holds_19 rfl ?_
      refine G_getR C fo_X10_22 rfl rfl dX10_holds_20 ?_
      refine G_iload_n C dX10_holds_23 rfl ?_
      refine G_ialdN C rfl (by assumption) (by decide) dX10_holds_24 ?_
      refine G_iload_n C dX10_holds_25 rfl ?_
      refine G_icmp_le C 43 dX10_holds_26 (by decide) (fun h26 => ?_) (fun h26 => ?_)
      · refine G_iconst C (0) dX10_holds_43 (by decide) ?_
        exact G_retR C dX10_holds_44 (by first | exact (bl_t (by simp only [xhold, mhold]; simp; grind)).symm | exact (bl_f (by simp only [xhold, mhold]; simp; grind)).symm) rfl
      · refine G_aload_r C dX10_holds_29 rfl ?_
        refine G_getR C fo_X10_16 rfl rfl dX10_holds_30 ?_
        refine G_iload_n C dX10_holds_33 rfl ?_
        refine G_ialdN C rfl (by assumption) (by decide) dX10_holds_34 ?_
        refine G_iload_n C dX10_holds_35 rfl ?_
        refine G_icmp_gt C 43 dX10_holds_36 (by decide) (fun h36 => ?_) (fun h36 => ?_)
        · refine G_iconst C (0) dX10_holds_43 (by decide) ?_
          exact G_retR C dX10_holds_44 (by first | exact (bl_t (by simp only [xhold, mhold]; simp; grind)).symm | exact (bl_f (by simp only [xhold, mhold]; simp; grind)).symm) rfl
        · refine G_iconst C (1) dX10_holds_39 (by decide) ?_
          refine G_goto C 44 dX10_holds_40 (by decide) ?_
          exact G_retR C dX10_holds_44 (by first | exact (bl_t (by simp only [xhold, mhold]; simp; grind)).symm | exact (bl_f (by simp only [xhold, mhold]; simp; grind)).symm) rfl
def payb (set : Int32) (mk : Nat → Int32) (j : Nat) : Bool := decide (set >>> (mk j &&& 31) &&& 1 = 1)
set_option maxHeartbeats 4000000 in
set_option maxRecDepth 100000 in
theorem c_X1_isPay {K : Kt} {d : Nat} {M : Mem} {j : Nat} (hj : j < 100) : Ri K d mX1_isPay [rf K 28, .int (nI j)] M (bl (payb (M 28 4) (M 31) j = true)) M := by
  refine Ri_bool RX1 [(0, rf K 28), (1, .int (nI j))] rfl (by decide) rfl (Nat.le_of_ble_eq_true rfl) rfl bl_or (fun x C => ?_)
  refine G_aload_r C dX1_isPay_0 rfl ?_
  refine G_getI C fo_X1_21 rfl rfl dX1_isPay_1 ?_
  refine G_aload_r C dX1_isPay_4 rfl ?_
  refine G_getR C fo_X1_18 rfl rfl dX1_isPay_5 ?_
  refine G_iload_n C dX1_isPay_8 rfl ?_
  refine G_ialdN C rfl (by assumption) (by decide) dX1_isPay_9 ?_
  refine G_ishr C dX1_isPay_10 ?_
  refine G_iconst C (1) dX1_isPay_11 (by decide) ?_
  refine G_iand C dX1_isPay_12 ?_
  refine G_iconst C (1) dX1_isPay_13 (by decide) ?_
  refine G_icmp_ne C 21 dX1_isPay_14 (by decide) (fun h14 => ?_) (fun h14 => ?_)
  · refine G_iconst C (0) dX1_isPay_21 (by decide) ?_
    exact G_retR C dX1_isPay_22 (by first | exact (bl_t (by simp only [payb]; simp; assumption)).symm | exact (bl_f (by simp only [payb]; simp; assumption)).symm) rfl
  · refine G_iconst C (1) dX1_isPay_17 (by decide) ?_
    refine G_goto C 22 dX1_isPay_18 (by decide) ?_
    exact G_retR C dX1_isPay_22 (by first | exact (bl_t (by simp only [payb]; simp; assumption)).symm | exact (bl_f (by simp only [payb]; simp; assumption)).symm) rfl
set_option maxHeartbeats 4000000 in
set_option maxRecDepth 100000 in
theorem c_X10_isPay {K : Kt} {d : Nat} {M : Mem} {j : Nat} (hj : j < 100) : Ri K d mX10_isPay [rf K 36, .int (nI j)] M (bl (payb (M 36 22) (M 54) j = true)) M := by
  refine Ri_bool RX10 [(0, rf K 36), (1, .int (nI j))] rfl (by decide) rfl (Nat.le_of_ble_eq_true rfl) rfl bl_or (fun x C => ?_)
  refine G_aload_r C dX10_isPay_0 rfl ?_
  refine G_getI C fo_X10_65 rfl rfl dX10_isPay_1 ?_
  refine G_aload_r C dX10_isPay_4 rfl ?_
  refine G_getR C fo_X10_62 rfl rfl dX10_isPay_5 ?_
  refine G_iload_n C dX10_isPay_8 rfl ?_
  refine G_ialdN C rfl (by assumption) (by decide) dX10_isPay_9 ?_
  refine G_ishr C dX10_isPay_10 ?_
  refine G_iconst C (1) dX10_isPay_11 (by decide) ?_
  refine G_iand C dX10_isPay_12 ?_
  refine G_iconst C (1) dX10_isPay_13 (by decide) ?_
  refine G_icmp_ne C 21 dX10_isPay_14 (by decide) (fun h14 => ?_) (fun h14 => ?_)
  · refine G_iconst C (0) dX10_isPay_21 (by decide) ?_
    exact G_retR C dX10_isPay_22 (by first | exact (bl_t (by simp only [payb]; simp; assumption)).symm | exact (bl_f (by simp only [payb]; simp; assumption)).symm) rfl
  · refine G_iconst C (1) dX10_isPay_17 (by decide) ?_
    refine G_goto C 22 dX10_isPay_18 (by decide) ?_
    exact G_retR C dX10_isPay_22 (by first | exact (bl_t (by simp only [payb]; simp; assumption)).symm | exact (bl_f (by simp only [payb]; simp; assumption)).symm) rfl
