theorem G_is {K : Kt} {x : Cx} {nL pc : Nat} {lv : List (Nat × Value)} {st : List Value} {M : Mem} {v : Int32} (w : Int32) (h : v = w) (k : G K x nL pc lv (.int w :: st) M) : G K x nL pc lv (.int v :: st) M := by
  subst h
  exact k
theorem ix_ex {a : Int32} {n : Nat} (hn : n < 2 ^ 31) (h : 0 ≤ a ∧ a < nI n) : ∃ j, j < n ∧ a = nI j ∧ (nI j).toNatClampNeg = j := by
  obtain ⟨j, h1, h2⟩ := nI_of (x := a) (by grind)
  subst h2
  exact ⟨j, (nI_ltI h1 hn).mp h.2, rfl, nI_clamp h1⟩
theorem ix_12 {a : Int32} (h : 0 ≤ a ∧ a < 120) : ∃ j, j < 120 ∧ a = nI j ∧ (nI j).toNatClampNeg = j := ix_ex (n := 120) (by decide) h
theorem ix_le {a : Int32} {n : Nat} (hn : n < 2 ^ 31) (h : 0 ≤ a ∧ a ≤ nI n) : ∃ j, j ≤ n ∧ a = nI j ∧ (nI j).toNatClampNeg = j := by
  obtain ⟨j, h1, h2⟩ := nI_of (x := a) (by grind)
  subst h2
  exact ⟨j, (nI_leI h1 hn).mp h.2, rfl, nI_clamp h1⟩
theorem nI_k {n k : Nat} (hn : n < 2 ^ 31) (hk : k < 2 ^ 31) {v : Int32} (hv : v = nI k) : nI n = v ↔ n = k := by
  subst hv
  exact nI_eq hn hk
theorem nI_80 {n : Nat} (h : n ≤ 80) : nI n = 80 ↔ n = 80 := nI_k (k := 80) (by omega) (by decide) rfl
theorem nI_100 {n : Nat} (h : n ≤ 100) : nI n = 100 ↔ n = 100 := nI_k (k := 100) (by omega) (by decide) rfl
theorem nI_8 {n : Nat} (h : n ≤ 8) : nI n = 8 ↔ n = 8 := nI_k (k := 8) (by omega) (by decide) rfl
theorem sw_2 (v : Int32) : (v.toInt < 0 ∨ 2 < v.toInt) ∨ v = 0 ∨ v = 1 ∨ v = 2 := by
  simp only [fa_eq]
  rw [show (0 : Int32).toInt = 0 from rfl, show (1 : Int32).toInt = 1 from rfl, show (2 : Int32).toInt = 2 from rfl]
  omega
theorem sw_4 (v : Int32) : (v.toInt < 0 ∨ 4 < v.toInt) ∨ v = 0 ∨ v = 1 ∨ v = 2 ∨ v = 3 ∨ v = 4 := by
  simp only [fa_eq]
  rw [show (0 : Int32).toInt = 0 from rfl, show (1 : Int32).toInt = 1 from rfl, show (2 : Int32).toInt = 2 from rfl, show (3 : Int32).toInt = 3 from rfl, show (4 : Int32).toInt = 4 from rfl]
  omega
theorem sw_7 (v : Int32) : (v.toInt < 0 ∨ 7 < v.toInt) ∨ v = 0 ∨ v = 1 ∨ v = 2 ∨ v = 3 ∨ v = 4 ∨ v = 5 ∨ v = 6 ∨ v = 7 := by
  simp only [fa_eq]
  rw [show (0 : Int32).toInt = 0 from rfl, show (1 : Int32).toInt = 1 from rfl, show (2 : Int32).toInt = 2 from rfl, show (3 : Int32).toInt = 3 from rfl, show (4 : Int32).toInt = 4 from rfl, show (5 : Int32).toInt = 5 from rfl, show (6 : Int32).toInt = 6 from rfl, show (7 : Int32).toInt = 7 from rfl]
  omega
theorem sw_out {v : Int32} {n : Int} (h : v.toInt < 0 ∨ n < v.toInt) {m : Int32} (hm : m.toInt = n) : v < 0 ∨ m < v := by
  rw [fa_lt, fa_lt, hm]
  exact h
def addX (M : Mem) (n : Nat) (a b c : Int32) : Mem := wr (wr (wr (wr (wr (wr M 2 n a) 3 n b) 4 n c) 5 n (M 0 9)) 6 n (-2000000005)) 1 5 (nI (n + 1))
def addM (M : Mem) (n : Nat) (a b c : Int32) : Mem := wr (wr (wr (wr (wr (wr M 37 n a) 38 n b) 39 n c) 40 n (M 36 0)) 41 n (-1)) 36 1 (nI (n + 1))
set_option maxHeartbeats 4000000 in
set_option maxRecDepth 100000 in
theorem c_X2_add {K : Kt} {d : Nat} {M : Mem} {n : Nat} {a b c w : Int32} (hn : M 1 5 = nI n) (h8 : n < 80) : Ri K d mX2_add [rf K 1, .int a, .int b, .int c, .int w] M (nI n) (wr (wr (wr (wr (wr (wr M 2 n a) 3 n b) 4 n c) 5 n w) 6 n (-2000000005)) 1 5 (nI (n + 1))) := by
  refine Ri_int RX2 [(0, rf K 1), (1, .int a), (2, .int b), (3, .int c), (4, .int w)] rfl (by decide) rfl (Nat.le_of_ble_eq_true rfl) rfl (fun x C => ?_)
  refine G_aload_r C dX2_add_0 rfl ?_
  refine G_getR C fo_X2_9 rfl rfl dX2_add_1 ?_
  refine G_aload_r C dX2_add_4 rfl ?_
  refine G_getI C fo_X2_28 rfl rfl dX2_add_5 ?_
  refine G_is (nI n) hn ?_
  refine G_iload_n C dX2_add_8 rfl ?_
  refine G_iastN C rfl (by assumption) (by decide) dX2_add_9 ?_
  refine G_aload_r C dX2_add_10 rfl ?_
  refine G_getR C fo_X2_15 rfl rfl dX2_add_11 ?_
  refine G_aload_r C dX2_add_14 rfl ?_
  refine G_getI C fo_X2_28 rfl rfl dX2_add_15 ?_
  refine G_is (nI n) hn ?_
  refine G_iload_n C dX2_add_18 rfl ?_
  refine G_iastN C rfl (by assumption) (by decide) dX2_add_19 ?_
  refine G_aload_r C dX2_add_20 rfl ?_
  refine G_getR C fo_X2_18 rfl rfl dX2_add_21 ?_
  refine G_aload_r C dX2_add_24 rfl ?_
  refine G_getI C fo_X2_28 rfl rfl dX2_add_25 ?_
  refine G_is (nI n) hn ?_
  refine G_iload_n C dX2_add_28 rfl ?_
  refine G_iastN C rfl (by assumption) (by decide) dX2_add_29 ?_
  refine G_aload_r C dX2_add_30 rfl ?_
  refine G_getR C fo_X2_21 rfl rfl dX2_add_31 ?_
  refine G_aload_r C dX2_add_34 rfl ?_
  refine G_getI C fo_X2_28 rfl rfl dX2_add_35 ?_
  refine G_is (nI n) hn ?_
  refine G_iload C dX2_add_38 rfl ?_
  refine G_iastN C rfl (by assumption) (by decide) dX2_add_40 ?_
  refine G_aload_r C dX2_add_41 rfl ?_
  refine G_getR C fo_X2_24 rfl rfl dX2_add_42 ?_
  refine G_aload_r C dX2_add_45 rfl ?_
  refine G_getI C fo_X2_28 rfl rfl dX2_add_46 ?_
  refine G_is (nI n) hn ?_
  refine G_ldc C kc_X2_32 dX2_add_49 ?_
  refine G_iastN C rfl (by assumption) (by decide) dX2_add_51 ?_
  refine G_aload_r C dX2_add_52 rfl ?_
  refine G_dup C dX2_add_53 rfl ?_
  refine G_getI C fo_X2_28 rfl rfl dX2_add_54 ?_
  refine G_is (nI n) hn ?_
  refine G_iconst C (1) dX2_add_57 (by decide) ?_
  refine G_iadd C dX2_add_58 ?_
  rw [nI_1]
  refine G_putI C fp_X2_28 rfl rfl dX2_add_59 ?_
  refine G_aload_r C dX2_add_62 rfl ?_
  refine G_getI C fo_X2_28 rfl rfl dX2_add_63 ?_
  refine G_is (nI (n + 1)) rfl ?_
  refine G_iconst C (1) dX2_add_66 (by decide) ?_
  refine G_isub C dX2_add_67 ?_
  exact G_retR C dX2_add_68 (nI_pred n) rfl
set_option maxHeartbeats 4000000 in
set_option maxRecDepth 100000 in
theorem c_X9_change {K : Kt} {d : Nat} {M : Mem} {nc nl nb nw : Nat} {a b c : Int32} (hx : XS M nc nl nb nw) : Ri K (d + 3) mX9_change [rf K 0, .int a, .int b, .int c] M (if okb a b = true ∧ 0 ≤ c ∧ c < 120 then (if nc = 80 then (-2000000003) else nI nc) else (-2000000001)) (if (okb a b = true ∧ 0 ≤ c ∧ c < 120) ∧ nc ≠ 80 then addX M nc a b c else M) := by
  refine Ri_int RX9 [(0, rf K 0), (1, .int a), (2, .int b), (3, .int c)] rfl (by decide) rfl (Nat.le_of_ble_eq_true rfl) rfl (fun x C => ?_)
  obtain ⟨hc, hc8, hl, hl8, hb, hb8, hw, hw8⟩ := id hx
  refine G_iload_n C dX9_change_0 rfl ?_
  refine G_iload_n C dX9_change_1 rfl ?_
  refine G_cSr2 C ok_X2_mayHold lk_X9_64 (c_X2_mayHold) (Nat.le_of_ble_eq_true rfl) dX9_change_2 ?_
  refine G_if_eq C 15 dX9_change_5 (by decide) (fun h5 => ?_) (fun h5 => ?_)
  · rw [bl_z] at h5
    refine G_ldc C kc_X9_72 dX9_change_15 ?_
    exact G_retR C dX9_change_17 (by clear C; grind) (by clear C; try simp only [addX]; grind)
  · rw [bl_z] at h5
    refine G_iload_n C dX9_change_8 rfl ?_
    refine G_cSr1 C ok_X9_isWeek lk_X9_68 (c_X9_isWeek) (Nat.le_of_ble_eq_true rfl) dX9_change_9 ?_
    refine G_if_ne C 18 dX9_change_12 (by decide) (fun h12 => ?_) (fun h12 => ?_)
    · rw [bl_z] at h12
      refine G_aload_r C dX9_change_18 rfl ?_
      refine G_getR C fo_X9_10 rfl rfl dX9_change_19 ?_
      refine G_getI C fo_X9_73 rfl rfl dX9_change_22 ?_
      refine G_is (nI nc) hc ?_
      refine G_bipush C (80) dX9_change_25 (by decide) ?_
      refine G_icmp_ne C 33 dX9_change_27 (by decide) (fun h27 => ?_) (fun h27 => ?_)
      · rw [nI_80 hc8] at h27
        refine G_aload_r C dX9_change_33 rfl ?_
        refine G_getR C fo_X9_10 rfl rfl dX9_change_34 ?_
        refine G_iload_n C dX9_change_37 rfl ?_
        refine G_iload_n C dX9_change_38 rfl ?_
        refine G_iload_n C dX9_change_39 rfl ?_
        refine G_aload_r C dX9_change_40 rfl ?_
        refine G_getI C fo_X9_78 rfl rfl dX9_change_41 ?_
        refine G_cVr4 C ok_X2_add lk_X9_81 rfl rfl (c_X2_add hc (by omega)) (Nat.le_of_ble_eq_true rfl) dX9_change_44 ?_
        exact G_retR C dX9_change_47 (by clear C; grind) (by clear C; try simp only [addX]; grind)
      · rw [nI_80 hc8] at h27
        refine G_ldc C kc_X9_77 dX9_change_30 ?_
        exact G_retR C dX9_change_32 (by clear C; grind) (by clear C; try simp only [addX]; grind)
    · rw [bl_z] at h12
      refine G_ldc C kc_X9_72 dX9_change_15 ?_
      exact G_retR C dX9_change_17 (by clear C; grind) (by clear C; try simp only [addX]; grind)
set_option maxHeartbeats 4000000 in
set_option maxRecDepth 100000 in
theorem c_X10_change {K : Kt} {d : Nat} {M : Mem} {nc nl nb nw : Nat} {a b c : Int32} (hx : MS M nc nl nb nw) : Ri K (d + 3) mX10_change [rf K 36, .int a, .int b, .int c] M (if okb a b = true ∧ 0 ≤ c ∧ c < 120 then (if nc = 80 then (-2000000003) else nI nc) else (-2000000001)) (if (okb a b = true ∧ 0 ≤ c ∧ c < 120) ∧ nc ≠ 80 then addM M nc a b c else M) := by
  refine Ri_int RX10 [(0, rf K 36), (1, .int a), (2, .int b), (3, .int c)] rfl (by decide) rfl (Nat.le_of_ble_eq_true rfl) rfl (fun x C => ?_)
  obtain ⟨hc, hc8, hl, hl8, hb, hb8, hw, hw8, hv⟩ := id hx
  refine G_iload_n C dX10_change_0 rfl ?_
  refine G_iload_n C dX10_change_1 rfl ?_
  refine G_cSr2 C ok_X10_isValue lk_X10_98 (c_X10_isValue) (Nat.le_of_ble_eq_true rfl) dX10_change_2 ?_
  refine G_if_eq C 15 dX10_change_5 (by decide) (fun h5 => ?_) (fun h5 => ?_)
  · rw [bl_z] at h5
    refine G_ldc C kc_X10_106 dX10_change_15 ?_
    exact G_retR C dX10_change_17 (by clear C; first | grind | (rw [nI_pred]; grind)) (by clear C; first | grind | (rw [if_pos (by grind)]; rfl))
  · rw [bl_z] at h5
    refine G_iload_n C dX10_change_8 rfl ?_
    refine G_cSr1 C ok_X10_isWeek lk_X10_102 (c_X10_isWeek) (Nat.le_of_ble_eq_true rfl) dX10_change_9 ?_
    refine G_if_ne C 18 dX10_change_12 (by decide) (fun h12 => ?_) (fun h12 => ?_)
    · rw [bl_z] at h12
      refine G_aload_r C dX10_change_18 rfl ?_
      refine G_getI C fo_X10_107 rfl rfl dX10_change_19 ?_
      refine G_is (nI nc) hc ?_
      refine G_bipush C (80) dX10_change_22 (by decide) ?_
      refine G_icmp_ne C 30 dX10_change_24 (by decide) (fun h24 => ?_) (fun h24 => ?_)
      · rw [nI_80 hc8] at h24
        have h8 : nc < 80 := by omega
        refine G_aload_r C dX10_change_30 rfl ?_
        refine G_getR C fo_X10_7 rfl rfl dX10_change_31 ?_
        refine G_aload_r C dX10_change_34 rfl ?_
        refine G_getI C fo_X10_107 rfl rfl dX10_change_35 ?_
        refine G_is (nI nc) hc ?_
        refine G_iload_n C dX10_change_38 rfl ?_
        refine G_iastN C rfl (by assumption) (by decide) dX10_change_39 ?_
        refine G_aload_r C dX10_change_40 rfl ?_
        refine G_getR C fo_X10_13 rfl rfl dX10_change_41 ?_
        refine G_aload_r C dX10_change_44 rfl ?_
        refine G_getI C fo_X10_107 rfl rfl dX10_change_45 ?_
        refine G_is (nI nc) hc ?_
        refine G_iload_n C dX10_change_48 rfl ?_
        refine G_iastN C rfl (by assumption) (by decide) dX10_change_49 ?_
        refine G_aload_r C dX10_change_50 rfl ?_
        refine G_getR C fo_X10_16 rfl rfl dX10_change_51 ?_
        refine G_aload_r C dX10_change_54 rfl ?_
        refine G_getI C fo_X10_107 rfl rfl dX10_change_55 ?_
        refine G_is (nI nc) hc ?_
        refine G_iload_n C dX10_change_58 rfl ?_
        refine G_iastN C rfl (by assumption) (by decide) dX10_change_59 ?_
        refine G_aload_r C dX10_change_60 rfl ?_
        refine G_getR C fo_X10_19 rfl rfl dX10_change_61 ?_
        refine G_aload_r C dX10_change_64 rfl ?_
        refine G_getI C fo_X10_107 rfl rfl dX10_change_65 ?_
        refine G_is (nI nc) hc ?_
        refine G_aload_r C dX10_change_68 rfl ?_
        refine G_getI C fo_X10_94 rfl rfl dX10_change_69 ?_
        refine G_iastN C rfl (by assumption) (by decide) dX10_change_72 ?_
        refine G_aload_r C dX10_change_73 rfl ?_
        refine G_getR C fo_X10_22 rfl rfl dX10_change_74 ?_
        refine G_aload_r C dX10_change_77 rfl ?_
        refine G_getI C fo_X10_107 rfl rfl dX10_change_78 ?_
        refine G_is (nI nc) hc ?_
        refine G_iconst C (-1) dX10_change_81 (by decide) ?_
        refine G_iastN C rfl (by assumption) (by decide) dX10_change_82 ?_
        refine G_aload_r C dX10_change_83 rfl ?_
        refine G_dup C dX10_change_84 rfl ?_
        refine G_getI C fo_X10_107 rfl rfl dX10_change_85 ?_
        refine G_is (nI nc) hc ?_
        refine G_iconst C (1) dX10_change_88 (by decide) ?_
        refine G_iadd C dX10_change_89 ?_
        rw [nI_1]
        refine G_putI C fp_X10_107 rfl rfl dX10_change_90 ?_
        refine G_aload_r C dX10_change_93 rfl ?_
        refine G_getI C fo_X10_107 rfl rfl dX10_change_94 ?_
        refine G_is (nI (nc + 1)) rfl ?_
        refine G_iconst C (1) dX10_change_97 (by decide) ?_
        refine G_isub C dX10_change_98 ?_
        exact G_retR C dX10_change_99 (by clear C; first | grind | (rw [nI_pred]; grind)) (by clear C; first | grind | (rw [if_pos (by grind)]; rfl))
      · rw [nI_80 hc8] at h24
        refine G_ldc C kc_X10_110 dX10_change_27 ?_
        exact G_retR C dX10_change_29 (by clear C; first | grind | (rw [nI_pred]; grind)) (by clear C; first | grind | (rw [if_pos (by grind)]; rfl))
    · rw [bl_z] at h12
      refine G_ldc C kc_X10_106 dX10_change_15 ?_
      exact G_retR C dX10_change_17 (by clear C; first | grind | (rw [nI_pred]; grind)) (by clear C; first | grind | (rw [if_pos (by grind)]; rfl))
set_option maxHeartbeats 4000000 in
set_option maxRecDepth 100000 in
theorem c_X9_isOf {K : Kt} {d : Nat} {M : Mem} {nc nl nb nw : Nat} {a k : Int32} (hx : XS M nc nl nb nw) : Ri K (d + 3) mX9_isOf [rf K 0, .int a, .int k] M (if (0 ≤ a ∧ a < nI nc) ∧ 0 ≤ k ∧ k < 4 then bl (k = 0 ∨ M 2 a.toNatClampNeg = k ∨ (k = 1 ∧ M 2 a.toNatClampNeg = 3)) else (-2000000001)) (M) := by
  refine Ri_int RX9 [(0, rf K 0), (1, .int a), (2, .int k)] rfl (by decide) rfl (Nat.le_of_ble_eq_true rfl) rfl (fun x C => ?_)
  obtain ⟨hc, hc8, hl, hl8, hb, hb8, hw, hw8⟩ := id hx
  refine G_aload_r C dX9_isOf_0 rfl ?_
  refine G_getR C fo_X9_10 rfl rfl dX9_isOf_1 ?_
  refine G_iload_n C dX9_isOf_4 rfl ?_
  refine G_cVr1 C ok_X2_has lk_X9_85 rfl rfl (c_X2_has) (Nat.le_of_ble_eq_true rfl) dX9_isOf_5 ?_
  refine G_if_eq C 19 dX9_isOf_8 (by decide) (fun h8 => ?_) (fun h8 => ?_)
  · rw [bl_z] at h8
    rw [hc] at h8
    refine G_ldc C kc_X9_72 dX9_isOf_19 ?_
    exact G_retR C dX9_isOf_21 (by clear C; simp only [bl]; grind) rfl
  · rw [bl_z] at h8
    rw [hc] at h8
    refine G_iload_n C dX9_isOf_11 rfl ?_
    refine G_iconst C (4) dX9_isOf_12 (by decide) ?_
    refine G_cSr2 C ok_X9_isBelow lk_X9_88 (c_X9_isBelow) (Nat.le_of_ble_eq_true rfl) dX9_isOf_13 ?_
    refine G_if_ne C 22 dX9_isOf_16 (by decide) (fun h16 => ?_) (fun h16 => ?_)
    · rw [bl_z] at h16
      obtain ⟨j, hj, rfl, tj⟩ := ix_ex (by omega) (Decidable.not_not.mp h8)
      refine G_aload_r C dX9_isOf_22 rfl ?_
      refine G_getR C fo_X9_10 rfl rfl dX9_isOf_23 ?_
      refine G_iload_n C dX9_isOf_26 rfl ?_
      refine G_iload_n C dX9_isOf_27 rfl ?_
      refine G_cVr2 C ok_X2_isOfKind lk_X9_91 rfl rfl (c_X2_isOfKind (by omega)) (Nat.le_of_ble_eq_true rfl) dX9_isOf_28 ?_
      refine G_if_eq C 38 dX9_isOf_31 (by decide) (fun h31 => ?_) (fun h31 => ?_)
      · rw [bl_z] at h31
        refine G_iconst C (0) dX9_isOf_38 (by decide) ?_
        exact G_retR C dX9_isOf_39 (by clear C; simp only [bl]; grind) rfl
      · rw [bl_z] at h31
        refine G_iconst C (1) dX9_isOf_34 (by decide) ?_
        refine G_goto C 39 dX9_isOf_35 (by decide) ?_
        exact G_retR C dX9_isOf_39 (by clear C; simp only [bl]; grind) rfl
    · rw [bl_z] at h16
      refine G_ldc C kc_X9_72 dX9_isOf_19 ?_
      exact G_retR C dX9_isOf_21 (by clear C; simp only [bl]; grind) rfl
set_option maxHeartbeats 4000000 in
set_option maxRecDepth 100000 in
theorem c_X10_isOf {K : Kt} {d : Nat} {M : Mem} {nc nl nb nw : Nat} {a k : Int32} (hx : MS M nc nl nb nw) : Ri K (d + 3) mX10_isOf [rf K 36, .int a, .int k] M (if (0 ≤ a ∧ a < nI nc) ∧ 0 ≤ k ∧ k < 4 then bl (k = 0 ∨ M 37 a.toNatClampNeg = k ∨ (k = 1 ∧ M 37 a.toNatClampNeg = 3)) else (-2000000001)) (M) := by
  refine Ri_int RX10 [(0, rf K 36), (1, .int a), (2, .int k)] rfl (by decide) rfl (Nat.le_of_ble_eq_true rfl) rfl (fun x C => ?_)
  obtain ⟨hc, hc8, hl, hl8, hb, hb8, hw, hw8, hv⟩ := id hx
  refine G_aload_r C dX10_isOf_0 rfl ?_
  refine G_iload_n C dX10_isOf_1 rfl ?_
  refine G_cVr1 C ok_X10_isChange lk_X10_111 rfl rfl (c_X10_isChange (by rw [hc]; exact nI_pos' (by omega))) (Nat.le_of_ble_eq_true rfl) dX10_isOf_2 ?_
  refine G_if_eq C 17 dX10_isOf_5 (by decide) (fun h5 => ?_) (fun h5 => ?_)
  · rw [bl_z] at h5
    rw [hc] at h5
    refine G_ldc C kc_X10_106 dX10_isOf_17 ?_
    exact G_retR C dX10_isOf_19 (by clear C; simp only [bl]; grind) rfl
  · rw [bl_z] at h5
    rw [hc] at h5
    refine G_iload_n C dX10_isOf_8 rfl ?_
    refine G_iconst C (0) dX10_isOf_9 (by decide) ?_
    refine G_iconst C (3) dX10_isOf_10 (by decide) ?_
    refine G_cSr3 C ok_X10_isIn lk_X10_90 (c_X10_isIn) (Nat.le_of_ble_eq_true rfl) dX10_isOf_11 ?_
    refine G_if_ne C 20 dX10_isOf_14 (by decide) (fun h14 => ?_) (fun h14 => ?_)
    · rw [bl_z] at h14
      obtain ⟨j, hj, rfl, tj⟩ := ix_ex (by omega) (Decidable.not_not.mp h5)
      have hj8 : j < 80 := by omega
      refine G_iload_n C dX10_isOf_20 rfl ?_
      refine G_if_eq C 49 dX10_isOf_21 (by decide) (fun h21 => ?_) (fun h21 => ?_)
      · refine G_iconst C (1) dX10_isOf_49 (by decide) ?_
        refine G_goto C 54 dX10_isOf_50 (by decide) ?_
        exact G_retR C dX10_isOf_54 (by clear C; simp only [bl]; grind) rfl
      · refine G_aload_r C dX10_isOf_24 rfl ?_
        refine G_getR C fo_X10_7 rfl rfl dX10_isOf_25 ?_
        refine G_iload_n C dX10_isOf_28 rfl ?_
        refine G_ialdN C rfl (by assumption) (by decide) dX10_isOf_29 ?_
        refine G_iload_n C dX10_isOf_30 rfl ?_
        refine G_icmp_eq C 49 dX10_isOf_31 (by decide) (fun h31 => ?_) (fun h31 => ?_)
        · refine G_iconst C (1) dX10_isOf_49 (by decide) ?_
          refine G_goto C 54 dX10_isOf_50 (by decide) ?_
          exact G_retR C dX10_isOf_54 (by clear C; simp only [bl]; grind) rfl
        · refine G_iload_n C dX10_isOf_34 rfl ?_
          refine G_iconst C (1) dX10_isOf_35 (by decide) ?_
          refine G_icmp_ne C 53 dX10_isOf_36 (by decide) (fun h36 => ?_) (fun h36 => ?_)
          · refine G_iconst C (0) dX10_isOf_53 (by decide) ?_
            exact G_retR C dX10_isOf_54 (by clear C; simp only [bl]; grind) rfl
          · refine G_aload_r C dX10_isOf_39 rfl ?_
            refine G_getR C fo_X10_7 rfl rfl dX10_isOf_40 ?_
            refine G_iload_n C dX10_isOf_43 rfl ?_
            refine G_ialdN C rfl (by assumption) (by decide) dX10_isOf_44 ?_
            refine G_iconst C (3) dX10_isOf_45 (by decide) ?_
            refine G_icmp_ne C 53 dX10_isOf_46 (by decide) (fun h46 => ?_) (fun h46 => ?_)
            · refine G_iconst C (0) dX10_isOf_53 (by decide) ?_
              exact G_retR C dX10_isOf_54 (by clear C; simp only [bl]; grind) rfl
            · refine G_iconst C (1) dX10_isOf_49 (by decide) ?_
              refine G_goto C 54 dX10_isOf_50 (by decide) ?_
              exact G_retR C dX10_isOf_54 (by clear C; simp only [bl]; grind) rfl
    · rw [bl_z] at h14
      refine G_ldc C kc_X10_106 dX10_isOf_17 ?_
      exact G_retR C dX10_isOf_19 (by clear C; simp only [bl]; grind) rfl
set_option maxHeartbeats 4000000 in
set_option maxRecDepth 100000 in
theorem c_X9_takeBack {K : Kt} {d : Nat} {M : Mem} {nc nl nb nw : Nat} {a : Int32} (hx : XS M nc nl nb nw) : Ri K (d + 3) mX9_takeBack [rf K 0, .int a] M (if 0 ≤ a ∧ a < nI nc then (if M 6 a.toNatClampNeg = (-2000000005) then 1 else (-2000000002)) else (-2000000001)) (if (0 ≤ a ∧ a < nI nc) ∧ M 6 a.toNatClampNeg = (-2000000005) then wr M 6 a.toNatClampNeg (M 0 9) else M) := by
  refine Ri_int RX9 [(0, rf K 0), (1, .int a)] rfl (by decide) rfl (Nat.le_of_ble_eq_true rfl) rfl (fun x C => ?_)
  obtain ⟨hc, hc8, hl, hl8, hb, hb8, hw, hw8⟩ := id hx
  refine G_aload_r C dX9_takeBack_0 rfl ?_
  refine G_getR C fo_X9_10 rfl rfl dX9_takeBack_1 ?_
  refine G_iload_n C dX9_takeBack_4 rfl ?_
  refine G_cVr1 C ok_X2_has lk_X9_85 rfl rfl (c_X2_has) (Nat.le_of_ble_eq_true rfl) dX9_takeBack_5 ?_
  refine G_if_ne C 14 dX9_takeBack_8 (by decide) (fun h8 => ?_) (fun h8 => ?_)
  · rw [bl_z] at h8
    rw [hc] at h8
    obtain ⟨j, hj, rfl, tj⟩ := ix_ex (by omega) (Decidable.not_not.mp h8)
    have hj8 : j < 80 := by omega
    refine G_aload_r C dX9_takeBack_14 rfl ?_
    refine G_getR C fo_X9_10 rfl rfl dX9_takeBack_15 ?_
    refine G_getR C fo_X9_94 rfl rfl dX9_takeBack_18 ?_
    refine G_iload_n C dX9_takeBack_21 rfl ?_
    refine G_ialdN C rfl (by assumption) (by decide) dX9_takeBack_22 ?_
    refine G_ldc C kc_X9_98 dX9_takeBack_23 ?_
    refine G_icmp_eq C 31 dX9_takeBack_25 (by decide) (fun h25 => ?_) (fun h25 => ?_)
    · refine G_aload_r C dX9_takeBack_31 rfl ?_
      refine G_getR C fo_X9_10 rfl rfl dX9_takeBack_32 ?_
      refine G_getR C fo_X9_94 rfl rfl dX9_takeBack_35 ?_
      refine G_iload_n C dX9_takeBack_38 rfl ?_
      refine G_aload_r C dX9_takeBack_39 rfl ?_
      refine G_getI C fo_X9_78 rfl rfl dX9_takeBack_40 ?_
      refine G_iastN C rfl (by assumption) (by decide) dX9_takeBack_43 ?_
      refine G_iconst C (1) dX9_takeBack_44 (by decide) ?_
      exact G_retR C dX9_takeBack_45 (by clear C; grind) (by clear C; grind)
    · refine G_ldc C kc_X9_99 dX9_takeBack_28 ?_
      exact G_retR C dX9_takeBack_30 (by clear C; grind) (by clear C; grind)
  · rw [bl_z] at h8
    rw [hc] at h8
    refine G_ldc C kc_X9_72 dX9_takeBack_11 ?_
    exact G_retR C dX9_takeBack_13 (by clear C; grind) (by clear C; grind)
set_option maxHeartbeats 4000000 in
set_option maxRecDepth 100000 in
theorem c_X10_takeBack {K : Kt} {d : Nat} {M : Mem} {nc nl nb nw : Nat} {a : Int32} (hx : MS M nc nl nb nw) : Ri K (d + 3) mX10_takeBack [rf K 36, .int a] M (if 0 ≤ a ∧ a < nI nc then (if M 41 a.toNatClampNeg < 0 then 1 else (-2000000002)) else (-2000000001)) (if (0 ≤ a ∧ a < nI nc) ∧ M 41 a.toNatClampNeg < 0 then wr M 41 a.toNatClampNeg (M 36 0) else M) := by
  refine Ri_int RX10 [(0, rf K 36), (1, .int a)] rfl (by decide) rfl (Nat.le_of_ble_eq_true rfl) rfl (fun x C => ?_)
  obtain ⟨hc, hc8, hl, hl8, hb, hb8, hw, hw8, hv⟩ := id hx
  refine G_aload_r C dX10_takeBack_0 rfl ?_
  refine G_iload_n C dX10_takeBack_1 rfl ?_
  refine G_cVr1 C ok_X10_isChange lk_X10_111 rfl rfl (c_X10_isChange (by rw [hc]; exact nI_pos' (by omega))) (Nat.le_of_ble_eq_true rfl) dX10_takeBack_2 ?_
  refine G_if_ne C 11 dX10_takeBack_5 (by decide) (fun h5 => ?_) (fun h5 => ?_)
  · rw [bl_z] at h5
    rw [hc] at h5
    obtain ⟨j, hj, rfl, tj⟩ := ix_ex (by omega) (Decidable.not_not.mp h5)
    have hj8 : j < 80 := by omega
    refine G_aload_r C dX10_takeBack_11 rfl ?_
    refine G_getR C fo_X10_22 rfl rfl dX10_takeBack_12 ?_
    refine G_iload_n C dX10_takeBack_15 rfl ?_
    refine G_ialdN C rfl (by assumption) (by decide) dX10_takeBack_16 ?_
    refine G_if_lt C 23 dX10_takeBack_17 (by decide) (fun h17 => ?_) (fun h17 => ?_)
    · refine G_aload_r C dX10_takeBack_23 rfl ?_
      refine G_getR C fo_X10_22 rfl rfl dX10_takeBack_24 ?_
      refine G_iload_n C dX10_takeBack_27 rfl ?_
      refine G_aload_r C dX10_takeBack_28 rfl ?_
      refine G_getI C fo_X10_94 rfl rfl dX10_takeBack_29 ?_
      refine G_iastN C rfl (by assumption) (by decide) dX10_takeBack_32 ?_
      refine G_iconst C (1) dX10_takeBack_33 (by decide) ?_
      exact G_retR C dX10_takeBack_34 (by clear C; grind) (by clear C; grind)
    · refine G_ldc C kc_X10_114 dX10_takeBack_20 ?_
      exact G_retR C dX10_takeBack_22 (by clear C; grind) (by clear C; grind)
  · rw [bl_z] at h5
    rw [hc] at h5
    refine G_ldc C kc_X10_106 dX10_takeBack_8 ?_
    exact G_retR C dX10_takeBack_10 (by clear C; grind) (by clear C; grind)
def s_told (q v0 v1 v2 v3 v4 : Int32) : Int32 := if q = 0 then v0 else if q = 1 then v1 else if q = 2 then v2 else if q = 3 then v3 else if q = 4 then v4 else (-2000000001)
set_option maxHeartbeats 4000000 in
set_option maxRecDepth 100000 in
theorem c_X9_told {K : Kt} {d : Nat} {M : Mem} {nc nl nb nw : Nat} {a q : Int32} (hx : XS M nc nl nb nw) : Ri K (d + 3) mX9_told [rf K 0, .int a, .int q] M (if 0 ≤ a ∧ a < nI nc then s_told q (M 2 a.toNatClampNeg) (M 3 a.toNatClampNeg) (M 4 a.toNatClampNeg) (M 5 a.toNatClampNeg) (M 6 a.toNatClampNeg) else (-2000000001)) (M) := by
  refine Ri_int RX9 [(0, rf K 0), (1, .int a), (2, .int q)] rfl (by decide) rfl (Nat.le_of_ble_eq_true rfl) rfl (fun x C => ?_)
  obtain ⟨hc, hc8, hl, hl8, hb, hb8, hw, hw8⟩ := id hx
  refine G_aload_r C dX9_told_0 rfl ?_
  refine G_getR C fo_X9_10 rfl rfl dX9_told_1 ?_
  refine G_iload_n C dX9_told_4 rfl ?_
  refine G_cVr1 C ok_X2_has lk_X9_85 rfl rfl (c_X2_has) (Nat.le_of_ble_eq_true rfl) dX9_told_5 ?_
  refine G_if_ne C 14 dX9_told_8 (by decide) (fun h8 => ?_) (fun h8 => ?_)
  · rw [bl_z] at h8
    rw [hc] at h8
    obtain ⟨j, hj, rfl, tj⟩ := ix_ex (by omega) (Decidable.not_not.mp h8)
    have hj8 : j < 80 := by omega
    refine G_iload_n C dX9_told_14 rfl ?_
    rcases (sw_4 q) with hsw | hsw | hsw | hsw | hsw | hsw
    · refine G_tableOut C 98 dX9_told_15 hsw (by decide) ?_
      refine G_ldc C kc_X9_72 dX9_told_98 ?_
      exact G_retR C dX9_told_100 (by clear C; simp only [s_told]; first | grind | (have hso := sw_out hsw (m := 4) rfl; grind)) rfl
    · refine G_tableIn C (33) 48 dX9_told_15 (by rw [hsw]; decide) (by rw [hsw]; decide) (by rw [hsw]; rfl) (by decide) ?_
      refine G_aload_r C dX9_told_48 rfl ?_
      refine G_getR C fo_X9_10 rfl rfl dX9_told_49 ?_
      refine G_getR C fo_X9_100 rfl rfl dX9_told_52 ?_
      refine G_iload_n C dX9_told_55 rfl ?_
      refine G_ialdN C rfl (by assumption) (by decide) dX9_told_56 ?_
      exact G_retR C dX9_told_57 (by clear C; simp only [s_told]; first | grind | (have hso := sw_out hsw (m := 4) rfl; grind)) rfl
    · refine G_tableIn C (43) 58 dX9_told_15 (by rw [hsw]; decide) (by rw [hsw]; decide) (by rw [hsw]; rfl) (by decide) ?_
      refine G_aload_r C dX9_told_58 rfl ?_
      refine G_getR C fo_X9_10 rfl rfl dX9_told_59 ?_
      refine G_getR C fo_X9_103 rfl rfl dX9_told_62 ?_
      refine G_iload_n C dX9_told_65 rfl ?_
      refine G_ialdN C rfl (by assumption) (by decide) dX9_told_66 ?_
      exact G_retR C dX9_told_67 (by clear C; simp only [s_told]; first | grind | (have hso := sw_out hsw (m := 4) rfl; grind)) rfl
    · refine G_tableIn C (53) 68 dX9_told_15 (by rw [hsw]; decide) (by rw [hsw]; decide) (by rw [hsw]; rfl) (by decide) ?_
      refine G_aload_r C dX9_told_68 rfl ?_
      refine G_getR C fo_X9_10 rfl rfl dX9_told_69 ?_
      refine G_getR C fo_X9_106 rfl rfl dX9_told_72 ?_
      refine G_iload_n C dX9_told_75 rfl ?_
      refine G_ialdN C rfl (by assumption) (by decide) dX9_told_76 ?_
      exact G_retR C dX9_told_77 (by clear C; simp only [s_told]; first | grind | (have hso := sw_out hsw (m := 4) rfl; grind)) rfl
    · refine G_tableIn C (63) 78 dX9_told_15 (by rw [hsw]; decide) (by rw [hsw]; decide) (by rw [hsw]; rfl) (by decide) ?_
      refine G_aload_r C dX9_told_78 rfl ?_
      refine G_getR C fo_X9_10 rfl rfl dX9_told_79 ?_
      refine G_getR C fo_X9_109 rfl rfl dX9_told_82 ?_
      refine G_iload_n C dX9_told_85 rfl ?_
      refine G_ialdN C rfl (by assumption) (by decide) dX9_told_86 ?_
      exact G_retR C dX9_told_87 (by clear C; simp only [s_told]; first | grind | (have hso := sw_out hsw (m := 4) rfl; grind)) rfl
    · refine G_tableIn C (73) 88 dX9_told_15 (by rw [hsw]; decide) (by rw [hsw]; decide) (by rw [hsw]; rfl) (by decide) ?_
      refine G_aload_r C dX9_told_88 rfl ?_
      refine G_getR C fo_X9_10 rfl rfl dX9_told_89 ?_
      refine G_getR C fo_X9_94 rfl rfl dX9_told_92 ?_
      refine G_iload_n C dX9_told_95 rfl ?_
      refine G_ialdN C rfl (by assumption) (by decide) dX9_told_96 ?_
      exact G_retR C dX9_told_97 (by clear C; simp only [s_told]; first | grind | (have hso := sw_out hsw (m := 4) rfl; grind)) rfl
  · rw [bl_z] at h8
    rw [hc] at h8
    refine G_ldc C kc_X9_72 dX9_told_11 ?_
    exact G_retR C dX9_told_13 (by clear C; simp only [s_told]; first | grind | (have hso := sw_out hsw (m := 4) rfl; grind)) rfl
set_option maxHeartbeats 4000000 in
set_option maxRecDepth 100000 in
theorem c_X10_told {K : Kt} {d : Nat} {M : Mem} {nc nl nb nw : Nat} {a q : Int32} (hx : MS M nc nl nb nw) : Ri K (d + 3) mX10_told [rf K 36, .int a, .int q] M (if 0 ≤ a ∧ a < nI nc then s_told q (M 37 a.toNatClampNeg) (M 38 a.toNatClampNeg) (M 39 a.toNatClampNeg) (M 40 a.toNatClampNeg) (if M 41 a.toNatClampNeg < 0 then (-2000000005) else M 41 a.toNatClampNeg) else (-2000000001)) (M) := by
  refine Ri_int RX10 [(0, rf K 36), (1, .int a), (2, .int q)] rfl (by decide) rfl (Nat.le_of_ble_eq_true rfl) rfl (fun x C => ?_)
  obtain ⟨hc, hc8, hl, hl8, hb, hb8, hw, hw8, hv⟩ := id hx
  refine G_aload_r C dX10_told_0 rfl ?_
  refine G_iload_n C dX10_told_1 rfl ?_
  refine G_cVr1 C ok_X10_isChange lk_X10_111 rfl rfl (c_X10_isChange (by rw [hc]; exact nI_pos' (by omega))) (Nat.le_of_ble_eq_true rfl) dX10_told_2 ?_
  refine G_if_eq C 17 dX10_told_5 (by decide) (fun h5 => ?_) (fun h5 => ?_)
  · rw [bl_z] at h5
    rw [hc] at h5
    refine G_ldc C kc_X10_106 dX10_told_17 ?_
    exact G_retR C dX10_told_19 (by clear C; simp only [s_told]; first | grind | (have hso := sw_out hsw (m := 3) rfl; grind)) rfl
  · rw [bl_z] at h5
    rw [hc] at h5
    refine G_iload_n C dX10_told_8 rfl ?_
    refine G_iconst C (0) dX10_told_9 (by decide) ?_
    refine G_iconst C (4) dX10_told_10 (by decide) ?_
    refine G_cSr3 C ok_X10_isIn lk_X10_90 (c_X10_isIn) (Nat.le_of_ble_eq_true rfl) dX10_told_11 ?_
    refine G_if_ne C 20 dX10_told_14 (by decide) (fun h14 => ?_) (fun h14 => ?_)
    · rw [bl_z] at h14
      obtain ⟨j, hj, rfl, tj⟩ := ix_ex (by omega) (Decidable.not_not.mp h5)
      have hj8 : j < 80 := by omega
      refine G_iload_n C dX10_told_20 rfl ?_
      rcases (sw_3 q) with hsw | hsw | hsw | hsw | hsw
      · refine G_tableOut C 80 dX10_told_21 hsw (by decide) ?_
        refine G_aload_r C dX10_told_80 rfl ?_
        refine G_getR C fo_X10_22 rfl rfl dX10_told_81 ?_
        refine G_iload_n C dX10_told_84 rfl ?_
        refine G_ialdN C rfl (by assumption) (by decide) dX10_told_85 ?_
        refine G_if_ge C 94 dX10_told_86 (by decide) (fun h86 => ?_) (fun h86 => ?_)
        · refine G_aload_r C dX10_told_94 rfl ?_
          refine G_getR C fo_X10_22 rfl rfl dX10_told_95 ?_
          refine G_iload_n C dX10_told_98 rfl ?_
          refine G_ialdN C rfl (by assumption) (by decide) dX10_told_99 ?_
          exact G_retR C dX10_told_100 (by clear C; simp only [s_told]; first | grind | (have hso := sw_out hsw (m := 3) rfl; grind)) rfl
        · refine G_ldc C kc_X10_115 dX10_told_89 ?_
          refine G_goto C 100 dX10_told_91 (by decide) ?_
          exact G_retR C dX10_told_100 (by clear C; simp only [s_told]; first | grind | (have hso := sw_out hsw (m := 3) rfl; grind)) rfl
      · refine G_tableIn C (31) 52 dX10_told_21 (by rw [hsw]; decide) (by rw [hsw]; decide) (by rw [hsw]; rfl) (by decide) ?_
        refine G_aload_r C dX10_told_52 rfl ?_
        refine G_getR C fo_X10_7 rfl rfl dX10_told_53 ?_
        refine G_iload_n C dX10_told_56 rfl ?_
        refine G_ialdN C rfl (by assumption) (by decide) dX10_told_57 ?_
        exact G_retR C dX10_told_58 (by clear C; simp only [s_told]; first | grind | (have hso := sw_out hsw (m := 3) rfl; grind)) rfl
      · refine G_tableIn C (38) 59 dX10_told_21 (by rw [hsw]; decide) (by rw [hsw]; decide) (by rw [hsw]; rfl) (by decide) ?_
        refine G_aload_r C dX10_told_59 rfl ?_
        refine G_getR C fo_X10_13 rfl rfl dX10_told_60 ?_
        refine G_iload_n C dX10_told_63 rfl ?_
        refine G_ialdN C rfl (by assumption) (by decide) dX10_told_64 ?_
        exact G_retR C dX10_told_65 (by clear C; simp only [s_told]; first | grind | (have hso := sw_out hsw (m := 3) rfl; grind)) rfl
      · refine G_tableIn C (45) 66 dX10_told_21 (by rw [hsw]; decide) (by rw [hsw]; decide) (by rw [hsw]; rfl) (by decide) ?_
        refine G_aload_r C dX10_told_66 rfl ?_
        refine G_getR C fo_X10_16 rfl rfl dX10_told_67 ?_
        refine G_iload_n C dX10_told_70 rfl ?_
        refine G_ialdN C rfl (by assumption) (by decide) dX10_told_71 ?_
        exact G_retR C dX10_told_72 (by clear C; simp only [s_told]; first | grind | (have hso := sw_out hsw (m := 3) rfl; grind)) rfl
      · refine G_tableIn C (52) 73 dX10_told_21 (by rw [hsw]; decide) (by rw [hsw]; decide) (by rw [hsw]; rfl) (by decide) ?_
        refine G_aload_r C dX10_told_73 rfl ?_
        refine G_getR C fo_X10_19 rfl rfl dX10_told_74 ?_
        refine G_iload_n C dX10_told_77 rfl ?_
        refine G_ialdN C rfl (by assumption) (by decide) dX10_told_78 ?_
        exact G_retR C dX10_told_79 (by clear C; simp only [s_told]; first | grind | (have hso := sw_out hsw (m := 3) rfl; grind)) rfl
    · rw [bl_z] at h14
      refine G_ldc C kc_X10_106 dX10_told_17 ?_
      exact G_retR C dX10_told_19 (by clear C; simp only [s_told]; first | grind | (have hso := sw_out hsw (m := 3) rfl; grind)) rfl
def s_know (q v0 v1 v2 : Int32) : Int32 := if q = 0 then v0 else if q = 1 then v1 else if q = 2 then v2 else (-2000000001)
set_option maxHeartbeats 4000000 in
set_option maxRecDepth 100000 in
theorem c_X9_known {K : Kt} {d : Nat} {M : Mem} {nc nl nb nw : Nat} {k w q : Int32} (hx : XS M nc nl nb nw) : Ri K (d + 3) mX9_known [rf K 0, .int k, .int w, .int q] M (if (0 ≤ k ∧ k ≤ nI nw) ∧ 0 ≤ w ∧ w < 120 then s_know q (s_inc (M 3) (xbest M nc 3 k w) (xbest M nc 1 k w)) (s_kid (xkids M nc k w)) (s_oth (M 3) (xbest M nc 0 k w)) else (-2000000001)) (M) := by
  refine Ri_int RX9 [(0, rf K 0), (1, .int k), (2, .int w), (3, .int q)] rfl (by decide) rfl (Nat.le_of_ble_eq_true rfl) rfl (fun x C => ?_)
  obtain ⟨hc, hc8, hl, hl8, hb, hb8, hw, hw8⟩ := id hx
  refine G_aload_r C dX9_known_0 rfl ?_
  refine G_iload_n C dX9_known_1 rfl ?_
  refine G_cVr1 C ok_X9_isPast lk_X9_112 rfl rfl (c_X9_isPast) (Nat.le_of_ble_eq_true rfl) dX9_known_2 ?_
  refine G_if_eq C 15 dX9_known_5 (by decide) (fun h5 => ?_) (fun h5 => ?_)
  · rw [bl_z] at h5
    rw [hw] at h5
    refine G_ldc C kc_X9_72 dX9_known_15 ?_
    exact G_retR C dX9_known_17 (by clear C; simp only [s_know]; first | grind | (have hso := sw_out hsw (m := 2) rfl; grind)) rfl
  · rw [bl_z] at h5
    rw [hw] at h5
    refine G_iload_n C dX9_known_8 rfl ?_
    refine G_cSr1 C ok_X9_isWeek lk_X9_68 (c_X9_isWeek) (Nat.le_of_ble_eq_true rfl) dX9_known_9 ?_
    refine G_if_ne C 18 dX9_known_12 (by decide) (fun h12 => ?_) (fun h12 => ?_)
    · rw [bl_z] at h12
      refine G_iload_n C dX9_known_18 rfl ?_
      rcases (sw_2 q) with hsw | hsw | hsw | hsw
      · refine G_tableOut C 74 dX9_known_19 hsw (by decide) ?_
        refine G_ldc C kc_X9_72 dX9_known_74 ?_
        exact G_retR C dX9_known_76 (by clear C; simp only [s_know]; first | grind | (have hso := sw_out hsw (m := 2) rfl; grind)) rfl
      · refine G_tableIn C (25) 44 dX9_known_19 (by rw [hsw]; decide) (by rw [hsw]; decide) (by rw [hsw]; rfl) (by decide) ?_
        refine G_aload_r C dX9_known_44 rfl ?_
        refine G_getR C fo_X9_10 rfl rfl dX9_known_45 ?_
        refine G_iload_n C dX9_known_48 rfl ?_
        refine G_iload_n C dX9_known_49 rfl ?_
        refine G_cVr2 C ok_X2_incomeAt lk_X9_115 rfl rfl (c_X2_incomeAt hc hc8) (Nat.le_of_ble_eq_true rfl) dX9_known_50 ?_
        exact G_retR C dX9_known_53 (by clear C; simp only [s_know]; first | grind | (have hso := sw_out hsw (m := 2) rfl; grind)) rfl
      · refine G_tableIn C (35) 54 dX9_known_19 (by rw [hsw]; decide) (by rw [hsw]; decide) (by rw [hsw]; rfl) (by decide) ?_
        refine G_aload_r C dX9_known_54 rfl ?_
        refine G_getR C fo_X9_10 rfl rfl dX9_known_55 ?_
        refine G_iload_n C dX9_known_58 rfl ?_
        refine G_iload_n C dX9_known_59 rfl ?_
        refine G_cVr2 C ok_X2_childrenAt lk_X9_119 rfl rfl (c_X2_childrenAt hc hc8) (Nat.le_of_ble_eq_true rfl) dX9_known_60 ?_
        exact G_retR C dX9_known_63 (by clear C; simp only [s_know]; first | grind | (have hso := sw_out hsw (m := 2) rfl; grind)) rfl
      · refine G_tableIn C (45) 64 dX9_known_19 (by rw [hsw]; decide) (by rw [hsw]; decide) (by rw [hsw]; rfl) (by decide) ?_
        refine G_aload_r C dX9_known_64 rfl ?_
        refine G_getR C fo_X9_10 rfl rfl dX9_known_65 ?_
        refine G_iload_n C dX9_known_68 rfl ?_
        refine G_iload_n C dX9_known_69 rfl ?_
        refine G_cVr2 C ok_X2_othersAt lk_X9_122 rfl rfl (c_X2_othersAt hc hc8) (Nat.le_of_ble_eq_true rfl) dX9_known_70 ?_
        exact G_retR C dX9_known_73 (by clear C; simp only [s_know]; first | grind | (have hso := sw_out hsw (m := 2) rfl; grind)) rfl
    · rw [bl_z] at h12
      refine G_ldc C kc_X9_72 dX9_known_15 ?_
      exact G_retR C dX9_known_17 (by clear C; simp only [s_know]; first | grind | (have hso := sw_out hsw (m := 2) rfl; grind)) rfl
set_option maxHeartbeats 4000000 in
set_option maxRecDepth 100000 in
theorem c_X10_known {K : Kt} {d : Nat} {M : Mem} {nc nl nb nw : Nat} {k w q : Int32} (hx : MS M nc nl nb nw) : Ri K (d + 3) mX10_known [rf K 36, .int k, .int w, .int q] M (if (0 ≤ k ∧ k ≤ nI nw) ∧ 0 ≤ w ∧ w < 120 then s_know q (s_inc (M 38) (mbest M nc 3 k w) (mbest M nc 1 k w)) (s_kid (mkids M nc k w)) (s_oth (M 38) (mbest M nc 0 k w)) else (-2000000001)) (M) := by
  refine Ri_int RX10 [(0, rf K 36), (1, .int k), (2, .int w), (3, .int q)] rfl (by decide) rfl (Nat.le_of_ble_eq_true rfl) rfl (fun x C => ?_)
  obtain ⟨hc, hc8, hl, hl8, hb, hb8, hw, hw8, hv⟩ := id hx
  refine G_aload_r C dX10_known_0 rfl ?_
  refine G_iload_n C dX10_known_1 rfl ?_
  refine G_cVr1 C ok_X10_isPast lk_X10_123 rfl rfl (c_X10_isPast) (Nat.le_of_ble_eq_true rfl) dX10_known_2 ?_
  refine G_if_eq C 24 dX10_known_5 (by decide) (fun h5 => ?_) (fun h5 => ?_)
  · rw [bl_z] at h5
    rw [hw] at h5
    refine G_ldc C kc_X10_106 dX10_known_24 ?_
    exact G_retR C dX10_known_26 (by clear C; simp only [s_know]; grind) rfl
  · rw [bl_z] at h5
    rw [hw] at h5
    refine G_iload_n C dX10_known_8 rfl ?_
    refine G_cSr1 C ok_X10_isWeek lk_X10_102 (c_X10_isWeek) (Nat.le_of_ble_eq_true rfl) dX10_known_9 ?_
    refine G_if_eq C 24 dX10_known_12 (by decide) (fun h12 => ?_) (fun h12 => ?_)
    · rw [bl_z] at h12
      refine G_ldc C kc_X10_106 dX10_known_24 ?_
      exact G_retR C dX10_known_26 (by clear C; simp only [s_know]; grind) rfl
    · rw [bl_z] at h12
      refine G_iload_n C dX10_known_15 rfl ?_
      refine G_iconst C (0) dX10_known_16 (by decide) ?_
      refine G_iconst C (2) dX10_known_17 (by decide) ?_
      refine G_cSr3 C ok_X10_isIn lk_X10_90 (c_X10_isIn) (Nat.le_of_ble_eq_true rfl) dX10_known_18 ?_
      refine G_if_ne C 27 dX10_known_21 (by decide) (fun h21 => ?_) (fun h21 => ?_)
      · rw [bl_z] at h21
        refine G_iload_n C dX10_known_27 rfl ?_
        refine G_if_ne C 40 dX10_known_28 (by decide) (fun h28 => ?_) (fun h28 => ?_)
        · refine G_iload_n C dX10_known_40 rfl ?_
          refine G_iconst C (1) dX10_known_41 (by decide) ?_
          refine G_icmp_ne C 54 dX10_known_42 (by decide) (fun h42 => ?_) (fun h42 => ?_)
          · refine G_aload_r C dX10_known_54 rfl ?_
            refine G_iload_n C dX10_known_55 rfl ?_
            refine G_iload_n C dX10_known_56 rfl ?_
            refine G_cVr2 C ok_X10_others lk_X10_133 rfl rfl (c_X10_others hc hc8 hv) (Nat.le_of_ble_eq_true rfl) dX10_known_57 ?_
            exact G_retR C dX10_known_60 (by clear C; simp only [s_know]; grind) rfl
          · refine G_aload_r C dX10_known_45 rfl ?_
            refine G_iload_n C dX10_known_46 rfl ?_
            refine G_iload_n C dX10_known_47 rfl ?_
            refine G_cVr2 C ok_X10_children lk_X10_130 rfl rfl (c_X10_children hc hc8) (Nat.le_of_ble_eq_true rfl) dX10_known_48 ?_
            refine G_goto C 60 dX10_known_51 (by decide) ?_
            exact G_retR C dX10_known_60 (by clear C; simp only [s_know]; grind) rfl
        · refine G_aload_r C dX10_known_31 rfl ?_
          refine G_iload_n C dX10_known_32 rfl ?_
          refine G_iload_n C dX10_known_33 rfl ?_
          refine G_cVr2 C ok_X10_income lk_X10_126 rfl rfl (c_X10_income hc hc8 hv) (Nat.le_of_ble_eq_true rfl) dX10_known_34 ?_
          refine G_goto C 60 dX10_known_37 (by decide) ?_
          exact G_retR C dX10_known_60 (by clear C; simp only [s_know]; grind) rfl
      · rw [bl_z] at h21
        refine G_ldc C kc_X10_106 dX10_known_24 ?_
        exact G_retR C dX10_known_26 (by clear C; simp only [s_know]; grind) rfl
set_option maxHeartbeats 4000000 in
set_option maxRecDepth 100000 in
theorem c_X9_school {K : Kt} {d : Nat} {M : Mem} {nc nl nb nw : Nat} {w n : Int32} (hx : XS M nc nl nb nw) : Ri K (d + 3) mX9_school [rf K 0, .int w, .int n] M (if (0 ≤ w ∧ w < 120) ∧ (n = (-2000000005) ∨ 0 ≤ n ∧ n ≤ 7) then M 27 w.toNatClampNeg else (-2000000001)) (if (0 ≤ w ∧ w < 120) ∧ (n = (-2000000005) ∨ 0 ≤ n ∧ n ≤ 7) then wr M 27 w.toNatClampNeg n else M) := by
  refine Ri_int RX9 [(0, rf K 0), (1, .int w), (2, .int n)] rfl (by decide) rfl (Nat.le_of_ble_eq_true rfl) rfl (fun x C => ?_)
  obtain ⟨hc, hc8, hl, hl8, hb, hb8, hw, hw8⟩ := id hx
  refine G_iload_n C dX9_school_0 rfl ?_
  refine G_cSr1 C ok_X9_isWeek lk_X9_68 (c_X9_isWeek) (Nat.le_of_ble_eq_true rfl) dX9_school_1 ?_
  refine G_if_ne C 10 dX9_school_4 (by decide) (fun h4 => ?_) (fun h4 => ?_)
  · rw [bl_z] at h4
    obtain ⟨j, hj, rfl, tj⟩ := ix_12 (Decidable.not_not.mp h4)
    refine G_iload_n C dX9_school_10 rfl ?_
    refine G_ldc C kc_X9_98 dX9_school_11 ?_
    refine G_icmp_eq C 26 dX9_school_13 (by decide) (fun h13 => ?_) (fun h13 => ?_)
    · refine G_aload_r C dX9_school_26 rfl ?_
      refine G_getR C fo_X9_42 rfl rfl dX9_school_27 ?_
      refine G_getR C fo_X9_128 rfl rfl dX9_school_30 ?_
      refine G_iload_n C dX9_school_33 rfl ?_
      refine G_ialdN C rfl (by assumption) (by decide) dX9_school_34 ?_
      refine G_istore_n C dX9_school_35 (by decide) ?_
      refine G_aload_r C dX9_school_36 rfl ?_
      refine G_getR C fo_X9_42 rfl rfl dX9_school_37 ?_
      refine G_getR C fo_X9_128 rfl rfl dX9_school_40 ?_
      refine G_iload_n C dX9_school_43 rfl ?_
      refine G_iload_n C dX9_school_44 rfl ?_
      refine G_iastN C rfl (by assumption) (by decide) dX9_school_45 ?_
      refine G_iload_n C dX9_school_46 rfl ?_
      exact G_retR C dX9_school_47 (by clear C; grind) (by clear C; grind)
    · refine G_iload_n C dX9_school_16 rfl ?_
      refine G_cSr1 C ok_X9_areNights lk_X9_125 (c_X9_areNights) (Nat.le_of_ble_eq_true rfl) dX9_school_17 ?_
      refine G_if_ne C 26 dX9_school_20 (by decide) (fun h20 => ?_) (fun h20 => ?_)
      · rw [bl_z] at h20
        refine G_aload_r C dX9_school_26 rfl ?_
        refine G_getR C fo_X9_42 rfl rfl dX9_school_27 ?_
        refine G_getR C fo_X9_128 rfl rfl dX9_school_30 ?_
        refine G_iload_n C dX9_school_33 rfl ?_
        refine G_ialdN C rfl (by assumption) (by decide) dX9_school_34 ?_
        refine G_istore_n C dX9_school_35 (by decide) ?_
        refine G_aload_r C dX9_school_36 rfl ?_
        refine G_getR C fo_X9_42 rfl rfl dX9_school_37 ?_
        refine G_getR C fo_X9_128 rfl rfl dX9_school_40 ?_
        refine G_iload_n C dX9_school_43 rfl ?_
        refine G_iload_n C dX9_school_44 rfl ?_
        refine G_iastN C rfl (by assumption) (by decide) dX9_school_45 ?_
        refine G_iload_n C dX9_school_46 rfl ?_
        exact G_retR C dX9_school_47 (by clear C; grind) (by clear C; grind)
      · rw [bl_z] at h20
        refine G_ldc C kc_X9_72 dX9_school_23 ?_
        exact G_retR C dX9_school_25 (by clear C; grind) (by clear C; grind)
  · rw [bl_z] at h4
    refine G_ldc C kc_X9_72 dX9_school_7 ?_
    exact G_retR C dX9_school_9 (by clear C; grind) (by clear C; grind)
set_option maxHeartbeats 4000000 in
set_option maxRecDepth 100000 in
theorem c_X10_school {K : Kt} {d : Nat} {M : Mem} {nc nl nb nw : Nat} {w n : Int32} (hx : MS M nc nl nb nw) : Ri K (d + 3) mX10_school [rf K 36, .int w, .int n] M (if (0 ≤ w ∧ w < 120) ∧ (n = (-2000000005) ∨ 0 ≤ n ∧ n ≤ 7) then (if M 42 w.toNatClampNeg < 0 then (-2000000005) else M 42 w.toNatClampNeg) else (-2000000001)) (if (0 ≤ w ∧ w < 120) ∧ (n = (-2000000005) ∨ 0 ≤ n ∧ n ≤ 7) then wr M 42 w.toNatClampNeg (if n = (-2000000005) then -1 else n) else M) := by
  refine Ri_int RX10 [(0, rf K 36), (1, .int w), (2, .int n)] rfl (by decide) rfl (Nat.le_of_ble_eq_true rfl) rfl (fun x C => ?_)
  obtain ⟨hc, hc8, hl, hl8, hb, hb8, hw, hw8, hv⟩ := id hx
  refine G_iload_n C dX10_school_0 rfl ?_
  refine G_cSr1 C ok_X10_isWeek lk_X10_102 (c_X10_isWeek) (Nat.le_of_ble_eq_true rfl) dX10_school_1 ?_
  refine G_if_eq C 23 dX10_school_4 (by decide) (fun h4 => ?_) (fun h4 => ?_)
  · rw [bl_z] at h4
    refine G_ldc C kc_X10_106 dX10_school_23 ?_
    exact G_retR C dX10_school_25 (by clear C; grind) (by clear C; grind)
  · rw [bl_z] at h4
    obtain ⟨j, hj, rfl, tj⟩ := ix_12 (Decidable.not_not.mp h4)
    refine G_iload_n C dX10_school_7 rfl ?_
    refine G_ldc C kc_X10_115 dX10_school_8 ?_
    refine G_icmp_eq C 26 dX10_school_10 (by decide) (fun h10 => ?_) (fun h10 => ?_)
    · refine G_aload_r C dX10_school_26 rfl ?_
      refine G_getR C fo_X10_25 rfl rfl dX10_school_27 ?_
      refine G_iload_n C dX10_school_30 rfl ?_
      refine G_ialdN C rfl (by assumption) (by decide) dX10_school_31 ?_
      refine G_istore_n C dX10_school_32 (by decide) ?_
      refine G_aload_r C dX10_school_33 rfl ?_
      refine G_getR C fo_X10_25 rfl rfl dX10_school_34 ?_
      refine G_iload_n C dX10_school_37 rfl ?_
      refine G_iload_n C dX10_school_38 rfl ?_
      refine G_ldc C kc_X10_115 dX10_school_39 ?_
      refine G_icmp_ne C 48 dX10_school_41 (by decide) (fun h41 => ?_) (fun h41 => ?_)
      · refine G_iload_n C dX10_school_48 rfl ?_
        refine G_iastN C rfl (by assumption) (by decide) dX10_school_49 ?_
        refine G_iload_n C dX10_school_50 rfl ?_
        refine G_if_ge C 59 dX10_school_51 (by decide) (fun h51 => ?_) (fun h51 => ?_)
        · refine G_iload_n C dX10_school_59 rfl ?_
          exact G_retR C dX10_school_60 (by clear C; grind) (by clear C; grind)
        · refine G_ldc C kc_X10_115 dX10_school_54 ?_
          refine G_goto C 60 dX10_school_56 (by decide) ?_
          exact G_retR C dX10_school_60 (by clear C; grind) (by clear C; grind)
      · refine G_iconst C (-1) dX10_school_44 (by decide) ?_
        refine G_goto C 49 dX10_school_45 (by decide) ?_
        refine G_iastN C rfl (by assumption) (by decide) dX10_school_49 ?_
        refine G_iload_n C dX10_school_50 rfl ?_
        refine G_if_ge C 59 dX10_school_51 (by decide) (fun h51 => ?_) (fun h51 => ?_)
        · refine G_iload_n C dX10_school_59 rfl ?_
          exact G_retR C dX10_school_60 (by clear C; grind) (by clear C; grind)
        · refine G_ldc C kc_X10_115 dX10_school_54 ?_
          refine G_goto C 60 dX10_school_56 (by decide) ?_
          exact G_retR C dX10_school_60 (by clear C; grind) (by clear C; grind)
    · refine G_iload_n C dX10_school_13 rfl ?_
      refine G_iconst C (0) dX10_school_14 (by decide) ?_
      refine G_bipush C (7) dX10_school_15 (by decide) ?_
      refine G_cSr3 C ok_X10_isIn lk_X10_90 (c_X10_isIn) (Nat.le_of_ble_eq_true rfl) dX10_school_17 ?_
      refine G_if_ne C 26 dX10_school_20 (by decide) (fun h20 => ?_) (fun h20 => ?_)
      · rw [bl_z] at h20
        refine G_aload_r C dX10_school_26 rfl ?_
        refine G_getR C fo_X10_25 rfl rfl dX10_school_27 ?_
        refine G_iload_n C dX10_school_30 rfl ?_
        refine G_ialdN C rfl (by assumption) (by decide) dX10_school_31 ?_
        refine G_istore_n C dX10_school_32 (by decide) ?_
        refine G_aload_r C dX10_school_33 rfl ?_
        refine G_getR C fo_X10_25 rfl rfl dX10_school_34 ?_
        refine G_iload_n C dX10_school_37 rfl ?_
        refine G_iload_n C dX10_school_38 rfl ?_
        refine G_ldc C kc_X10_115 dX10_school_39 ?_
        refine G_icmp_ne C 48 dX10_school_41 (by decide) (fun h41 => ?_) (fun h41 => ?_)
        · refine G_iload_n C dX10_school_48 rfl ?_
          refine G_iastN C rfl (by assumption) (by decide) dX10_school_49 ?_
          refine G_iload_n C dX10_school_50 rfl ?_
          refine G_if_ge C 59 dX10_school_51 (by decide) (fun h51 => ?_) (fun h51 => ?_)
          · refine G_iload_n C dX10_school_59 rfl ?_
            exact G_retR C dX10_school_60 (by clear C; grind) (by clear C; grind)
          · refine G_ldc C kc_X10_115 dX10_school_54 ?_
            refine G_goto C 60 dX10_school_56 (by decide) ?_
            exact G_retR C dX10_school_60 (by clear C; grind) (by clear C; grind)
        · refine G_iconst C (-1) dX10_school_44 (by decide) ?_
          refine G_goto C 49 dX10_school_45 (by decide) ?_
          refine G_iastN C rfl (by assumption) (by decide) dX10_school_49 ?_
          refine G_iload_n C dX10_school_50 rfl ?_
          refine G_if_ge C 59 dX10_school_51 (by decide) (fun h51 => ?_) (fun h51 => ?_)
          · refine G_iload_n C dX10_school_59 rfl ?_
            exact G_retR C dX10_school_60 (by clear C; grind) (by clear C; grind)
          · refine G_ldc C kc_X10_115 dX10_school_54 ?_
            refine G_goto C 60 dX10_school_56 (by decide) ?_
            exact G_retR C dX10_school_60 (by clear C; grind) (by clear C; grind)
      · rw [bl_z] at h20
        refine G_ldc C kc_X10_106 dX10_school_23 ?_
        exact G_retR C dX10_school_25 (by clear C; grind) (by clear C; grind)
