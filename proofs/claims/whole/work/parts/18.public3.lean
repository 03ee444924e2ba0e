theorem s_fst_cong {f g : Nat → Int32} : ∀ {t j : Nat}, (∀ i, i < j + t → f i = g i) → s_fst f t j = s_fst g t j
  | 0, _, _ => rfl
  | t + 1, j, h => by
    simp only [s_fst]
    rw [h j (by omega), s_fst_cong (t := t) (j := j + 1) (fun i hi => h i (by omega))]
def xD (M : Mem) (nl nc : Nat) (s k : Int32) : Nat → Int32 := fun w => xduev M nl nc s k w
def mD (M : Mem) (nl nc : Nat) (s k : Int32) : Nat → Int32 := fun w => mduev M nl nc s k w
set_option maxHeartbeats 4000000 in
set_option maxRecDepth 100000 in
theorem c_X9_owed {K : Kt} {d : Nat} {M : Mem} {nc nl nb nw : Nat} {s k : Int32} (hx : XS M nc nl nb nw) : Ci K (d + 7) mX9_owed [rf K 0, .int s, .int k] M (fun r N => r = (if (s = 0 ∨ s = 1) ∧ 0 ≤ k ∧ k ≤ nI nw then s_tot (s_lft (xD M nl nc s k) (xpays M k nb)) (k.toNatClampNeg + 1) else (-2000000001)) ∧ Agx M N) := by
  refine Ci_int RX9 [(0, rf K 0), (1, .int s), (2, .int k)] rfl (by decide) rfl (Nat.le_of_ble_eq_true rfl) rfl (fun x C => ?_)
  obtain ⟨hc, hc8, hl, hl8, hb, hb8, hw, hw8⟩ := id hx
  refine G_iload_n C dX9_owed_0 rfl ?_
  refine G_iconst C (2) dX9_owed_1 (by decide) ?_
  refine G_cSr2 C ok_X9_isBelow lk_X9_88 (c_X9_isBelow) (Nat.le_of_ble_eq_true rfl) dX9_owed_2 ?_
  refine G_if_eq C 16 dX9_owed_5 (by decide) (fun h5 => ?_) (fun h5 => ?_)
  · rw [bl_z] at h5
    refine G_ldc C kc_X9_72 dX9_owed_16 ?_
    exact G_ret C dX9_owed_18 ⟨by clear C; grind, fun _ _ _ _ => rfl⟩
  · rw [bl_z] at h5
    refine G_aload_r C dX9_owed_8 rfl ?_
    refine G_iload_n C dX9_owed_9 rfl ?_
    refine G_cVr1 C ok_X9_isPast lk_X9_112 rfl rfl (c_X9_isPast) (Nat.le_of_ble_eq_true rfl) dX9_owed_10 ?_
    refine G_if_ne C 19 dX9_owed_13 (by decide) (fun h13 => ?_) (fun h13 => ?_)
    · rw [bl_z] at h13
      rw [hw] at h13
      obtain ⟨j, hj, rfl, tj⟩ := ix_le (by omega) (Decidable.not_not.mp h13)
      refine G_aload_r C dX9_owed_19 rfl ?_
      refine G_iload_n C dX9_owed_20 rfl ?_
      refine G_iload_n C dX9_owed_21 rfl ?_
      refine G_cVv2 C ok_X9_settle lk_X9_201 rfl rfl (c_X9_settle hx (k := j) (by omega)) (Nat.le_of_ble_eq_true rfl) dX9_owed_22 (fun N hq => ?_)
      obtain ⟨qa, q2, q3, q4, q5⟩ := hq
      refine G_aload_r C dX9_owed_25 rfl ?_
      refine G_getR C fo_X9_56 rfl rfl dX9_owed_26 ?_
      refine G_cVr0 C ok_X0_leftInAll lk_X9_205 rfl rfl (c_X0_leftInAll q2 (by omega)) (Nat.le_of_ble_eq_true rfl) dX9_owed_29 ?_
      refine G_ret C dX9_owed_32 ⟨?_, qa⟩
      rw [if_pos (by grind), tj]
      exact s_tot_cong (fun i hi => q5 i (by omega))
    · rw [bl_z] at h13
      rw [hw] at h13
      refine G_ldc C kc_X9_72 dX9_owed_16 ?_
      exact G_ret C dX9_owed_18 ⟨by clear C; grind, fun _ _ _ _ => rfl⟩
set_option maxHeartbeats 4000000 in
set_option maxRecDepth 100000 in
theorem c_X9_over {K : Kt} {d : Nat} {M : Mem} {nc nl nb nw : Nat} {s k : Int32} (hx : XS M nc nl nb nw) : Ci K (d + 7) mX9_over [rf K 0, .int s, .int k] M (fun r N => r = (if (s = 0 ∨ s = 1) ∧ 0 ≤ k ∧ k ≤ nI nw then s_rest (xD M nl nc s k) (xpays M k nb) (k.toNatClampNeg + 1) else (-2000000001)) ∧ Agx M N) := by
  refine Ci_int RX9 [(0, rf K 0), (1, .int s), (2, .int k)] rfl (by decide) rfl (Nat.le_of_ble_eq_true rfl) rfl (fun x C => ?_)
  obtain ⟨hc, hc8, hl, hl8, hb, hb8, hw, hw8⟩ := id hx
  refine G_iload_n C dX9_over_0 rfl ?_
  refine G_iconst C (2) dX9_over_1 (by decide) ?_
  refine G_cSr2 C ok_X9_isBelow lk_X9_88 (c_X9_isBelow) (Nat.le_of_ble_eq_true rfl) dX9_over_2 ?_
  refine G_if_eq C 16 dX9_over_5 (by decide) (fun h5 => ?_) (fun h5 => ?_)
  · rw [bl_z] at h5
    refine G_ldc C kc_X9_72 dX9_over_16 ?_
    exact G_ret C dX9_over_18 ⟨by clear C; grind, fun _ _ _ _ => rfl⟩
  · rw [bl_z] at h5
    refine G_aload_r C dX9_over_8 rfl ?_
    refine G_iload_n C dX9_over_9 rfl ?_
    refine G_cVr1 C ok_X9_isPast lk_X9_112 rfl rfl (c_X9_isPast) (Nat.le_of_ble_eq_true rfl) dX9_over_10 ?_
    refine G_if_ne C 19 dX9_over_13 (by decide) (fun h13 => ?_) (fun h13 => ?_)
    · rw [bl_z] at h13
      rw [hw] at h13
      obtain ⟨j, hj, rfl, tj⟩ := ix_le (by omega) (Decidable.not_not.mp h13)
      refine G_aload_r C dX9_over_19 rfl ?_
      refine G_iload_n C dX9_over_20 rfl ?_
      refine G_iload_n C dX9_over_21 rfl ?_
      refine G_cVv2 C ok_X9_settle lk_X9_201 rfl rfl (c_X9_settle hx (k := j) (by omega)) (Nat.le_of_ble_eq_true rfl) dX9_over_22 (fun N hq => ?_)
      obtain ⟨qa, q2, q3, q4, q5⟩ := hq
      refine G_aload_r C dX9_over_25 rfl ?_
      refine G_getR C fo_X9_56 rfl rfl dX9_over_26 ?_
      refine G_getI C fo_X9_209 rfl rfl dX9_over_29 ?_
      refine G_ret C dX9_over_32 ⟨?_, qa⟩
      rw [if_pos (by grind), tj]
      exact q4
    · rw [bl_z] at h13
      rw [hw] at h13
      refine G_ldc C kc_X9_72 dX9_over_16 ?_
      exact G_ret C dX9_over_18 ⟨by clear C; grind, fun _ _ _ _ => rfl⟩
set_option maxHeartbeats 4000000 in
set_option maxRecDepth 100000 in
theorem c_X9_oldest {K : Kt} {d : Nat} {M : Mem} {nc nl nb nw : Nat} {s k : Int32} (hx : XS M nc nl nb nw) : Ci K (d + 7) mX9_oldest [rf K 0, .int s, .int k] M (fun r N => r = (if (s = 0 ∨ s = 1) ∧ 0 ≤ k ∧ k ≤ nI nw then ixv (s_fst (s_lft (xD M nl nc s k) (xpays M k nb)) (k.toNatClampNeg + 1) 0) else (-2000000001)) ∧ Agx M N) := by
  refine Ci_int RX9 [(0, rf K 0), (1, .int s), (2, .int k)] rfl (by decide) rfl (Nat.le_of_ble_eq_true rfl) rfl (fun x C => ?_)
  obtain ⟨hc, hc8, hl, hl8, hb, hb8, hw, hw8⟩ := id hx
  refine G_iload_n C dX9_oldest_0 rfl ?_
  refine G_iconst C (2) dX9_oldest_1 (by decide) ?_
  refine G_cSr2 C ok_X9_isBelow lk_X9_88 (c_X9_isBelow) (Nat.le_of_ble_eq_true rfl) dX9_oldest_2 ?_
  refine G_if_eq C 16 dX9_oldest_5 (by decide) (fun h5 => ?_) (fun h5 => ?_)
  · rw [bl_z] at h5
    refine G_ldc C kc_X9_72 dX9_oldest_16 ?_
    exact G_ret C dX9_oldest_18 ⟨by clear C; grind, fun _ _ _ _ => rfl⟩
  · rw [bl_z] at h5
    refine G_aload_r C dX9_oldest_8 rfl ?_
    refine G_iload_n C dX9_oldest_9 rfl ?_
    refine G_cVr1 C ok_X9_isPast lk_X9_112 rfl rfl (c_X9_isPast) (Nat.le_of_ble_eq_true rfl) dX9_oldest_10 ?_
    refine G_if_ne C 19 dX9_oldest_13 (by decide) (fun h13 => ?_) (fun h13 => ?_)
    · rw [bl_z] at h13
      rw [hw] at h13
      obtain ⟨j, hj, rfl, tj⟩ := ix_le (by omega) (Decidable.not_not.mp h13)
      refine G_aload_r C dX9_oldest_19 rfl ?_
      refine G_iload_n C dX9_oldest_20 rfl ?_
      refine G_iload_n C dX9_oldest_21 rfl ?_
      refine G_cVv2 C ok_X9_settle lk_X9_201 rfl rfl (c_X9_settle hx (k := j) (by omega)) (Nat.le_of_ble_eq_true rfl) dX9_oldest_22 (fun N hq => ?_)
      obtain ⟨qa, q2, q3, q4, q5⟩ := hq
      refine G_aload_r C dX9_oldest_25 rfl ?_
      refine G_getR C fo_X9_56 rfl rfl dX9_oldest_26 ?_
      refine G_cVr0 C ok_X0_firstLeft lk_X9_215 rfl rfl (c_X0_firstLeft q2 (by omega)) (Nat.le_of_ble_eq_true rfl) dX9_oldest_29 ?_
      refine G_ret C dX9_oldest_32 ⟨?_, qa⟩
      rw [if_pos (by grind), tj]
      exact congrArg ixv (s_fst_cong (fun i hi => q5 i (by omega)))
    · rw [bl_z] at h13
      rw [hw] at h13
      refine G_ldc C kc_X9_72 dX9_oldest_16 ?_
      exact G_ret C dX9_oldest_18 ⟨by clear C; grind, fun _ _ _ _ => rfl⟩
set_option maxHeartbeats 4000000 in
set_option maxRecDepth 100000 in
theorem c_X9_left {K : Kt} {d : Nat} {M : Mem} {nc nl nb nw : Nat} {w s k : Int32} (hx : XS M nc nl nb nw) : Ci K (d + 7) mX9_left [rf K 0, .int w, .int s, .int k] M (fun r N => r = (if (s = 0 ∨ s = 1) ∧ (0 ≤ k ∧ k ≤ nI nw) ∧ 0 ≤ w ∧ w ≤ k then s_lft (xD M nl nc s k) (xpays M k nb) w.toNatClampNeg else (-2000000001)) ∧ Agx M N) := by
  refine Ci_int RX9 [(0, rf K 0), (1, .int w), (2, .int s), (3, .int k)] rfl (by decide) rfl (Nat.le_of_ble_eq_true rfl) rfl (fun x C => ?_)
  obtain ⟨hc, hc8, hl, hl8, hb, hb8, hw, hw8⟩ := id hx
  refine G_iload_n C dX9_left_0 rfl ?_
  refine G_iconst C (2) dX9_left_1 (by decide) ?_
  refine G_cSr2 C ok_X9_isBelow lk_X9_88 (c_X9_isBelow) (Nat.le_of_ble_eq_true rfl) dX9_left_2 ?_
  refine G_if_eq C 25 dX9_left_5 (by decide) (fun h5 => ?_) (fun h5 => ?_)
  · rw [bl_z] at h5
    refine G_ldc C kc_X9_72 dX9_left_25 ?_
    exact G_ret C dX9_left_27 ⟨by clear C; grind, fun _ _ _ _ => rfl⟩
  · rw [bl_z] at h5
    refine G_aload_r C dX9_left_8 rfl ?_
    refine G_iload_n C dX9_left_9 rfl ?_
    refine G_cVr1 C ok_X9_isPast lk_X9_112 rfl rfl (c_X9_isPast) (Nat.le_of_ble_eq_true rfl) dX9_left_10 ?_
    refine G_if_eq C 25 dX9_left_13 (by decide) (fun h13 => ?_) (fun h13 => ?_)
    · rw [bl_z] at h13
      rw [hw] at h13
      refine G_ldc C kc_X9_72 dX9_left_25 ?_
      exact G_ret C dX9_left_27 ⟨by clear C; grind, fun _ _ _ _ => rfl⟩
    · rw [bl_z] at h13
      rw [hw] at h13
      refine G_iload_n C dX9_left_16 rfl ?_
      refine G_if_lt C 25 dX9_left_17 (by decide) (fun h17 => ?_) (fun h17 => ?_)
      · refine G_ldc C kc_X9_72 dX9_left_25 ?_
        exact G_ret C dX9_left_27 ⟨by clear C; grind, fun _ _ _ _ => rfl⟩
      · refine G_iload_n C dX9_left_20 rfl ?_
        refine G_iload_n C dX9_left_21 rfl ?_
        refine G_icmp_le C 28 dX9_left_22 (by decide) (fun h22 => ?_) (fun h22 => ?_)
        · obtain ⟨j, hj, rfl, tj⟩ := ix_le (by omega) (Decidable.not_not.mp h13)
          obtain ⟨i, hi, rfl, ti⟩ := ix_le (n := j) (by omega) (a := w) (by grind)
          have hi8 : i < 120 := by omega
          refine G_aload_r C dX9_left_28 rfl ?_
          refine G_iload_n C dX9_left_29 rfl ?_
          refine G_iload_n C dX9_left_30 rfl ?_
          refine G_cVv2 C ok_X9_settle lk_X9_201 rfl rfl (c_X9_settle hx (k := j) (by omega)) (Nat.le_of_ble_eq_true rfl) dX9_left_31 (fun N hq => ?_)
          obtain ⟨qa, q2, q3, q4, q5⟩ := hq
          refine G_aload_r C dX9_left_34 rfl ?_
          refine G_getR C fo_X9_56 rfl rfl dX9_left_35 ?_
          refine G_getR C fo_X9_212 rfl rfl dX9_left_38 ?_
          refine G_iload_n C dX9_left_41 rfl ?_
          refine G_ialdN C rfl (by assumption) (by decide) dX9_left_42 ?_
          refine G_ret C dX9_left_43 ⟨?_, qa⟩
          rw [if_pos (by grind), ti]
          exact q5 i hi
        · refine G_ldc C kc_X9_72 dX9_left_25 ?_
          exact G_ret C dX9_left_27 ⟨by clear C; grind, fun _ _ _ _ => rfl⟩
set_option maxHeartbeats 4000000 in
set_option maxRecDepth 100000 in
theorem c_X9_payer {K : Kt} {d : Nat} {M : Mem} {nc nl nb nw : Nat} {w s : Int32} (hx : XS M nc nl nb nw) : Ci K (d + 7) mX9_payer [rf K 0, .int w, .int s] M (fun r N => r = (if (0 ≤ w ∧ w ≤ nI nw) ∧ (s = 0 ∨ s = 1) then (if xD M nl nc s (nI nw) w.toNatClampNeg = 0 then (-2000000005) else ixv (s_out (M 29) (M 30) (payb (M 28 4) (M 31)) (s_tot (xD M nl nc s (nI nw)) (w.toNatClampNeg + 1)) nb (nw + 1) 0 0)) else (-2000000001)) ∧ Agx M N) := by
  refine Ci_int RX9 [(0, rf K 0), (1, .int w), (2, .int s)] rfl (by decide) rfl (Nat.le_of_ble_eq_true rfl) rfl (fun x C => ?_)
  obtain ⟨hc, hc8, hl, hl8, hb, hb8, hw, hw8⟩ := id hx
  refine G_aload_r C dX9_payer_0 rfl ?_
  refine G_iload_n C dX9_payer_1 rfl ?_
  refine G_cVr1 C ok_X9_isPast lk_X9_112 rfl rfl (c_X9_isPast) (Nat.le_of_ble_eq_true rfl) dX9_payer_2 ?_
  refine G_if_eq C 16 dX9_payer_5 (by decide) (fun h5 => ?_) (fun h5 => ?_)
  · rw [bl_z] at h5
    rw [hw] at h5
    refine G_ldc C kc_X9_72 dX9_payer_16 ?_
    exact G_ret C dX9_payer_18 ⟨by clear C; grind, fun _ _ _ _ => rfl⟩
  · rw [bl_z] at h5
    rw [hw] at h5
    obtain ⟨j, hj, rfl, tj⟩ := ix_le (by omega) (Decidable.not_not.mp h5)
    have hj8 : j < 120 := by omega
    refine G_iload_n C dX9_payer_8 rfl ?_
    refine G_iconst C (2) dX9_payer_9 (by decide) ?_
    refine G_cSr2 C ok_X9_isBelow lk_X9_88 (c_X9_isBelow) (Nat.le_of_ble_eq_true rfl) dX9_payer_10 ?_
    refine G_if_ne C 19 dX9_payer_13 (by decide) (fun h13 => ?_) (fun h13 => ?_)
    · rw [bl_z] at h13
      refine G_aload_r C dX9_payer_19 rfl ?_
      refine G_iload_n C dX9_payer_20 rfl ?_
      refine G_aload_r C dX9_payer_21 rfl ?_
      refine G_getI C fo_X9_78 rfl rfl dX9_payer_22 ?_
      refine G_is (nI nw) hw ?_
      refine G_cVv2 C ok_X9_settle lk_X9_201 rfl rfl (c_X9_settle hx (k := nw) (by omega)) (Nat.le_of_ble_eq_true rfl) dX9_payer_25 (fun N hq => ?_)
      obtain ⟨qa, q2, q3, q4, q5⟩ := hq
      obtain ⟨nhc, nhc8, nhl, nhl8, nhb, nhb8, nhw, nhw8⟩ := hx.ag qa
      refine G_aload_r C dX9_payer_28 rfl ?_
      refine G_getR C fo_X9_56 rfl rfl dX9_payer_29 ?_
      refine G_getR C fo_X9_218 rfl rfl dX9_payer_32 ?_
      refine G_iload_n C dX9_payer_35 rfl ?_
      refine G_ialdN C rfl (by assumption) (by decide) dX9_payer_36 ?_
      rw [q3 j hj]
      refine G_if_ne C 43 dX9_payer_37 (by decide) (fun h37 => ?_) (fun h37 => ?_)
      · change ¬ xD M nl nc s (nI nw) j = 0 at h37
        refine G_aload_r C dX9_payer_43 rfl ?_
        refine G_getR C fo_X9_49 rfl rfl dX9_payer_44 ?_
        refine G_aload_r C dX9_payer_47 rfl ?_
        refine G_getR C fo_X9_56 rfl rfl dX9_payer_48 ?_
        refine G_iload_n C dX9_payer_51 rfl ?_
        refine G_cVr1 C ok_X0_dueUpTo lk_X9_221 rfl rfl (c_X0_dueUpTo hj8) (Nat.le_of_ble_eq_true rfl) dX9_payer_52 ?_
        refine G_aload_r C dX9_payer_55 rfl ?_
        refine G_getI C fo_X9_78 rfl rfl dX9_payer_56 ?_
        refine G_is (nI nw) nhw ?_
        refine G_cVr2 C ok_X1_lineWithCoin lk_X9_224 rfl rfl (c_X1_lineWithCoin nhb nhb8 hw8) (Nat.le_of_ble_eq_true rfl) dX9_payer_59 ?_
        refine G_ret C dX9_payer_62 ⟨?_, qa⟩
        rw [if_pos (by grind), tj, if_neg h37, qa 29 (by decide) (by decide) (by decide), qa 30 (by decide) (by decide) (by decide), qa 31 (by decide) (by decide) (by decide), qa 28 (by decide) (by decide) (by decide), s_tot_cong (f := N 33) (g := xD M nl nc s (nI nw)) (fun i hi => q3 i (by omega))]
      · change xD M nl nc s (nI nw) j = 0 at h37
        refine G_ldc C kc_X9_98 dX9_payer_40 ?_
        refine G_ret C dX9_payer_42 ⟨?_, qa⟩
        rw [if_pos (by grind), tj, if_pos h37]
    · rw [bl_z] at h13
      refine G_ldc C kc_X9_72 dX9_payer_16 ?_
      exact G_ret C dX9_payer_18 ⟨by clear C; grind, fun _ _ _ _ => rfl⟩
def s_ints (g : Nat → Int32) (n : Nat) : Int32 := s_tot (fun j => g (4 + j)) n
def xg (M : Mem) (D : Nat → Int32) (r : Int32) (nb x : Nat) : Int32 := s_tot (fun j => s_rt r (s_lft D (xpays M (nI x) nb) j)) (x - 4 + 1)
def mg (M : Mem) (D : Nat → Int32) (r : Int32) (nb x : Nat) : Int32 := s_tot (fun j => s_rt r (s_lby (s_tot D (j + 1)) (D j) (mpays M (nI x) nb))) (x - 4 + 1)
set_option maxHeartbeats 4000000 in
set_option maxRecDepth 100000 in
theorem L_X9_interest {K : Kt} {d : Nat} {M : Mem} {nc nl nb nw k : Nat} {s r : Int32} {D : Nat → Int32} {x : Cx} (hx : XS M nc nl nb nw) (hk : k < 120) (ho : r = s_ints (xg M D (M 0 8) nb) (k - 3)) (C : Cok K x RX9 cX9_interest 5 (d + 3) (RI (fun v N => v = r ∧ Agx M N))) :
    ∀ (t j : Nat) (N : Mem) (b : Int32), k < j + 3 + t → j ≤ k - 3 → Agx M N → N 32 2 = nI (k + 1) → (∀ i, i ≤ k → N 33 i = D i) → b = s_ints (xg M D (M 0 8) nb) j → G K x 5 30 [(0, rf K 0), (1, .int s), (2, .int (nI k)), (3, .int b), (4, .int (nI (4 + j)))] [] N := by
  intro t
  induction t with
  | zero =>
    intro j N b h1 h2 ha q2 q3 hb
    refine G_iload C dX9_interest_30 rfl ?_
    refine G_iload_n C dX9_interest_32 rfl ?_
    refine G_icmp_gt C 76 dX9_interest_33 (by decide) (fun h33 => ?_) (fun h33 => ?_)
    · refine G_iload_n C dX9_interest_76 rfl ?_
      exact G_ret C dX9_interest_77 ⟨by rw [ho, hb, show j = k - 3 by omega], ha⟩
    · exact absurd (n_leE (N := 300) (by omega) (by omega) (by decide) h33) (by omega)
  | succ t ih =>
    intro j N b h1 h2 ha q2 q3 hb
    obtain ⟨nhc, nhc8, nhl, nhl8, nhb, nhb8, nhw, nhw8⟩ := hx.ag ha
    refine G_iload C dX9_interest_30 rfl ?_
    refine G_iload_n C dX9_interest_32 rfl ?_
    refine G_icmp_gt C 76 dX9_interest_33 (by decide) (fun h33 => ?_) (fun h33 => ?_)
    · have hE : k < 4 + j := n_gtE (N := 300) (by omega) (by omega) (by decide) h33
      refine G_iload_n C dX9_interest_76 rfl ?_
      exact G_ret C dX9_interest_77 ⟨by rw [ho, hb, show j = k - 3 by omega], ha⟩
    · have hlt : 4 + j ≤ k := n_leE (N := 300) (by omega) (by omega) (by decide) h33
      refine G_aload_r C dX9_interest_36 rfl ?_
      refine G_getR C fo_X9_56 rfl rfl dX9_interest_37 ?_
      refine G_aload_r C dX9_interest_40 rfl ?_
      refine G_getR C fo_X9_49 rfl rfl dX9_interest_41 ?_
      refine G_iload C dX9_interest_44 rfl ?_
      refine G_cVr1 C ok_X1_paysUpTo lk_X9_227 rfl rfl (c_X1_paysUpTo nhb nhb8) (Nat.le_of_ble_eq_true rfl) dX9_interest_46 ?_
      rw [xpays_ag ha]
      refine G_cVv1 C ok_X0_payOldestFirst lk_X9_230 rfl rfl (c_X0_payOldestFirst q2 (by omega)) (Nat.le_of_ble_eq_true rfl) dX9_interest_49 (fun N2 hq => ?_)
      obtain ⟨p1, p2, p3, p4⟩ := hq
      refine G_iload_n C dX9_interest_52 rfl ?_
      refine G_aload_r C dX9_interest_53 rfl ?_
      refine G_getR C fo_X9_56 rfl rfl dX9_interest_54 ?_
      refine G_iload C dX9_interest_57 rfl ?_
      refine G_iconst C (nI 4) dX9_interest_59 (by decide) ?_
      refine G_isub C dX9_interest_60 ?_
      rw [pk_sub (by omega), show 4 + j - 4 = j by omega]
      refine G_aload_r C dX9_interest_61 rfl ?_
      refine G_getI C fo_X9_233 rfl rfl dX9_interest_62 ?_
      refine G_cVr2 C ok_X0_interestUpTo lk_X9_236 rfl rfl (c_X0_interestUpTo (by omega)) (Nat.le_of_ble_eq_true rfl) dX9_interest_65 ?_
      refine G_iadd C dX9_interest_68 ?_
      refine G_istore_n C dX9_interest_69 (by decide) ?_
      refine G_iincN C dX9_interest_70 (by decide) rfl ?_
      refine G_goto C 30 dX9_interest_73 (by decide) ?_
      refine G_sub [(0, _), (1, _), (2, _), (3, _), (4, _)] (by repeat (first | refine And.intro rfl ?_ | exact True.intro)) ?_
      refine ih (j + 1) N2 _ (by omega) (by omega) (fun i h1 h2 h3 => (p1 i h1 h3).trans (ha i h1 h2 h3)) ((p2 2 (by decide)).trans q2) (fun i hi => by rw [p1 33 (by decide) (by decide)]; exact q3 i hi) ?_
      have e8 : N2 0 8 = M 0 8 := by rw [p1 0 (by decide) (by decide), ha 0 (by decide) (by decide) (by decide)]
      have eg : s_tot (fun q => s_rt (N2 0 8) (N2 34 q)) (j + 1) = xg M D (M 0 8) nb (4 + j) := by
        simp only [xg]
        rw [show 4 + j - 4 + 1 = j + 1 by omega, e8]
        refine s_tot_cong (fun i hi => ?_)
        rw [p4 i (by omega)]
        exact congrArg _ (s_lft_cong (fun q hq => q3 q (by omega)))
      rw [eg, hb]
      rfl
set_option maxHeartbeats 4000000 in
set_option maxRecDepth 100000 in
theorem c_X9_interest {K : Kt} {d : Nat} {M : Mem} {nc nl nb nw : Nat} {s k : Int32} (hx : XS M nc nl nb nw) : Ci K (d + 7) mX9_interest [rf K 0, .int s, .int k] M (fun r N => r = (if (s = 0 ∨ s = 1) ∧ 0 ≤ k ∧ k ≤ nI nw then s_ints (xg M (xD M nl nc s k) (M 0 8) nb) (k.toNatClampNeg - 3) else (-2000000001)) ∧ Agx M N) := by
  refine Ci_int RX9 [(0, rf K 0), (1, .int s), (2, .int k)] rfl (by decide) rfl (Nat.le_of_ble_eq_true rfl) rfl (fun x C => ?_)
  obtain ⟨hc, hc8, hl, hl8, hb, hb8, hw, hw8⟩ := id hx
  refine G_iload_n C dX9_interest_0 rfl ?_
  refine G_iconst C (2) dX9_interest_1 (by decide) ?_
  refine G_cSr2 C ok_X9_isBelow lk_X9_88 (c_X9_isBelow) (Nat.le_of_ble_eq_true rfl) dX9_interest_2 ?_
  refine G_if_eq C 16 dX9_interest_5 (by decide) (fun h5 => ?_) (fun h5 => ?_)
  · rw [bl_z] at h5
    refine G_ldc C kc_X9_72 dX9_interest_16 ?_
    exact G_ret C dX9_interest_18 ⟨by clear C; grind, fun _ _ _ _ => rfl⟩
  · rw [bl_z] at h5
    refine G_aload_r C dX9_interest_8 rfl ?_
    refine G_iload_n C dX9_interest_9 rfl ?_
    refine G_cVr1 C ok_X9_isPast lk_X9_112 rfl rfl (c_X9_isPast) (Nat.le_of_ble_eq_true rfl) dX9_interest_10 ?_
    refine G_if_ne C 19 dX9_interest_13 (by decide) (fun h13 => ?_) (fun h13 => ?_)
    · rw [bl_z] at h13
      rw [hw] at h13
      obtain ⟨j, hj, rfl, tj⟩ := ix_le (by omega) (Decidable.not_not.mp h13)
      refine G_aload_r C dX9_interest_19 rfl ?_
      refine G_iload_n C dX9_interest_20 rfl ?_
      refine G_iload_n C dX9_interest_21 rfl ?_
      refine G_cVv2 C ok_X9_settle lk_X9_201 rfl rfl (c_X9_settle hx (k := j) (by omega)) (Nat.le_of_ble_eq_true rfl) dX9_interest_22 (fun N hq => ?_)
      obtain ⟨qa, q2, q3, q4, q5⟩ := hq
      refine G_iconst C (0) dX9_interest_25 (by decide) ?_
      refine G_istore_n C dX9_interest_26 (by decide) ?_
      refine G_iconst C (nI 4) dX9_interest_27 (by decide) ?_
      refine G_istore C dX9_interest_28 (by decide) ?_
      refine G_sub [(0, _), (1, _), (2, _), (3, _), (4, _)] (by repeat (first | refine And.intro rfl ?_ | exact True.intro)) ?_
      refine L_X9_interest (D := xD M nl nc s (nI j)) hx (by omega) (by rw [if_pos (by grind), tj]) C (j + 1) 0 N 0 (by omega) (by omega) qa q2 (fun i hi => q3 i hi) rfl
    · rw [bl_z] at h13
      rw [hw] at h13
      refine G_ldc C kc_X9_72 dX9_interest_16 ?_
      exact G_ret C dX9_interest_18 ⟨by clear C; grind, fun _ _ _ _ => rfl⟩
def s_cl (v : Int32) : Int32 := if 0 ≤ v then v else 0
set_option maxHeartbeats 4000000 in
set_option maxRecDepth 100000 in
theorem c_X10_owed {K : Kt} {d : Nat} {M : Mem} {nc nl nb nw : Nat} {s k : Int32} (hx : MS M nc nl nb nw) : Ci K (d + 7) mX10_owed [rf K 36, .int s, .int k] M (fun r N => r = (if (s = 0 ∨ s = 1) ∧ 0 ≤ k ∧ k ≤ nI nw then s_cl (s_tot (mD M nl nc s k) (k.toNatClampNeg + 1) - mpays M k nb) else (-2000000001)) ∧ Agm M N) := by
  refine Ci_int RX10 [(0, rf K 36), (1, .int s), (2, .int k)] rfl (by decide) rfl (Nat.le_of_ble_eq_true rfl) rfl (fun x C => ?_)
  obtain ⟨hc, hc8, hl, hl8, hb, hb8, hw, hw8, hv⟩ := id hx
  refine G_aload_r C dX10_owed_0 rfl ?_
  refine G_iload_n C dX10_owed_1 rfl ?_
  refine G_iload_n C dX10_owed_2 rfl ?_
  refine G_cVr2 C ok_X10_isAsked lk_X10_218 rfl rfl (c_X10_isAsked) (Nat.le_of_ble_eq_true rfl) dX10_owed_3 ?_
  refine G_if_ne C 12 dX10_owed_6 (by decide) (fun h6 => ?_) (fun h6 => ?_)
  · rw [bl_z] at h6
    rw [hw] at h6
    obtain ⟨hs, hk9⟩ := Decidable.not_not.mp h6
    obtain ⟨j, hj, rfl, tj⟩ := ix_le (by omega) hk9
    have hj8 : j < 120 := by omega
    refine G_aload_r C dX10_owed_12 rfl ?_
    refine G_iload_n C dX10_owed_13 rfl ?_
    refine G_iload_n C dX10_owed_14 rfl ?_
    refine G_cVv2 C ok_X10_findDues lk_X10_221 rfl rfl (c_X10_findDues hx hj8) (Nat.le_of_ble_eq_true rfl) dX10_owed_15 (fun N hq => ?_)
    obtain ⟨qa, q2, q3⟩ := hq
    obtain ⟨nhc, nhc8, nhl, nhl8, nhb, nhb8, nhw, nhw8, nhv⟩ := hx.ag qa
    refine G_aload_r C dX10_owed_18 rfl ?_
    refine G_getR C fo_X10_84 rfl rfl dX10_owed_19 ?_
    refine G_iload_n C dX10_owed_22 rfl ?_
    refine G_ialdN C rfl (by assumption) (by decide) dX10_owed_23 ?_
    rw [q3 j (Nat.le_refl _)]
    refine G_aload_r C dX10_owed_24 rfl ?_
    refine G_iload_n C dX10_owed_25 rfl ?_
    refine G_cVr1 C ok_X10_paysUpTo lk_X10_225 rfl rfl (c_X10_paysUpTo nhb nhb8) (Nat.le_of_ble_eq_true rfl) dX10_owed_26 ?_
    rw [mpays_ag qa]
    refine G_isub C dX10_owed_29 ?_
    refine G_istore_n C dX10_owed_30 (by decide) ?_
    refine G_iload_n C dX10_owed_31 rfl ?_
    refine G_if_ge C 39 dX10_owed_32 (by decide) (fun h32 => ?_) (fun h32 => ?_)
    · refine G_iload_n C dX10_owed_39 rfl ?_
      refine G_ret C dX10_owed_40 ⟨?_, qa⟩
      rw [if_pos (by grind), tj]
      simp only [s_cl]
      first | exact (if_pos h32).symm | exact (if_neg h32).symm
    · refine G_iconst C (0) dX10_owed_35 (by decide) ?_
      refine G_goto C 40 dX10_owed_36 (by decide) ?_
      refine G_ret C dX10_owed_40 ⟨?_, qa⟩
      rw [if_pos (by grind), tj]
      simp only [s_cl]
      first | exact (if_pos h32).symm | exact (if_neg h32).symm
  · rw [bl_z] at h6
    rw [hw] at h6
    refine G_ldc C kc_X10_106 dX10_owed_9 ?_
    exact G_ret C dX10_owed_11 ⟨by clear C; grind, fun _ _ _ => rfl⟩
set_option maxHeartbeats 4000000 in
set_option maxRecDepth 100000 in
theorem c_X10_over {K : Kt} {d : Nat} {M : Mem} {nc nl nb nw : Nat} {s k : Int32} (hx : MS M nc nl nb nw) : Ci K (d + 7) mX10_over [rf K 36, .int s, .int k] M (fun r N => r = (if (s = 0 ∨ s = 1) ∧ 0 ≤ k ∧ k ≤ nI nw then s_cl (mpays M k nb - s_tot (mD M nl nc s k) (k.toNatClampNeg + 1)) else (-2000000001)) ∧ Agm M N) := by
  refine Ci_int RX10 [(0, rf K 36), (1, .int s), (2, .int k)] rfl (by decide) rfl (Nat.le_of_ble_eq_true rfl) rfl (fun x C => ?_)
  obtain ⟨hc, hc8, hl, hl8, hb, hb8, hw, hw8, hv⟩ := id hx
  refine G_aload_r C dX10_over_0 rfl ?_
  refine G_iload_n C dX10_over_1 rfl ?_
  refine G_iload_n C dX10_over_2 rfl ?_
  refine G_cVr2 C ok_X10_isAsked lk_X10_218 rfl rfl (c_X10_isAsked) (Nat.le_of_ble_eq_true rfl) dX10_over_3 ?_
  refine G_if_ne C 12 dX10_over_6 (by decide) (fun h6 => ?_) (fun h6 => ?_)
  · rw [bl_z] at h6
    rw [hw] at h6
    obtain ⟨hs, hk9⟩ := Decidable.not_not.mp h6
    obtain ⟨j, hj, rfl, tj⟩ := ix_le (by omega) hk9
    have hj8 : j < 120 := by omega
    refine G_aload_r C dX10_over_12 rfl ?_
    refine G_iload_n C dX10_over_13 rfl ?_
    refine G_iload_n C dX10_over_14 rfl ?_
    refine G_cVv2 C ok_X10_findDues lk_X10_221 rfl rfl (c_X10_findDues hx hj8) (Nat.le_of_ble_eq_true rfl) dX10_over_15 (fun N hq => ?_)
    obtain ⟨qa, q2, q3⟩ := hq
    obtain ⟨nhc, nhc8, nhl, nhl8, nhb, nhb8, nhw, nhw8, nhv⟩ := hx.ag qa
    refine G_aload_r C dX10_over_18 rfl ?_
    refine G_iload_n C dX10_over_19 rfl ?_
    refine G_cVr1 C ok_X10_paysUpTo lk_X10_225 rfl rfl (c_X10_paysUpTo nhb nhb8) (Nat.le_of_ble_eq_true rfl) dX10_over_20 ?_
    rw [mpays_ag qa]
    refine G_aload_r C dX10_over_23 rfl ?_
    refine G_getR C fo_X10_84 rfl rfl dX10_over_24 ?_
    refine G_iload_n C dX10_over_27 rfl ?_
    refine G_ialdN C rfl (by assumption) (by decide) dX10_over_28 ?_
    rw [q3 j (Nat.le_refl _)]
    refine G_isub C dX10_over_29 ?_
    refine G_istore_n C dX10_over_30 (by decide) ?_
    refine G_iload_n C dX10_over_31 rfl ?_
    refine G_if_ge C 39 dX10_over_32 (by decide) (fun h32 => ?_) (fun h32 => ?_)
    · refine G_iload_n C dX10_over_39 rfl ?_
      refine G_ret C dX10_over_40 ⟨?_, qa⟩
      rw [if_pos (by grind), tj]
      simp only [s_cl]
      first | exact (if_pos h32).symm | exact (if_neg h32).symm
    · refine G_iconst C (0) dX10_over_35 (by decide) ?_
      refine G_goto C 40 dX10_over_36 (by decide) ?_
      refine G_ret C dX10_over_40 ⟨?_, qa⟩
      rw [if_pos (by grind), tj]
      simp only [s_cl]
      first | exact (if_pos h32).symm | exact (if_neg h32).symm
  · rw [bl_z] at h6
    rw [hw] at h6
    refine G_ldc C kc_X10_106 dX10_over_9 ?_
    exact G_ret C dX10_over_11 ⟨by clear C; grind, fun _ _ _ => rfl⟩
def mlf (D : Nat → Int32) (c : Int32) (w : Nat) : Int32 := s_lby (s_tot D (w + 1)) (D w) c
set_option maxHeartbeats 4000000 in
set_option maxRecDepth 100000 in
theorem c_X10_left {K : Kt} {d : Nat} {M : Mem} {nc nl nb nw : Nat} {w s k : Int32} (hx : MS M nc nl nb nw) : Ci K (d + 7) mX10_left [rf K 36, .int w, .int s, .int k] M (fun r N => r = (if (s = 0 ∨ s = 1) ∧ (0 ≤ k ∧ k ≤ nI nw) ∧ 0 ≤ w ∧ w ≤ k then mlf (mD M nl nc s k) (mpays M k nb) w.toNatClampNeg else (-2000000001)) ∧ Agm M N) := by
  refine Ci_int RX10 [(0, rf K 36), (1, .int w), (2, .int s), (3, .int k)] rfl (by decide) rfl (Nat.le_of_ble_eq_true rfl) rfl (fun x C => ?_)
  obtain ⟨hc, hc8, hl, hl8, hb, hb8, hw, hw8, hv⟩ := id hx
  refine G_aload_r C dX10_left_0 rfl ?_
  refine G_iload_n C dX10_left_1 rfl ?_
  refine G_iload_n C dX10_left_2 rfl ?_
  refine G_cVr2 C ok_X10_isAsked lk_X10_218 rfl rfl (c_X10_isAsked) (Nat.le_of_ble_eq_true rfl) dX10_left_3 ?_
  refine G_if_eq C 18 dX10_left_6 (by decide) (fun h6 => ?_) (fun h6 => ?_)
  · rw [bl_z] at h6
    rw [hw] at h6
    refine G_ldc C kc_X10_106 dX10_left_18 ?_
    exact G_ret C dX10_left_20 ⟨by clear C; grind, fun _ _ _ => rfl⟩
  · rw [bl_z] at h6
    rw [hw] at h6
    refine G_iload_n C dX10_left_9 rfl ?_
    refine G_iconst C (0) dX10_left_10 (by decide) ?_
    refine G_iload_n C dX10_left_11 rfl ?_
    refine G_cSr3 C ok_X10_isIn lk_X10_90 (c_X10_isIn) (Nat.le_of_ble_eq_true rfl) dX10_left_12 ?_
    refine G_if_ne C 21 dX10_left_15 (by decide) (fun h15 => ?_) (fun h15 => ?_)
    · rw [bl_z] at h15
      obtain ⟨hs, hk9⟩ := Decidable.not_not.mp h6
      obtain ⟨j, hj, rfl, tj⟩ := ix_le (by omega) hk9
      have hj8 : j < 120 := by omega
      obtain ⟨i, hi, rfl, ti⟩ := ix_le (n := j) (by omega) (Decidable.not_not.mp h15)
      have hi8 : i < 120 := by omega
      refine G_aload_r C dX10_left_21 rfl ?_
      refine G_iload_n C dX10_left_22 rfl ?_
      refine G_iload_n C dX10_left_23 rfl ?_
      refine G_cVv2 C ok_X10_findDues lk_X10_221 rfl rfl (c_X10_findDues hx hj8) (Nat.le_of_ble_eq_true rfl) dX10_left_24 (fun N hq => ?_)
      obtain ⟨qa, q2, q3⟩ := hq
      obtain ⟨nhc, nhc8, nhl, nhl8, nhb, nhb8, nhw, nhw8, nhv⟩ := hx.ag qa
      refine G_aload_r C dX10_left_27 rfl ?_
      refine G_iload_n C dX10_left_28 rfl ?_
      refine G_aload_r C dX10_left_29 rfl ?_
      refine G_iload_n C dX10_left_30 rfl ?_
      refine G_cVr1 C ok_X10_paysUpTo lk_X10_225 rfl rfl (c_X10_paysUpTo nhb nhb8) (Nat.le_of_ble_eq_true rfl) dX10_left_31 ?_
      rw [mpays_ag qa]
      refine G_cVr2 C ok_X10_leftBy lk_X10_228 rfl rfl (c_X10_leftBy hi8) (Nat.le_of_ble_eq_true rfl) dX10_left_34 ?_
      refine G_ret C dX10_left_37 ⟨?_, qa⟩
      rw [if_pos (by grind), ti, q3 i hi, q2 i hi]
      rfl
    · rw [bl_z] at h15
      refine G_ldc C kc_X10_106 dX10_left_18 ?_
      exact G_ret C dX10_left_20 ⟨by clear C; grind, fun _ _ _ => rfl⟩
set_option maxHeartbeats 4000000 in
set_option maxRecDepth 100000 in
theorem L_X10_oldest {K : Kt} {d : Nat} {M N : Mem} {k : Nat} {s c : Int32} {D : Nat → Int32} {o : Option Nat} {x : Cx} (hk : k < 120) (qa : Agm M N) (q2 : ∀ i, i ≤ k → N 59 i = D i) (q3 : ∀ i, i ≤ k → N 60 i = s_tot D (i + 1)) (C : Cok K x RX10 cX10_oldest 5 (d + 1) (RI (fun v N => v = ixv o ∧ Agm M N))) :
    ∀ (t j : Nat), j + t = k + 1 → o = s_fst (mlf D c) t j → G K x 5 27 [(0, rf K 36), (1, .int s), (2, .int (nI k)), (3, .int c), (4, .int (nI j))] [] N := by
  intro t
  induction t with
  | zero =>
    intro j h1 ho
    refine G_iload C dX10_oldest_27 rfl ?_
    refine G_iload_n C dX10_oldest_29 rfl ?_
    refine G_icmp_gt C 52 dX10_oldest_30 (by decide) (fun h30 => ?_) (fun h30 => ?_)
    · refine G_ldc C kc_X10_115 dX10_oldest_52 ?_
      exact G_ret C dX10_oldest_54 ⟨by rw [ho]; rfl, qa⟩
    · exact absurd (n_leE (N := 300) (by omega) (by omega) (by decide) h30) (by omega)
  | succ t ih =>
    intro j h1 ho
    have hj8 : j < 120 := by omega
    refine G_iload C dX10_oldest_27 rfl ?_
    refine G_iload_n C dX10_oldest_29 rfl ?_
    refine G_icmp_gt C 52 dX10_oldest_30 (by decide) (fun h30 => ?_) (fun h30 => ?_)
    · exact absurd (n_gtE (N := 300) (by omega) (by omega) (by decide) h30) (by omega)
    · refine G_aload_r C dX10_oldest_33 rfl ?_
      refine G_iload C dX10_oldest_34 rfl ?_
      refine G_iload_n C dX10_oldest_36 rfl ?_
      refine G_cVr2 C ok_X10_leftBy lk_X10_228 rfl rfl (c_X10_leftBy hj8) (Nat.le_of_ble_eq_true rfl) dX10_oldest_37 ?_
      rw [q3 j (by omega), q2 j (by omega)]
      refine G_if_le C 46 dX10_oldest_40 (by decide) (fun h40 => ?_) (fun h40 => ?_)
      · refine G_iincN C dX10_oldest_46 (by decide) rfl ?_
        refine G_goto C 27 dX10_oldest_49 (by decide) ?_
        refine G_sub [(0, _), (1, _), (2, _), (3, _), (4, _)] (by repeat (first | refine And.intro rfl ?_ | exact True.intro)) ?_
        exact ih (j + 1) (by omega) (by rw [ho]; simp only [s_fst]; rw [if_neg (by simp only [mlf]; grind)])
      · refine G_iload C dX10_oldest_43 rfl ?_
        exact G_ret C dX10_oldest_45 ⟨by rw [ho]; simp only [s_fst]; rw [if_pos (by simp only [mlf]; grind)]; rfl, qa⟩
set_option maxHeartbeats 4000000 in
set_option maxRecDepth 100000 in
theorem c_X10_oldest {K : Kt} {d : Nat} {M : Mem} {nc nl nb nw : Nat} {s k : Int32} (hx : MS M nc nl nb nw) : Ci K (d + 7) mX10_oldest [rf K 36, .int s, .int k] M (fun r N => r = (if (s = 0 ∨ s = 1) ∧ 0 ≤ k ∧ k ≤ nI nw then ixv (s_fst (mlf (mD M nl nc s k) (mpays M k nb)) (k.toNatClampNeg + 1) 0) else (-2000000001)) ∧ Agm M N) := by
  refine Ci_int RX10 [(0, rf K 36), (1, .int s), (2, .int k)] rfl (by decide) rfl (Nat.le_of_ble_eq_true rfl) rfl (fun x C => ?_)
  obtain ⟨hc, hc8, hl, hl8, hb, hb8, hw, hw8, hv⟩ := id hx
  refine G_aload_r C dX10_oldest_0 rfl ?_
  refine G_iload_n C dX10_oldest_1 rfl ?_
  refine G_iload_n C dX10_oldest_2 rfl ?_
  refine G_cVr2 C ok_X10_isAsked lk_X10_218 rfl rfl (c_X10_isAsked) (Nat.le_of_ble_eq_true rfl) dX10_oldest_3 ?_
  refine G_if_ne C 12 dX10_oldest_6 (by decide) (fun h6 => ?_) (fun h6 => ?_)
  · rw [bl_z] at h6
    rw [hw] at h6
    obtain ⟨hs, hk9⟩ := Decidable.not_not.mp h6
    obtain ⟨j, hj, rfl, tj⟩ := ix_le (by omega) hk9
    have hj8 : j < 120 := by omega
    refine G_aload_r C dX10_oldest_12 rfl ?_
    refine G_iload_n C dX10_oldest_13 rfl ?_
    refine G_iload_n C dX10_oldest_14 rfl ?_
    refine G_cVv2 C ok_X10_findDues lk_X10_221 rfl rfl (c_X10_findDues hx hj8) (Nat.le_of_ble_eq_true rfl) dX10_oldest_15 (fun N hq => ?_)
    obtain ⟨qa, q2, q3⟩ := hq
    obtain ⟨nhc, nhc8, nhl, nhl8, nhb, nhb8, nhw, nhw8, nhv⟩ := hx.ag qa
    refine G_aload_r C dX10_oldest_18 rfl ?_
    refine G_iload_n C dX10_oldest_19 rfl ?_
    refine G_cVr1 C ok_X10_paysUpTo lk_X10_225 rfl rfl (c_X10_paysUpTo nhb nhb8) (Nat.le_of_ble_eq_true rfl) dX10_oldest_20 ?_
    rw [mpays_ag qa]
    refine G_istore_n C dX10_oldest_23 (by decide) ?_
    refine G_iconst C (nI 0) dX10_oldest_24 (by decide) ?_
    refine G_istore C dX10_oldest_25 (by decide) ?_
    refine G_sub [(0, _), (1, _), (2, _), (3, _), (4, _)] (by repeat (first | refine And.intro rfl ?_ | exact True.intro)) ?_
    rw [if_pos (by grind), tj] at C
    exact L_X10_oldest hj8 qa q2 q3 C (j + 1) 0 (by omega) rfl
  · rw [bl_z] at h6
    rw [hw] at h6
    refine G_ldc C kc_X10_106 dX10_oldest_9 ?_
    exact G_ret C dX10_oldest_11 ⟨by clear C; grind, fun _ _ _ => rfl⟩
set_option maxHeartbeats 4000000 in
set_option maxRecDepth 100000 in
theorem L1_X10_payer {K : Kt} {d : Nat} {M N : Mem} {n w k : Nat} {s : Int32} {D : Nat → Int32} {x : Cx} {o : Option Nat} (hn : N 36 18 = nI n) (hN : n ≤ 100) (hk : k < 120) (qa : Agm M N) (qk : N 60 k = s_tot D (k + 1)) (C : Cok K x RX10 cX10_payer 6 (d + 1) (RI (fun v N => v = ixv o ∧ Agm M N))) :
    ∀ (t j : Nat) (a : Int32), j + t = n → (∀ q a', s_inn (N 52) (N 53) (payb (N 36 22) (N 54)) (s_tot D (k + 1)) (nI w) t j a = (some q, a') → o = some q) → (∀ a', s_inn (N 52) (N 53) (payb (N 36 22) (N 54)) (s_tot D (k + 1)) (nI w) t j a = (none, a') → G K x 6 115 [(0, rf K 36), (1, .int (nI k)), (2, .int s), (3, .int a'), (4, .int (nI w))] [] N) → G K x 6 56 [(0, rf K 36), (1, .int (nI k)), (2, .int s), (3, .int a), (4, .int (nI w)), (5, .int (nI j))] [] N := by
  intro t
  induction t with
  | zero =>
    intro j a h1 h2 h3
    have hj : j ≤ 100 := by omega
    refine G_iload C dX10_payer_56 rfl ?_
    refine G_aload_r C dX10_payer_58 rfl ?_
    refine G_getI C fo_X10_212 rfl rfl dX10_payer_59 ?_
    refine G_icmp_ge C 115 dX10_payer_62 (by decide) (fun h62 => ?_) (fun h62 => ?_)
    · refine G_sub [(0, _), (1, _), (2, _), (3, _), (4, _)] (by repeat (first | refine And.intro rfl ?_ | exact True.intro)) ?_
      exact h3 a rfl
    · exact absurd (n_gt hn hN hj (by decide) h62) (by omega)
  | succ t ih =>
    intro j a h1 h2 h3
    have hj : j ≤ 100 := by omega
    have hj8 : j < 100 := by omega
    refine G_iload C dX10_payer_56 rfl ?_
    refine G_aload_r C dX10_payer_58 rfl ?_
    refine G_getI C fo_X10_212 rfl rfl dX10_payer_59 ?_
    refine G_icmp_ge C 115 dX10_payer_62 (by decide) (fun h62 => ?_) (fun h62 => ?_)
    · exact absurd (n_le hn hN hj (by decide) h62) (by omega)
    · refine G_aload_r C dX10_payer_65 rfl ?_
      refine G_getR C fo_X10_56 rfl rfl dX10_payer_66 ?_
      refine G_iload C dX10_payer_69 rfl ?_
      refine G_ialdN C rfl (by assumption) (by decide) dX10_payer_71 ?_
      refine G_iload C dX10_payer_72 rfl ?_
      refine G_icmp_ne C 109 dX10_payer_74 (by decide) (fun h74 => ?_) (fun h74 => ?_)
      · refine G_iincN C dX10_payer_109 (by decide) rfl ?_
        refine G_goto C 56 dX10_payer_112 (by decide) ?_
        refine G_sub [(0, _), (1, _), (2, _), (3, _), (4, _), (5, _)] (by repeat (first | refine And.intro rfl ?_ | exact True.intro)) ?_
        exact ih (j + 1) _ (by omega) (fun q a2 hq => h2 q a2 (by simp only [s_inn]; rw [if_neg (by grind)]; exact hq)) (fun a2 hq => h3 a2 (by simp only [s_inn]; rw [if_neg (by grind)]; exact hq))
      · refine G_aload_r C dX10_payer_77 rfl ?_
        refine G_iload C dX10_payer_78 rfl ?_
        refine G_cVr1 C ok_X10_isPay lk_X10_215 rfl rfl (c_X10_isPay hj8) (Nat.le_of_ble_eq_true rfl) dX10_payer_80 ?_
        refine G_if_eq C 109 dX10_payer_83 (by decide) (fun h83 => ?_) (fun h83 => ?_)
        · rw [bl_z] at h83
          refine G_iincN C dX10_payer_109 (by decide) rfl ?_
          refine G_goto C 56 dX10_payer_112 (by decide) ?_
          refine G_sub [(0, _), (1, _), (2, _), (3, _), (4, _), (5, _)] (by repeat (first | refine And.intro rfl ?_ | exact True.intro)) ?_
          exact ih (j + 1) _ (by omega) (fun q a2 hq => h2 q a2 (by simp only [s_inn]; rw [if_neg (by grind)]; exact hq)) (fun a2 hq => h3 a2 (by simp only [s_inn]; rw [if_neg (by grind)]; exact hq))
        · rw [bl_z] at h83
          refine G_iload_n C dX10_payer_86 rfl ?_
          refine G_aload_r C dX10_payer_87 rfl ?_
          refine G_getR C fo_X10_59 rfl rfl dX10_payer_88 ?_
          refine G_iload C dX10_payer_91 rfl ?_
          refine G_ialdN C rfl (by assumption) (by decide) dX10_payer_93 ?_
          refine G_iadd C dX10_payer_94 ?_
          refine G_istore_n C dX10_payer_95 (by decide) ?_
          refine G_iload_n C dX10_payer_96 rfl ?_
          refine G_aload_r C dX10_payer_97 rfl ?_
          refine G_getR C fo_X10_84 rfl rfl dX10_payer_98 ?_
          refine G_iload_n C dX10_payer_101 rfl ?_
          refine G_ialdN C rfl (by assumption) (by decide) dX10_payer_102 ?_
          rw [qk]
          refine G_icmp_lt C 109 dX10_payer_103 (by decide) (fun h103 => ?_) (fun h103 => ?_)
          · refine G_iincN C dX10_payer_109 (by decide) rfl ?_
            refine G_goto C 56 dX10_payer_112 (by decide) ?_
            refine G_sub [(0, _), (1, _), (2, _), (3, _), (4, _), (5, _)] (by repeat (first | refine And.intro rfl ?_ | exact True.intro)) ?_
            exact ih (j + 1) _ (by omega) (fun q a2 hq => h2 q a2 (by simp only [s_inn]; rw [if_pos (by grind), if_neg (by grind)]; exact hq)) (fun a2 hq => h3 a2 (by simp only [s_inn]; rw [if_pos (by grind), if_neg (by grind)]; exact hq))
          · refine G_iload C dX10_payer_106 rfl ?_
            exact G_ret C dX10_payer_108 ⟨by rw [h2 j _ (by simp only [s_inn]; rw [if_pos (by grind), if_pos (by grind)])]; rfl, qa⟩
set_option maxHeartbeats 4000000 in
set_option maxRecDepth 100000 in
theorem L2_X10_payer {K : Kt} {d : Nat} {M N : Mem} {n k nw : Nat} {s : Int32} {D : Nat → Int32} {x : Cx} {o : Option Nat} (hn : N 36 18 = nI n) (hN : n ≤ 100) (hk : k < 120) (hw : N 36 0 = nI nw) (hw8 : nw < 120) (qa : Agm M N) (qk : N 60 k = s_tot D (k + 1)) (C : Cok K x RX10 cX10_payer 6 (d + 1) (RI (fun v N => v = ixv o ∧ Agm M N))) :
    ∀ (t w : Nat) (a : Int32), w + t = nw + 1 → o = s_out (N 52) (N 53) (payb (N 36 22) (N 54)) (s_tot D (k + 1)) n t w a → G K x 6 44 [(0, rf K 36), (1, .int (nI k)), (2, .int s), (3, .int a), (4, .int (nI w))] [] N := by
  intro t
  induction t with
  | zero =>
    intro w a h1 ho
    refine G_iload C dX10_payer_44 rfl ?_
    refine G_aload_r C dX10_payer_46 rfl ?_
    refine G_getI C fo_X10_94 rfl rfl dX10_payer_47 ?_
    refine G_is (nI nw) hw ?_
    refine G_icmp_gt C 121 dX10_payer_50 (by decide) (fun h50 => ?_) (fun h50 => ?_)
    · refine G_ldc C kc_X10_115 dX10_payer_121 ?_
      exact G_ret C dX10_payer_123 ⟨by rw [ho]; rfl, qa⟩
    · exact absurd (n_leE (N := 300) (by omega) (by omega) (by decide) h50) (by omega)
  | succ t ih =>
    intro w a h1 ho
    refine G_iload C dX10_payer_44 rfl ?_
    refine G_aload_r C dX10_payer_46 rfl ?_
    refine G_getI C fo_X10_94 rfl rfl dX10_payer_47 ?_
    refine G_is (nI nw) hw ?_
    refine G_icmp_gt C 121 dX10_payer_50 (by decide) (fun h50 => ?_) (fun h50 => ?_)
    · exact absurd (n_gtE (N := 300) (by omega) (by omega) (by decide) h50) (by omega)
    · refine G_iconst C (nI 0) dX10_payer_53 (by decide) ?_
      refine G_istore C dX10_payer_54 (by decide) ?_
      refine G_sub [(0, _), (1, _), (2, _), (3, _), (4, _), (5, _)] (by repeat (first | refine And.intro rfl ?_ | exact True.intro)) ?_
      refine L1_X10_payer hn hN hk qa qk C n 0 a (by omega) (fun q a' hq => ?_) (fun a' hq => ?_)
      · rw [ho]; simp only [s_out]; rw [hq]
      · refine G_iincN C dX10_payer_115 (by decide) rfl ?_
        refine G_goto C 44 dX10_payer_118 (by decide) ?_
        refine G_sub [(0, _), (1, _), (2, _), (3, _), (4, _)] (by repeat (first | refine And.intro rfl ?_ | exact True.intro)) ?_
        exact ih (w + 1) a' (by omega) (by rw [ho]; simp only [s_out]; rw [hq])
set_option maxHeartbeats 4000000 in
set_option maxRecDepth 100000 in
theorem c_X10_payer {K : Kt} {d : Nat} {M : Mem} {nc nl nb nw : Nat} {w s : Int32} (hx : MS M nc nl nb nw) : Ci K (d + 7) mX10_payer [rf K 36, .int w, .int s] M (fun r N => r = (if (0 ≤ w ∧ w ≤ nI nw) ∧ (s = 0 ∨ s = 1) then (if mD M nl nc s (nI nw) w.toNatClampNeg = 0 then (-2000000005) else ixv (s_out (M 52) (M 53) (payb (M 36 22) (M 54)) (s_tot (mD M nl nc s (nI nw)) (w.toNatClampNeg + 1)) nb (nw + 1) 0 0)) else (-2000000001)) ∧ Agm M N) := by
  refine Ci_int RX10 [(0, rf K 36), (1, .int w), (2, .int s)] rfl (by decide) rfl (Nat.le_of_ble_eq_true rfl) rfl (fun x C => ?_)
  obtain ⟨hc, hc8, hl, hl8, hb, hb8, hw, hw8, hv⟩ := id hx
  refine G_aload_r C dX10_payer_0 rfl ?_
  refine G_iload_n C dX10_payer_1 rfl ?_
  refine G_cVr1 C ok_X10_isPast lk_X10_123 rfl rfl (c_X10_isPast) (Nat.le_of_ble_eq_true rfl) dX10_payer_2 ?_
  refine G_if_eq C 15 dX10_payer_5 (by decide) (fun h5 => ?_) (fun h5 => ?_)
  · rw [bl_z] at h5
    rw [hw] at h5
    refine G_ldc C kc_X10_106 dX10_payer_15 ?_
    exact G_ret C dX10_payer_17 ⟨by clear C; grind, fun _ _ _ => rfl⟩
  · rw [bl_z] at h5
    rw [hw] at h5
    obtain ⟨j, hj, rfl, tj⟩ := ix_le (by omega) (Decidable.not_not.mp h5)
    have hj8 : j < 120 := by omega
    refine G_iload_n C dX10_payer_8 rfl ?_
    refine G_cSr1 C ok_X10_isSide lk_X10_206 (c_X10_isSide) (Nat.le_of_ble_eq_true rfl) dX10_payer_9 ?_
    refine G_if_ne C 18 dX10_payer_12 (by decide) (fun h12 => ?_) (fun h12 => ?_)
    · rw [bl_z] at h12
      refine G_aload_r C dX10_payer_18 rfl ?_
      refine G_iload_n C dX10_payer_19 rfl ?_
      refine G_aload_r C dX10_payer_20 rfl ?_
      refine G_getI C fo_X10_94 rfl rfl dX10_payer_21 ?_
      refine G_is (nI nw) hw ?_
      refine G_cVv2 C ok_X10_findDues lk_X10_221 rfl rfl (c_X10_findDues hx hw8) (Nat.le_of_ble_eq_true rfl) dX10_payer_24 (fun N hq => ?_)
      obtain ⟨qa, q2, q3⟩ := hq
      obtain ⟨nhc, nhc8, nhl, nhl8, nhb, nhb8, nhw, nhw8, nhv⟩ := hx.ag qa
      refine G_aload_r C dX10_payer_27 rfl ?_
      refine G_getR C fo_X10_81 rfl rfl dX10_payer_28 ?_
      refine G_iload_n C dX10_payer_31 rfl ?_
      refine G_ialdN C rfl (by assumption) (by decide) dX10_payer_32 ?_
      rw [q2 j hj]
      refine G_if_ne C 39 dX10_payer_33 (by decide) (fun h33 => ?_) (fun h33 => ?_)
      · refine G_iconst C (0) dX10_payer_39 (by decide) ?_
        refine G_istore_n C dX10_payer_40 (by decide) ?_
        refine G_iconst C (nI 0) dX10_payer_41 (by decide) ?_
        refine G_istore C dX10_payer_42 (by decide) ?_
        refine G_sub [(0, _), (1, _), (2, _), (3, _), (4, _)] (by repeat (first | refine And.intro rfl ?_ | exact True.intro)) ?_
        rw [if_pos (by grind), tj, if_neg (by exact h33)] at C
        exact L2_X10_payer nhb nhb8 hj8 nhw hw8 qa (q3 j hj) C (nw + 1) 0 0 (by omega) (by rw [qa 52 (by decide) (by decide), qa 53 (by decide) (by decide), qa 54 (by decide) (by decide), qa 36 (by decide) (by decide)]; rfl)
      · refine G_ldc C kc_X10_115 dX10_payer_36 ?_
        refine G_ret C dX10_payer_38 ⟨?_, qa⟩
        rw [if_pos (by grind), tj]
        exact (if_pos h33).symm
    · rw [bl_z] at h12
      refine G_ldc C kc_X10_106 dX10_payer_15 ?_
      exact G_ret C dX10_payer_17 ⟨by clear C; grind, fun _ _ _ => rfl⟩
set_option maxHeartbeats 4000000 in
set_option maxRecDepth 100000 in
theorem L1_X10_interest {K : Kt} {d : Nat} {M N : Mem} {k i : Nat} {s c r a0 : Int32} {D : Nat → Int32} {x : Cx} (hk : k < 120) (hi : i ≤ k) (hi4 : 4 ≤ i) (q2 : ∀ i, i ≤ k → N 59 i = D i) (q3 : ∀ i, i ≤ k → N 60 i = s_tot D (i + 1)) (C : Cok K x RX10 cX10_interest 7 (d + 1) (RI (fun v N => v = r ∧ Agm M N)))
    (hG : G K x 7 75 [(0, rf K 36), (1, .int s), (2, .int (nI k)), (3, .int (a0 + s_tot (fun q => s_rt (N 36 23) (s_lby (s_tot D (q + 1)) (D q) c)) (i - 4 + 1))), (4, .int (nI i))] [] N) :
    ∀ (t j : Nat) (b : Int32), i < j + 3 + t → j + 3 ≤ i → b = a0 + s_tot (fun q => s_rt (N 36 23) (s_lby (s_tot D (q + 1)) (D q) c)) j → G K x 7 40 [(0, rf K 36), (1, .int s), (2, .int (nI k)), (3, .int b), (4, .int (nI i)), (5, .int c), (6, .int (nI j))] [] N := by
  intro t
  induction t with
  | zero =>
    intro j b h1 h2 hb
    refine G_iload C dX10_interest_40 rfl ?_
    refine G_iconst C (nI 4) dX10_interest_42 (by decide) ?_
    refine G_iadd C dX10_interest_43 ?_
    rw [nI_add]
    refine G_iload C dX10_interest_44 rfl ?_
    refine G_icmp_gt C 75 dX10_interest_46 (by decide) (fun h46 => ?_) (fun h46 => ?_)
    · refine G_sub [(0, _), (1, _), (2, _), (3, _), (4, _)] (by repeat (first | refine And.intro rfl ?_ | exact True.intro)) ?_
      rw [hb, show j = i - 4 + 1 by omega]
      exact hG
    · exact absurd (n_leE (N := 300) (by omega) (by omega) (by decide) h46) (by omega)
  | succ t ih =>
    intro j b h1 h2 hb
    refine G_iload C dX10_interest_40 rfl ?_
    refine G_iconst C (nI 4) dX10_interest_42 (by decide) ?_
    refine G_iadd C dX10_interest_43 ?_
    rw [nI_add]
    refine G_iload C dX10_interest_44 rfl ?_
    refine G_icmp_gt C 75 dX10_interest_46 (by decide) (fun h46 => ?_) (fun h46 => ?_)
    · have hE : i < j + 4 := n_gtE (N := 300) (by omega) (by omega) (by decide) h46
      refine G_sub [(0, _), (1, _), (2, _), (3, _), (4, _)] (by repeat (first | refine And.intro rfl ?_ | exact True.intro)) ?_
      rw [hb, show j = i - 4 + 1 by omega]
      exact hG
    · have hlt : j + 4 ≤ i := n_leE (N := 300) (by omega) (by omega) (by decide) h46
      refine G_iload_n C dX10_interest_49 rfl ?_
      refine G_aload_r C dX10_interest_50 rfl ?_
      refine G_iload C dX10_interest_51 rfl ?_
      refine G_iload C dX10_interest_53 rfl ?_
      refine G_cVr2 C ok_X10_leftBy lk_X10_228 rfl rfl (c_X10_leftBy (by omega)) (Nat.le_of_ble_eq_true rfl) dX10_interest_55 ?_
      rw [q3 j (by omega), q2 j (by omega)]
      refine G_aload_r C dX10_interest_58 rfl ?_
      refine G_getI C fo_X10_231 rfl rfl dX10_interest_59 ?_
      refine G_imul C dX10_interest_62 ?_
      refine G_sipush C (10000) dX10_interest_63 (by decide) ?_
      refine G_idiv C dX10_interest_66 (by decide) ?_
      refine G_iadd C dX10_interest_67 ?_
      refine G_istore_n C dX10_interest_68 (by decide) ?_
      refine G_iincN C dX10_interest_69 (by decide) rfl ?_
      refine G_goto C 40 dX10_interest_72 (by decide) ?_
      refine G_sub [(0, _), (1, _), (2, _), (3, _), (4, _), (5, _), (6, _)] (by repeat (first | refine And.intro rfl ?_ | exact True.intro)) ?_
      exact ih (j + 1) _ (by omega) (by omega) (by rw [hb, Int32.add_assoc]; rfl)
set_option maxHeartbeats 4000000 in
set_option maxRecDepth 100000 in
theorem L2_X10_interest {K : Kt} {d : Nat} {M N : Mem} {nc nl nb nw k : Nat} {s r : Int32} {D : Nat → Int32} {x : Cx} (hx : MS M nc nl nb nw) (hk : k < 120) (ho : r = s_ints (mg M D (M 36 23) nb) (k - 3)) (qa : Agm M N) (q2 : ∀ i, i ≤ k → N 59 i = D i) (q3 : ∀ i, i ≤ k → N 60 i = s_tot D (i + 1)) (C : Cok K x RX10 cX10_interest 7 (d + 2) (RI (fun v N => v = r ∧ Agm M N))) :
    ∀ (t j : Nat) (b : Int32), k < j + 3 + t → j ≤ k - 3 → b = s_ints (mg M D (M 36 23) nb) j → G K x 7 23 [(0, rf K 36), (1, .int s), (2, .int (nI k)), (3, .int b), (4, .int (nI (4 + j)))] [] N := by
  obtain ⟨nhc, nhc8, nhl, nhl8, nhb, nhb8, nhw, nhw8, nhv⟩ := hx.ag qa
  intro t
  induction t with
  | zero =>
    intro j b h1 h2 hb
    refine G_iload C dX10_interest_23 rfl ?_
    refine G_iload_n C dX10_interest_25 rfl ?_
    refine G_icmp_gt C 81 dX10_interest_26 (by decide) (fun h26 => ?_) (fun h26 => ?_)
    · refine G_iload_n C dX10_interest_81 rfl ?_
      exact G_ret C dX10_interest_82 ⟨by rw [ho, hb, show j = k - 3 by omega], qa⟩
    · exact absurd (n_leE (N := 300) (by omega) (by omega) (by decide) h26) (by omega)
  | succ t ih =>
    intro j b h1 h2 hb
    refine G_iload C dX10_interest_23 rfl ?_
    refine G_iload_n C dX10_interest_25 rfl ?_
    refine G_icmp_gt C 81 dX10_interest_26 (by decide) (fun h26 => ?_) (fun h26 => ?_)
    · have hE : k < 4 + j := n_gtE (N := 300) (by omega) (by omega) (by decide) h26
      refine G_iload_n C dX10_interest_81 rfl ?_
      exact G_ret C dX10_interest_82 ⟨by rw [ho, hb, show j = k - 3 by omega], qa⟩
    · have hlt : 4 + j ≤ k := n_leE (N := 300) (by omega) (by omega) (by decide) h26
      refine G_aload_r C dX10_interest_29 rfl ?_
      refine G_iload C dX10_interest_30 rfl ?_
      refine G_cVr1 C ok_X10_paysUpTo lk_X10_225 rfl rfl (c_X10_paysUpTo nhb nhb8) (Nat.le_of_ble_eq_true rfl) dX10_interest_32 ?_
      rw [mpays_ag qa]
      refine G_istore C dX10_interest_35 (by decide) ?_
      refine G_iconst C (nI 0) dX10_interest_37 (by decide) ?_
      refine G_istore C dX10_interest_38 (by decide) ?_
      refine G_sub [(0, _), (1, _), (2, _), (3, _), (4, _), (5, _), (6, _)] (by repeat (first | refine And.intro rfl ?_ | exact True.intro)) ?_
      refine L1_X10_interest hk hlt (by omega) q2 q3 C ?_ (4 + j + 1) 0 b (by omega) (by omega) (Int32.add_zero b).symm
      refine G_iincN C dX10_interest_75 (by decide) rfl ?_
      refine G_goto C 23 dX10_interest_78 (by decide) ?_
      refine G_sub [(0, _), (1, _), (2, _), (3, _), (4, _)] (by repeat (first | refine And.intro rfl ?_ | exact True.intro)) ?_
      refine ih (j + 1) _ (by omega) (by omega) ?_
      rw [hb, qa 36 (by decide) (by decide)]
      rfl
set_option maxHeartbeats 4000000 in
set_option maxRecDepth 100000 in
theorem c_X10_interest {K : Kt} {d : Nat} {M : Mem} {nc nl nb nw : Nat} {s k : Int32} (hx : MS M nc nl nb nw) : Ci K (d + 7) mX10_interest [rf K 36, .int s, .int k] M (fun r N => r = (if (s = 0 ∨ s = 1) ∧ 0 ≤ k ∧ k ≤ nI nw then s_ints (mg M (mD M nl nc s k) (M 36 23) nb) (k.toNatClampNeg - 3) else (-2000000001)) ∧ Agm M N) := by
  refine Ci_int RX10 [(0, rf K 36), (1, .int s), (2, .int k)] rfl (by decide) rfl (Nat.le_of_ble_eq_true rfl) rfl (fun x C => ?_)
  obtain ⟨hc, hc8, hl, hl8, hb, hb8, hw, hw8, hv⟩ := id hx
  refine G_aload_r C dX10_interest_0 rfl ?_
  refine G_iload_n C dX10_interest_1 rfl ?_
  refine G_iload_n C dX10_interest_2 rfl ?_
  refine G_cVr2 C ok_X10_isAsked lk_X10_218 rfl rfl (c_X10_isAsked) (Nat.le_of_ble_eq_true rfl) dX10_interest_3 ?_
  refine G_if_ne C 12 dX10_interest_6 (by decide) (fun h6 => ?_) (fun h6 => ?_)
  · rw [bl_z] at h6
    rw [hw] at h6
    obtain ⟨hs, hk9⟩ := Decidable.not_not.mp h6
    obtain ⟨j, hj, rfl, tj⟩ := ix_le (by omega) hk9
    have hj8 : j < 120 := by omega
    refine G_aload_r C dX10_interest_12 rfl ?_
    refine G_iload_n C dX10_interest_13 rfl ?_
    refine G_iload_n C dX10_interest_14 rfl ?_
    refine G_cVv2 C ok_X10_findDues lk_X10_221 rfl rfl (c_X10_findDues hx hj8) (Nat.le_of_ble_eq_true rfl) dX10_interest_15 (fun N hq => ?_)
    obtain ⟨qa, q2, q3⟩ := hq
    obtain ⟨nhc, nhc8, nhl, nhl8, nhb, nhb8, nhw, nhw8, nhv⟩ := hx.ag qa
    refine G_iconst C (0) dX10_interest_18 (by decide) ?_
    refine G_istore_n C dX10_interest_19 (by decide) ?_
    refine G_iconst C (nI 4) dX10_interest_20 (by decide) ?_
    refine G_istore C dX10_interest_21 (by decide) ?_
    refine G_sub [(0, _), (1, _), (2, _), (3, _), (4, _)] (by repeat (first | refine And.intro rfl ?_ | exact True.intro)) ?_
    exact L2_X10_interest (D := mD M nl nc s (nI j)) hx hj8 (by rw [if_pos (by grind), tj]) qa q2 q3 C (j + 1) 0 0 (by omega) (by omega) rfl
  · rw [bl_z] at h6
    rw [hw] at h6
    refine G_ldc C kc_X10_106 dX10_interest_9 ?_
    exact G_ret C dX10_interest_11 ⟨by clear C; grind, fun _ _ _ => rfl⟩
