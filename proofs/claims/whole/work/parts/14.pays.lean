def s_pays (wk co mk : Nat → Int32) (set w : Int32) (n : Nat) : Int32 := s_sum (fun i => decide (wk i ≤ w) && payb set mk i) co n
theorem s_pays_t {wk co mk : Nat → Int32} {set w : Int32} {n : Nat} (h : wk n ≤ w) (h2 : payb set mk n = true) : s_pays wk co mk set w n + co n = s_pays wk co mk set w (n + 1) := (s_sum_t (by simp [h, h2])).symm
theorem s_pays_f {wk co mk : Nat → Int32} {set w : Int32} {n : Nat} (h : ¬ (wk n ≤ w ∧ payb set mk n = true)) : s_pays wk co mk set w n = s_pays wk co mk set w (n + 1) := (s_sum_f (by simp; intro h1; cases hp : payb set mk n with | false => rfl | true => exact absurd ⟨h1, hp⟩ h)).symm
def xpays (M : Mem) (w : Int32) (n : Nat) : Int32 := s_pays (M 29) (M 30) (M 31) (M 28 4) w n
def mpays (M : Mem) (w : Int32) (n : Nat) : Int32 := s_pays (M 52) (M 53) (M 54) (M 36 22) w n
def s_coin (wk co mk : Nat → Int32) (set w : Int32) (g : Bool) (n : Nat) : Int32 := s_sum (fun i => decide (wk i = w) && (payb set mk i == g)) co n
def s_tot (f : Nat → Int32) : Nat → Int32
  | 0 => 0
  | n + 1 => s_tot f n + f n
theorem s_tot_cong {f g : Nat → Int32} : ∀ {n : Nat}, (∀ i, i < n → f i = g i) → s_tot f n = s_tot g n
  | 0, _ => rfl
  | n + 1, h => by
    simp only [s_tot]
    rw [s_tot_cong (n := n) (fun i hi => h i (by omega)), h n (by omega)]
theorem n_gtE {n j N : Nat} (hn : n ≤ N) (hj : j ≤ N) (hN : N < 2 ^ 31) (h : nI n < nI j) : n < j := (nI_ltI (Nat.lt_of_le_of_lt hn hN) (Nat.lt_of_le_of_lt hj hN)).mp h
theorem n_leE {n j N : Nat} (hn : n ≤ N) (hj : j ≤ N) (hN : N < 2 ^ 31) (h : ¬ nI n < nI j) : j ≤ n := by
  rcases Nat.lt_or_ge n j with q | q
  · exact absurd ((nI_ltI (Nat.lt_of_le_of_lt hn hN) (Nat.lt_of_le_of_lt hj hN)).mpr q) h
  · exact q
set_option maxHeartbeats 4000000 in
set_option maxRecDepth 100000 in
theorem L_X1_paysUpTo {K : Kt} {d : Nat} {M : Mem} {n : Nat} {w : Int32} {x : Cx} {o : Int32} (hn : M 28 3 = nI n) (hN : n ≤ 100) (ho : o = xpays M w n) (C : Cok K x RX1 cX1_paysUpTo 4 (d + 1) (RI (fun v N => v = o ∧ N = M))) :
    ∀ (t j : Nat) (b : Int32), n < j + t → j ≤ n → b = xpays M w j → G K x 4 4 [(0, rf K 28), (1, .int w), (2, .int b), (3, .int (nI j))] [] M := by
  intro t
  induction t with
  | zero => intro j b h1 h2; omega
  | succ t ih =>
    intro j b h1 h2 hb
    have hj : j ≤ 100 := by omega
    refine G_iload_n C dX1_paysUpTo_4 rfl ?_
    refine G_aload_r C dX1_paysUpTo_5 rfl ?_
    refine G_getI C fo_X1_25 rfl rfl dX1_paysUpTo_6 ?_
    refine G_icmp_ge C 45 dX1_paysUpTo_9 (by decide) (fun h9 => ?_) (fun h9 => ?_)
    · have hE : j = n := by have := n_le hn hN hj (by decide) h9; omega
      refine G_iload_n C dX1_paysUpTo_45 rfl ?_
      exact G_retR C dX1_paysUpTo_46 (by rw [ho, hb, hE]) rfl
    · have hlt : j < n := n_gt hn hN hj (by decide) h9
      have hj8 : j < 100 := by omega
      refine G_aload_r C dX1_paysUpTo_12 rfl ?_
      refine G_getR C fo_X1_9 rfl rfl dX1_paysUpTo_13 ?_
      refine G_iload_n C dX1_paysUpTo_16 rfl ?_
      refine G_ialdN C rfl (by assumption) (by decide) dX1_paysUpTo_17 ?_
      refine G_iload_n C dX1_paysUpTo_18 rfl ?_
      refine G_icmp_gt C 39 dX1_paysUpTo_19 (by decide) (fun h19 => ?_) (fun h19 => ?_)
      · refine G_iincN C dX1_paysUpTo_39 (by decide) rfl ?_
        refine G_goto C 4 dX1_paysUpTo_42 (by decide) ?_
        refine G_sub [(0, _), (1, _), (2, _), (3, _)] (by repeat (first | refine And.intro rfl ?_ | exact True.intro)) ?_
        exact ih (j + 1) _ (by omega) (by omega) (hb.trans (s_pays_f (by grind)))
      · refine G_aload_r C dX1_paysUpTo_22 rfl ?_
        refine G_iload_n C dX1_paysUpTo_23 rfl ?_
        refine G_cVr1 C ok_X1_isPay lk_X1_28 rfl rfl (c_X1_isPay hj8) (Nat.le_of_ble_eq_true rfl) dX1_paysUpTo_24 ?_
        refine G_if_eq C 39 dX1_paysUpTo_27 (by decide) (fun h27 => ?_) (fun h27 => ?_)
        · rw [bl_z] at h27
          refine G_iincN C dX1_paysUpTo_39 (by decide) rfl ?_
          refine G_goto C 4 dX1_paysUpTo_42 (by decide) ?_
          refine G_sub [(0, _), (1, _), (2, _), (3, _)] (by repeat (first | refine And.intro rfl ?_ | exact True.intro)) ?_
          exact ih (j + 1) _ (by omega) (by omega) (hb.trans (s_pays_f (by grind)))
        · rw [bl_z] at h27
          refine G_iload_n C dX1_paysUpTo_30 rfl ?_
          refine G_aload_r C dX1_paysUpTo_31 rfl ?_
          refine G_getR C fo_X1_15 rfl rfl dX1_paysUpTo_32 ?_
          refine G_iload_n C dX1_paysUpTo_35 rfl ?_
          refine G_ialdN C rfl (by assumption) (by decide) dX1_paysUpTo_36 ?_
          refine G_iadd C dX1_paysUpTo_37 ?_
          refine G_istore_n C dX1_paysUpTo_38 (by decide) ?_
          refine G_iincN C dX1_paysUpTo_39 (by decide) rfl ?_
          refine G_goto C 4 dX1_paysUpTo_42 (by decide) ?_
          refine G_sub [(0, _), (1, _), (2, _), (3, _)] (by repeat (first | refine And.intro rfl ?_ | exact True.intro)) ?_
          exact ih (j + 1) _ (by omega) (by omega) (by rw [hb]; exact s_pays_t (by grind) (by grind))
set_option maxHeartbeats 4000000 in
set_option maxRecDepth 100000 in
theorem c_X1_paysUpTo {K : Kt} {d : Nat} {M : Mem} {n : Nat} {w : Int32} (hn : M 28 3 = nI n) (hN : n ≤ 100) : Ri K (d + 1) mX1_paysUpTo [rf K 28, .int w] M (xpays M w n) M := by
  refine Ri_int RX1 [(0, rf K 28), (1, .int w)] rfl (by decide) rfl (Nat.le_of_ble_eq_true rfl) rfl (fun x C => ?_)
  refine G_iconst C (0) dX1_paysUpTo_0 (by decide) ?_
  refine G_istore_n C dX1_paysUpTo_1 (by decide) ?_
  refine G_iconst C (nI 0) dX1_paysUpTo_2 (by decide) ?_
  refine G_istore_n C dX1_paysUpTo_3 (by decide) ?_
  refine G_sub [(0, _), (1, _), (2, _), (3, _)] (by repeat (first | refine And.intro rfl ?_ | exact True.intro)) ?_
  exact L_X1_paysUpTo hn hN rfl C (n + 1) 0 0 (by omega) (by omega) rfl
set_option maxHeartbeats 4000000 in
set_option maxRecDepth 100000 in
theorem L_X10_paysUpTo {K : Kt} {d : Nat} {M : Mem} {n : Nat} {w : Int32} {x : Cx} {o : Int32} (hn : M 36 18 = nI n) (hN : n ≤ 100) (ho : o = mpays M w n) (C : Cok K x RX10 cX10_paysUpTo 4 (d + 1) (RI (fun v N => v = o ∧ N = M))) :
    ∀ (t j : Nat) (b : Int32), n < j + t → j ≤ n → b = mpays M w j → G K x 4 4 [(0, rf K 36), (1, .int w), (2, .int b), (3, .int (nI j))] [] M := by
  intro t
  induction t with
  | zero => intro j b h1 h2; omega
  | succ t ih =>
    intro j b h1 h2 hb
    have hj : j ≤ 100 := by omega
    refine G_iload_n C dX10_paysUpTo_4 rfl ?_
    refine G_aload_r C dX10_paysUpTo_5 rfl ?_
    refine G_getI C fo_X10_212 rfl rfl dX10_paysUpTo_6 ?_
    refine G_icmp_ge C 49 dX10_paysUpTo_9 (by decide) (fun h9 => ?_) (fun h9 => ?_)
    · have hE : j = n := by have := n_le hn hN hj (by decide) h9; omega
      refine G_iload_n C dX10_paysUpTo_49 rfl ?_
      exact G_retR C dX10_paysUpTo_50 (by rw [ho, hb, hE]) rfl
    · have hlt : j < n := n_gt hn hN hj (by decide) h9
      have hj8 : j < 100 := by omega
      refine G_iload_n C dX10_paysUpTo_12 rfl ?_
      refine G_aload_r C dX10_paysUpTo_13 rfl ?_
      refine G_getR C fo_X10_56 rfl rfl dX10_paysUpTo_14 ?_
      refine G_iload_n C dX10_paysUpTo_17 rfl ?_
      refine G_ialdN C rfl (by assumption) (by decide) dX10_paysUpTo_18 ?_
      refine G_iload_n C dX10_paysUpTo_19 rfl ?_
      refine G_icmp_gt C 40 dX10_paysUpTo_20 (by decide) (fun h20 => ?_) (fun h20 => ?_)
      · refine G_iconst C (0) dX10_paysUpTo_40 (by decide) ?_
        refine G_iadd C dX10_paysUpTo_41 ?_
        refine G_istore_n C dX10_paysUpTo_42 (by decide) ?_
        refine G_iincN C dX10_paysUpTo_43 (by decide) rfl ?_
        refine G_goto C 4 dX10_paysUpTo_46 (by decide) ?_
        refine G_sub [(0, _), (1, _), (2, _), (3, _)] (by repeat (first | refine And.intro rfl ?_ | exact True.intro)) ?_
        exact ih (j + 1) _ (by omega) (by omega) ((Int32.add_zero b).trans (hb.trans (s_pays_f (by grind))))
      · refine G_aload_r C dX10_paysUpTo_23 rfl ?_
        refine G_iload_n C dX10_paysUpTo_24 rfl ?_
        refine G_cVr1 C ok_X10_isPay lk_X10_215 rfl rfl (c_X10_isPay hj8) (Nat.le_of_ble_eq_true rfl) dX10_paysUpTo_25 ?_
        refine G_if_eq C 40 dX10_paysUpTo_28 (by decide) (fun h28 => ?_) (fun h28 => ?_)
        · rw [bl_z] at h28
          refine G_iconst C (0) dX10_paysUpTo_40 (by decide) ?_
          refine G_iadd C dX10_paysUpTo_41 ?_
          refine G_istore_n C dX10_paysUpTo_42 (by decide) ?_
          refine G_iincN C dX10_paysUpTo_43 (by decide) rfl ?_
          refine G_goto C 4 dX10_paysUpTo_46 (by decide) ?_
          refine G_sub [(0, _), (1, _), (2, _), (3, _)] (by repeat (first | refine And.intro rfl ?_ | exact True.intro)) ?_
          exact ih (j + 1) _ (by omega) (by omega) ((Int32.add_zero b).trans (hb.trans (s_pays_f (by grind))))
        · rw [bl_z] at h28
          refine G_aload_r C dX10_paysUpTo_31 rfl ?_
          refine G_getR C fo_X10_59 rfl rfl dX10_paysUpTo_32 ?_
          refine G_iload_n C dX10_paysUpTo_35 rfl ?_
          refine G_ialdN C rfl (by assumption) (by decide) dX10_paysUpTo_36 ?_
          refine G_goto C 41 dX10_paysUpTo_37 (by decide) ?_
          refine G_iadd C dX10_paysUpTo_41 ?_
          refine G_istore_n C dX10_paysUpTo_42 (by decide) ?_
          refine G_iincN C dX10_paysUpTo_43 (by decide) rfl ?_
          refine G_goto C 4 dX10_paysUpTo_46 (by decide) ?_
          refine G_sub [(0, _), (1, _), (2, _), (3, _)] (by repeat (first | refine And.intro rfl ?_ | exact True.intro)) ?_
          exact ih (j + 1) _ (by omega) (by omega) (by rw [hb]; exact s_pays_t (by grind) (by grind))
set_option maxHeartbeats 4000000 in
set_option maxRecDepth 100000 in
theorem c_X10_paysUpTo {K : Kt} {d : Nat} {M : Mem} {n : Nat} {w : Int32} (hn : M 36 18 = nI n) (hN : n ≤ 100) : Ri K (d + 1) mX10_paysUpTo [rf K 36, .int w] M (mpays M w n) M := by
  refine Ri_int RX10 [(0, rf K 36), (1, .int w)] rfl (by decide) rfl (Nat.le_of_ble_eq_true rfl) rfl (fun x C => ?_)
  refine G_iconst C (0) dX10_paysUpTo_0 (by decide) ?_
  refine G_istore_n C dX10_paysUpTo_1 (by decide) ?_
  refine G_iconst C (nI 0) dX10_paysUpTo_2 (by decide) ?_
  refine G_istore_n C dX10_paysUpTo_3 (by decide) ?_
  refine G_sub [(0, _), (1, _), (2, _), (3, _)] (by repeat (first | refine And.intro rfl ?_ | exact True.intro)) ?_
  exact L_X10_paysUpTo hn hN rfl C (n + 1) 0 0 (by omega) (by omega) rfl
set_option maxHeartbeats 4000000 in
set_option maxRecDepth 100000 in
theorem L_X1_coinsIn {K : Kt} {d : Nat} {M : Mem} {n : Nat} {w : Int32} {g : Bool} {x : Cx} {o : Int32} (hn : M 28 3 = nI n) (hN : n ≤ 100) (ho : o = s_coin (M 29) (M 30) (M 31) (M 28 4) w g n) (C : Cok K x RX1 cX1_coinsIn 5 (d + 1) (RI (fun v N => v = o ∧ N = M))) :
    ∀ (t j : Nat) (b : Int32), n < j + t → j ≤ n → b = s_coin (M 29) (M 30) (M 31) (M 28 4) w g j → G K x 5 5 [(0, rf K 28), (1, .int w), (2, .int (bl (g = true))), (3, .int b), (4, .int (nI j))] [] M := by
  intro t
  induction t with
  | zero => intro j b h1 h2; omega
  | succ t ih =>
    intro j b h1 h2 hb
    have hj : j ≤ 100 := by omega
    refine G_iload C dX1_coinsIn_5 rfl ?_
    refine G_aload_r C dX1_coinsIn_7 rfl ?_
    refine G_getI C fo_X1_25 rfl rfl dX1_coinsIn_8 ?_
    refine G_icmp_ge C 51 dX1_coinsIn_11 (by decide) (fun h11 => ?_) (fun h11 => ?_)
    · have hE : j = n := by have := n_le hn hN hj (by decide) h11; omega
      refine G_iload_n C dX1_coinsIn_51 rfl ?_
      exact G_retR C dX1_coinsIn_52 (by rw [ho, hb, hE]) rfl
    · have hlt : j < n := n_gt hn hN hj (by decide) h11
      have hj8 : j < 100 := by omega
      refine G_aload_r C dX1_coinsIn_14 rfl ?_
      refine G_getR C fo_X1_9 rfl rfl dX1_coinsIn_15 ?_
      refine G_iload C dX1_coinsIn_18 rfl ?_
      refine G_ialdN C rfl (by assumption) (by decide) dX1_coinsIn_20 ?_
      refine G_iload_n C dX1_coinsIn_21 rfl ?_
      refine G_icmp_ne C 45 dX1_coinsIn_22 (by decide) (fun h22 => ?_) (fun h22 => ?_)
      · refine G_iincN C dX1_coinsIn_45 (by decide) rfl ?_
        refine G_goto C 5 dX1_coinsIn_48 (by decide) ?_
        refine G_sub [(0, _), (1, _), (2, _), (3, _), (4, _)] (by repeat (first | refine And.intro rfl ?_ | exact True.intro)) ?_
        exact ih (j + 1) _ (by omega) (by omega) (hb.trans (s_sum_f (by cases g <;> cases hp : payb (M 28 4) (M 31) j <;> simp_all [bl])).symm)
      · refine G_aload_r C dX1_coinsIn_25 rfl ?_
        refine G_iload C dX1_coinsIn_26 rfl ?_
        refine G_cVr1 C ok_X1_isPay lk_X1_28 rfl rfl (c_X1_isPay hj8) (Nat.le_of_ble_eq_true rfl) dX1_coinsIn_28 ?_
        refine G_iload_n C dX1_coinsIn_31 rfl ?_
        refine G_icmp_ne C 45 dX1_coinsIn_32 (by decide) (fun h32 => ?_) (fun h32 => ?_)
        · refine G_iincN C dX1_coinsIn_45 (by decide) rfl ?_
          refine G_goto C 5 dX1_coinsIn_48 (by decide) ?_
          refine G_sub [(0, _), (1, _), (2, _), (3, _), (4, _)] (by repeat (first | refine And.intro rfl ?_ | exact True.intro)) ?_
          exact ih (j + 1) _ (by omega) (by omega) (hb.trans (s_sum_f (by cases g <;> cases hp : payb (M 28 4) (M 31) j <;> simp_all [bl])).symm)
        · refine G_iload_n C dX1_coinsIn_35 rfl ?_
          refine G_aload_r C dX1_coinsIn_36 rfl ?_
          refine G_getR C fo_X1_15 rfl rfl dX1_coinsIn_37 ?_
          refine G_iload C dX1_coinsIn_40 rfl ?_
          refine G_ialdN C rfl (by assumption) (by decide) dX1_coinsIn_42 ?_
          refine G_iadd C dX1_coinsIn_43 ?_
          refine G_istore_n C dX1_coinsIn_44 (by decide) ?_
          refine G_iincN C dX1_coinsIn_45 (by decide) rfl ?_
          refine G_goto C 5 dX1_coinsIn_48 (by decide) ?_
          refine G_sub [(0, _), (1, _), (2, _), (3, _), (4, _)] (by repeat (first | refine And.intro rfl ?_ | exact True.intro)) ?_
          exact ih (j + 1) _ (by omega) (by omega) ((by rw [hb]; rfl : _ = _).trans (s_sum_t (by cases g <;> cases hp : payb (M 28 4) (M 31) j <;> simp_all [bl])).symm)
set_option maxHeartbeats 4000000 in
set_option maxRecDepth 100000 in
theorem c_X1_coinsIn {K : Kt} {d : Nat} {M : Mem} {n : Nat} {w : Int32} {g : Bool} (hn : M 28 3 = nI n) (hN : n ≤ 100) : Ri K (d + 1) mX1_coinsIn [rf K 28, .int w, .int (bl (g = true))] M (s_coin (M 29) (M 30) (M 31) (M 28 4) w g n) M := by
  refine Ri_int RX1 [(0, rf K 28), (1, .int w), (2, .int (bl (g = true)))] rfl (by decide) rfl (Nat.le_of_ble_eq_true rfl) rfl (fun x C => ?_)
  refine G_iconst C (0) dX1_coinsIn_0 (by decide) ?_
  refine G_istore_n C dX1_coinsIn_1 (by decide) ?_
  refine G_iconst C (nI 0) dX1_coinsIn_2 (by decide) ?_
  refine G_istore C dX1_coinsIn_3 (by decide) ?_
  refine G_sub [(0, _), (1, _), (2, _), (3, _), (4, _)] (by repeat (first | refine And.intro rfl ?_ | exact True.intro)) ?_
  exact L_X1_coinsIn hn hN rfl C (n + 1) 0 0 (by omega) (by omega) rfl
def s_part (r du : Int32) : Int32 := if du < r then du else r
def s_rest (du : Nat → Int32) (c : Int32) : Nat → Int32
  | 0 => c
  | n + 1 => s_rest du c n - s_part (s_rest du c n) (du n)
def s_lft (du : Nat → Int32) (c : Int32) (n : Nat) : Int32 := du n - s_part (s_rest du c n) (du n)
def Pay (M : Mem) (c : Int32) (n : Nat) (N : Mem) : Prop := (∀ i, i ≠ 32 → i ≠ 34 → N i = M i) ∧ (∀ b, b ≠ 3 → N 32 b = M 32 b) ∧ N 32 3 = s_rest (M 33) c n ∧ ∀ i, i < n → N 34 i = s_lft (M 33) c i
theorem Pay.step {M N : Mem} {c : Int32} {j : Nat} (h : Pay M c j N) {a b : Int32} (ha : a = s_lft (M 33) c j) (hb : b = s_rest (M 33) c (j + 1)) : Pay M c (j + 1) (wr (wr N 34 j a) 32 3 b) := by
  obtain ⟨h1, h2, h3, h4⟩ := h
  refine ⟨fun i hi1 hi2 => ?_, fun q hq => ?_, ?_, fun i hi => ?_⟩
  · rw [wr_c hi1, wr_c hi2]; exact h1 i hi1 hi2
  · rw [wr_f hq, wr_c (by decide)]; exact h2 q hq
  · rw [wr_s]; exact hb
  · rw [wr_c (by decide)]
    rcases Nat.lt_or_ge i j with q | q
    · rw [wr_f (by omega)]; exact h4 i q
    · have e : i = j := by omega
      subst e
      rw [wr_s]; exact ha
set_option maxHeartbeats 4000000 in
set_option maxRecDepth 100000 in
theorem L_X0_payOldestFirst {K : Kt} {d : Nat} {M : Mem} {n : Nat} {c : Int32} {x : Cx} (hn : M 32 2 = nI n) (hN : n ≤ 120) (C : Cok K x RX0 cX0_payOldestFirst 4 (d + 1) (RV (Pay M c n))) :
    ∀ (t j : Nat) (N : Mem), n < j + t → j ≤ n → Pay M c j N → G K x 4 7 [(0, rf K 32), (2, .int (nI j))] [] N := by
  intro t
  induction t with
  | zero => intro j N h1 h2; omega
  | succ t ih =>
    intro j N h1 h2 hb
    have hj : j ≤ 120 := by omega
    have hn2 : N 32 2 = nI n := (hb.2.1 2 (by decide)).trans hn
    have e33 : N 33 = M 33 := hb.1 33 (by decide) (by decide)
    refine G_iload_n C dX0_payOldestFirst_7 rfl ?_
    refine G_aload_r C dX0_payOldestFirst_8 rfl ?_
    refine G_getI C fo_X0_22 rfl rfl dX0_payOldestFirst_9 ?_
    refine G_icmp_ge C 59 dX0_payOldestFirst_12 (by decide) (fun h12 => ?_) (fun h12 => ?_)
    · have hE : j = n := by have := n_le hn2 hN hj (by decide) h12; omega
      exact G_vret C dX0_payOldestFirst_59 (by rw [hE] at hb; exact hb)
    · have hlt : j < n := n_gt hn2 hN hj (by decide) h12
      have hj8 : j < 120 := by omega
      refine G_aload_r C dX0_payOldestFirst_15 rfl ?_
      refine G_getI C fo_X0_18 rfl rfl dX0_payOldestFirst_16 ?_
      refine G_aload_r C dX0_payOldestFirst_19 rfl ?_
      refine G_getR C fo_X0_9 rfl rfl dX0_payOldestFirst_20 ?_
      refine G_iload_n C dX0_payOldestFirst_23 rfl ?_
      refine G_ialdN C rfl (by assumption) (by decide) dX0_payOldestFirst_24 ?_
      refine G_mmin C lk_X0_25 ms_min mi_math mc_min (Nat.le_of_ble_eq_true rfl) dX0_payOldestFirst_25 ?_
      refine G_istore_n C dX0_payOldestFirst_28 (by decide) ?_
      refine G_aload_r C dX0_payOldestFirst_29 rfl ?_
      refine G_getR C fo_X0_15 rfl rfl dX0_payOldestFirst_30 ?_
      refine G_iload_n C dX0_payOldestFirst_33 rfl ?_
      refine G_aload_r C dX0_payOldestFirst_34 rfl ?_
      refine G_getR C fo_X0_9 rfl rfl dX0_payOldestFirst_35 ?_
      refine G_iload_n C dX0_payOldestFirst_38 rfl ?_
      refine G_ialdN C rfl (by assumption) (by decide) dX0_payOldestFirst_39 ?_
      refine G_iload_n C dX0_payOldestFirst_40 rfl ?_
      refine G_isub C dX0_payOldestFirst_41 ?_
      refine G_iastN C rfl (by assumption) (by decide) dX0_payOldestFirst_42 ?_
      refine G_aload_r C dX0_payOldestFirst_43 rfl ?_
      refine G_dup C dX0_payOldestFirst_44 rfl ?_
      refine G_getI C fo_X0_18 rfl rfl dX0_payOldestFirst_45 ?_
      refine G_iload_n C dX0_payOldestFirst_48 rfl ?_
      refine G_isub C dX0_payOldestFirst_49 ?_
      refine G_putI C fp_X0_18 rfl rfl dX0_payOldestFirst_50 ?_
      refine G_iincN C dX0_payOldestFirst_53 (by decide) rfl ?_
      refine G_goto C 7 dX0_payOldestFirst_56 (by decide) ?_
      refine G_sub [(0, _), (2, _)] (by repeat (first | refine And.intro rfl ?_ | exact True.intro)) ?_
      exact ih (j + 1) _ (by omega) (by omega) (hb.step (by simp only [s_lft, s_part]; rw [e33, hb.2.2.1]) (by simp only [s_rest, s_part]; rw [wr_c (by decide), e33, hb.2.2.1]))
set_option maxHeartbeats 4000000 in
set_option maxRecDepth 100000 in
theorem c_X0_payOldestFirst {K : Kt} {d : Nat} {M : Mem} {n : Nat} {c : Int32} (hn : M 32 2 = nI n) (hN : n ≤ 120) : Cv K (d + 1) mX0_payOldestFirst [rf K 32, .int c] M (Pay M c n) := by
  refine Cv_of RX0 [(0, rf K 32), (1, .int c)] rfl (by decide) rfl (Nat.le_of_ble_eq_true rfl) rfl (fun x C => ?_)
  refine G_aload_r C dX0_payOldestFirst_0 rfl ?_
  refine G_iload_n C dX0_payOldestFirst_1 rfl ?_
  refine G_putI C fp_X0_18 rfl rfl dX0_payOldestFirst_2 ?_
  refine G_iconst C (nI 0) dX0_payOldestFirst_5 (by decide) ?_
  refine G_istore_n C dX0_payOldestFirst_6 (by decide) ?_
  refine G_sub [(0, _), (2, _)] (by repeat (first | refine And.intro rfl ?_ | exact True.intro)) ?_
  exact L_X0_payOldestFirst hn hN C (n + 1) 0 _ (by omega) (by omega) ⟨fun i h1 h2 => wr_c h1, fun b hb => wr_f hb, wr_s, fun i hi => absurd hi (by omega)⟩
set_option maxHeartbeats 4000000 in
set_option maxRecDepth 100000 in
theorem L_X0_dueUpTo {K : Kt} {d : Nat} {M : Mem} {n : Nat} {x : Cx} {o : Int32} (hN : n < 120) (ho : o = s_tot (M 33) (n + 1)) (C : Cok K x RX0 cX0_dueUpTo 4 d (RI (fun v N => v = o ∧ N = M))) :
    ∀ (t j : Nat) (b : Int32), n + 1 < j + t → j ≤ n + 1 → b = s_tot (M 33) j → G K x 4 4 [(0, rf K 32), (1, .int (nI n)), (2, .int b), (3, .int (nI j))] [] M := by
  intro t
  induction t with
  | zero => intro j b h1 h2; omega
  | succ t ih =>
    intro j b h1 h2 hb
    refine G_iload_n C dX0_dueUpTo_4 rfl ?_
    refine G_iload_n C dX0_dueUpTo_5 rfl ?_
    refine G_icmp_gt C 24 dX0_dueUpTo_6 (by decide) (fun h6 => ?_) (fun h6 => ?_)
    · have hE : j = n + 1 := by have := n_gtE (N := 200) (by omega) (by omega) (by decide) h6; omega
      refine G_iload_n C dX0_dueUpTo_24 rfl ?_
      exact G_retR C dX0_dueUpTo_25 (by rw [ho, hb, hE]) rfl
    · have hlt : j ≤ n := n_leE (N := 200) (by omega) (by omega) (by decide) h6
      have hj8 : j < 120 := by omega
      refine G_iload_n C dX0_dueUpTo_9 rfl ?_
      refine G_aload_r C dX0_dueUpTo_10 rfl ?_
      refine G_getR C fo_X0_9 rfl rfl dX0_dueUpTo_11 ?_
      refine G_iload_n C dX0_dueUpTo_14 rfl ?_
      refine G_ialdN C rfl (by assumption) (by decide) dX0_dueUpTo_15 ?_
      refine G_iadd C dX0_dueUpTo_16 ?_
      refine G_istore_n C dX0_dueUpTo_17 (by decide) ?_
      refine G_iincN C dX0_dueUpTo_18 (by decide) rfl ?_
      refine G_goto C 4 dX0_dueUpTo_21 (by decide) ?_
      refine G_sub [(0, _), (1, _), (2, _), (3, _)] (by repeat (first | refine And.intro rfl ?_ | exact True.intro)) ?_
      exact ih (j + 1) _ (by omega) (by omega) (by rw [hb]; rfl)
set_option maxHeartbeats 4000000 in
set_option maxRecDepth 100000 in
theorem c_X0_dueUpTo {K : Kt} {d : Nat} {M : Mem} {n : Nat} (hN : n < 120) : Ri K d mX0_dueUpTo [rf K 32, .int (nI n)] M (s_tot (M 33) (n + 1)) M := by
  refine Ri_int RX0 [(0, rf K 32), (1, .int (nI n))] rfl (by decide) rfl (Nat.le_of_ble_eq_true rfl) rfl (fun x C => ?_)
  refine G_iconst C (0) dX0_dueUpTo_0 (by decide) ?_
  refine G_istore_n C dX0_dueUpTo_1 (by decide) ?_
  refine G_iconst C (nI 0) dX0_dueUpTo_2 (by decide) ?_
  refine G_istore_n C dX0_dueUpTo_3 (by decide) ?_
  refine G_sub [(0, _), (1, _), (2, _), (3, _)] (by repeat (first | refine And.intro rfl ?_ | exact True.intro)) ?_
  exact L_X0_dueUpTo hN rfl C (n + 2) 0 0 (by omega) (by omega) rfl
set_option maxHeartbeats 4000000 in
set_option maxRecDepth 100000 in
theorem L_X0_leftInAll {K : Kt} {d : Nat} {M : Mem} {n : Nat} {x : Cx} {o : Int32} (hn : M 32 2 = nI n) (hN : n ≤ 120) (ho : o = s_tot (M 34) n) (C : Cok K x RX0 cX0_leftInAll 3 d (RI (fun v N => v = o ∧ N = M))) :
    ∀ (t j : Nat) (b : Int32), n < j + t → j ≤ n → b = s_tot (M 34) j → G K x 3 4 [(0, rf K 32), (1, .int b), (2, .int (nI j))] [] M := by
  intro t
  induction t with
  | zero => intro j b h1 h2; omega
  | succ t ih =>
    intro j b h1 h2 hb
    have hj : j ≤ 120 := by omega
    refine G_iload_n C dX0_leftInAll_4 rfl ?_
    refine G_aload_r C dX0_leftInAll_5 rfl ?_
    refine G_getI C fo_X0_22 rfl rfl dX0_leftInAll_6 ?_
    refine G_icmp_ge C 27 dX0_leftInAll_9 (by decide) (fun h9 => ?_) (fun h9 => ?_)
    · have hE : j = n := by have := n_le hn hN hj (by decide) h9; omega
      refine G_iload_n C dX0_leftInAll_27 rfl ?_
      exact G_retR C dX0_leftInAll_28 (by rw [ho, hb, hE]) rfl
    · have hlt : j < n := n_gt hn hN hj (by decide) h9
      have hj8 : j < 120 := by omega
      refine G_iload_n C dX0_leftInAll_12 rfl ?_
      refine G_aload_r C dX0_leftInAll_13 rfl ?_
      refine G_getR C fo_X0_15 rfl rfl dX0_leftInAll_14 ?_
      refine G_iload_n C dX0_leftInAll_17 rfl ?_
      refine G_ialdN C rfl (by assumption) (by decide) dX0_leftInAll_18 ?_
      refine G_iadd C dX0_leftInAll_19 ?_
      refine G_istore_n C dX0_leftInAll_20 (by decide) ?_
      refine G_iincN C dX0_leftInAll_21 (by decide) rfl ?_
      refine G_goto C 4 dX0_leftInAll_24 (by decide) ?_
      refine G_sub [(0, _), (1, _), (2, _)] (by repeat (first | refine And.intro rfl ?_ | exact True.intro)) ?_
      exact ih (j + 1) _ (by omega) (by omega) (by rw [hb]; rfl)
set_option maxHeartbeats 4000000 in
set_option maxRecDepth 100000 in
theorem c_X0_leftInAll {K : Kt} {d : Nat} {M : Mem} {n : Nat} (hn : M 32 2 = nI n) (hN : n ≤ 120) : Ri K d mX0_leftInAll [rf K 32] M (s_tot (M 34) n) M := by
  refine Ri_int RX0 [(0, rf K 32)] rfl (by decide) rfl (Nat.le_of_ble_eq_true rfl) rfl (fun x C => ?_)
  refine G_iconst C (0) dX0_leftInAll_0 (by decide) ?_
  refine G_istore_n C dX0_leftInAll_1 (by decide) ?_
  refine G_iconst C (nI 0) dX0_leftInAll_2 (by decide) ?_
  refine G_istore_n C dX0_leftInAll_3 (by decide) ?_
  refine G_sub [(0, _), (1, _), (2, _)] (by repeat (first | refine And.intro rfl ?_ | exact True.intro)) ?_
  exact L_X0_leftInAll hn hN rfl C (n + 1) 0 0 (by omega) (by omega) rfl
def s_fst (f : Nat → Int32) : Nat → Nat → Option Nat
  | 0, _ => none
  | t + 1, j => if 0 < f j then some j else s_fst f t (j + 1)
set_option maxHeartbeats 4000000 in
set_option maxRecDepth 100000 in
theorem L_X0_firstLeft {K : Kt} {d : Nat} {M : Mem} {n : Nat} {x : Cx} {o : Option Nat} (hn : M 32 2 = nI n) (hN : n ≤ 120) (C : Cok K x RX0 cX0_firstLeft 2 d (RI (fun v N => v = ixv o ∧ N = M))) :
    ∀ (t j : Nat), j + t = n → o = s_fst (M 34) t j → G K x 2 2 [(0, rf K 32), (1, .int (nI j))] [] M := by
  intro t
  induction t with
  | zero =>
    intro j h1 ho
    have hj : j ≤ 120 := by omega
    refine G_iload_n C dX0_firstLeft_2 rfl ?_
    refine G_aload_r C dX0_firstLeft_3 rfl ?_
    refine G_getI C fo_X0_22 rfl rfl dX0_firstLeft_4 ?_
    refine G_icmp_ge C 27 dX0_firstLeft_7 (by decide) (fun h7 => ?_) (fun h7 => ?_)
    · refine G_ldc C kc_X0_31 dX0_firstLeft_27 ?_
      exact G_retR C dX0_firstLeft_29 (by rw [ho]; rfl) rfl
    · exact absurd (n_gt hn hN hj (by decide) h7) (by omega)
  | succ t ih =>
    intro j h1 ho
    have hj : j ≤ 120 := by omega
    have hj8 : j < 120 := by omega
    refine G_iload_n C dX0_firstLeft_2 rfl ?_
    refine G_aload_r C dX0_firstLeft_3 rfl ?_
    refine G_getI C fo_X0_22 rfl rfl dX0_firstLeft_4 ?_
    refine G_icmp_ge C 27 dX0_firstLeft_7 (by decide) (fun h7 => ?_) (fun h7 => ?_)
    · exact absurd (n_le hn hN hj (by decide) h7) (by omega)
    · refine G_aload_r C dX0_firstLeft_10 rfl ?_
      refine G_getR C fo_X0_15 rfl rfl dX0_firstLeft_11 ?_
      refine G_iload_n C dX0_firstLeft_14 rfl ?_
      refine G_ialdN C rfl (by assumption) (by decide) dX0_firstLeft_15 ?_
      refine G_if_le C 21 dX0_firstLeft_16 (by decide) (fun h16 => ?_) (fun h16 => ?_)
      · refine G_iincN C dX0_firstLeft_21 (by decide) rfl ?_
        refine G_goto C 2 dX0_firstLeft_24 (by decide) ?_
        refine G_sub [(0, _), (1, _)] (by repeat (first | refine And.intro rfl ?_ | exact True.intro)) ?_
        exact ih (j + 1) (by omega) (by rw [ho]; simp only [s_fst]; rw [if_neg (by grind)])
      · refine G_iload_n C dX0_firstLeft_19 rfl ?_
        exact G_retR C dX0_firstLeft_20 (by rw [ho]; simp only [s_fst]; rw [if_pos (by grind)]; rfl) rfl
set_option maxHeartbeats 4000000 in
set_option maxRecDepth 100000 in
theorem c_X0_firstLeft {K : Kt} {d : Nat} {M : Mem} {n : Nat} (hn : M 32 2 = nI n) (hN : n ≤ 120) : Ri K d mX0_firstLeft [rf K 32] M (ixv (s_fst (M 34) n 0)) M := by
  refine Ri_int RX0 [(0, rf K 32)] rfl (by decide) rfl (Nat.le_of_ble_eq_true rfl) rfl (fun x C => ?_)
  refine G_iconst C (nI 0) dX0_firstLeft_0 (by decide) ?_
  refine G_istore_n C dX0_firstLeft_1 (by decide) ?_
  refine G_sub [(0, _), (1, _)] (by repeat (first | refine And.intro rfl ?_ | exact True.intro)) ?_
  exact L_X0_firstLeft hn hN C n 0 (by omega) rfl
def s_rt (r v : Int32) : Int32 := v * r / 10000
set_option maxHeartbeats 4000000 in
set_option maxRecDepth 100000 in
theorem L_X0_interestUpTo {K : Kt} {d : Nat} {M : Mem} {n : Nat} {r : Int32} {x : Cx} {o : Int32} (hN : n < 120) (ho : o = s_tot (fun j => s_rt r (M 34 j)) (n + 1)) (C : Cok K x RX0 cX0_interestUpTo 5 d (RI (fun v N => v = o ∧ N = M))) :
    ∀ (t j : Nat) (b : Int32), n + 1 < j + t → j ≤ n + 1 → b = s_tot (fun j => s_rt r (M 34 j)) j → G K x 5 5 [(0, rf K 32), (1, .int (nI n)), (2, .int r), (3, .int b), (4, .int (nI j))] [] M := by
  intro t
  induction t with
  | zero => intro j b h1 h2; omega
  | succ t ih =>
    intro j b h1 h2 hb
    refine G_iload C dX0_interestUpTo_5 rfl ?_
    refine G_iload_n C dX0_interestUpTo_7 rfl ?_
    refine G_icmp_gt C 33 dX0_interestUpTo_8 (by decide) (fun h8 => ?_) (fun h8 => ?_)
    · have hE : j = n + 1 := by have := n_gtE (N := 200) (by omega) (by omega) (by decide) h8; omega
      refine G_iload_n C dX0_interestUpTo_33 rfl ?_
      exact G_retR C dX0_interestUpTo_34 (by rw [ho, hb, hE]) rfl
    · have hlt : j ≤ n := n_leE (N := 200) (by omega) (by omega) (by decide) h8
      have hj8 : j < 120 := by omega
      refine G_iload_n C dX0_interestUpTo_11 rfl ?_
      refine G_aload_r C dX0_interestUpTo_12 rfl ?_
      refine G_getR C fo_X0_15 rfl rfl dX0_interestUpTo_13 ?_
      refine G_iload C dX0_interestUpTo_16 rfl ?_
      refine G_ialdN C rfl (by assumption) (by decide) dX0_interestUpTo_18 ?_
      refine G_iload_n C dX0_interestUpTo_19 rfl ?_
      refine G_imul C dX0_interestUpTo_20 ?_
      refine G_sipush C (10000) dX0_interestUpTo_21 (by decide) ?_
      refine G_idiv C dX0_interestUpTo_24 (by decide) ?_
      refine G_iadd C dX0_interestUpTo_25 ?_
      refine G_istore_n C dX0_interestUpTo_26 (by decide) ?_
      refine G_iincN C dX0_interestUpTo_27 (by decide) rfl ?_
      refine G_goto C 5 dX0_interestUpTo_30 (by decide) ?_
      refine G_sub [(0, _), (1, _), (2, _), (3, _), (4, _)] (by repeat (first | refine And.intro rfl ?_ | exact True.intro)) ?_
      exact ih (j + 1) _ (by omega) (by omega) (by rw [hb]; rfl)
set_option maxHeartbeats 4000000 in
set_option maxRecDepth 100000 in
theorem c_X0_interestUpTo {K : Kt} {d : Nat} {M : Mem} {n : Nat} {r : Int32} (hN : n < 120) : Ri K d mX0_interestUpTo [rf K 32, .int (nI n), .int r] M (s_tot (fun j => s_rt r (M 34 j)) (n + 1)) M := by
  refine Ri_int RX0 [(0, rf K 32), (1, .int (nI n)), (2, .int r)] rfl (by decide) rfl (Nat.le_of_ble_eq_true rfl) rfl (fun x C => ?_)
  refine G_iconst C (0) dX0_interestUpTo_0 (by decide) ?_
  refine G_istore_n C dX0_interestUpTo_1 (by decide) ?_
  refine G_iconst C (nI 0) dX0_interestUpTo_2 (by decide) ?_
  refine G_istore C dX0_interestUpTo_3 (by decide) ?_
  refine G_sub [(0, _), (1, _), (2, _), (3, _), (4, _)] (by repeat (first | refine And.intro rfl ?_ | exact True.intro)) ?_
  exact L_X0_interestUpTo hN rfl C (n + 2) 0 0 (by omega) (by omega) rfl
def s_lby (al du c : Int32) : Int32 := if 0 ≤ al - c then (if du ≤ al - c then du else al - c) else 0
set_option maxHeartbeats 4000000 in
set_option maxRecDepth 100000 in
theorem c_X10_leftBy {K : Kt} {d : Nat} {M : Mem} {w : Nat} {c : Int32} (hw : w < 120) : Ri K d mX10_leftBy [rf K 36, .int (nI w), .int c] M (s_lby (M 60 w) (M 59 w) c) M := by
  refine Ri_int RX10 [(0, rf K 36), (1, .int (nI w)), (2, .int c)] rfl (by decide) rfl (Nat.le_of_ble_eq_true rfl) rfl (fun x C => ?_)
  refine G_aload_r C dX10_leftBy_0 rfl ?_
  refine G_getR C fo_X10_84 rfl rfl dX10_leftBy_1 ?_
  refine G_iload_n C dX10_leftBy_4 rfl ?_
  refine G_ialdN C rfl (by assumption) (by decide) dX10_leftBy_5 ?_
  refine G_iload_n C dX10_leftBy_6 rfl ?_
  refine G_isub C dX10_leftBy_7 ?_
  refine G_istore_n C dX10_leftBy_8 (by decide) ?_
  refine G_iload_n C dX10_leftBy_9 rfl ?_
  refine G_if_ge C 17 dX10_leftBy_10 (by decide) (fun h10 => ?_) (fun h10 => ?_)
  · refine G_iload_n C dX10_leftBy_17 rfl ?_
    refine G_aload_r C dX10_leftBy_18 rfl ?_
    refine G_getR C fo_X10_81 rfl rfl dX10_leftBy_19 ?_
    refine G_iload_n C dX10_leftBy_22 rfl ?_
    refine G_ialdN C rfl (by assumption) (by decide) dX10_leftBy_23 ?_
    refine G_icmp_ge C 31 dX10_leftBy_24 (by decide) (fun h24 => ?_) (fun h24 => ?_)
    · refine G_aload_r C dX10_leftBy_31 rfl ?_
      refine G_getR C fo_X10_81 rfl rfl dX10_leftBy_32 ?_
      refine G_iload_n C dX10_leftBy_35 rfl ?_
      refine G_ialdN C rfl (by assumption) (by decide) dX10_leftBy_36 ?_
      exact G_retR C dX10_leftBy_37 (by simp only [s_lby]; grind) rfl
    · refine G_iload_n C dX10_leftBy_27 rfl ?_
      refine G_goto C 37 dX10_leftBy_28 (by decide) ?_
      exact G_retR C dX10_leftBy_37 (by simp only [s_lby]; grind) rfl
  · refine G_iconst C (0) dX10_leftBy_13 (by decide) ?_
    refine G_goto C 37 dX10_leftBy_14 (by decide) ?_
    exact G_retR C dX10_leftBy_37 (by simp only [s_lby]; grind) rfl
