theorem G_join {K : Kt} {x : Cx} {nL pc : Nat} {lv : List (Nat × Value)} {st : List Value} {M : Mem} (pc' : Nat) (st' : List Value) (h : G K x nL pc' lv st' M → G K x nL pc lv st M) (k : G K x nL pc' lv st' M) : G K x nL pc lv st M := h k
theorem G_top {K : Kt} {x : Cx} {nL pc : Nat} {lv : List (Nat × Value)} {st : List Value} {M : Mem} {v : Int32} (k : ∀ y : Int32, y = v → G K x nL pc lv (.int y :: st) M) : G K x nL pc lv (.int v :: st) M := k v rfl
theorem lay_law : ∀ j, j < 9 → layL[12 + j]? = some (.inl (3, [none, none, none, none, none, none, none, none]))
  | 0, _ => rfl
  | 1, _ => rfl
  | 2, _ => rfl
  | 3, _ => rfl
  | 4, _ => rfl
  | 5, _ => rfl
  | 6, _ => rfl
  | 7, _ => rfl
  | 8, _ => rfl
  | n + 9, h => by omega
theorem row_law : ∀ j, j < 9 → ([12, 13, 14, 15, 16, 17, 18, 19, 20] : List Nat)[j]? = some (12 + j) := by decide
theorem G_law {K : Kt} {x : Cx} {own : String} {cc : ByteArray} {nL d : Nat} {Rp : Option Int32 → Mem → Prop} {pc : Nat} {lv : List (Nat × Value)} {st : List Value} {M : Mem} (C : Cok K x own cc nL d Rp) {j : Nat} (hj : j < 9) (hd : decode cc pc = .ok (.aaload, 1)) (k9 : G K x nL (pc + 1) lv (rf K (12 + j) :: st) M) : G K x nL pc lv (.int (nI j) :: rf K 11 :: st) M :=
  G_aald C (rs := [12, 13, 14, 15, 16, 17, 18, 19, 20]) rfl (Or.inl rfl) (vp_in_nI hj (by decide)) (by rw [nI_clamp (by omega)]; exact row_law j hj) hd k9
def xlb (M : Mem) (n : Nat) (w : Int32) : Option Nat := s_best (fun i => decide (M (12 + i) 0 ≤ w)) (fun i => M (12 + i) 0) n
def mlb (M : Mem) (n : Nat) (w : Int32) : Option Nat := s_best (fun i => decide (M 44 i ≤ w)) (M 44) n
set_option maxHeartbeats 4000000 in
set_option maxRecDepth 100000 in
theorem L_X4_numberAt {K : Kt} {d : Nat} {M : Mem} {n : Nat} {w : Int32} {x : Cx} {o : Option Nat} (hn : M 10 1 = nI n) (h8 : n ≤ 8) (ho : o = xlb M n w) (C : Cok K x RX4 cX4_numberAt 4 d (RI (fun v N => v = ixv o ∧ N = M))) :
    ∀ (t j : Nat) (b : Option Nat), n < j + t → j ≤ n → b = xlb M j w → G K x 4 5 [(0, rf K 10), (1, .int w), (2, .int (ixv b)), (3, .int (nI j))] [] M := by
  intro t
  induction t with
  | zero => intro j b h1 h2; omega
  | succ t ih =>
    intro j b h1 h2 hb
    have hj : j ≤ 8 := by omega
    have hbl : ∀ q, b = some q → q < j := fun q hq => s_best_lt (hb.symm.trans hq)
    have hbn : ixv b = -2000000005 ↔ b = none := ixv_none (fun q hq => by have := hbl q hq; omega)
    refine G_iload_n C dX4_numberAt_5 rfl ?_
    refine G_aload_r C dX4_numberAt_6 rfl ?_
    refine G_getI C fo_X4_19 rfl rfl dX4_numberAt_7 ?_
    refine G_icmp_ge C 64 dX4_numberAt_10 (by decide) (fun h10 => ?_) (fun h10 => ?_)
    · have hE : j = n := by have := n_le hn h8 hj (by decide) h10; omega
      refine G_iload_n C dX4_numberAt_64 rfl ?_
      exact G_retR C dX4_numberAt_65 (by rw [ho, hb, hE]) rfl
    · have hlt : j < n := n_gt hn h8 hj (by decide) h10
      have hj8 : j < 8 := by omega
      refine G_aload_r C dX4_numberAt_13 rfl ?_
      refine G_getR C fo_X4_11 rfl rfl dX4_numberAt_14 ?_
      refine G_iload_n C dX4_numberAt_17 rfl ?_
      refine G_law C (j := j) (by omega) dX4_numberAt_18 ?_
      refine G_getI C fo_X4_23 (lay_law j (by omega)) rfl dX4_numberAt_19 ?_
      refine G_iload_n C dX4_numberAt_22 rfl ?_
      refine G_icmp_le C 29 dX4_numberAt_23 (by decide) (fun h23 => ?_) (fun h23 => ?_)
      · refine G_iload_n C dX4_numberAt_29 rfl ?_
        refine G_ldc C kc_X4_18 dX4_numberAt_30 ?_
        refine G_icmp_eq C 56 dX4_numberAt_32 (by decide) (fun h32 => ?_) (fun h32 => ?_)
        · rw [hbn] at h32
          refine G_iload_n C dX4_numberAt_56 rfl ?_
          refine G_istore_n C dX4_numberAt_57 (by decide) ?_
          refine G_iincN C dX4_numberAt_58 (by decide) rfl ?_
          refine G_goto C 5 dX4_numberAt_61 (by decide) ?_
          refine G_sub [(0, _), (1, _), (2, _), (3, _)] (by repeat (first | refine And.intro rfl ?_ | exact True.intro)) ?_
          exact ih (j + 1) (some j) (by omega) (by omega) (s_best_new (by simp; grind) (hb.symm.trans h32)).symm
        · rw [hbn] at h32
          obtain ⟨q, rfl⟩ : ∃ q, b = some q := by cases b with | none => exact absurd rfl h32 | some q => exact ⟨q, rfl⟩
          have hq8 : q < 8 := by have := hbl q rfl; omega
          simp only [ixv]
          refine G_aload_r C dX4_numberAt_35 rfl ?_
          refine G_getR C fo_X4_11 rfl rfl dX4_numberAt_36 ?_
          refine G_iload_n C dX4_numberAt_39 rfl ?_
          refine G_law C (j := j) (by omega) dX4_numberAt_40 ?_
          refine G_getI C fo_X4_23 (lay_law j (by omega)) rfl dX4_numberAt_41 ?_
          refine G_aload_r C dX4_numberAt_44 rfl ?_
          refine G_getR C fo_X4_11 rfl rfl dX4_numberAt_45 ?_
          refine G_iload_n C dX4_numberAt_48 rfl ?_
          refine G_law C (j := q) (by omega) dX4_numberAt_49 ?_
          refine G_getI C fo_X4_23 (lay_law q (by omega)) rfl dX4_numberAt_50 ?_
          refine G_icmp_lt C 58 dX4_numberAt_53 (by decide) (fun h53 => ?_) (fun h53 => ?_)
          · refine G_iincN C dX4_numberAt_58 (by decide) rfl ?_
            refine G_goto C 5 dX4_numberAt_61 (by decide) ?_
            refine G_sub [(0, _), (1, _), (2, _), (3, _)] (by repeat (first | refine And.intro rfl ?_ | exact True.intro)) ?_
            exact ih (j + 1) (some q) (by omega) (by omega) (s_best_old hb.symm (by grind)).symm
          · refine G_iload_n C dX4_numberAt_56 rfl ?_
            refine G_istore_n C dX4_numberAt_57 (by decide) ?_
            refine G_iincN C dX4_numberAt_58 (by decide) rfl ?_
            refine G_goto C 5 dX4_numberAt_61 (by decide) ?_
            refine G_sub [(0, _), (1, _), (2, _), (3, _)] (by repeat (first | refine And.intro rfl ?_ | exact True.intro)) ?_
            exact ih (j + 1) (some j) (by omega) (by omega) (s_best_up (by simp; grind) hb.symm (by grind)).symm
      · refine G_goto C 58 dX4_numberAt_26 (by decide) ?_
        refine G_iincN C dX4_numberAt_58 (by decide) rfl ?_
        refine G_goto C 5 dX4_numberAt_61 (by decide) ?_
        refine G_sub [(0, _), (1, _), (2, _), (3, _)] (by repeat (first | refine And.intro rfl ?_ | exact True.intro)) ?_
        exact ih (j + 1) b (by omega) (by omega) (hb.trans (s_best_no (by simp; grind)).symm)
set_option maxHeartbeats 4000000 in
set_option maxRecDepth 100000 in
theorem c_X4_numberAt {K : Kt} {d : Nat} {M : Mem} {n : Nat} {w : Int32} (hn : M 10 1 = nI n) (h8 : n ≤ 8) : Ri K d mX4_numberAt [rf K 10, .int w] M (ixv (xlb M n w)) M := by
  refine Ri_int RX4 [(0, rf K 10), (1, .int w)] rfl (by decide) rfl (Nat.le_of_ble_eq_true rfl) rfl (fun x C => ?_)
  refine G_ldc C kc_X4_18 dX4_numberAt_0 ?_
  refine G_istore_n C dX4_numberAt_2 (by decide) ?_
  refine G_iconst C (nI 0) dX4_numberAt_3 (by decide) ?_
  refine G_istore_n C dX4_numberAt_4 (by decide) ?_
  refine G_sub [(0, _), (1, _), (2, _), (3, _)] (by repeat (first | refine And.intro rfl ?_ | exact True.intro)) ?_
  exact L_X4_numberAt hn h8 rfl C (n + 1) 0 none (by omega) (by omega) rfl
set_option maxHeartbeats 4000000 in
set_option maxRecDepth 100000 in
theorem L_X10_lawOf {K : Kt} {d : Nat} {M : Mem} {n : Nat} {w : Int32} {x : Cx} {o : Option Nat} (hn : M 36 9 = nI n) (h8 : n ≤ 8) (ho : o = mlb M n w) (C : Cok K x RX10 cX10_lawOf 4 d (RI (fun v N => v = ixm o ∧ N = M))) :
    ∀ (t j : Nat) (b : Option Nat), n < j + t → j ≤ n → b = mlb M j w → G K x 4 4 [(0, rf K 36), (1, .int w), (2, .int (ixm b)), (3, .int (nI j))] [] M := by
  intro t
  induction t with
  | zero => intro j b h1 h2; omega
  | succ t ih =>
    intro j b h1 h2 hb
    have hj : j ≤ 8 := by omega
    have hbl : ∀ q, b = some q → q < j := fun q hq => s_best_lt (hb.symm.trans hq)
    have hbn : ixm b < 0 ↔ b = none := ixm_neg (fun q hq => by have := hbl q hq; omega)
    refine G_iload_n C dX10_lawOf_4 rfl ?_
    refine G_aload_r C dX10_lawOf_5 rfl ?_
    refine G_getI C fo_X10_184 rfl rfl dX10_lawOf_6 ?_
    refine G_icmp_ge C 49 dX10_lawOf_9 (by decide) (fun h9 => ?_) (fun h9 => ?_)
    · have hE : j = n := by have := n_le hn h8 hj (by decide) h9; omega
      refine G_iload_n C dX10_lawOf_49 rfl ?_
      exact G_retR C dX10_lawOf_50 (by rw [ho, hb, hE]) rfl
    · have hlt : j < n := n_gt hn h8 hj (by decide) h9
      have hj8 : j < 8 := by omega
      refine G_aload_r C dX10_lawOf_12 rfl ?_
      refine G_getR C fo_X10_32 rfl rfl dX10_lawOf_13 ?_
      refine G_iload_n C dX10_lawOf_16 rfl ?_
      refine G_ialdN C rfl (by assumption) (by decide) dX10_lawOf_17 ?_
      refine G_iload_n C dX10_lawOf_18 rfl ?_
      refine G_icmp_gt C 43 dX10_lawOf_19 (by decide) (fun h19 => ?_) (fun h19 => ?_)
      · refine G_iincN C dX10_lawOf_43 (by decide) rfl ?_
        refine G_goto C 4 dX10_lawOf_46 (by decide) ?_
        refine G_sub [(0, _), (1, _), (2, _), (3, _)] (by repeat (first | refine And.intro rfl ?_ | exact True.intro)) ?_
        exact ih (j + 1) b (by omega) (by omega) (hb.trans (s_best_no (by simp; grind)).symm)
      · refine G_iload_n C dX10_lawOf_22 rfl ?_
        refine G_if_lt C 41 dX10_lawOf_23 (by decide) (fun h23 => ?_) (fun h23 => ?_)
        · rw [hbn] at h23
          refine G_iload_n C dX10_lawOf_41 rfl ?_
          refine G_istore_n C dX10_lawOf_42 (by decide) ?_
          refine G_iincN C dX10_lawOf_43 (by decide) rfl ?_
          refine G_goto C 4 dX10_lawOf_46 (by decide) ?_
          refine G_sub [(0, _), (1, _), (2, _), (3, _)] (by repeat (first | refine And.intro rfl ?_ | exact True.intro)) ?_
          exact ih (j + 1) (some j) (by omega) (by omega) (s_best_new (by simp; grind) (hb.symm.trans h23)).symm
        · rw [hbn] at h23
          obtain ⟨q, rfl⟩ : ∃ q, b = some q := by cases b with | none => exact absurd rfl h23 | some q => exact ⟨q, rfl⟩
          have hq8 : q < 8 := by have := hbl q rfl; omega
          simp only [ixm]
          refine G_aload_r C dX10_lawOf_26 rfl ?_
          refine G_getR C fo_X10_32 rfl rfl dX10_lawOf_27 ?_
          refine G_iload_n C dX10_lawOf_30 rfl ?_
          refine G_ialdN C rfl (by assumption) (by decide) dX10_lawOf_31 ?_
          refine G_aload_r C dX10_lawOf_32 rfl ?_
          refine G_getR C fo_X10_32 rfl rfl dX10_lawOf_33 ?_
          refine G_iload_n C dX10_lawOf_36 rfl ?_
          refine G_ialdN C rfl (by assumption) (by decide) dX10_lawOf_37 ?_
          refine G_icmp_lt C 43 dX10_lawOf_38 (by decide) (fun h38 => ?_) (fun h38 => ?_)
          · refine G_iincN C dX10_lawOf_43 (by decide) rfl ?_
            refine G_goto C 4 dX10_lawOf_46 (by decide) ?_
            refine G_sub [(0, _), (1, _), (2, _), (3, _)] (by repeat (first | refine And.intro rfl ?_ | exact True.intro)) ?_
            exact ih (j + 1) (some q) (by omega) (by omega) (s_best_old hb.symm (by grind)).symm
          · refine G_iload_n C dX10_lawOf_41 rfl ?_
            refine G_istore_n C dX10_lawOf_42 (by decide) ?_
            refine G_iincN C dX10_lawOf_43 (by decide) rfl ?_
            refine G_goto C 4 dX10_lawOf_46 (by decide) ?_
            refine G_sub [(0, _), (1, _), (2, _), (3, _)] (by repeat (first | refine And.intro rfl ?_ | exact True.intro)) ?_
            exact ih (j + 1) (some j) (by omega) (by omega) (s_best_up (by simp; grind) hb.symm (by grind)).symm
set_option maxHeartbeats 4000000 in
set_option maxRecDepth 100000 in
theorem c_X10_lawOf {K : Kt} {d : Nat} {M : Mem} {n : Nat} {w : Int32} (hn : M 36 9 = nI n) (h8 : n ≤ 8) : Ri K d mX10_lawOf [rf K 36, .int w] M (ixm (mlb M n w)) M := by
  refine Ri_int RX10 [(0, rf K 36), (1, .int w)] rfl (by decide) rfl (Nat.le_of_ble_eq_true rfl) rfl (fun x C => ?_)
  refine G_iconst C (-1) dX10_lawOf_0 (by decide) ?_
  refine G_istore_n C dX10_lawOf_1 (by decide) ?_
  refine G_iconst C (nI 0) dX10_lawOf_2 (by decide) ?_
  refine G_istore_n C dX10_lawOf_3 (by decide) ?_
  refine G_sub [(0, _), (1, _), (2, _), (3, _)] (by repeat (first | refine And.intro rfl ?_ | exact True.intro)) ?_
  exact L_X10_lawOf hn h8 rfl C (n + 1) 0 none (by omega) (by omega) rfl
def x_inc (inc oth po : Int32) : Int32 := if 0 < inc - oth * (inc * po / 100) then inc - oth * (inc * po / 100) else 0
def x_low (inc bo : Int32) : Int32 := if bo < inc then bo else inc
def x_chi (inc c sh bo sa : Int32) : Int32 := (x_low inc bo * sh / 100 + (inc - x_low inc bo) * sa / 100) * htab.getD c.toNatClampNeg 0 / 100
def x_les (am n pn : Int32) : Int32 := if 0 < am - n * (am * pn / 100) then am - n * (am * pn / 100) else 0
def x_lea (am n pn le : Int32) : Int32 := if le < x_les am n pn then x_les am n pn else le
def x_nig (am n pn le mo : Int32) : Int32 := if x_lea am n pn le < mo then x_lea am n pn le else mo
set_option maxHeartbeats 4000000 in
set_option maxRecDepth 100000 in
theorem c_X3_incomeLess {K : Kt} {d : Nat} {M : Mem} {j : Nat} {a b : Int32} (hj : j < 9) : Ri K (d + 1) mX3_incomeLess [rf K (12 + j), .int a, .int b] M (x_inc a b (M (12 + j) 5)) M := by
  refine Ri_int RX3 [(0, rf K (12 + j)), (1, .int a), (2, .int b)] rfl (by decide) rfl (Nat.le_of_ble_eq_true rfl) rfl (fun x C => ?_)
  refine G_iconst C (0) dX3_incomeLess_0 (by decide) ?_
  refine G_iload_n C dX3_incomeLess_1 rfl ?_
  refine G_iload_n C dX3_incomeLess_2 rfl ?_
  refine G_iload_n C dX3_incomeLess_3 rfl ?_
  refine G_aload_r C dX3_incomeLess_4 rfl ?_
  refine G_getI C fo_X3_7 (lay_law j (by omega)) rfl dX3_incomeLess_5 ?_
  refine G_imul C dX3_incomeLess_8 ?_
  refine G_bipush C (100) dX3_incomeLess_9 (by decide) ?_
  refine G_idiv C dX3_incomeLess_11 (by decide) ?_
  refine G_imul C dX3_incomeLess_12 ?_
  refine G_isub C dX3_incomeLess_13 ?_
  refine G_mmax C lk_X3_13 ms_max mi_math mc_max (Nat.le_of_ble_eq_true rfl) dX3_incomeLess_14 ?_
  exact G_retR C dX3_incomeLess_17 rfl rfl
set_option maxHeartbeats 4000000 in
set_option maxRecDepth 100000 in
theorem c_X3_withNights {K : Kt} {d : Nat} {M : Mem} {j : Nat} {a b : Int32} (hj : j < 9) : Ri K (d + 1) mX3_withNights [rf K (12 + j), .int a, .int b] M (x_nig a b (M (12 + j) 4) (M (12 + j) 6) (M (12 + j) 7)) M := by
  refine Ri_int RX3 [(0, rf K (12 + j)), (1, .int a), (2, .int b)] rfl (by decide) rfl (Nat.le_of_ble_eq_true rfl) rfl (fun x C => ?_)
  refine G_iconst C (0) dX3_withNights_0 (by decide) ?_
  refine G_iload_n C dX3_withNights_1 rfl ?_
  refine G_iload_n C dX3_withNights_2 rfl ?_
  refine G_iload_n C dX3_withNights_3 rfl ?_
  refine G_aload_r C dX3_withNights_4 rfl ?_
  refine G_getI C fo_X3_41 (lay_law j (by omega)) rfl dX3_withNights_5 ?_
  refine G_imul C dX3_withNights_8 ?_
  refine G_bipush C (100) dX3_withNights_9 (by decide) ?_
  refine G_idiv C dX3_withNights_11 (by decide) ?_
  refine G_imul C dX3_withNights_12 ?_
  refine G_isub C dX3_withNights_13 ?_
  refine G_mmax C lk_X3_13 ms_max mi_math mc_max (Nat.le_of_ble_eq_true rfl) dX3_withNights_14 ?_
  refine G_istore_n C dX3_withNights_17 (by decide) ?_
  refine G_aload_r C dX3_withNights_18 rfl ?_
  refine G_getI C fo_X3_44 (lay_law j (by omega)) rfl dX3_withNights_19 ?_
  refine G_aload_r C dX3_withNights_22 rfl ?_
  refine G_getI C fo_X3_47 (lay_law j (by omega)) rfl dX3_withNights_23 ?_
  refine G_iload_n C dX3_withNights_26 rfl ?_
  refine G_mmax C lk_X3_13 ms_max mi_math mc_max (Nat.le_of_ble_eq_true rfl) dX3_withNights_27 ?_
  refine G_mmin C lk_X3_32 ms_min mi_math mc_min (Nat.le_of_ble_eq_true rfl) dX3_withNights_30 ?_
  exact G_retR C dX3_withNights_33 rfl rfl
set_option maxHeartbeats 4000000 in
set_option maxRecDepth 100000 in
theorem c_X3_forChildren {K : Kt} {d : Nat} {M : Mem} {j : Nat} {a c : Int32} (hj : j < 9) (hc : 0 ≤ c ∧ c < 5) : Ri K (d + 1) mX3_forChildren [rf K (12 + j), .int a, .int c] M (x_chi a c (M (12 + j) 1) (M (12 + j) 2) (M (12 + j) 3)) M := by
  refine Ri_int RX3 [(0, rf K (12 + j)), (1, .int a), (2, .int c)] rfl (by decide) rfl (Nat.le_of_ble_eq_true rfl) rfl (fun x C => ?_)
  refine G_iload_n C dX3_forChildren_0 rfl ?_
  refine G_getH C dX3_forChildren_1 ?_
  refine G_alenH C dX3_forChildren_4 ?_
  refine G_cNr2 C ok_X9_isBelow lk_X3_25 (c_X9_isBelow) (Nat.le_of_ble_eq_true rfl) dX3_forChildren_5 ?_
  refine G_if_ne C 13 dX3_forChildren_8 (by decide) (fun h8 => ?_) (fun h8 => ?_)
  · refine G_iload_n C dX3_forChildren_13 rfl ?_
    refine G_aload_r C dX3_forChildren_14 rfl ?_
    refine G_getI C fo_X3_29 (lay_law j (by omega)) rfl dX3_forChildren_15 ?_
    refine G_mmin C lk_X3_32 ms_min mi_math mc_min (Nat.le_of_ble_eq_true rfl) dX3_forChildren_18 ?_
    refine G_istore_n C dX3_forChildren_21 (by decide) ?_
    refine G_iload_n C dX3_forChildren_22 rfl ?_
    refine G_aload_r C dX3_forChildren_23 rfl ?_
    refine G_getI C fo_X3_35 (lay_law j (by omega)) rfl dX3_forChildren_24 ?_
    refine G_imul C dX3_forChildren_27 ?_
    refine G_bipush C (100) dX3_forChildren_28 (by decide) ?_
    refine G_idiv C dX3_forChildren_30 (by decide) ?_
    refine G_iload_n C dX3_forChildren_31 rfl ?_
    refine G_iload_n C dX3_forChildren_32 rfl ?_
    refine G_isub C dX3_forChildren_33 ?_
    refine G_aload_r C dX3_forChildren_34 rfl ?_
    refine G_getI C fo_X3_38 (lay_law j (by omega)) rfl dX3_forChildren_35 ?_
    refine G_imul C dX3_forChildren_38 ?_
    refine G_bipush C (100) dX3_forChildren_39 (by decide) ?_
    refine G_idiv C dX3_forChildren_41 (by decide) ?_
    refine G_iadd C dX3_forChildren_42 ?_
    refine G_istore C dX3_forChildren_43 (by decide) ?_
    refine G_iload C dX3_forChildren_45 rfl ?_
    refine G_getH C dX3_forChildren_47 ?_
    refine G_iload_n C dX3_forChildren_50 rfl ?_
    refine G_aldH C (by rw [vp_in_iff]; have h1 := (fa_le 0 c).mp hc.1; have h2 := (fa_lt c 5).mp hc.2; exact ⟨h1, h2⟩) dX3_forChildren_51 ?_
    refine G_imul C dX3_forChildren_52 ?_
    refine G_bipush C (100) dX3_forChildren_53 (by decide) ?_
    refine G_idiv C dX3_forChildren_55 (by decide) ?_
    exact G_retR C dX3_forChildren_56 rfl rfl
  · exact absurd hc (bl_z.mp h8)
theorem s_kid_r (v : Int32) : 0 ≤ s_kid v ∧ s_kid v < 5 := by simp only [s_kid]; grind
def xsumv (M : Mem) (nl nc : Nat) (w n k : Int32) : Int32 := match xlb M nl w with
  | none => 0
  | some l => if s_kid (xkids M nc k w) = 0 then 0 else x_nig (x_chi (x_inc (s_inc (M 3) (xbest M nc 3 k w) (xbest M nc 1 k w)) (s_oth (M 3) (xbest M nc 0 k w)) (M (12 + l) 5)) (s_kid (xkids M nc k w)) (M (12 + l) 1) (M (12 + l) 2) (M (12 + l) 3)) n (M (12 + l) 4) (M (12 + l) 6) (M (12 + l) 7)
set_option maxHeartbeats 4000000 in
set_option maxRecDepth 100000 in
theorem c_X9_sumOf {K : Kt} {d : Nat} {M : Mem} {nl nc : Nat} {w n k : Int32} (hl : M 10 1 = nI nl) (hl8 : nl ≤ 8) (hn : M 1 5 = nI nc) (h80 : nc ≤ 80) : Ri K (d + 3) mX9_sumOf [rf K 0, .int w, .int n, .int k] M (xsumv M nl nc w n k) M := by
  refine Ri_int RX9 [(0, rf K 0), (1, .int w), (2, .int n), (3, .int k)] rfl (by decide) rfl (Nat.le_of_ble_eq_true rfl) rfl (fun x C => ?_)
  have hbl : ∀ q, xlb M nl w = some q → q < nl := fun q hq => s_best_lt hq
  have hbn : ixv (xlb M nl w) = -2000000005 ↔ xlb M nl w = none := ixv_none (fun q hq => by have := hbl q hq; omega)
  refine G_aload_r C dX9_sumOf_0 rfl ?_
  refine G_getR C fo_X9_35 rfl rfl dX9_sumOf_1 ?_
  refine G_iload_n C dX9_sumOf_4 rfl ?_
  refine G_cVr1 C ok_X4_numberAt lk_X9_163 rfl rfl (c_X4_numberAt hl hl8) (Nat.le_of_ble_eq_true rfl) dX9_sumOf_5 ?_
  refine G_istore C dX9_sumOf_8 (by decide) ?_
  refine G_iload C dX9_sumOf_10 rfl ?_
  refine G_ldc C kc_X9_98 dX9_sumOf_12 ?_
  refine G_icmp_ne C 19 dX9_sumOf_14 (by decide) (fun h14 => ?_) (fun h14 => ?_)
  · rw [hbn] at h14
    obtain ⟨j, hj⟩ : ∃ j, xlb M nl w = some j := by cases e : xlb M nl w with | none => exact absurd e h14 | some j => exact ⟨j, rfl⟩
    have hj9 : j < 9 := by have := hbl j hj; omega
    rw [hj]
    simp only [ixv]
    refine G_aload_r C dX9_sumOf_19 rfl ?_
    refine G_getR C fo_X9_10 rfl rfl dX9_sumOf_20 ?_
    refine G_iload_n C dX9_sumOf_23 rfl ?_
    refine G_iload_n C dX9_sumOf_24 rfl ?_
    refine G_cVr2 C ok_X2_childrenAt lk_X9_119 rfl rfl (c_X2_childrenAt hn h80) (Nat.le_of_ble_eq_true rfl) dX9_sumOf_25 ?_
    refine G_istore C dX9_sumOf_28 (by decide) ?_
    refine G_iload C dX9_sumOf_30 rfl ?_
    refine G_if_ne C 37 dX9_sumOf_32 (by decide) (fun h32 => ?_) (fun h32 => ?_)
    · refine G_aload_r C dX9_sumOf_37 rfl ?_
      refine G_getR C fo_X9_35 rfl rfl dX9_sumOf_38 ?_
      refine G_getR C fo_X9_149 rfl rfl dX9_sumOf_41 ?_
      refine G_iload C dX9_sumOf_44 rfl ?_
      refine G_law C (j := j) hj9 dX9_sumOf_46 ?_
      refine G_astore C dX9_sumOf_47 (by decide) ?_
      refine G_aload C dX9_sumOf_49 rfl ?_
      refine G_aload_r C dX9_sumOf_51 rfl ?_
      refine G_getR C fo_X9_10 rfl rfl dX9_sumOf_52 ?_
      refine G_iload_n C dX9_sumOf_55 rfl ?_
      refine G_iload_n C dX9_sumOf_56 rfl ?_
      refine G_cVr2 C ok_X2_incomeAt lk_X9_115 rfl rfl (c_X2_incomeAt hn h80) (Nat.le_of_ble_eq_true rfl) dX9_sumOf_57 ?_
      refine G_aload_r C dX9_sumOf_60 rfl ?_
      refine G_getR C fo_X9_10 rfl rfl dX9_sumOf_61 ?_
      refine G_iload_n C dX9_sumOf_64 rfl ?_
      refine G_iload_n C dX9_sumOf_65 rfl ?_
      refine G_cVr2 C ok_X2_othersAt lk_X9_122 rfl rfl (c_X2_othersAt hn h80) (Nat.le_of_ble_eq_true rfl) dX9_sumOf_66 ?_
      refine G_cVr2 C ok_X3_incomeLess lk_X9_173 (lay_law j hj9) rfl (c_X3_incomeLess hj9) (Nat.le_of_ble_eq_true rfl) dX9_sumOf_69 ?_
      refine G_istore C dX9_sumOf_72 (by decide) ?_
      refine G_aload C dX9_sumOf_74 rfl ?_
      refine G_aload C dX9_sumOf_76 rfl ?_
      refine G_iload C dX9_sumOf_78 rfl ?_
      refine G_iload C dX9_sumOf_80 rfl ?_
      refine G_cVr2 C ok_X3_forChildren lk_X9_176 (lay_law j hj9) rfl (c_X3_forChildren hj9 (s_kid_r _)) (Nat.le_of_ble_eq_true rfl) dX9_sumOf_82 ?_
      refine G_iload_n C dX9_sumOf_85 rfl ?_
      refine G_cVr2 C ok_X3_withNights lk_X9_179 (lay_law j hj9) rfl (c_X3_withNights hj9) (Nat.le_of_ble_eq_true rfl) dX9_sumOf_86 ?_
      exact G_retR C dX9_sumOf_89 (by first | (simp only [xsumv, *]; done) | (simp [xsumv, *]; done) | (simp only [xsumv, *]; rfl)) rfl
    · refine G_iconst C (0) dX9_sumOf_35 (by decide) ?_
      exact G_retR C dX9_sumOf_36 (by first | (simp only [xsumv, *]; done) | (simp [xsumv, *]; done) | (simp only [xsumv, *]; rfl)) rfl
  · rw [hbn] at h14
    refine G_iconst C (0) dX9_sumOf_17 (by decide) ?_
    exact G_retR C dX9_sumOf_18 (by first | (simp only [xsumv, *]; done) | (simp [xsumv, *]; done) | (simp only [xsumv, *]; rfl)) rfl
def xduev (M : Mem) (nl nc : Nat) (side k : Int32) (w : Nat) : Int32 := if M 35 w = 0 then (if side = 1 then (if xsumv M nl nc (nI w) (xend M w false) k < xsumv M nl nc (nI w) (xend M w true) k then xsumv M nl nc (nI w) (xend M w true) k else xsumv M nl nc (nI w) (xend M w false) k) else (if xsumv M nl nc (nI w) (xend M w true) k < xsumv M nl nc (nI w) (xend M w false) k then xsumv M nl nc (nI w) (xend M w true) k else xsumv M nl nc (nI w) (xend M w false) k)) else 0
set_option maxHeartbeats 4000000 in
set_option maxRecDepth 100000 in
theorem c_X9_dueOf {K : Kt} {d : Nat} {M : Mem} {nl nc w : Nat} {side k : Int32} (hl : M 10 1 = nI nl) (hl8 : nl ≤ 8) (hn : M 1 5 = nI nc) (h80 : nc ≤ 80) (hw : w < 120) : Ri K (d + 4) mX9_dueOf [rf K 0, .int (nI w), .int side, .int k] M (xduev M nl nc side k w) M := by
  refine Ri_int RX9 [(0, rf K 0), (1, .int (nI w)), (2, .int side), (3, .int k)] rfl (by decide) rfl (Nat.le_of_ble_eq_true rfl) rfl (fun x C => ?_)
  refine G_aload_r C dX9_dueOf_0 rfl ?_
  refine G_getR C fo_X9_60 rfl rfl dX9_dueOf_1 ?_
  refine G_iload_n C dX9_dueOf_4 rfl ?_
  refine G_zaldN C rfl (by assumption) (by decide) dX9_dueOf_5 ?_
  refine G_if_eq C 11 dX9_dueOf_6 (by decide) (fun h6 => ?_) (fun h6 => ?_)
  · refine G_aload_r C dX9_dueOf_11 rfl ?_
    refine G_getR C fo_X9_42 rfl rfl dX9_dueOf_12 ?_
    refine G_iload_n C dX9_dueOf_15 rfl ?_
    refine G_cVr1 C ok_X5_lesser lk_X9_131 rfl rfl (c_X5_lesser hw) (Nat.le_of_ble_eq_true rfl) dX9_dueOf_16 ?_
    refine G_istore C dX9_dueOf_19 (by decide) ?_
    refine G_aload_r C dX9_dueOf_21 rfl ?_
    refine G_getR C fo_X9_42 rfl rfl dX9_dueOf_22 ?_
    refine G_iload_n C dX9_dueOf_25 rfl ?_
    refine G_cVr1 C ok_X5_greater lk_X9_135 rfl rfl (c_X5_greater hw) (Nat.le_of_ble_eq_true rfl) dX9_dueOf_26 ?_
    refine G_istore C dX9_dueOf_29 (by decide) ?_
    refine G_aload_r C dX9_dueOf_31 rfl ?_
    refine G_iload_n C dX9_dueOf_32 rfl ?_
    refine G_iload C dX9_dueOf_33 rfl ?_
    refine G_iload_n C dX9_dueOf_35 rfl ?_
    refine G_cVr3 C ok_X9_sumOf lk_X9_166 rfl rfl (c_X9_sumOf hl hl8 hn h80) (Nat.le_of_ble_eq_true rfl) dX9_dueOf_36 ?_
    refine G_istore C dX9_dueOf_39 (by decide) ?_
    refine G_iload C dX9_dueOf_41 rfl ?_
    refine G_iload C dX9_dueOf_43 rfl ?_
    refine G_icmp_ne C 51 dX9_dueOf_45 (by decide) (fun h45 => ?_) (fun h45 => ?_)
    · refine G_aload_r C dX9_dueOf_51 rfl ?_
      refine G_iload_n C dX9_dueOf_52 rfl ?_
      refine G_iload C dX9_dueOf_53 rfl ?_
      refine G_iload_n C dX9_dueOf_55 rfl ?_
      refine G_cVr3 C ok_X9_sumOf lk_X9_166 rfl rfl (c_X9_sumOf hl hl8 hn h80) (Nat.le_of_ble_eq_true rfl) dX9_dueOf_56 ?_
      refine G_istore C dX9_dueOf_59 (by decide) ?_
      refine G_iload_n C dX9_dueOf_61 rfl ?_
      refine G_iconst C (1) dX9_dueOf_62 (by decide) ?_
      refine G_icmp_ne C 76 dX9_dueOf_63 (by decide) (fun h63 => ?_) (fun h63 => ?_)
      · refine G_iload C dX9_dueOf_76 rfl ?_
        refine G_iload C dX9_dueOf_78 rfl ?_
        refine G_mmin C lk_X9_187 ms_min mi_math mc_min (Nat.le_of_ble_eq_true rfl) dX9_dueOf_80 ?_
        exact G_retR C dX9_dueOf_83 (by simp only [xduev]; first | (simp [*]; done) | grind) rfl
      · refine G_iload C dX9_dueOf_66 rfl ?_
        refine G_iload C dX9_dueOf_68 rfl ?_
        refine G_mmax C lk_X9_182 ms_max mi_math mc_max (Nat.le_of_ble_eq_true rfl) dX9_dueOf_70 ?_
        refine G_goto C 83 dX9_dueOf_73 (by decide) ?_
        exact G_retR C dX9_dueOf_83 (by simp only [xduev]; first | (simp [*]; done) | grind) rfl
    · refine G_iload C dX9_dueOf_48 rfl ?_
      exact G_retR C dX9_dueOf_50 (by simp only [xduev]; first | (simp [*]; done) | grind) rfl
  · refine G_iconst C (0) dX9_dueOf_9 (by decide) ?_
    exact G_retR C dX9_dueOf_10 (by simp only [xduev]; first | (simp [*]; done) | grind) rfl
def m_ilo (inc oth ot : Int32) : Int32 := if 0 ≤ inc - oth * (inc * ot / 100) then inc - oth * (inc * ot / 100) else 0
def m_low (i2 ov : Int32) : Int32 := if ov < 0 ∨ i2 < ov then i2 else ov
def m_mul (c : Int32) : Int32 := if c = 1 then 100 else if c = 2 then 150 else if c = 3 then 180 else 200
def m_chi (i2 c tk ov mo : Int32) : Int32 := (m_low i2 ov * tk / 100 + (i2 - m_low i2 ov) * mo / 100) * m_mul c / 100
def m_les (v n ni : Int32) : Int32 := v - n * (v * ni / 100)
def m_lea (v n ni le : Int32) : Int32 := if le ≤ m_les v n ni then m_les v n ni else le
def m_nig (v n ni le ms : Int32) : Int32 := if 0 ≤ ms ∧ ms < m_lea v n ni le then ms else m_lea v n ni le
def msumv (M : Mem) (nl nc : Nat) (w n k : Int32) : Int32 := match mlb M nl w with
  | none => 0
  | some l => if s_kid (mkids M nc k w) = 0 then 0 else m_nig (m_chi (m_ilo (s_inc (M 38) (mbest M nc 3 k w) (mbest M nc 1 k w)) (s_oth (M 38) (mbest M nc 0 k w)) (M 49 l)) (s_kid (mkids M nc k w)) (M 45 l) (M 46 l) (M 47 l)) n (M 48 l) (M 50 l) (M 51 l)
set_option maxHeartbeats 4000000 in
set_option maxRecDepth 100000 in
theorem c_X10_sumOf {K : Kt} {d : Nat} {M : Mem} {nl nc : Nat} {w n k : Int32} (hl : M 36 9 = nI nl) (hl8 : nl ≤ 8) (hn : M 36 1 = nI nc) (h80 : nc ≤ 80) (hv : ∀ i, i < nc → M 37 i ≠ 2 → 0 ≤ M 38 i) : Ri K (d + 3) mX10_sumOf [rf K 36, .int w, .int n, .int k] M (msumv M nl nc w n k) M := by
  refine Ri_int RX10 [(0, rf K 36), (1, .int w), (2, .int n), (3, .int k)] rfl (by decide) rfl (Nat.le_of_ble_eq_true rfl) rfl (fun x C => ?_)
  have hbl : ∀ q, mlb M nl w = some q → q < nl := fun q hq => s_best_lt hq
  have hbn : ixm (mlb M nl w) < 0 ↔ mlb M nl w = none := ixm_neg (fun q hq => by have := hbl q hq; omega)
  refine G_aload_r C dX10_sumOf_0 rfl ?_
  refine G_iload_n C dX10_sumOf_1 rfl ?_
  refine G_cVr1 C ok_X10_lawOf lk_X10_199 rfl rfl (c_X10_lawOf hl hl8) (Nat.le_of_ble_eq_true rfl) dX10_sumOf_2 ?_
  refine G_istore C dX10_sumOf_5 (by decide) ?_
  refine G_aload_r C dX10_sumOf_7 rfl ?_
  refine G_iload_n C dX10_sumOf_8 rfl ?_
  refine G_iload_n C dX10_sumOf_9 rfl ?_
  refine G_cVr2 C ok_X10_children lk_X10_130 rfl rfl (c_X10_children hn h80) (Nat.le_of_ble_eq_true rfl) dX10_sumOf_10 ?_
  refine G_top (fun kd ekd => ?_)
  refine G_istore C dX10_sumOf_13 (by decide) ?_
  refine G_iload C dX10_sumOf_15 rfl ?_
  refine G_if_lt C 25 dX10_sumOf_17 (by decide) (fun h17 => ?_) (fun h17 => ?_)
  · rw [hbn] at h17
    refine G_iconst C (0) dX10_sumOf_25 (by decide) ?_
    exact G_retR C dX10_sumOf_26 (by
      first
      | (simp only [msumv, h17]; done)
      | (simp only [msumv, hj]; rw [← ekd, if_pos h22]; done)
      | (have e2 : i2 = m_ilo i0 (s_oth (M 38) (mbest M nc 0 k w)) (M 49 j) := by rw [ei2, ei1]; rfl
         have e3 : v2 = m_chi i2 kd (M 45 j) (M 46 j) (M 47 j) := by rw [ev2, ev1, elo]; rfl
         have e4 : v4 = m_lea v2 n (M 48 j) (M 50 j) := by rw [ev4, ev3]; rfl
         simp only [msumv, hj]
         rw [← ekd, if_neg h22, ← ei0, ← e2, ← e3]
         simp only [m_nig]
         rw [← e4]
         grind)) rfl
  · rw [hbn] at h17
    obtain ⟨j, hj⟩ : ∃ j, mlb M nl w = some j := by cases e : mlb M nl w with | none => exact absurd e h17 | some j => exact ⟨j, rfl⟩
    have hj8 : j < 8 := by have := hbl j hj; omega
    rw [hj]
    simp only [ixm]
    refine G_iload C dX10_sumOf_20 rfl ?_
    refine G_if_ne C 27 dX10_sumOf_22 (by decide) (fun h22 => ?_) (fun h22 => ?_)
    · refine G_aload_r C dX10_sumOf_27 rfl ?_
      refine G_iload_n C dX10_sumOf_28 rfl ?_
      refine G_iload_n C dX10_sumOf_29 rfl ?_
      refine G_cVr2 C ok_X10_income lk_X10_126 rfl rfl (c_X10_income hn h80 hv) (Nat.le_of_ble_eq_true rfl) dX10_sumOf_30 ?_
      refine G_top (fun i0 ei0 => ?_)
      refine G_istore C dX10_sumOf_33 (by decide) ?_
      refine G_iload C dX10_sumOf_35 rfl ?_
      refine G_aload_r C dX10_sumOf_37 rfl ?_
      refine G_iload_n C dX10_sumOf_38 rfl ?_
      refine G_iload_n C dX10_sumOf_39 rfl ?_
      refine G_cVr2 C ok_X10_others lk_X10_133 rfl rfl (c_X10_others hn h80 hv) (Nat.le_of_ble_eq_true rfl) dX10_sumOf_40 ?_
      refine G_iload C dX10_sumOf_43 rfl ?_
      refine G_aload_r C dX10_sumOf_45 rfl ?_
      refine G_getR C fo_X10_47 rfl rfl dX10_sumOf_46 ?_
      refine G_iload C dX10_sumOf_49 rfl ?_
      refine G_ialdN C rfl (by assumption) (by decide) dX10_sumOf_51 ?_
      refine G_imul C dX10_sumOf_52 ?_
      refine G_bipush C (100) dX10_sumOf_53 (by decide) ?_
      refine G_idiv C dX10_sumOf_55 (by decide) ?_
      refine G_imul C dX10_sumOf_56 ?_
      refine G_isub C dX10_sumOf_57 ?_
      refine G_top (fun i1 ei1 => ?_)
      refine G_istore C dX10_sumOf_58 (by decide) ?_
      refine G_join 71 [.int (if 0 ≤ i1 then i1 else 0)] (fun J => ?_) ?_
      · refine G_iload C dX10_sumOf_60 rfl ?_
        refine G_if_ge C 69 dX10_sumOf_62 (by decide) (fun h62 => ?_) (fun h62 => ?_)
        · refine G_iload C dX10_sumOf_69 rfl ?_
          rw [if_pos h62] at J
          exact J
        · refine G_iconst C (0) dX10_sumOf_65 (by decide) ?_
          refine G_goto C 71 dX10_sumOf_66 (by decide) ?_
          rw [if_neg h62] at J
          exact J
      refine G_top (fun i2 ei2 => ?_)
      refine G_istore C dX10_sumOf_71 (by decide) ?_
      refine G_join 107 [.int (if M 46 j < 0 ∨ i2 < M 46 j then i2 else M 46 j)] (fun J => ?_) ?_
      · refine G_aload_r C dX10_sumOf_73 rfl ?_
        refine G_getR C fo_X10_38 rfl rfl dX10_sumOf_74 ?_
        refine G_iload C dX10_sumOf_77 rfl ?_
        refine G_ialdN C rfl (by assumption) (by decide) dX10_sumOf_79 ?_
        refine G_if_lt C 95 dX10_sumOf_80 (by decide) (fun h80 => ?_) (fun h80 => ?_)
        · refine G_iload C dX10_sumOf_95 rfl ?_
          refine G_goto C 107 dX10_sumOf_97 (by decide) ?_
          rw [if_pos (by grind)] at J
          exact J
        · refine G_iload C dX10_sumOf_83 rfl ?_
          refine G_aload_r C dX10_sumOf_85 rfl ?_
          refine G_getR C fo_X10_38 rfl rfl dX10_sumOf_86 ?_
          refine G_iload C dX10_sumOf_89 rfl ?_
          refine G_ialdN C rfl (by assumption) (by decide) dX10_sumOf_91 ?_
          refine G_icmp_ge C 100 dX10_sumOf_92 (by decide) (fun h92 => ?_) (fun h92 => ?_)
          · refine G_aload_r C dX10_sumOf_100 rfl ?_
            refine G_getR C fo_X10_38 rfl rfl dX10_sumOf_101 ?_
            refine G_iload C dX10_sumOf_104 rfl ?_
            refine G_ialdN C rfl (by assumption) (by decide) dX10_sumOf_106 ?_
            rw [if_neg (by grind)] at J
            exact J
          · refine G_iload C dX10_sumOf_95 rfl ?_
            refine G_goto C 107 dX10_sumOf_97 (by decide) ?_
            rw [if_pos (by grind)] at J
            exact J
      refine G_top (fun lo elo => ?_)
      refine G_istore C dX10_sumOf_107 (by decide) ?_
      refine G_iload C dX10_sumOf_109 rfl ?_
      refine G_aload_r C dX10_sumOf_111 rfl ?_
      refine G_getR C fo_X10_35 rfl rfl dX10_sumOf_112 ?_
      refine G_iload C dX10_sumOf_115 rfl ?_
      refine G_ialdN C rfl (by assumption) (by decide) dX10_sumOf_117 ?_
      refine G_imul C dX10_sumOf_118 ?_
      refine G_bipush C (100) dX10_sumOf_119 (by decide) ?_
      refine G_idiv C dX10_sumOf_121 (by decide) ?_
      refine G_iload C dX10_sumOf_122 rfl ?_
      refine G_iload C dX10_sumOf_124 rfl ?_
      refine G_isub C dX10_sumOf_126 ?_
      refine G_aload_r C dX10_sumOf_127 rfl ?_
      refine G_getR C fo_X10_41 rfl rfl dX10_sumOf_128 ?_
      refine G_iload C dX10_sumOf_131 rfl ?_
      refine G_ialdN C rfl (by assumption) (by decide) dX10_sumOf_133 ?_
      refine G_imul C dX10_sumOf_134 ?_
      refine G_bipush C (100) dX10_sumOf_135 (by decide) ?_
      refine G_idiv C dX10_sumOf_137 (by decide) ?_
      refine G_iadd C dX10_sumOf_138 ?_
      refine G_top (fun v1 ev1 => ?_)
      refine G_istore C dX10_sumOf_139 (by decide) ?_
      refine G_iload C dX10_sumOf_141 rfl ?_
      refine G_join 181 [.int (m_mul kd), .int v1] (fun J => ?_) ?_
      · refine G_iload C dX10_sumOf_143 rfl ?_
        refine G_iconst C (1) dX10_sumOf_145 (by decide) ?_
        refine G_icmp_ne C 154 dX10_sumOf_146 (by decide) (fun h146 => ?_) (fun h146 => ?_)
        · refine G_iload C dX10_sumOf_154 rfl ?_
          refine G_iconst C (2) dX10_sumOf_156 (by decide) ?_
          refine G_icmp_ne C 166 dX10_sumOf_157 (by decide) (fun h157 => ?_) (fun h157 => ?_)
          · refine G_iload C dX10_sumOf_166 rfl ?_
            refine G_iconst C (3) dX10_sumOf_168 (by decide) ?_
            refine G_icmp_ne C 178 dX10_sumOf_169 (by decide) (fun h169 => ?_) (fun h169 => ?_)
            · refine G_sipush C (200) dX10_sumOf_178 (by decide) ?_
              rw [show m_mul kd = 200 from by simp [m_mul, h146, h157, h169]] at J
              exact J
            · refine G_sipush C (180) dX10_sumOf_172 (by decide) ?_
              refine G_goto C 181 dX10_sumOf_175 (by decide) ?_
              rw [show m_mul kd = 180 from by simp [m_mul, h169]] at J
              exact J
          · refine G_sipush C (150) dX10_sumOf_160 (by decide) ?_
            refine G_goto C 181 dX10_sumOf_163 (by decide) ?_
            rw [show m_mul kd = 150 from by simp [m_mul, h157]] at J
            exact J
        · refine G_bipush C (100) dX10_sumOf_149 (by decide) ?_
          refine G_goto C 181 dX10_sumOf_151 (by decide) ?_
          rw [show m_mul kd = 100 from by simp [m_mul, h146]] at J
          exact J
      refine G_imul C dX10_sumOf_181 ?_
      refine G_bipush C (100) dX10_sumOf_182 (by decide) ?_
      refine G_idiv C dX10_sumOf_184 (by decide) ?_
      refine G_top (fun v2 ev2 => ?_)
      refine G_istore C dX10_sumOf_185 (by decide) ?_
      refine G_iload C dX10_sumOf_187 rfl ?_
      refine G_iload_n C dX10_sumOf_189 rfl ?_
      refine G_iload C dX10_sumOf_190 rfl ?_
      refine G_aload_r C dX10_sumOf_192 rfl ?_
      refine G_getR C fo_X10_44 rfl rfl dX10_sumOf_193 ?_
      refine G_iload C dX10_sumOf_196 rfl ?_
      refine G_ialdN C rfl (by assumption) (by decide) dX10_sumOf_198 ?_
      refine G_imul C dX10_sumOf_199 ?_
      refine G_bipush C (100) dX10_sumOf_200 (by decide) ?_
      refine G_idiv C dX10_sumOf_202 (by decide) ?_
      refine G_imul C dX10_sumOf_203 ?_
      refine G_isub C dX10_sumOf_204 ?_
      refine G_top (fun v3 ev3 => ?_)
      refine G_istore C dX10_sumOf_205 (by decide) ?_
      refine G_join 231 [.int (if M 50 j ≤ v3 then v3 else M 50 j)] (fun J => ?_) ?_
      · refine G_iload C dX10_sumOf_207 rfl ?_
        refine G_aload_r C dX10_sumOf_209 rfl ?_
        refine G_getR C fo_X10_50 rfl rfl dX10_sumOf_210 ?_
        refine G_iload C dX10_sumOf_213 rfl ?_
        refine G_ialdN C rfl (by assumption) (by decide) dX10_sumOf_215 ?_
        refine G_icmp_ge C 229 dX10_sumOf_216 (by decide) (fun h216 => ?_) (fun h216 => ?_)
        · refine G_iload C dX10_sumOf_229 rfl ?_
          rw [if_pos h216] at J
          exact J
        · refine G_aload_r C dX10_sumOf_219 rfl ?_
          refine G_getR C fo_X10_50 rfl rfl dX10_sumOf_220 ?_
          refine G_iload C dX10_sumOf_223 rfl ?_
          refine G_ialdN C rfl (by assumption) (by decide) dX10_sumOf_225 ?_
          refine G_goto C 231 dX10_sumOf_226 (by decide) ?_
          rw [if_neg h216] at J
          exact J
      refine G_top (fun v4 ev4 => ?_)
      refine G_istore C dX10_sumOf_231 (by decide) ?_
      refine G_aload_r C dX10_sumOf_233 rfl ?_
      refine G_getR C fo_X10_53 rfl rfl dX10_sumOf_234 ?_
      refine G_iload C dX10_sumOf_237 rfl ?_
      refine G_ialdN C rfl (by assumption) (by decide) dX10_sumOf_239 ?_
      refine G_if_lt C 265 dX10_sumOf_240 (by decide) (fun h240 => ?_) (fun h240 => ?_)
      · refine G_iload C dX10_sumOf_265 rfl ?_
        exact G_retR C dX10_sumOf_267 (by
          first
          | (simp only [msumv, h17]; done)
          | (simp only [msumv, hj]; rw [← ekd, if_pos h22]; done)
          | (have e2 : i2 = m_ilo i0 (s_oth (M 38) (mbest M nc 0 k w)) (M 49 j) := by rw [ei2, ei1]; rfl
             have e3 : v2 = m_chi i2 kd (M 45 j) (M 46 j) (M 47 j) := by rw [ev2, ev1, elo]; rfl
             have e4 : v4 = m_lea v2 n (M 48 j) (M 50 j) := by rw [ev4, ev3]; rfl
             simp only [msumv, hj]
             rw [← ekd, if_neg h22, ← ei0, ← e2, ← e3]
             simp only [m_nig]
             rw [← e4]
             grind)) rfl
      · refine G_iload C dX10_sumOf_243 rfl ?_
        refine G_aload_r C dX10_sumOf_245 rfl ?_
        refine G_getR C fo_X10_53 rfl rfl dX10_sumOf_246 ?_
        refine G_iload C dX10_sumOf_249 rfl ?_
        refine G_ialdN C rfl (by assumption) (by decide) dX10_sumOf_251 ?_
        refine G_icmp_le C 265 dX10_sumOf_252 (by decide) (fun h252 => ?_) (fun h252 => ?_)
        · refine G_iload C dX10_sumOf_265 rfl ?_
          exact G_retR C dX10_sumOf_267 (by
            first
            | (simp only [msumv, h17]; done)
            | (simp only [msumv, hj]; rw [← ekd, if_pos h22]; done)
            | (have e2 : i2 = m_ilo i0 (s_oth (M 38) (mbest M nc 0 k w)) (M 49 j) := by rw [ei2, ei1]; rfl
               have e3 : v2 = m_chi i2 kd (M 45 j) (M 46 j) (M 47 j) := by rw [ev2, ev1, elo]; rfl
               have e4 : v4 = m_lea v2 n (M 48 j) (M 50 j) := by rw [ev4, ev3]; rfl
               simp only [msumv, hj]
               rw [← ekd, if_neg h22, ← ei0, ← e2, ← e3]
               simp only [m_nig]
               rw [← e4]
               grind)) rfl
        · refine G_aload_r C dX10_sumOf_255 rfl ?_
          refine G_getR C fo_X10_53 rfl rfl dX10_sumOf_256 ?_
          refine G_iload C dX10_sumOf_259 rfl ?_
          refine G_ialdN C rfl (by assumption) (by decide) dX10_sumOf_261 ?_
          refine G_goto C 267 dX10_sumOf_262 (by decide) ?_
          exact G_retR C dX10_sumOf_267 (by
            first
            | (simp only [msumv, h17]; done)
            | (simp only [msumv, hj]; rw [← ekd, if_pos h22]; done)
            | (have e2 : i2 = m_ilo i0 (s_oth (M 38) (mbest M nc 0 k w)) (M 49 j) := by rw [ei2, ei1]; rfl
               have e3 : v2 = m_chi i2 kd (M 45 j) (M 46 j) (M 47 j) := by rw [ev2, ev1, elo]; rfl
               have e4 : v4 = m_lea v2 n (M 48 j) (M 50 j) := by rw [ev4, ev3]; rfl
               simp only [msumv, hj]
               rw [← ekd, if_neg h22, ← ei0, ← e2, ← e3]
               simp only [m_nig]
               rw [← e4]
               grind)) rfl
    · refine G_iconst C (0) dX10_sumOf_25 (by decide) ?_
      exact G_retR C dX10_sumOf_26 (by
        first
        | (simp only [msumv, h17]; done)
        | (simp only [msumv, hj]; rw [← ekd, if_pos h22]; done)
        | (have e2 : i2 = m_ilo i0 (s_oth (M 38) (mbest M nc 0 k w)) (M 49 j) := by rw [ei2, ei1]; rfl
           have e3 : v2 = m_chi i2 kd (M 45 j) (M 46 j) (M 47 j) := by rw [ev2, ev1, elo]; rfl
           have e4 : v4 = m_lea v2 n (M 48 j) (M 50 j) := by rw [ev4, ev3]; rfl
           simp only [msumv, hj]
           rw [← ekd, if_neg h22, ← ei0, ← e2, ← e3]
           simp only [m_nig]
           rw [← e4]
           grind)) rfl
def mduev (M : Mem) (nl nc : Nat) (side k : Int32) (w : Nat) : Int32 := if M 43 w = 0 then (if side = 1 then (if msumv M nl nc (nI w) (mend M w false) k < msumv M nl nc (nI w) (mend M w true) k then msumv M nl nc (nI w) (mend M w true) k else msumv M nl nc (nI w) (mend M w false) k) else (if msumv M nl nc (nI w) (mend M w true) k < msumv M nl nc (nI w) (mend M w false) k then msumv M nl nc (nI w) (mend M w true) k else msumv M nl nc (nI w) (mend M w false) k)) else 0
set_option maxHeartbeats 4000000 in
set_option maxRecDepth 100000 in
theorem c_X10_dueOf {K : Kt} {d : Nat} {M : Mem} {nl nc w : Nat} {side k : Int32} (hl : M 36 9 = nI nl) (hl8 : nl ≤ 8) (hn : M 36 1 = nI nc) (h80 : nc ≤ 80) (hv : ∀ i, i < nc → M 37 i ≠ 2 → 0 ≤ M 38 i) (hw : w < 120) : Ri K (d + 4) mX10_dueOf [rf K 36, .int (nI w), .int side, .int k] M (mduev M nl nc side k w) M := by
  refine Ri_int RX10 [(0, rf K 36), (1, .int (nI w)), (2, .int side), (3, .int k)] rfl (by decide) rfl (Nat.le_of_ble_eq_true rfl) rfl (fun x C => ?_)
  refine G_aload_r C dX10_dueOf_0 rfl ?_
  refine G_getR C fo_X10_28 rfl rfl dX10_dueOf_1 ?_
  refine G_iload_n C dX10_dueOf_4 rfl ?_
  refine G_zaldN C rfl (by assumption) (by decide) dX10_dueOf_5 ?_
  refine G_if_eq C 11 dX10_dueOf_6 (by decide) (fun h6 => ?_) (fun h6 => ?_)
  · refine G_aload_r C dX10_dueOf_11 rfl ?_
    refine G_iload_n C dX10_dueOf_12 rfl ?_
    refine G_aload_r C dX10_dueOf_13 rfl ?_
    refine G_iload_n C dX10_dueOf_14 rfl ?_
    refine G_iconst C (0) dX10_dueOf_15 (by decide) ?_
    refine G_cVr2 C ok_X10_end lk_X10_139 rfl rfl (c_X10_end hw (Or.inl rfl)) (Nat.le_of_ble_eq_true rfl) dX10_dueOf_16 ?_
    refine G_iload_n C dX10_dueOf_19 rfl ?_
    refine G_cVr3 C ok_X10_sumOf lk_X10_203 rfl rfl (c_X10_sumOf hl hl8 hn h80 hv) (Nat.le_of_ble_eq_true rfl) dX10_dueOf_20 ?_
    refine G_istore C dX10_dueOf_23 (by decide) ?_
    refine G_aload_r C dX10_dueOf_25 rfl ?_
    refine G_iload_n C dX10_dueOf_26 rfl ?_
    refine G_aload_r C dX10_dueOf_27 rfl ?_
    refine G_iload_n C dX10_dueOf_28 rfl ?_
    refine G_iconst C (1) dX10_dueOf_29 (by decide) ?_
    refine G_cVr2 C ok_X10_end lk_X10_139 rfl rfl (c_X10_end hw (Or.inr rfl)) (Nat.le_of_ble_eq_true rfl) dX10_dueOf_30 ?_
    refine G_iload_n C dX10_dueOf_33 rfl ?_
    refine G_cVr3 C ok_X10_sumOf lk_X10_203 rfl rfl (c_X10_sumOf hl hl8 hn h80 hv) (Nat.le_of_ble_eq_true rfl) dX10_dueOf_34 ?_
    refine G_istore C dX10_dueOf_37 (by decide) ?_
    refine G_iload C dX10_dueOf_39 rfl ?_
    refine G_iload C dX10_dueOf_41 rfl ?_
    refine G_icmp_ge C 50 dX10_dueOf_43 (by decide) (fun h43 => ?_) (fun h43 => ?_)
    · refine G_iconst C (0) dX10_dueOf_50 (by decide) ?_
      refine G_iload_n C dX10_dueOf_51 rfl ?_
      refine G_iconst C (1) dX10_dueOf_52 (by decide) ?_
      refine G_icmp_ne C 60 dX10_dueOf_53 (by decide) (fun h53 => ?_) (fun h53 => ?_)
      · refine G_iconst C (0) dX10_dueOf_60 (by decide) ?_
        refine G_icmp_ne C 69 dX10_dueOf_61 (by decide) (fun h61 => ?_) (fun h61 => ?_)
        · refine G_iload C dX10_dueOf_69 rfl ?_
          exact G_retR C dX10_dueOf_71 (by first | (simp only [mduev]; simp [*]; done) | (simp only [mduev]; simp at *; done) | (simp only [mduev]; simp at *; grind) | (simp at *; done)) rfl
        · refine G_iload C dX10_dueOf_64 rfl ?_
          refine G_goto C 71 dX10_dueOf_66 (by decide) ?_
          exact G_retR C dX10_dueOf_71 (by first | (simp only [mduev]; simp [*]; done) | (simp only [mduev]; simp at *; done) | (simp only [mduev]; simp at *; grind) | (simp at *; done)) rfl
      · refine G_iconst C (1) dX10_dueOf_56 (by decide) ?_
        refine G_goto C 61 dX10_dueOf_57 (by decide) ?_
        refine G_icmp_ne C 69 dX10_dueOf_61 (by decide) (fun h61 => ?_) (fun h61 => ?_)
        · refine G_iload C dX10_dueOf_69 rfl ?_
          exact G_retR C dX10_dueOf_71 (by first | (simp only [mduev]; simp [*]; done) | (simp only [mduev]; simp at *; done) | (simp only [mduev]; simp at *; grind) | (simp at *; done)) rfl
        · refine G_iload C dX10_dueOf_64 rfl ?_
          refine G_goto C 71 dX10_dueOf_66 (by decide) ?_
          exact G_retR C dX10_dueOf_71 (by first | (simp only [mduev]; simp [*]; done) | (simp only [mduev]; simp at *; done) | (simp only [mduev]; simp at *; grind) | (simp at *; done)) rfl
    · refine G_iconst C (1) dX10_dueOf_46 (by decide) ?_
      refine G_goto C 51 dX10_dueOf_47 (by decide) ?_
      refine G_iload_n C dX10_dueOf_51 rfl ?_
      refine G_iconst C (1) dX10_dueOf_52 (by decide) ?_
      refine G_icmp_ne C 60 dX10_dueOf_53 (by decide) (fun h53 => ?_) (fun h53 => ?_)
      · refine G_iconst C (0) dX10_dueOf_60 (by decide) ?_
        refine G_icmp_ne C 69 dX10_dueOf_61 (by decide) (fun h61 => ?_) (fun h61 => ?_)
        · refine G_iload C dX10_dueOf_69 rfl ?_
          exact G_retR C dX10_dueOf_71 (by first | (simp only [mduev]; simp [*]; done) | (simp only [mduev]; simp at *; done) | (simp only [mduev]; simp at *; grind) | (simp at *; done)) rfl
        · refine G_iload C dX10_dueOf_64 rfl ?_
          refine G_goto C 71 dX10_dueOf_66 (by decide) ?_
          exact G_retR C dX10_dueOf_71 (by first | (simp only [mduev]; simp [*]; done) | (simp only [mduev]; simp at *; done) | (simp only [mduev]; simp at *; grind) | (simp at *; done)) rfl
      · refine G_iconst C (1) dX10_dueOf_56 (by decide) ?_
        refine G_goto C 61 dX10_dueOf_57 (by decide) ?_
        refine G_icmp_ne C 69 dX10_dueOf_61 (by decide) (fun h61 => ?_) (fun h61 => ?_)
        · refine G_iload C dX10_dueOf_69 rfl ?_
          exact G_retR C dX10_dueOf_71 (by first | (simp only [mduev]; simp [*]; done) | (simp only [mduev]; simp at *; done) | (simp only [mduev]; simp at *; grind) | (simp at *; done)) rfl
        · refine G_iload C dX10_dueOf_64 rfl ?_
          refine G_goto C 71 dX10_dueOf_66 (by decide) ?_
          exact G_retR C dX10_dueOf_71 (by first | (simp only [mduev]; simp [*]; done) | (simp only [mduev]; simp at *; done) | (simp only [mduev]; simp at *; grind) | (simp at *; done)) rfl
  · refine G_iconst C (0) dX10_dueOf_9 (by decide) ?_
    exact G_retR C dX10_dueOf_10 (by first | (simp only [mduev]; simp [*]; done) | (simp only [mduev]; simp at *; done) | (simp only [mduev]; simp at *; grind) | (simp at *; done)) rfl
