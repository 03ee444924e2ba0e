theorem ac_1 : Cond.methodLink RX9 266 arraycopyName ∈ gtbl := gt_mem 712 (by decide +kernel) rfl
theorem ac_2 : Cond.native arraycopyName ∈ gtbl := gt_mem 714 (by decide +kernel) rfl
theorem ac_3 : Cond.static arraycopyName ∈ gtbl := gt_mem 713 (by decide +kernel) rfl
theorem ac_4 : Cond.initialized "java/lang/System" ∈ gtbl := gt_mem 63 (by decide +kernel) rfl
theorem lay_sh : ∀ j, j < 2 → layL[23 + j]? = some (.inl (7, [some (25 + j), none]))
  | 0, _ => rfl
  | 1, _ => rfl
  | n + 2, h => by omega
theorem lay_pl : ∀ j, j < 2 → layL[25 + j]? = some (.inr (.inl (1, 120)))
  | 0, _ => rfl
  | 1, _ => rfl
  | n + 2, h => by omega
theorem row_sh : ∀ j, j < 2 → ([23, 24] : List Nat)[j]? = some (23 + j) := by decide
section SH
variable {K : Kt} {x : Cx} {own : String} {cc : ByteArray} {nL d : Nat} {Rp : Option Int32 → Mem → Prop} {pc : Nat} {lv : List (Nat × Value)} {st : List Value} {M : Mem}
theorem G_sh (C : Cok K x own cc nL d Rp) {j : Nat} (hj : j < 2) (hd : decode cc pc = .ok (.aaload, 1)) (k9 : G K x nL (pc + 1) lv (rf K (23 + j) :: st) M) : G K x nL pc lv (.int (nI j) :: rf K 22 :: st) M :=
  G_aald C (rs := [23, 24]) rfl (Or.inr rfl) (vp_in_nI hj (by decide)) (by rw [nI_clamp (by omega)]; exact row_sh j hj) hd k9
theorem G_copy (C : Cok K x RX9 cc nL (d + 1) Rp) {a b : Nat} {sp dp n : Nat} {rest : List Value} (ha : layL[a]? = some (.inr (.inl (1, 120)))) (hb0 : layL[b]? = some (.inr (.inl (1, 120)))) (h4 : sp + n ≤ 120) (h5 : dp + n ≤ 120) (hfit : ∀ i, i < n → fits .byte (.int (M a (sp + i))) = true) (hr : (rest.map fun v => v.category).sum ≤ 8) (hd : decode cc pc = .ok (.invokestatic 266, 3)) (k9 : G K x nL (pc + 3) lv rest (va_up M b (va_cpy (M a) (M b) sp dp n))) : G K x nL pc lv (.int (nI n) :: .int (nI dp) :: rf K b :: .int (nI sp) :: rf K a :: rest) M := by
  obtain ⟨p, e, R, s, m, args, below, meth, c, cells, slots, Q, A⟩ := x
  obtain ⟨hx, hb, hml, hown, hts, hK, hA, hE, hd1, hd2, hd3, hd4, hrI, hrV⟩ := C
  intro H locs ls hP hD hS hl
  have e1 : (nI sp).toNatClampNeg = sp := nI_clamp (by omega)
  have e2 : (nI dp).toNatClampNeg = dp := nI_clamp (by omega)
  have e3 : (nI n).toNatClampNeg = n := nI_clamp (by omega)
  refine va_copyi (ty := .byte) hx hb (by rw [hml, hl.1]) hown (hts _ ac_1) (hts _ ac_2) (hts _ ac_3) (hts _ ac_4) hK hP hD hS a b 1 1 (wld_get ha) (wld_get hb0) rfl rfl rfl (nI_pos (by omega)) (nI_pos (by omega)) (nI_pos (by omega)) (by rw [e1, e3]; exact h4) (by rw [e2, e3]; exact h5) (fun i hi => by rw [e1]; rw [e3] at hi; exact hfit i hi) (by omega) (by show _ + (7 + 11) ≤ _; omega) hd (fun H1 locs1 hP1 hD1 hS1 => ?_)
  rw [e1, e2, e3] at hP1 hD1
  have e9 : (wld K M).set b (kA K b, .inl (kC K 1, 120, .inl (va_cpy (M a) (M b) sp dp n))) = wld K (va_up M b (va_cpy (M a) (M b) sp dp n)) := wld_set (d := .inr (.inl (1, 120))) hb0
  rw [e9] at hP1 hD1
  exact k9 H1 locs1 ls hP1 hD1 hS1 hl
end SH
def Fil (M : Mem) (c : Nat) (v : Int32) (n : Nat) (N : Mem) : Prop := (∀ i, i ≠ c → N i = M i) ∧ ∀ i, i < n → N c i = v.toInt8.toInt32
set_option maxHeartbeats 4000000 in
set_option maxRecDepth 100000 in
theorem L_J7_fill_031fb {K : Kt} {d : Nat} {M : Mem} {c : Nat} {v : Int32} {x : Cx} (hc : layL[c]? = some (.inr (.inl (1, 120)))) (C : Cok K x RJ7 cJ7_fill_031fb 4 d (RV (Fil M c v 120))) :
    ∀ (t j : Nat) (N : Mem), 120 < j + t → j ≤ 120 → Fil M c v j N → G K x 4 5 [(0, rf K c), (1, .int v), (2, .int (nI j)), (3, .int (nI 120))] [] N := by
  intro t
  induction t with
  | zero => intro j N h1 h2; omega
  | succ t ih =>
    intro j N h1 h2 hb
    refine G_iload_n C dJ7_fill_031fb_5 rfl ?_
    refine G_iload_n C dJ7_fill_031fb_6 rfl ?_
    refine G_icmp_ge C 20 dJ7_fill_031fb_7 (by decide) (fun h7 => ?_) (fun h7 => ?_)
    · have hE : j = 120 := by have := n_le (n := 120) rfl (Nat.le_refl _) h2 (by decide) h7; omega
      exact G_vret C dJ7_fill_031fb_20 (by rw [hE] at hb; exact hb)
    · have hj8 : j < 120 := n_gt (n := 120) rfl (Nat.le_refl _) h2 (by decide) h7
      refine G_aload_r C dJ7_fill_031fb_10 rfl ?_
      refine G_iload_n C dJ7_fill_031fb_11 rfl ?_
      refine G_iload_n C dJ7_fill_031fb_12 rfl ?_
      refine G_bastN C hc (by assumption) (by decide) dJ7_fill_031fb_13 ?_
      refine G_iincN C dJ7_fill_031fb_14 (by decide) rfl ?_
      refine G_goto C 5 dJ7_fill_031fb_17 (by decide) ?_
      refine G_sub [(0, _), (1, _), (2, _), (3, _)] (by repeat (first | refine And.intro rfl ?_ | exact True.intro)) ?_
      refine ih (j + 1) _ (by omega) (by omega) ⟨fun i hi => (wr_c hi).trans (hb.1 i hi), fun i hi => ?_⟩
      rcases Nat.lt_or_ge i j with q | q
      · rw [wr_f (by omega)]; exact hb.2 i q
      · have e : i = j := by omega
        subst e
        rw [wr_s]
set_option maxHeartbeats 4000000 in
set_option maxRecDepth 100000 in
theorem c_J7_fill_031fb {K : Kt} {d : Nat} {M : Mem} {c : Nat} {v : Int32} (hc : layL[c]? = some (.inr (.inl (1, 120)))) : Cv K d mJ7_fill_031fb [rf K c, .int v] M (Fil M c v 120) := by
  refine Cv_of RJ7 [(0, rf K c), (1, .int v)] rfl (by decide) rfl (Nat.le_of_ble_eq_true rfl) rfl (fun x C => ?_)
  refine G_iconst C (nI 0) dJ7_fill_031fb_0 (by decide) ?_
  refine G_istore_n C dJ7_fill_031fb_1 (by decide) ?_
  refine G_aload_r C dJ7_fill_031fb_2 rfl ?_
  refine G_alenW C hc (by decide) dJ7_fill_031fb_3 ?_
  refine G_istore_n C dJ7_fill_031fb_4 (by decide) ?_
  refine G_sub [(0, _), (1, _), (2, _), (3, _)] (by repeat (first | refine And.intro rfl ?_ | exact True.intro)) ?_
  exact L_J7_fill_031fb hc C 121 0 M (by omega) (by omega) ⟨fun _ _ => rfl, fun i hi => absurd hi (by omega)⟩
set_option maxHeartbeats 4000000 in
set_option maxRecDepth 100000 in
theorem c_X7_isMissing {K : Kt} {d : Nat} {M : Mem} {j : Nat} (hj : j < 2) : Ri K d mX7_isMissing [rf K (23 + j)] M (bl (M (23 + j) 1 = -1)) M := by
  refine Ri_bool RX7 [(0, rf K (23 + j))] rfl (by decide) rfl (Nat.le_of_ble_eq_true rfl) rfl bl_or (fun x C => ?_)
  refine G_aload_r C dX7_isMissing_0 rfl ?_
  refine G_getI C fo_X7_15 (lay_sh j hj) rfl dX7_isMissing_1 ?_
  refine G_iconst C (-1) dX7_isMissing_4 (by decide) ?_
  refine G_icmp_ne C 12 dX7_isMissing_5 (by decide) (fun h5 => ?_) (fun h5 => ?_)
  · refine G_iconst C (0) dX7_isMissing_12 (by decide) ?_
    exact G_retR C dX7_isMissing_13 (by first | exact (bl_t (by grind)).symm | exact (bl_f (by grind)).symm) rfl
  · refine G_iconst C (1) dX7_isMissing_8 (by decide) ?_
    refine G_goto C 13 dX7_isMissing_9 (by decide) ?_
    exact G_retR C dX7_isMissing_13 (by first | exact (bl_t (by grind)).symm | exact (bl_f (by grind)).symm) rfl
set_option maxHeartbeats 4000000 in
set_option maxRecDepth 100000 in
theorem c_X7_hasRun {K : Kt} {d : Nat} {M : Mem} {j : Nat} {p m : Int32} (hj : j < 2) : Ri K d mX7_hasRun [rf K (23 + j), .int p, .int m] M (bl (0 ≤ p ∧ 0 ≤ m ∧ p ≤ M (23 + j) 1 - m)) M := by
  refine Ri_bool RX7 [(0, rf K (23 + j)), (1, .int p), (2, .int m)] rfl (by decide) rfl (Nat.le_of_ble_eq_true rfl) rfl bl_or (fun x C => ?_)
  refine G_iload_n C dX7_hasRun_0 rfl ?_
  refine G_if_lt C 22 dX7_hasRun_1 (by decide) (fun h1 => ?_) (fun h1 => ?_)
  · refine G_iconst C (0) dX7_hasRun_22 (by decide) ?_
    exact G_retR C dX7_hasRun_23 (by first | exact (bl_t (by grind)).symm | exact (bl_f (by grind)).symm) rfl
  · refine G_iload_n C dX7_hasRun_4 rfl ?_
    refine G_if_lt C 22 dX7_hasRun_5 (by decide) (fun h5 => ?_) (fun h5 => ?_)
    · refine G_iconst C (0) dX7_hasRun_22 (by decide) ?_
      exact G_retR C dX7_hasRun_23 (by first | exact (bl_t (by grind)).symm | exact (bl_f (by grind)).symm) rfl
    · refine G_iload_n C dX7_hasRun_8 rfl ?_
      refine G_aload_r C dX7_hasRun_9 rfl ?_
      refine G_getI C fo_X7_15 (lay_sh j hj) rfl dX7_hasRun_10 ?_
      refine G_iload_n C dX7_hasRun_13 rfl ?_
      refine G_isub C dX7_hasRun_14 ?_
      refine G_icmp_gt C 22 dX7_hasRun_15 (by decide) (fun h15 => ?_) (fun h15 => ?_)
      · refine G_iconst C (0) dX7_hasRun_22 (by decide) ?_
        exact G_retR C dX7_hasRun_23 (by first | exact (bl_t (by grind)).symm | exact (bl_f (by grind)).symm) rfl
      · refine G_iconst C (1) dX7_hasRun_18 (by decide) ?_
        refine G_goto C 23 dX7_hasRun_19 (by decide) ?_
        exact G_retR C dX7_hasRun_23 (by first | exact (bl_t (by grind)).symm | exact (bl_f (by grind)).symm) rfl
def ShX (M : Mem) (j : Nat) (n : Int32) (N : Mem) : Prop := (∀ i, i ≠ 23 + j → i ≠ 25 + j → N i = M i) ∧ (∀ b, b ≠ 1 → N (23 + j) b = M (23 + j) b) ∧ N (23 + j) 1 = n ∧ ∀ i, i < 120 → N (25 + j) i = 0
set_option maxHeartbeats 4000000 in
set_option maxRecDepth 100000 in
theorem c_X7_makeAnew {K : Kt} {d : Nat} {M : Mem} {j : Nat} {n : Int32} (hj : j < 2) : Cv K (d + 1) mX7_makeAnew [rf K (23 + j), .int n] M (ShX M j n) := by
  refine Cv_of RX7 [(0, rf K (23 + j)), (1, .int n)] rfl (by decide) rfl (Nat.le_of_ble_eq_true rfl) rfl (fun x C => ?_)
  refine G_aload_r C dX7_makeAnew_0 rfl ?_
  refine G_getR C fo_X7_9 (lay_sh j hj) rfl dX7_makeAnew_1 ?_
  refine G_iconst C (0) dX7_makeAnew_4 (by decide) ?_
  refine G_cSv2 C ok_J7_fill_031fb lk_X7_19 (c_J7_fill_031fb (lay_pl j hj)) (Nat.le_of_ble_eq_true rfl) dX7_makeAnew_5 (fun N hq => ?_)
  obtain ⟨q1, q2⟩ := hq
  refine G_aload_r C dX7_makeAnew_8 rfl ?_
  refine G_iload_n C dX7_makeAnew_9 rfl ?_
  refine G_putI C fp_X7_15 (lay_sh j hj) rfl dX7_makeAnew_10 ?_
  refine G_vret C dX7_makeAnew_13 ⟨fun i h1 h2 => (wr_c h1).trans (q1 i h2), fun b hb => ?_, wr_s, fun i hi => ?_⟩
  · rw [wr_f hb, q1 (23 + j) (by omega)]
  · rw [wr_c (by omega), q2 i hi]; rfl
theorem ix_s {s : Int32} (h : s = 0 ∨ s = 1) : ∃ j, j < 2 ∧ s = nI j ∧ (nI j).toNatClampNeg = j := ix_ex (n := 2) (by decide) (by rcases h with rfl | rfl <;> decide)
theorem ok_s {j : Nat} (h : j < 2) : nI j = 0 ∨ nI j = 1 := by
  rcases (show j = 0 ∨ j = 1 by omega) with rfl | rfl
  · exact Or.inl rfl
  · exact Or.inr rfl
def ShM (M : Mem) (j : Nat) (n : Int32) (k : Nat) (N : Mem) : Prop := (∀ i, i ≠ 56 → i ≠ 57 → N i = M i) ∧ N 56 = va_up (M 56) j n ∧ (∀ i, i < k → N 57 (120 * j + i) = 0) ∧ ∀ q, q < 120 * j ∨ 120 * j + k ≤ q → N 57 q = M 57 q
set_option maxHeartbeats 4000000 in
set_option maxRecDepth 100000 in
theorem c_X9_sheet {K : Kt} {d : Nat} {M : Mem} {s n : Int32} : Ci K (d + 3) mX9_sheet [rf K 0, .int s, .int n] M (fun r N => (r = (-2000000001) ∧ N = M ∧ ¬ ((s = 0 ∨ s = 1) ∧ n ≤ 120)) ∨ (r = (-2000000014) ∧ N = M ∧ ((s = 0 ∨ s = 1) ∧ n ≤ 120) ∧ n < 0) ∨ (r = n ∧ ((s = 0 ∨ s = 1) ∧ n ≤ 120) ∧ 0 ≤ n ∧ ∃ j, j < 2 ∧ s = nI j ∧ ShX M j n N)) := by
  refine Ci_int RX9 [(0, rf K 0), (1, .int s), (2, .int n)] rfl (by decide) rfl (Nat.le_of_ble_eq_true rfl) rfl (fun x C => ?_)
  refine G_iload_n C dX9_sheet_0 rfl ?_
  refine G_iconst C (2) dX9_sheet_1 (by decide) ?_
  refine G_cSr2 C ok_X9_isBelow lk_X9_88 (c_X9_isBelow) (Nat.le_of_ble_eq_true rfl) dX9_sheet_2 ?_
  refine G_if_eq C 14 dX9_sheet_5 (by decide) (fun h5 => ?_) (fun h5 => ?_)
  · rw [bl_z] at h5
    refine G_ldc C kc_X9_72 dX9_sheet_14 ?_
    exact G_ret C dX9_sheet_16 (Or.inl ⟨rfl, rfl, by clear C; grind⟩)
  · rw [bl_z] at h5
    refine G_iload_n C dX9_sheet_8 rfl ?_
    refine G_bipush C (120) dX9_sheet_9 (by decide) ?_
    refine G_icmp_le C 17 dX9_sheet_11 (by decide) (fun h11 => ?_) (fun h11 => ?_)
    · refine G_iload_n C dX9_sheet_17 rfl ?_
      refine G_if_ge C 24 dX9_sheet_18 (by decide) (fun h18 => ?_) (fun h18 => ?_)
      · obtain ⟨j, hj, rfl, tj⟩ := ix_ex (n := 2) (by decide) (Decidable.not_not.mp h5)
        refine G_aload_r C dX9_sheet_24 rfl ?_
        refine G_getR C fo_X9_42 rfl rfl dX9_sheet_25 ?_
        refine G_getR C fo_X9_243 rfl rfl dX9_sheet_28 ?_
        refine G_iload_n C dX9_sheet_31 rfl ?_
        refine G_sh C hj dX9_sheet_32 ?_
        refine G_iload_n C dX9_sheet_33 rfl ?_
        refine G_cVv1 C ok_X7_makeAnew lk_X9_247 (lay_sh j hj) rfl (c_X7_makeAnew hj) (Nat.le_of_ble_eq_true rfl) dX9_sheet_34 (fun N hq => ?_)
        refine G_iload_n C dX9_sheet_37 rfl ?_
        exact G_ret C dX9_sheet_38 (Or.inr (Or.inr ⟨rfl, ⟨ok_s hj, by clear C; grind⟩, h18, j, hj, rfl, hq⟩))
      · refine G_ldc C kc_X9_242 dX9_sheet_21 ?_
        exact G_ret C dX9_sheet_23 (Or.inr (Or.inl ⟨rfl, rfl, by clear C; grind, by clear C; grind⟩))
    · refine G_ldc C kc_X9_72 dX9_sheet_14 ?_
      exact G_ret C dX9_sheet_16 (Or.inl ⟨rfl, rfl, by clear C; grind⟩)
set_option maxHeartbeats 4000000 in
set_option maxRecDepth 100000 in
theorem L_X10_sheet {K : Kt} {d : Nat} {M : Mem} {j n : Nat} {x : Cx} {Q : Int32 → Mem → Prop} (hj : j < 2) (hn : n ≤ 120) (hQ : ∀ N, ShM M j (nI n) n N → Q (nI n) N) (C : Cok K x RX10 cX10_sheet 4 d (RI Q)) :
    ∀ (t i : Nat) (N : Mem), n < i + t → i ≤ n → ShM M j (nI n) i N → G K x 4 32 [(0, rf K 36), (1, .int (nI j)), (2, .int (nI n)), (3, .int (nI i))] [] N := by
  intro t
  induction t with
  | zero => intro i N h1 h2; omega
  | succ t ih =>
    intro i N h1 h2 hb
    refine G_iload_n C dX10_sheet_32 rfl ?_
    refine G_iload_n C dX10_sheet_33 rfl ?_
    refine G_icmp_ge C 55 dX10_sheet_34 (by decide) (fun h34 => ?_) (fun h34 => ?_)
    · have hE : i = n := by have := n_le (n := n) rfl hn (by omega) (by decide) h34; omega
      refine G_iload_n C dX10_sheet_55 rfl ?_
      exact G_ret C dX10_sheet_56 (hQ N (by rw [hE] at hb; exact hb))
    · have hi8 : i < n := n_gt (n := n) rfl hn (by omega) (by decide) h34
      refine G_aload_r C dX10_sheet_37 rfl ?_
      refine G_getR C fo_X10_75 rfl rfl dX10_sheet_38 ?_
      refine G_bipush C (nI 120) dX10_sheet_41 (by decide) ?_
      refine G_iload_n C dX10_sheet_43 rfl ?_
      refine G_imul C dX10_sheet_44 ?_
      refine G_iload_n C dX10_sheet_45 rfl ?_
      refine G_iadd C dX10_sheet_46 ?_
      rw [pk_mul, nI_add]
      refine G_iconst C (0) dX10_sheet_47 (by decide) ?_
      refine G_iastN C rfl (by omega) (by decide) dX10_sheet_48 ?_
      refine G_iincN C dX10_sheet_49 (by decide) rfl ?_
      refine G_goto C 32 dX10_sheet_52 (by decide) ?_
      refine G_sub [(0, _), (1, _), (2, _), (3, _)] (by repeat (first | refine And.intro rfl ?_ | exact True.intro)) ?_
      obtain ⟨b1, b2, b3, b4⟩ := hb
      refine ih (i + 1) _ (by omega) (by omega) ⟨fun q h1 h2 => (wr_c h2).trans (b1 q h1 h2), (wr_c (by decide)).trans b2, fun q hq => ?_, fun q hq => ?_⟩
      · rcases Nat.lt_or_ge q i with z | z
        · rw [wr_f (by omega)]; exact b3 q z
        · rw [show q = i by omega, wr_s]
      · rw [wr_f (by omega)]; exact b4 q (by omega)
set_option maxHeartbeats 4000000 in
set_option maxRecDepth 100000 in
theorem c_X10_sheet {K : Kt} {d : Nat} {M : Mem} {s n : Int32} : Ci K (d + 3) mX10_sheet [rf K 36, .int s, .int n] M (fun r N => (r = (-2000000001) ∧ N = M ∧ ¬ ((s = 0 ∨ s = 1) ∧ n ≤ 120)) ∨ (r = (-2000000014) ∧ N = M ∧ ((s = 0 ∨ s = 1) ∧ n ≤ 120) ∧ n < 0) ∨ (r = n ∧ ((s = 0 ∨ s = 1) ∧ n ≤ 120) ∧ 0 ≤ n ∧ ∃ j, j < 2 ∧ s = nI j ∧ ShM M j n n.toNatClampNeg N)) := by
  refine Ci_int RX10 [(0, rf K 36), (1, .int s), (2, .int n)] rfl (by decide) rfl (Nat.le_of_ble_eq_true rfl) rfl (fun x C => ?_)
  refine G_iload_n C dX10_sheet_0 rfl ?_
  refine G_cSr1 C ok_X10_isSheet lk_X10_234 (c_X10_isSheet) (Nat.le_of_ble_eq_true rfl) dX10_sheet_1 ?_
  refine G_if_eq C 13 dX10_sheet_4 (by decide) (fun h4 => ?_) (fun h4 => ?_)
  · rw [bl_z] at h4
    refine G_ldc C kc_X10_106 dX10_sheet_13 ?_
    exact G_ret C dX10_sheet_15 (Or.inl ⟨rfl, rfl, by clear C; grind⟩)
  · rw [bl_z] at h4
    refine G_iload_n C dX10_sheet_7 rfl ?_
    refine G_bipush C (120) dX10_sheet_8 (by decide) ?_
    refine G_icmp_le C 16 dX10_sheet_10 (by decide) (fun h10 => ?_) (fun h10 => ?_)
    · refine G_iload_n C dX10_sheet_16 rfl ?_
      refine G_if_ge C 23 dX10_sheet_17 (by decide) (fun h17 => ?_) (fun h17 => ?_)
      · obtain ⟨j, hj, rfl, tj⟩ := ix_s (Decidable.not_not.mp h4)
        obtain ⟨n, hn, rfl, tn⟩ := ix_le (n := 120) (by decide) (a := n) ⟨h17, h10⟩
        refine G_aload_r C dX10_sheet_23 rfl ?_
        refine G_getR C fo_X10_72 rfl rfl dX10_sheet_24 ?_
        refine G_iload_n C dX10_sheet_27 rfl ?_
        refine G_iload_n C dX10_sheet_28 rfl ?_
        refine G_iastN C rfl (by assumption) (by decide) dX10_sheet_29 ?_
        refine G_iconst C (nI 0) dX10_sheet_30 (by decide) ?_
        refine G_istore_n C dX10_sheet_31 (by decide) ?_
        refine G_sub [(0, _), (1, _), (2, _), (3, _)] (by repeat (first | refine And.intro rfl ?_ | exact True.intro)) ?_
        refine L_X10_sheet hj hn (fun N hN => Or.inr (Or.inr ⟨rfl, ⟨ok_s hj, h10⟩, h17, j, hj, rfl, by rw [tn]; exact hN⟩)) C (n + 1) 0 _ (by omega) (by omega) ⟨fun i h1 h2 => wr_c h1, wr_r, fun i hi => absurd hi (by omega), fun q _ => congrFun (wr_c (by decide)) q⟩
      · refine G_ldc C kc_X10_237 dX10_sheet_20 ?_
        exact G_ret C dX10_sheet_22 (Or.inr (Or.inl ⟨rfl, rfl, by clear C; grind, by clear C; grind⟩))
    · refine G_ldc C kc_X10_106 dX10_sheet_13 ?_
      exact G_ret C dX10_sheet_15 (Or.inl ⟨rfl, rfl, by clear C; grind⟩)
theorem bb (v : Int32) : v.toInt8.toInt32.toInt8.toInt32 = v.toInt8.toInt32 := by
  have := pk_vb v
  rw [vp_nar_byte] at this
  exact this
set_option maxHeartbeats 4000000 in
set_option maxRecDepth 100000 in
theorem c_X9_mark {K : Kt} {d : Nat} {M : Mem} {s p v : Int32} (hsz : ∀ j, j < 2 → -1 ≤ M (23 + j) 1 ∧ M (23 + j) 1 ≤ 120) : Ci K (d + 3) mX9_mark [rf K 0, .int s, .int p, .int v] M (fun r N => (r = (-2000000001) ∧ N = M ∧ ¬ (s = 0 ∨ s = 1)) ∨ ∃ j, j < 2 ∧ s = nI j ∧ ((r = (-2000000011) ∧ N = M ∧ M (23 + j) 1 < 0) ∨ (r = (-2000000013) ∧ N = M ∧ 0 ≤ M (23 + j) 1 ∧ ¬ (0 ≤ p ∧ p < M (23 + j) 1)) ∨ (0 ≤ p ∧ p < M (23 + j) 1 ∧ r = M (25 + j) p.toNatClampNeg ∧ N = wr M (25 + j) p.toNatClampNeg v.toInt8.toInt32))) := by
  refine Ci_int RX9 [(0, rf K 0), (1, .int s), (2, .int p), (3, .int v)] rfl (by decide) rfl (Nat.le_of_ble_eq_true rfl) rfl (fun x C => ?_)
  refine G_iload_n C dX9_mark_0 rfl ?_
  refine G_iconst C (2) dX9_mark_1 (by decide) ?_
  refine G_cSr2 C ok_X9_isBelow lk_X9_88 (c_X9_isBelow) (Nat.le_of_ble_eq_true rfl) dX9_mark_2 ?_
  refine G_if_ne C 11 dX9_mark_5 (by decide) (fun h5 => ?_) (fun h5 => ?_)
  · rw [bl_z] at h5
    obtain ⟨j, hj, rfl, tj⟩ := ix_ex (n := 2) (by decide) (Decidable.not_not.mp h5)
    refine G_aload_r C dX9_mark_11 rfl ?_
    refine G_getR C fo_X9_42 rfl rfl dX9_mark_12 ?_
    refine G_getR C fo_X9_243 rfl rfl dX9_mark_15 ?_
    refine G_iload_n C dX9_mark_18 rfl ?_
    refine G_sh C hj dX9_mark_19 ?_
    refine G_astore C dX9_mark_20 (by decide) ?_
    refine G_aload C dX9_mark_22 rfl ?_
    refine G_cVr0 C ok_X7_isMissing lk_X9_252 (lay_sh j hj) rfl (c_X7_isMissing hj) (Nat.le_of_ble_eq_true rfl) dX9_mark_24 ?_
    refine G_if_eq C 34 dX9_mark_27 (by decide) (fun h27 => ?_) (fun h27 => ?_)
    · rw [bl_z] at h27
      refine G_iload_n C dX9_mark_34 rfl ?_
      refine G_aload C dX9_mark_35 rfl ?_
      refine G_getI C fo_X9_257 (lay_sh j hj) rfl dX9_mark_37 ?_
      refine G_cSr2 C ok_X9_isBelow lk_X9_88 (c_X9_isBelow) (Nat.le_of_ble_eq_true rfl) dX9_mark_40 ?_
      refine G_if_ne C 50 dX9_mark_43 (by decide) (fun h43 => ?_) (fun h43 => ?_)
      · rw [bl_z] at h43
        refine G_aload C dX9_mark_50 rfl ?_
        have hs9 := hsz j hj
        obtain ⟨q, hq, rfl, tq⟩ := ix_12 (a := p) (by grind)
        refine G_getR C fo_X9_259 (lay_sh j hj) rfl dX9_mark_52 ?_
        refine G_iload_n C dX9_mark_55 rfl ?_
        refine G_baldN C (lay_pl j hj) (by assumption) (by decide) dX9_mark_56 ?_
        refine G_istore C dX9_mark_57 (by decide) ?_
        refine G_aload C dX9_mark_59 rfl ?_
        refine G_getR C fo_X9_259 (lay_sh j hj) rfl dX9_mark_61 ?_
        refine G_iload_n C dX9_mark_64 rfl ?_
        refine G_iload_n C dX9_mark_65 rfl ?_
        refine G_i2b C dX9_mark_66 ?_
        refine G_bastN C (lay_pl j hj) (by assumption) (by decide) dX9_mark_67 ?_
        refine G_iload C dX9_mark_68 rfl ?_
        exact G_ret C dX9_mark_70 (Or.inr ⟨j, hj, rfl, Or.inr (Or.inr ⟨by clear C; grind, by clear C; grind, by rw [tq], by rw [tq, bb]⟩)⟩)
      · rw [bl_z] at h43
        refine G_ldcw C kc_X9_258 dX9_mark_46 ?_
        exact G_ret C dX9_mark_49 (Or.inr ⟨j, hj, rfl, Or.inr (Or.inl ⟨rfl, rfl, by clear C; have := hsz j hj; grind, by clear C; grind⟩)⟩)
    · rw [bl_z] at h27
      refine G_ldcw C kc_X9_256 dX9_mark_30 ?_
      exact G_ret C dX9_mark_33 (Or.inr ⟨j, hj, rfl, Or.inl ⟨rfl, rfl, by clear C; have := hsz j hj; grind⟩⟩)
  · rw [bl_z] at h5
    refine G_ldc C kc_X9_72 dX9_mark_8 ?_
    exact G_ret C dX9_mark_10 (Or.inl ⟨rfl, rfl, by clear C; grind⟩)
set_option maxHeartbeats 4000000 in
set_option maxRecDepth 100000 in
theorem c_X10_mark {K : Kt} {d : Nat} {M : Mem} {s p v : Int32} (hsz : ∀ j, j < 2 → -1 ≤ M 56 j ∧ M 56 j ≤ 120) : Ci K (d + 3) mX10_mark [rf K 36, .int s, .int p, .int v] M (fun r N => (r = (-2000000001) ∧ N = M ∧ ¬ (s = 0 ∨ s = 1)) ∨ ∃ j, j < 2 ∧ s = nI j ∧ ((r = (-2000000011) ∧ N = M ∧ M 56 j < 0) ∨ (r = (-2000000013) ∧ N = M ∧ 0 ≤ M 56 j ∧ ¬ (0 ≤ p ∧ p < M 56 j)) ∨ (0 ≤ p ∧ p < M 56 j ∧ r = M 57 (120 * j + p.toNatClampNeg) ∧ N = wr M 57 (120 * j + p.toNatClampNeg) v.toInt8.toInt32))) := by
  refine Ci_int RX10 [(0, rf K 36), (1, .int s), (2, .int p), (3, .int v)] rfl (by decide) rfl (Nat.le_of_ble_eq_true rfl) rfl (fun x C => ?_)
  refine G_iload_n C dX10_mark_0 rfl ?_
  refine G_cSr1 C ok_X10_isSheet lk_X10_234 (c_X10_isSheet) (Nat.le_of_ble_eq_true rfl) dX10_mark_1 ?_
  refine G_if_ne C 10 dX10_mark_4 (by decide) (fun h4 => ?_) (fun h4 => ?_)
  · rw [bl_z] at h4
    obtain ⟨j, hj, rfl, tj⟩ := ix_s (Decidable.not_not.mp h4)
    refine G_aload_r C dX10_mark_10 rfl ?_
    refine G_getR C fo_X10_72 rfl rfl dX10_mark_11 ?_
    refine G_iload_n C dX10_mark_14 rfl ?_
    refine G_ialdN C rfl (by assumption) (by decide) dX10_mark_15 ?_
    refine G_if_ge C 22 dX10_mark_16 (by decide) (fun h16 => ?_) (fun h16 => ?_)
    · refine G_iload_n C dX10_mark_22 rfl ?_
      refine G_iconst C (0) dX10_mark_23 (by decide) ?_
      refine G_aload_r C dX10_mark_24 rfl ?_
      refine G_getR C fo_X10_72 rfl rfl dX10_mark_25 ?_
      refine G_iload_n C dX10_mark_28 rfl ?_
      refine G_ialdN C rfl (by assumption) (by decide) dX10_mark_29 ?_
      refine G_iconst C (1) dX10_mark_30 (by decide) ?_
      refine G_isub C dX10_mark_31 ?_
      refine G_cSr3 C ok_X10_isIn lk_X10_90 (c_X10_isIn) (Nat.le_of_ble_eq_true rfl) dX10_mark_32 ?_
      refine G_if_ne C 41 dX10_mark_35 (by decide) (fun h35 => ?_) (fun h35 => ?_)
      · rw [bl_z] at h35
        have hs9 := hsz j hj
        obtain ⟨q, hq, rfl, tq⟩ := ix_12 (a := p) (by grind)
        refine G_aload_r C dX10_mark_41 rfl ?_
        refine G_getR C fo_X10_75 rfl rfl dX10_mark_42 ?_
        refine G_bipush C (nI 120) dX10_mark_45 (by decide) ?_
        refine G_iload_n C dX10_mark_47 rfl ?_
        refine G_imul C dX10_mark_48 ?_
        refine G_iload_n C dX10_mark_49 rfl ?_
        refine G_iadd C dX10_mark_50 ?_
        rw [pk_mul, nI_add]
        refine G_ialdN C rfl (by omega) (by decide) dX10_mark_51 ?_
        refine G_istore C dX10_mark_52 (by decide) ?_
        refine G_aload_r C dX10_mark_54 rfl ?_
        refine G_getR C fo_X10_75 rfl rfl dX10_mark_55 ?_
        refine G_bipush C (nI 120) dX10_mark_58 (by decide) ?_
        refine G_iload_n C dX10_mark_60 rfl ?_
        refine G_imul C dX10_mark_61 ?_
        refine G_iload_n C dX10_mark_62 rfl ?_
        refine G_iadd C dX10_mark_63 ?_
        rw [pk_mul, nI_add]
        refine G_iload_n C dX10_mark_64 rfl ?_
        refine G_i2b C dX10_mark_65 ?_
        refine G_iastN C rfl (by omega) (by decide) dX10_mark_66 ?_
        refine G_iload C dX10_mark_67 rfl ?_
        exact G_ret C dX10_mark_69 (Or.inr ⟨j, hj, rfl, Or.inr (Or.inr ⟨by clear C; grind, by clear C; grind, by rw [tq], by rw [tq]⟩)⟩)
      · rw [bl_z] at h35
        refine G_ldc C kc_X10_239 dX10_mark_38 ?_
        exact G_ret C dX10_mark_40 (Or.inr ⟨j, hj, rfl, Or.inr (Or.inl ⟨rfl, rfl, by clear C; grind, by clear C; grind⟩)⟩)
    · refine G_ldc C kc_X10_238 dX10_mark_19 ?_
      exact G_ret C dX10_mark_21 (Or.inr ⟨j, hj, rfl, Or.inl ⟨rfl, rfl, by clear C; grind⟩⟩)
  · rw [bl_z] at h4
    refine G_ldc C kc_X10_106 dX10_mark_7 ?_
    exact G_ret C dX10_mark_9 (Or.inl ⟨rfl, rfl, by clear C; grind⟩)
set_option maxHeartbeats 4000000 in
set_option maxRecDepth 100000 in
theorem c_X9_lose {K : Kt} {d : Nat} {M : Mem} {s : Int32} (hsz : ∀ j, j < 2 → -1 ≤ M (23 + j) 1 ∧ M (23 + j) 1 ≤ 120) : Ci K (d + 3) mX9_lose [rf K 0, .int s] M (fun r N => (r = (-2000000001) ∧ N = M ∧ ¬ (s = 0 ∨ s = 1)) ∨ ∃ j, j < 2 ∧ s = nI j ∧ ((r = (-2000000011) ∧ N = M ∧ M (23 + j) 1 < 0) ∨ (0 ≤ M (23 + j) 1 ∧ r = M (23 + j) 1 ∧ N = wr M (23 + j) 1 (-1)))) := by
  refine Ci_int RX9 [(0, rf K 0), (1, .int s)] rfl (by decide) rfl (Nat.le_of_ble_eq_true rfl) rfl (fun x C => ?_)
  refine G_iload_n C dX9_lose_0 rfl ?_
  refine G_iconst C (2) dX9_lose_1 (by decide) ?_
  refine G_cSr2 C ok_X9_isBelow lk_X9_88 (c_X9_isBelow) (Nat.le_of_ble_eq_true rfl) dX9_lose_2 ?_
  refine G_if_ne C 11 dX9_lose_5 (by decide) (fun h5 => ?_) (fun h5 => ?_)
  · rw [bl_z] at h5
    obtain ⟨j, hj, rfl, tj⟩ := ix_ex (n := 2) (by decide) (Decidable.not_not.mp h5)
    refine G_aload_r C dX9_lose_11 rfl ?_
    refine G_getR C fo_X9_42 rfl rfl dX9_lose_12 ?_
    refine G_getR C fo_X9_243 rfl rfl dX9_lose_15 ?_
    refine G_iload_n C dX9_lose_18 rfl ?_
    refine G_sh C hj dX9_lose_19 ?_
    refine G_astore_n C dX9_lose_20 (by decide) ?_
    refine G_aload_r C dX9_lose_21 rfl ?_
    refine G_cVr0 C ok_X7_isMissing lk_X9_252 (lay_sh j hj) rfl (c_X7_isMissing hj) (Nat.le_of_ble_eq_true rfl) dX9_lose_22 ?_
    refine G_if_eq C 32 dX9_lose_25 (by decide) (fun h25 => ?_) (fun h25 => ?_)
    · rw [bl_z] at h25
      refine G_aload_r C dX9_lose_32 rfl ?_
      refine G_getI C fo_X9_257 (lay_sh j hj) rfl dX9_lose_33 ?_
      refine G_istore_n C dX9_lose_36 (by decide) ?_
      refine G_aload_r C dX9_lose_37 rfl ?_
      refine G_iconst C (-1) dX9_lose_38 (by decide) ?_
      refine G_putI C fp_X9_257 (lay_sh j hj) rfl dX9_lose_39 ?_
      refine G_iload_n C dX9_lose_42 rfl ?_
      exact G_ret C dX9_lose_43 (Or.inr ⟨j, hj, rfl, Or.inr ⟨by clear C; have := hsz j hj; grind, rfl, rfl⟩⟩)
    · rw [bl_z] at h25
      refine G_ldcw C kc_X9_256 dX9_lose_28 ?_
      exact G_ret C dX9_lose_31 (Or.inr ⟨j, hj, rfl, Or.inl ⟨rfl, rfl, by clear C; have := hsz j hj; grind⟩⟩)
  · rw [bl_z] at h5
    refine G_ldc C kc_X9_72 dX9_lose_8 ?_
    exact G_ret C dX9_lose_10 (Or.inl ⟨rfl, rfl, by clear C; grind⟩)
set_option maxHeartbeats 4000000 in
set_option maxRecDepth 100000 in
theorem c_X10_lose {K : Kt} {d : Nat} {M : Mem} {s : Int32} : Ci K (d + 3) mX10_lose [rf K 36, .int s] M (fun r N => (r = (-2000000001) ∧ N = M ∧ ¬ (s = 0 ∨ s = 1)) ∨ ∃ j, j < 2 ∧ s = nI j ∧ ((r = (-2000000011) ∧ N = M ∧ M 56 j < 0) ∨ (0 ≤ M 56 j ∧ r = M 56 j ∧ N = wr M 56 j (-1)))) := by
  refine Ci_int RX10 [(0, rf K 36), (1, .int s)] rfl (by decide) rfl (Nat.le_of_ble_eq_true rfl) rfl (fun x C => ?_)
  refine G_iload_n C dX10_lose_0 rfl ?_
  refine G_cSr1 C ok_X10_isSheet lk_X10_234 (c_X10_isSheet) (Nat.le_of_ble_eq_true rfl) dX10_lose_1 ?_
  refine G_if_ne C 10 dX10_lose_4 (by decide) (fun h4 => ?_) (fun h4 => ?_)
  · rw [bl_z] at h4
    obtain ⟨j, hj, rfl, tj⟩ := ix_s (Decidable.not_not.mp h4)
    refine G_aload_r C dX10_lose_10 rfl ?_
    refine G_getR C fo_X10_72 rfl rfl dX10_lose_11 ?_
    refine G_iload_n C dX10_lose_14 rfl ?_
    refine G_ialdN C rfl (by assumption) (by decide) dX10_lose_15 ?_
    refine G_if_ge C 22 dX10_lose_16 (by decide) (fun h16 => ?_) (fun h16 => ?_)
    · refine G_aload_r C dX10_lose_22 rfl ?_
      refine G_getR C fo_X10_72 rfl rfl dX10_lose_23 ?_
      refine G_iload_n C dX10_lose_26 rfl ?_
      refine G_ialdN C rfl (by assumption) (by decide) dX10_lose_27 ?_
      refine G_istore_n C dX10_lose_28 (by decide) ?_
      refine G_aload_r C dX10_lose_29 rfl ?_
      refine G_getR C fo_X10_72 rfl rfl dX10_lose_30 ?_
      refine G_iload_n C dX10_lose_33 rfl ?_
      refine G_iconst C (-1) dX10_lose_34 (by decide) ?_
      refine G_iastN C rfl (by assumption) (by decide) dX10_lose_35 ?_
      refine G_iload_n C dX10_lose_36 rfl ?_
      exact G_ret C dX10_lose_37 (Or.inr ⟨j, hj, rfl, Or.inr ⟨by clear C; grind, rfl, rfl⟩⟩)
    · refine G_ldc C kc_X10_238 dX10_lose_19 ?_
      exact G_ret C dX10_lose_21 (Or.inr ⟨j, hj, rfl, Or.inl ⟨rfl, rfl, by clear C; grind⟩⟩)
  · rw [bl_z] at h4
    refine G_ldc C kc_X10_106 dX10_lose_7 ?_
    exact G_ret C dX10_lose_9 (Or.inl ⟨rfl, rfl, by clear C; grind⟩)
