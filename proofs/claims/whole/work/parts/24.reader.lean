set_option maxHeartbeats 4000000 in
set_option maxRecDepth 100000 in
theorem L2_X6_step {K : Kt} {d : Nat} {M : Mem} {n : Nat} {R : RS} (hn : M 7 1 = nI n) (h72 : n ≤ 72) {x : Cx} (C : Cok K x RX6 cX6_step 1 d (RV (fun N => A9 M N ∧ RX N (r_step (M 8) n R)))) :
    ∀ (t i : Nat) (N : Mem), n < i + t → i ≤ n → A9 M N → N 9 1 = nI (tk1 (M 8) n R.2.1) → N 9 2 = nI i → N 9 3 = ixv R.2.2 → sk (fun i => !isb (M 8) i) n i = tk2 (M 8) n R.2.1 → G K x 1 60 [(0, rf K 9)] [] N := by
  intro t
  induction t with
  | zero => intro i N h1 h2; omega
  | succ t ih =>
    intro i N h1 h2 ha e1 e2 e3 hs
    have hn2 : N 7 1 = nI n := by rw [ha 7 (by decide)]; exact hn
    refine G_aload_r C dX6_step_60 rfl ?_
    refine G_getI C fo_X6_20 rfl rfl dX6_step_61 ?_
    refine G_is (nI i) e2 ?_
    refine G_aload_r C dX6_step_64 rfl ?_
    refine G_getR C fo_X6_9 rfl rfl dX6_step_65 ?_
    refine G_getI C fo_X6_85 rfl rfl dX6_step_68 ?_
    refine G_icmp_ge C 104 dX6_step_71 (by decide) (fun h71 => ?_) (fun h71 => ?_)
    · have hE : n ≤ i := n_le hn2 h72 (by omega) (by decide) h71
      refine G_vret C dX6_step_104 ⟨ha, e1, ?_, e3⟩
      show N 9 2 = nI (tk2 (M 8) n R.2.1)
      rw [e2, ← hs, sk_f]
      exact fun z => absurd z.1 (by omega)
    · have hlt : i < n := n_gt hn2 h72 (by omega) (by decide) h71
      refine G_aload_r C dX6_step_74 rfl ?_
      refine G_getR C fo_X6_9 rfl rfl dX6_step_75 ?_
      refine G_getR C fo_X6_90 rfl rfl dX6_step_78 ?_
      refine G_aload_r C dX6_step_81 rfl ?_
      refine G_getI C fo_X6_20 rfl rfl dX6_step_82 ?_
      refine G_is (nI i) e2 ?_
      refine G_baldN C rfl (show i < 72 by omega) (by decide) dX6_step_85 ?_
      rw [ha 8 (by decide)]
      refine G_bipush C (32) dX6_step_86 (by decide) ?_
      refine G_icmp_eq C 104 dX6_step_88 (by decide) (fun h88 => ?_) (fun h88 => ?_)
      · refine G_vret C dX6_step_104 ⟨ha, e1, ?_, e3⟩
        show N 9 2 = nI (tk2 (M 8) n R.2.1)
        rw [e2, ← hs, sk_f]
        exact fun z => by simp [isb, h88] at z
      · refine G_aload_r C dX6_step_91 rfl ?_
        refine G_dup C dX6_step_92 rfl ?_
        refine G_getI C fo_X6_20 rfl rfl dX6_step_93 ?_
        refine G_is (nI i) e2 ?_
        refine G_iconst C (1) dX6_step_96 (by decide) ?_
        refine G_iadd C dX6_step_97 ?_
        rw [nI_1]
        refine G_putI C fp_X6_20 rfl rfl dX6_step_98 ?_
        refine G_goto C 60 dX6_step_101 (by decide) ?_
        refine G_sub [(0, _)] (by repeat (first | refine And.intro rfl ?_ | exact True.intro)) ?_
        exact ih (i + 1) _ (by omega) (by omega) (fun q hq => (wr_c hq).trans (ha q hq)) ((wr_f (by decide)).trans e1) wr_s ((wr_f (by decide)).trans e3) ((sk_t hlt (by simp [isb, h88])).symm.trans hs)
set_option maxHeartbeats 4000000 in
set_option maxRecDepth 100000 in
theorem L1_X6_step {K : Kt} {d : Nat} {M : Mem} {n : Nat} {R : RS} (hn : M 7 1 = nI n) (h72 : n ≤ 72) {x : Cx} (C : Cok K x RX6 cX6_step 1 d (RV (fun N => A9 M N ∧ RX N (r_step (M 8) n R)))) :
    ∀ (t i : Nat) (N : Mem), n < i + t → i ≤ n → A9 M N → N 9 1 = nI i → N 9 2 = nI R.2.1 → N 9 3 = ixv R.2.2 → sk (isb (M 8)) n i = tk1 (M 8) n R.2.1 → G K x 1 8 [(0, rf K 9)] [] N := by
  intro t
  induction t with
  | zero => intro i N h1 h2; omega
  | succ t ih =>
    intro i N h1 h2 ha e1 e2 e3 hs
    have hn2 : N 7 1 = nI n := by rw [ha 7 (by decide)]; exact hn
    refine G_aload_r C dX6_step_8 rfl ?_
    refine G_getI C fo_X6_82 rfl rfl dX6_step_9 ?_
    refine G_is (nI i) e1 ?_
    refine G_aload_r C dX6_step_12 rfl ?_
    refine G_getR C fo_X6_9 rfl rfl dX6_step_13 ?_
    refine G_getI C fo_X6_85 rfl rfl dX6_step_16 ?_
    refine G_icmp_ge C 52 dX6_step_19 (by decide) (fun h19 => ?_) (fun h19 => ?_)
    · have hE : n ≤ i := n_le hn2 h72 (by omega) (by decide) h19
      refine G_aload_r C dX6_step_52 rfl ?_
      refine G_aload_r C dX6_step_53 rfl ?_
      refine G_getI C fo_X6_82 rfl rfl dX6_step_54 ?_
      refine G_is (nI i) e1 ?_
      refine G_putI C fp_X6_20 rfl rfl dX6_step_57 ?_
      refine G_sub [(0, _)] (by repeat (first | refine And.intro rfl ?_ | exact True.intro)) ?_
      have hE : i = tk1 (M 8) n R.2.1 := by rw [← hs, sk_f]; exact fun z => absurd z.1 (by omega)
      exact L2_X6_step hn h72 C (n + 1) i _ (by omega) (by omega) (fun q hq => (wr_c hq).trans (ha q hq)) (by rw [wr_f (by decide), e1, hE]) wr_s ((wr_f (by decide)).trans e3) (by rw [hE]; rfl)
    · have hlt : i < n := n_gt hn2 h72 (by omega) (by decide) h19
      refine G_aload_r C dX6_step_22 rfl ?_
      refine G_getR C fo_X6_9 rfl rfl dX6_step_23 ?_
      refine G_getR C fo_X6_90 rfl rfl dX6_step_26 ?_
      refine G_aload_r C dX6_step_29 rfl ?_
      refine G_getI C fo_X6_82 rfl rfl dX6_step_30 ?_
      refine G_is (nI i) e1 ?_
      refine G_baldN C rfl (show i < 72 by omega) (by decide) dX6_step_33 ?_
      rw [ha 8 (by decide)]
      refine G_bipush C (32) dX6_step_34 (by decide) ?_
      refine G_icmp_ne C 52 dX6_step_36 (by decide) (fun h36 => ?_) (fun h36 => ?_)
      · refine G_aload_r C dX6_step_52 rfl ?_
        refine G_aload_r C dX6_step_53 rfl ?_
        refine G_getI C fo_X6_82 rfl rfl dX6_step_54 ?_
        refine G_is (nI i) e1 ?_
        refine G_putI C fp_X6_20 rfl rfl dX6_step_57 ?_
        refine G_sub [(0, _)] (by repeat (first | refine And.intro rfl ?_ | exact True.intro)) ?_
        have hE : i = tk1 (M 8) n R.2.1 := by rw [← hs, sk_f]; exact fun z => by simp [isb, h36] at z
        exact L2_X6_step hn h72 C (n + 1) i _ (by omega) (by omega) (fun q hq => (wr_c hq).trans (ha q hq)) (by rw [wr_f (by decide), e1, hE]) wr_s ((wr_f (by decide)).trans e3) (by rw [hE]; rfl)
      · refine G_aload_r C dX6_step_39 rfl ?_
        refine G_dup C dX6_step_40 rfl ?_
        refine G_getI C fo_X6_82 rfl rfl dX6_step_41 ?_
        refine G_is (nI i) e1 ?_
        refine G_iconst C (1) dX6_step_44 (by decide) ?_
        refine G_iadd C dX6_step_45 ?_
        rw [nI_1]
        refine G_putI C fp_X6_82 rfl rfl dX6_step_46 ?_
        refine G_goto C 8 dX6_step_49 (by decide) ?_
        refine G_sub [(0, _)] (by repeat (first | refine And.intro rfl ?_ | exact True.intro)) ?_
        exact ih (i + 1) _ (by omega) (by omega) (fun q hq => (wr_c hq).trans (ha q hq)) wr_s ((wr_f (by decide)).trans e2) ((wr_f (by decide)).trans e3) ((sk_t hlt (by simp [isb]; grind)).symm.trans hs)
set_option maxHeartbeats 4000000 in
set_option maxRecDepth 100000 in
theorem c0_X6_step {K : Kt} {d : Nat} {M : Mem} {n : Nat} {R : RS} (hn : M 7 1 = nI n) (h72 : n ≤ 72) (ok : R.2.1 ≤ n) (r2 : M 9 2 = nI R.2.1) (r3 : M 9 3 = ixv R.2.2) : Cv K d mX6_step [rf K 9] M (fun N => A9 M N ∧ RX N (r_step (M 8) n R)) := by
  refine Cv_of RX6 [(0, rf K 9)] rfl (by decide) rfl (Nat.le_of_ble_eq_true rfl) rfl (fun x C => ?_)
  refine G_aload_r C dX6_step_0 rfl ?_
  refine G_aload_r C dX6_step_1 rfl ?_
  refine G_getI C fo_X6_20 rfl rfl dX6_step_2 ?_
  refine G_is (nI R.2.1) r2 ?_
  refine G_putI C fp_X6_82 rfl rfl dX6_step_5 ?_
  refine G_sub [(0, _)] (by repeat (first | refine And.intro rfl ?_ | exact True.intro)) ?_
  exact L1_X6_step hn h72 C (n + 1) R.2.1 _ (by omega) ok (fun q hq => wr_c hq) wr_s ((wr_f (by decide)).trans r2) ((wr_f (by decide)).trans r3) rfl
set_option maxHeartbeats 4000000 in
set_option maxRecDepth 100000 in
theorem c_X6_step {K : Kt} {d : Nat} {M : Mem} {n : Nat} {R : RS} (hn : M 7 1 = nI n) (h72 : n ≤ 72) (ok : Rok n R) (hR : RX M R) : Cv K d mX6_step [rf K 9] M (fun N => A9 M N ∧ RX N (r_step (M 8) n R)) := c0_X6_step hn h72 ok.2.1 hR.2.1 hR.2.2
def wd (i : Nat) : List Int32 := sbyt.getD i []
set_option maxHeartbeats 4000000 in
set_option maxRecDepth 100000 in
theorem L_X6_isAt {K : Kt} {d : Nat} {M : Mem} {n : Nat} {R : RS} (hn : M 7 1 = nI n) (h72 : n ≤ 72) {i : Nat} {x : Cx} (hv : (kF K).category = 1) (hi : i < 6) (hR : RX M R) (he : R.2.1 ≤ n ∧ R.2.1 = R.1 + slen.getD i 0) (C : Cok K x RX6 cX6_isAt 3 (d + 4) (RI (fun v N => v = bl (r_at (M 8) n (wd i) R = true) ∧ N = M))) :
    ∀ (t j : Nat), j + t = slen.getD i 0 → (∀ q, q < j → M 8 (R.1 + q) = (wd i).getD q 0) → G K x 3 20 [(0, rf K 9), (1, sf K i), (2, .int (nI j))] [] M := by
  have hl5 := len_5 i hi
  have hle : (wd i).length = slen.getD i 0 := len_eq i hi
  obtain ⟨r1, r2, r3⟩ := hR
  intro t
  induction t with
  | zero =>
    intro j h1 hq
    refine G_iload_n C dX6_isAt_20 rfl ?_
    refine G_aload_s C dX6_isAt_21 rfl ?_
    refine G_cUr0 C ok_J0_length_8abf5 lk_X6_101 hi rfl (c_J0_length_8abf5 hi) (Nat.le_of_ble_eq_true rfl) dX6_isAt_22 ?_
    refine G_icmp_ge C 58 dX6_isAt_25 (by decide) (fun h25 => ?_) (fun h25 => ?_)
    · refine G_iconst C (1) dX6_isAt_58 (by decide) ?_
      exact G_retR C dX6_isAt_59 (bl_t (by simp only [r_at]; simp; exact ⟨he.1, by rw [hle]; exact he.2, fun q hq2 => hq q (by omega)⟩)).symm rfl
    · exact absurd (nI_le (show slen.getD i 0 ≤ j by omega) (by omega)) h25
  | succ t ih =>
    intro j h1 hq
    refine G_iload_n C dX6_isAt_20 rfl ?_
    refine G_aload_s C dX6_isAt_21 rfl ?_
    refine G_cUr0 C ok_J0_length_8abf5 lk_X6_101 hi rfl (c_J0_length_8abf5 hi) (Nat.le_of_ble_eq_true rfl) dX6_isAt_22 ?_
    refine G_icmp_ge C 58 dX6_isAt_25 (by decide) (fun h25 => ?_) (fun h25 => ?_)
    · exact absurd ((nI_leI (by omega) (by omega)).mp h25) (by omega)
    · refine G_aload_r C dX6_isAt_28 rfl ?_
      refine G_getR C fo_X6_9 rfl rfl dX6_isAt_29 ?_
      refine G_getR C fo_X6_90 rfl rfl dX6_isAt_32 ?_
      refine G_aload_r C dX6_isAt_35 rfl ?_
      refine G_getI C fo_X6_82 rfl rfl dX6_isAt_36 ?_
      refine G_is (nI R.1) r1 ?_
      refine G_iload_n C dX6_isAt_39 rfl ?_
      refine G_iadd C dX6_isAt_40 ?_
      rw [nI_add]
      refine G_baldN C rfl (by omega) (by decide) dX6_isAt_41 ?_
      refine G_aload_s C dX6_isAt_42 rfl ?_
      refine G_iload_n C dX6_isAt_43 rfl ?_
      refine G_cUr1 C ok_J0_charAt_5068e lk_X6_106 hi rfl (c_J0_charAt_5068e hv hi (by omega)) (Nat.le_of_ble_eq_true rfl) dX6_isAt_44 ?_
      refine G_icmp_eq C 52 dX6_isAt_47 (by decide) (fun h47 => ?_) (fun h47 => ?_)
      · refine G_iincN C dX6_isAt_52 (by decide) rfl ?_
        refine G_goto C 20 dX6_isAt_55 (by decide) ?_
        refine G_sub [(0, _), (1, _), (2, _)] (by repeat (first | refine And.intro rfl ?_ | exact True.intro)) ?_
        refine ih (j + 1) (by omega) (fun q hq2 => ?_)
        rcases Nat.lt_or_ge q j with z | z
        · exact hq q z
        · rw [show q = j by omega]; exact h47
      · refine G_iconst C (0) dX6_isAt_50 (by decide) ?_
        exact G_retR C dX6_isAt_51 (bl_f (fun hat => by simp only [r_at] at hat; simp at hat; exact h47 (hat.2.2 j (by omega)))).symm rfl
set_option maxHeartbeats 4000000 in
set_option maxRecDepth 100000 in
theorem c_X6_isAt {K : Kt} {d : Nat} {M : Mem} {n : Nat} {R : RS} (hn : M 7 1 = nI n) (h72 : n ≤ 72) (ok : Rok n R) (hR : RX M R) {i : Nat} (hv : (kF K).category = 1) (hi : i < 6) : Ri K (d + 4) mX6_isAt [rf K 9, sf K i] M (bl (r_at (M 8) n (wd i) R = true)) M := by
  refine Ri_bool RX6 [(0, rf K 9), (1, sf K i)] rfl (by decide) rfl (Nat.le_of_ble_eq_true rfl) rfl bl_or (fun x C => ?_)
  have hl5 := len_5 i hi
  have hle : (wd i).length = slen.getD i 0 := len_eq i hi
  have o1 := ok.1
  have o2 := ok.2.1
  obtain ⟨r1, r2, r3⟩ := id hR
  refine G_aload_r C dX6_isAt_0 rfl ?_
  refine G_getI C fo_X6_20 rfl rfl dX6_isAt_1 ?_
  refine G_is (nI R.2.1) r2 ?_
  refine G_aload_r C dX6_isAt_4 rfl ?_
  refine G_getI C fo_X6_82 rfl rfl dX6_isAt_5 ?_
  refine G_is (nI R.1) r1 ?_
  refine G_isub C dX6_isAt_8 ?_
  rw [pk_sub ok.1]
  refine G_aload_s C dX6_isAt_9 rfl ?_
  refine G_cUr0 C ok_J0_length_8abf5 lk_X6_101 hi rfl (c_J0_length_8abf5 hi) (Nat.le_of_ble_eq_true rfl) dX6_isAt_10 ?_
  refine G_icmp_eq C 18 dX6_isAt_13 (by decide) (fun h13 => ?_) (fun h13 => ?_)
  · rw [nI_eq (by omega) (by omega)] at h13
    refine G_iconst C (nI 0) dX6_isAt_18 (by decide) ?_
    refine G_istore_n C dX6_isAt_19 (by decide) ?_
    refine G_sub [(0, _), (1, _), (2, _)] (by repeat (first | refine And.intro rfl ?_ | exact True.intro)) ?_
    exact L_X6_isAt hn h72 hv hi hR ⟨ok.2.1, by omega⟩ C (slen.getD i 0) 0 (by omega) (fun q hq => absurd hq (by omega))
  · rw [nI_eq (by omega) (by omega)] at h13
    refine G_iconst C (0) dX6_isAt_16 (by decide) ?_
    exact G_retR C dX6_isAt_17 (bl_f (fun hat => by simp only [r_at] at hat; simp at hat; omega)).symm rfl
set_option maxHeartbeats 4000000 in
set_option maxRecDepth 100000 in
theorem c_X6_skip {K : Kt} {d : Nat} {M : Mem} {n : Nat} {R : RS} (hn : M 7 1 = nI n) (h72 : n ≤ 72) (ok : Rok n R) (hR : RX M R) {i : Nat} (hv : (kF K).category = 1) (hi : i < 6) : Ci K (d + 5) mX6_skip [rf K 9, sf K i] M (fun r N => r = bl (r_skip (M 8) n (wd i) R = true) ∧ A9 M N ∧ RX N (r_skS (M 8) n (wd i) R)) := by
  refine Ci_bool RX6 [(0, rf K 9), (1, sf K i)] rfl (by decide) rfl (Nat.le_of_ble_eq_true rfl) rfl (fun v N h => by rw [h.1]; exact bl_or) (fun x C => ?_)
  have hbn : ixv R.2.2 = -2000000005 ↔ R.2.2 = none := ixv_none (fun q hq => by have := ok.2.2 q hq; omega)
  obtain ⟨r1, r2, r3⟩ := id hR
  refine G_aload_r C dX6_skip_0 rfl ?_
  refine G_getI C fo_X6_16 rfl rfl dX6_skip_1 ?_
  refine G_is (ixv R.2.2) r3 ?_
  refine G_ldc C kc_X6_15 dX6_skip_4 ?_
  refine G_icmp_ne C 17 dX6_skip_6 (by decide) (fun h6 => ?_) (fun h6 => ?_)
  · rw [hbn] at h6
    refine G_iconst C (0) dX6_skip_17 (by decide) ?_
    have hf : r_skip (M 8) n (wd i) R = false := by simp only [r_skip]; simp [h6]
    exact G_ret C dX6_skip_18 ⟨(bl_f (by rw [hf]; decide)).symm, fun _ _ => rfl, by simp only [r_skS, hf]; exact hR⟩
  · rw [hbn] at h6
    refine G_aload_r C dX6_skip_9 rfl ?_
    refine G_aload_s C dX6_skip_10 rfl ?_
    refine G_cVr1 C ok_X6_isAt lk_X6_94 rfl rfl (c_X6_isAt hn h72 ok hR hv hi) (Nat.le_of_ble_eq_true rfl) dX6_skip_11 ?_
    refine G_if_ne C 19 dX6_skip_14 (by decide) (fun h14 => ?_) (fun h14 => ?_)
    · rw [bl_z] at h14
      refine G_aload_r C dX6_skip_19 rfl ?_
      refine G_cVv0 C ok_X6_step lk_X6_23 rfl rfl (c_X6_step hn h72 ok hR) (Nat.le_of_ble_eq_true rfl) dX6_skip_20 (fun N hq => ?_)
      refine G_iconst C (1) dX6_skip_23 (by decide) ?_
      have hf : r_skip (M 8) n (wd i) R = true := by simp only [r_skip]; simp [h6]; simpa using h14
      exact G_ret C dX6_skip_24 ⟨(bl_t hf).symm, hq.1, by simp only [r_skS, hf]; exact hq.2⟩
    · rw [bl_z] at h14
      refine G_iconst C (0) dX6_skip_17 (by decide) ?_
      have hf : r_skip (M 8) n (wd i) R = false := by simp only [r_skip]; simp [h14]
      exact G_ret C dX6_skip_18 ⟨(bl_f (by rw [hf]; decide)).symm, fun _ _ => rfl, by simp only [r_skS, hf]; exact hR⟩
set_option maxHeartbeats 4000000 in
set_option maxRecDepth 100000 in
theorem c_X6_need {K : Kt} {d : Nat} {M : Mem} {n : Nat} {R : RS} (hn : M 7 1 = nI n) (h72 : n ≤ 72) (ok : Rok n R) (hR : RX M R) {i : Nat} (hv : (kF K).category = 1) (hi : i < 6) : Cv K (d + 6) mX6_need [rf K 9, sf K i] M (fun N => A9 M N ∧ RX N (r_need (M 8) n (wd i) R)) := by
  refine Cv_of RX6 [(0, rf K 9), (1, sf K i)] rfl (by decide) rfl (Nat.le_of_ble_eq_true rfl) rfl (fun x C => ?_)
  have hbn : ixv R.2.2 = -2000000005 ↔ R.2.2 = none := ixv_none (fun q hq => by have := ok.2.2 q hq; omega)
  obtain ⟨r1, r2, r3⟩ := id hR
  refine G_aload_r C dX6_need_0 rfl ?_
  refine G_aload_s C dX6_need_1 rfl ?_
  refine G_cVi1 C ok_X6_skip lk_X6_50 rfl rfl (c_X6_skip hn h72 ok hR hv hi) (Nat.le_of_ble_eq_true rfl) dX6_need_2 (fun r N hq => ?_)
  obtain ⟨rfl, ha, hR2⟩ := hq
  refine G_if_ne C 25 dX6_need_5 (by decide) (fun h5 => ?_) (fun h5 => ?_)
  · rw [bl_z] at h5
    refine G_vret C dX6_need_25 ⟨ha, ?_⟩
    have hf : r_skip (M 8) n (wd i) R = true := by simpa using h5
    simp only [r_skS, hf] at hR2
    simp only [r_skip] at hf
    simp at hf
    simp only [r_need, hf.1, hf.2]
    exact hR2
  · rw [bl_z] at h5
    have hR3 : RX N R := by have hf : r_skip (M 8) n (wd i) R = false := by simpa using h5
                            simp only [r_skS, hf] at hR2; exact hR2
    obtain ⟨s1, s2, s3⟩ := id hR3
    refine G_aload_r C dX6_need_8 rfl ?_
    refine G_getI C fo_X6_16 rfl rfl dX6_need_9 ?_
    refine G_is (ixv R.2.2) s3 ?_
    refine G_ldc C kc_X6_15 dX6_need_12 ?_
    refine G_icmp_ne C 25 dX6_need_14 (by decide) (fun h14 => ?_) (fun h14 => ?_)
    · rw [hbn] at h14
      refine G_vret C dX6_need_25 ⟨ha, ?_⟩
      simp only [r_need]
      cases hq : R.2.2 with
      | none => exact absurd hq h14
      | some q => exact hR3
    · rw [hbn] at h14
      refine G_aload_r C dX6_need_17 rfl ?_
      refine G_aload_r C dX6_need_18 rfl ?_
      refine G_getI C fo_X6_82 rfl rfl dX6_need_19 ?_
      refine G_is (nI R.1) s1 ?_
      refine G_putI C fp_X6_16 rfl rfl dX6_need_22 ?_
      refine G_vret C dX6_need_25 ⟨fun q hq => (wr_c hq).trans (ha q hq), ?_⟩
      have hat : r_at (M 8) n (wd i) R = false := by simp only [r_skip, h14] at h5; simpa using h5
      simp only [r_need, h14, hat]
      exact ⟨(wr_f (by decide)).trans s1, (wr_f (by decide)).trans s2, wr_s⟩
theorem cap_min {x c : Nat} (hx : x < 2 ^ 31) (hc : c < 2 ^ 31) : (if nI x < nI c then nI x else nI c) = nI (min x c) := by
  by_cases h : x < c
  · rw [if_pos ((nI_ltI hx hc).mpr h), Nat.min_eq_left (by omega)]
  · rw [if_neg (fun z => h ((nI_ltI hx hc).mp z)), Nat.min_eq_right (by omega)]
theorem dig_ex {v : Int32} (h : 0 ≤ v - 48 ∧ v - 48 < 10) : ∃ q : Nat, q < 10 ∧ v - 48 = nI q ∧ (v - 48).toNatClampNeg = q ∧ 48 ≤ v ∧ v ≤ 57 := by
  obtain ⟨q, h1, h2, h3⟩ := ix_ex (n := 10) (by decide) (a := v - 48) h
  exact ⟨q, h1, h2, by rw [h2]; exact h3, by grind, by grind⟩
set_option maxHeartbeats 4000000 in
set_option maxRecDepth 100000 in
theorem L_X6_digits {K : Kt} {d : Nat} {M : Mem} {n : Nat} {R : RS} (hn : M 7 1 = nI n) (h72 : n ≤ 72) {o : Option Nat} {x : Cx} (ok : Rok n R) (hR : RX M R) (C : Cok K x RX6 cX6_digits 4 (d + 1) (RI (fun v N => v = capv 10000000 o ∧ N = M))) :
    ∀ (t i a : Nat), i + t = R.2.1 → o = dfold (M 8) t i a → G K x 4 20 [(0, rf K 9), (1, .int (nI (min a 10000000))), (2, .int (nI i))] [] M := by
  obtain ⟨r1, r2, r3⟩ := hR
  have o2 := ok.2.1
  intro t
  induction t with
  | zero =>
    intro i a h1 ho
    refine G_iload_n C dX6_digits_20 rfl ?_
    refine G_aload_r C dX6_digits_21 rfl ?_
    refine G_getI C fo_X6_20 rfl rfl dX6_digits_22 ?_
    refine G_is (nI R.2.1) r2 ?_
    refine G_icmp_ge C 70 dX6_digits_25 (by decide) (fun h25 => ?_) (fun h25 => ?_)
    · refine G_iload_n C dX6_digits_70 rfl ?_
      exact G_retR C dX6_digits_71 (by rw [ho]; rfl) rfl
    · exact absurd (nI_le (show R.2.1 ≤ i by omega) (by omega)) h25
  | succ t ih =>
    intro i a h1 ho
    refine G_iload_n C dX6_digits_20 rfl ?_
    refine G_aload_r C dX6_digits_21 rfl ?_
    refine G_getI C fo_X6_20 rfl rfl dX6_digits_22 ?_
    refine G_is (nI R.2.1) r2 ?_
    refine G_icmp_ge C 70 dX6_digits_25 (by decide) (fun h25 => ?_) (fun h25 => ?_)
    · exact absurd ((nI_leI (by omega) (by omega)).mp h25) (by omega)
    · refine G_aload_r C dX6_digits_28 rfl ?_
      refine G_getR C fo_X6_9 rfl rfl dX6_digits_29 ?_
      refine G_getR C fo_X6_90 rfl rfl dX6_digits_32 ?_
      refine G_iload_n C dX6_digits_35 rfl ?_
      refine G_baldN C rfl (by omega) (by decide) dX6_digits_36 ?_
      refine G_bipush C (48) dX6_digits_37 (by decide) ?_
      refine G_isub C dX6_digits_39 ?_
      refine G_istore_n C dX6_digits_40 (by decide) ?_
      refine G_iload_n C dX6_digits_41 rfl ?_
      refine G_bipush C (10) dX6_digits_42 (by decide) ?_
      refine G_cNr2 C ok_X9_isBelow lk_X6_110 (c_X9_isBelow) (Nat.le_of_ble_eq_true rfl) dX6_digits_44 ?_
      refine G_if_ne C 52 dX6_digits_47 (by decide) (fun h47 => ?_) (fun h47 => ?_)
      · rw [bl_z] at h47
        obtain ⟨q, hq, e1, e2, e3, e4⟩ := dig_ex (Decidable.not_not.mp h47)
        rw [e1]
        refine G_ldc C kc_X6_114 dX6_digits_52 ?_
        refine G_iload_n C dX6_digits_54 rfl ?_
        refine G_bipush C (nI 10) dX6_digits_55 (by decide) ?_
        refine G_imul C dX6_digits_57 ?_
        rw [pk_mul]
        refine G_iload_n C dX6_digits_58 rfl ?_
        refine G_iadd C dX6_digits_59 ?_
        rw [nI_add]
        refine G_mmin C lk_X6_115 ms_min mi_math mc_min (Nat.le_of_ble_eq_true rfl) dX6_digits_60 ?_
        rw [show (10000000 : Int32) = nI 10000000 from rfl, cap_min (by omega) (by decide)]
        refine G_istore_n C dX6_digits_63 (by decide) ?_
        refine G_iincN C dX6_digits_64 (by decide) rfl ?_
        refine G_goto C 20 dX6_digits_67 (by decide) ?_
        refine G_sub [(0, _), (1, _), (2, _)] (by repeat (first | refine And.intro rfl ?_ | exact True.intro)) ?_
        rw [show min (min a 10000000 * 10 + q) 10000000 = min (10 * a + q) 10000000 by omega]
        exact ih (i + 1) (10 * a + q) (by omega) (by rw [ho]; simp only [dfold]; rw [if_pos ⟨e3, e4⟩, e2])
      · rw [bl_z] at h47
        refine G_iconst C (-1) dX6_digits_50 (by decide) ?_
        exact G_retR C dX6_digits_51 (by rw [ho]; simp only [dfold]; rw [if_neg (by grind)]; rfl) rfl
set_option maxHeartbeats 4000000 in
set_option maxRecDepth 100000 in
theorem c_X6_digits {K : Kt} {d : Nat} {M : Mem} {n : Nat} {R : RS} (hn : M 7 1 = nI n) (h72 : n ≤ 72) (ok : Rok n R) (hR : RX M R) : Ri K (d + 1) mX6_digits [rf K 9] M (capv 10000000 (dnum (M 8) n R)) M := by
  refine Ri_int RX6 [(0, rf K 9)] rfl (by decide) rfl (Nat.le_of_ble_eq_true rfl) rfl (fun x C => ?_)
  obtain ⟨r1, r2, r3⟩ := id hR
  have o1 := ok.1
  have o2 := ok.2.1
  refine G_aload_r C dX6_digits_0 rfl ?_
  refine G_getI C fo_X6_82 rfl rfl dX6_digits_1 ?_
  refine G_is (nI R.1) r1 ?_
  refine G_aload_r C dX6_digits_4 rfl ?_
  refine G_getI C fo_X6_20 rfl rfl dX6_digits_5 ?_
  refine G_is (nI R.2.1) r2 ?_
  refine G_icmp_ne C 13 dX6_digits_8 (by decide) (fun h8 => ?_) (fun h8 => ?_)
  · rw [nI_eq (by omega) (by omega)] at h8
    refine G_iconst C (nI (min 0 10000000)) dX6_digits_13 (by decide) ?_
    refine G_istore_n C dX6_digits_14 (by decide) ?_
    refine G_aload_r C dX6_digits_15 rfl ?_
    refine G_getI C fo_X6_82 rfl rfl dX6_digits_16 ?_
    refine G_is (nI R.1) r1 ?_
    refine G_istore_n C dX6_digits_19 (by decide) ?_
    refine G_sub [(0, _), (1, _), (2, _)] (by repeat (first | refine And.intro rfl ?_ | exact True.intro)) ?_
    exact L_X6_digits hn h72 ok hR C (R.2.1 - R.1) R.1 0 (by omega) (by simp only [dnum]; rw [if_pos (by omega)])
  · rw [nI_eq (by omega) (by omega)] at h8
    refine G_iconst C (-1) dX6_digits_11 (by decide) ?_
    exact G_retR C dX6_digits_12 (by simp only [dnum]; rw [if_neg (by omega)]; rfl) rfl
theorem capv_in {lo hi : Int32} (h0 : 0 ≤ lo) (h1 : hi ≤ 100000) (o : Option Nat) : (lo ≤ capv 10000000 o ∧ capv 10000000 o ≤ hi ↔ lo ≤ capv 1000000 o ∧ capv 1000000 o ≤ hi) ∧ (capv 10000000 o ≤ hi → capv 10000000 o = capv 1000000 o) := by
  cases o with
  | none => exact ⟨Iff.rfl, fun _ => rfl⟩
  | some v =>
    simp only [capv]
    by_cases h : v ≤ 1000000
    · rw [Nat.min_eq_left (show v ≤ 10000000 by omega), Nat.min_eq_left h]
      exact ⟨Iff.rfl, fun _ => rfl⟩
    · have a1 : ¬ nI (min v 10000000) ≤ hi := fun z => by
        have z2 : nI (min v 10000000) ≤ nI 100000 := Int32.le_trans z h1
        have := (nI_leI (by omega) (by decide)).mp z2
        omega
      have a2 : ¬ nI (min v 1000000) ≤ hi := fun z => by
        have z2 : nI (min v 1000000) ≤ nI 100000 := Int32.le_trans z h1
        have := (nI_leI (by omega) (by decide)).mp z2
        omega
      exact ⟨⟨fun z => absurd z.2 a1, fun z => absurd z.2 a2⟩, fun z => absurd z a1⟩
set_option maxHeartbeats 4000000 in
set_option maxRecDepth 100000 in
theorem c_X6_number {K : Kt} {d : Nat} {M : Mem} {n : Nat} {R : RS} (hn : M 7 1 = nI n) (h72 : n ≤ 72) (ok : Rok n R) (hR : RX M R) {lo hi : Int32} (h0 : 0 ≤ lo) (h1 : hi ≤ 100000) : Ci K (d + 2) mX6_number [rf K 9, .int lo, .int hi] M (fun r N => r = r_num (M 8) n lo hi R ∧ A9 M N ∧ RX N (r_nuS (M 8) n lo hi R)) := by
  refine Ci_int RX6 [(0, rf K 9), (1, .int lo), (2, .int hi)] rfl (by decide) rfl (Nat.le_of_ble_eq_true rfl) rfl (fun x C => ?_)
  have hbn : ixv R.2.2 = -2000000005 ↔ R.2.2 = none := ixv_none (fun q hq => by have := ok.2.2 q hq; omega)
  obtain ⟨r1, r2, r3⟩ := id hR
  have hcap := capv_in h0 h1 (dnum (M 8) n R)
  refine G_aload_r C dX6_number_0 rfl ?_
  refine G_getI C fo_X6_16 rfl rfl dX6_number_1 ?_
  refine G_is (ixv R.2.2) r3 ?_
  refine G_ldc C kc_X6_15 dX6_number_4 ?_
  refine G_icmp_eq C 11 dX6_number_6 (by decide) (fun h6 => ?_) (fun h6 => ?_)
  · rw [hbn] at h6
    refine G_aload_r C dX6_number_11 rfl ?_
    refine G_cVr0 C ok_X6_digits lk_X6_97 rfl rfl (c_X6_digits hn h72 ok hR) (Nat.le_of_ble_eq_true rfl) dX6_number_12 ?_
    refine G_istore_n C dX6_number_15 (by decide) ?_
    refine G_iload_n C dX6_number_16 rfl ?_
    refine G_iload_n C dX6_number_17 rfl ?_
    refine G_icmp_lt C 26 dX6_number_18 (by decide) (fun h18 => ?_) (fun h18 => ?_)
    · refine G_aload_r C dX6_number_26 rfl ?_
      refine G_aload_r C dX6_number_27 rfl ?_
      refine G_getI C fo_X6_82 rfl rfl dX6_number_28 ?_
      refine G_is (nI R.1) r1 ?_
      refine G_putI C fp_X6_16 rfl rfl dX6_number_31 ?_
      refine G_iconst C (0) dX6_number_34 (by decide) ?_
      have hva : r_val (M 8) n lo hi R = none := by simp only [r_val]; rw [if_neg (by rw [← hcap.1]; grind)]
      exact G_ret C dX6_number_35 ⟨by simp only [r_num, h6, hva]; rfl, fun q hq => wr_c hq, by simp only [r_nuS, h6, hva]; exact ⟨(wr_f (by decide)).trans r1, (wr_f (by decide)).trans r2, wr_s⟩⟩
    · refine G_iload_n C dX6_number_21 rfl ?_
      refine G_iload_n C dX6_number_22 rfl ?_
      refine G_icmp_le C 36 dX6_number_23 (by decide) (fun h23 => ?_) (fun h23 => ?_)
      · refine G_aload_r C dX6_number_36 rfl ?_
        refine G_cVv0 C ok_X6_step lk_X6_23 rfl rfl (c_X6_step hn h72 ok hR) (Nat.le_of_ble_eq_true rfl) dX6_number_37 (fun N hq => ?_)
        refine G_iload_n C dX6_number_40 rfl ?_
        have hva : r_val (M 8) n lo hi R = some (capv 1000000 (dnum (M 8) n R)) := by simp only [r_val]; rw [if_pos (by rw [← hcap.1]; grind)]
        exact G_ret C dX6_number_41 ⟨by simp only [r_num, h6, hva]; exact hcap.2 (by grind), hq.1, by simp only [r_nuS, h6, hva]; exact hq.2⟩
      · refine G_aload_r C dX6_number_26 rfl ?_
        refine G_aload_r C dX6_number_27 rfl ?_
        refine G_getI C fo_X6_82 rfl rfl dX6_number_28 ?_
        refine G_is (nI R.1) r1 ?_
        refine G_putI C fp_X6_16 rfl rfl dX6_number_31 ?_
        refine G_iconst C (0) dX6_number_34 (by decide) ?_
        have hva : r_val (M 8) n lo hi R = none := by simp only [r_val]; rw [if_neg (by rw [← hcap.1]; grind)]
        exact G_ret C dX6_number_35 ⟨by simp only [r_num, h6, hva]; rfl, fun q hq => wr_c hq, by simp only [r_nuS, h6, hva]; exact ⟨(wr_f (by decide)).trans r1, (wr_f (by decide)).trans r2, wr_s⟩⟩
  · rw [hbn] at h6
    refine G_iconst C (0) dX6_number_9 (by decide) ?_
    obtain ⟨q, hq⟩ : ∃ q, R.2.2 = some q := by cases e : R.2.2 with | none => exact absurd e h6 | some q => exact ⟨q, rfl⟩
    exact G_ret C dX6_number_10 ⟨by simp only [r_num, hq], fun _ _ => rfl, by simp only [r_nuS, hq]; exact hR⟩
set_option maxHeartbeats 4000000 in
set_option maxRecDepth 100000 in
theorem c_X6_option {K : Kt} {d : Nat} {M : Mem} {n : Nat} {R : RS} (hn : M 7 1 = nI n) (h72 : n ≤ 72) (ok : Rok n R) (hR : RX M R) {i : Nat} (hv : (kF K).category = 1) (hi6 : i < 6) {lo hi : Int32} (h0 : 0 ≤ lo) (h1 : hi ≤ 100000) {df : Int32} : Ci K (d + 6) mX6_option [rf K 9, sf K i, .int lo, .int hi, .int df] M (fun r N => r = r_opt (M 8) n (wd i) lo hi df R ∧ A9 M N ∧ RX N (r_opS (M 8) n (wd i) lo hi R)) := by
  refine Ci_int RX6 [(0, rf K 9), (1, sf K i), (2, .int lo), (3, .int hi), (4, .int df)] rfl (by decide) rfl (Nat.le_of_ble_eq_true rfl) rfl (fun x C => ?_)
  refine G_aload_r C dX6_option_0 rfl ?_
  refine G_aload_s C dX6_option_1 rfl ?_
  refine G_cVi1 C ok_X6_skip lk_X6_50 rfl rfl (c_X6_skip hn h72 ok hR hv hi6) (Nat.le_of_ble_eq_true rfl) dX6_option_2 (fun r N hq => ?_)
  obtain ⟨rfl, ha, hR2⟩ := hq
  have hn2 : N 7 1 = nI n := by rw [ha 7 (by decide)]; exact hn
  refine G_if_eq C 17 dX6_option_5 (by decide) (fun h5 => ?_) (fun h5 => ?_)
  · rw [bl_z] at h5
    refine G_iload C dX6_option_17 rfl ?_
    have hf : r_skip (M 8) n (wd i) R = false := by simpa using h5
    exact G_ret C dX6_option_19 ⟨by simp only [r_opt, hf]; rfl, ha, by simp only [r_opS, hf]; simp only [r_skS, hf] at hR2; exact hR2⟩
  · rw [bl_z] at h5
    have hf : r_skip (M 8) n (wd i) R = true := by simpa using h5
    have hR3 : RX N (r_step (M 8) n R) := by simp only [r_skS, hf] at hR2; exact hR2
    refine G_aload_r C dX6_option_8 rfl ?_
    refine G_iload_n C dX6_option_9 rfl ?_
    refine G_iload_n C dX6_option_10 rfl ?_
    refine G_cVi2 C ok_X6_number lk_X6_32 rfl rfl (c_X6_number hn2 h72 ok.step hR3 h0 h1) (Nat.le_of_ble_eq_true rfl) dX6_option_11 (fun r2 N2 hq2 => ?_)
    obtain ⟨rfl, ha2, hR4⟩ := hq2
    rw [ha 8 (by decide)] at hR4 ⊢
    refine G_goto C 19 dX6_option_14 (by decide) ?_
    exact G_ret C dX6_option_19 ⟨by simp only [r_opt, hf]; rfl, fun q hq => (ha2 q hq).trans (ha q hq), by simp only [r_opS, hf]; exact hR4⟩
