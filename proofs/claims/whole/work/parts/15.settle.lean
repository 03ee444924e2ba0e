def Agx (M N : Mem) : Prop := ∀ i, i ≠ 32 → i ≠ 33 → i ≠ 34 → N i = M i
def Agm (M N : Mem) : Prop := ∀ i, i ≠ 59 → i ≠ 60 → N i = M i
theorem xhold_ag {M N : Mem} (h : Agx M N) : xhold N = xhold M := by
  funext k w j
  simp only [xhold]
  rw [h 4 (by decide) (by decide) (by decide), h 5 (by decide) (by decide) (by decide), h 6 (by decide) (by decide) (by decide)]
theorem xbest_ag {M N : Mem} (h : Agx M N) : xbest N = xbest M := by
  funext n kd k w
  simp only [xbest]
  rw [h 2 (by decide) (by decide) (by decide), h 4 (by decide) (by decide) (by decide), xhold_ag h]
theorem xkids_ag {M N : Mem} (h : Agx M N) : xkids N = xkids M := by
  funext n k w
  simp only [xkids]
  rw [h 2 (by decide) (by decide) (by decide), h 3 (by decide) (by decide) (by decide), xhold_ag h]
theorem xlb_ag {M N : Mem} (h : Agx M N) {nl : Nat} (hl : nl ≤ 8) (w : Int32) : xlb N nl w = xlb M nl w := by
  simp only [xlb]
  exact s_best_cong (fun i hi => by rw [h (12 + i) (by omega) (by omega) (by omega)]) (fun i hi => by rw [h (12 + i) (by omega) (by omega) (by omega)])
theorem xsumv_ag {M N : Mem} (h : Agx M N) {nl : Nat} (hl : nl ≤ 8) (nc : Nat) (w n k : Int32) : xsumv N nl nc w n k = xsumv M nl nc w n k := by
  simp only [xsumv]
  rw [xlb_ag h hl, xkids_ag h, xbest_ag h, h 3 (by decide) (by decide) (by decide)]
  cases e : xlb M nl w with
  | none => rfl
  | some l =>
    have hl' := s_best_lt e
    dsimp only
    rw [h (12 + l) (by omega) (by omega) (by omega)]
theorem xend_ag {M N : Mem} (h : Agx M N) : xend N = xend M := by
  funext w g
  simp only [xend, xsch, xtold]
  rw [h 27 (by decide) (by decide) (by decide), h (23 + 0) (by decide) (by decide) (by decide), h (23 + 1) (by decide) (by decide) (by decide), h (25 + 0) (by decide) (by decide) (by decide), h (25 + 1) (by decide) (by decide) (by decide)]
theorem xduev_ag {M N : Mem} (h : Agx M N) {nl : Nat} (hl : nl ≤ 8) (nc : Nat) (side k : Int32) (w : Nat) : xduev N nl nc side k w = xduev M nl nc side k w := by
  simp only [xduev]
  rw [xend_ag h, xsumv_ag h hl, xsumv_ag h hl, h 35 (by decide) (by decide) (by decide)]
theorem xpays_ag {M N : Mem} (h : Agx M N) : xpays N = xpays M := by
  funext w n
  simp only [xpays]
  rw [h 28 (by decide) (by decide) (by decide), h 29 (by decide) (by decide) (by decide), h 30 (by decide) (by decide) (by decide), h 31 (by decide) (by decide) (by decide)]
theorem mhold_ag {M N : Mem} (h : Agm M N) : mhold N = mhold M := by
  funext k w j
  simp only [mhold]
  rw [h 39 (by decide) (by decide), h 40 (by decide) (by decide), h 41 (by decide) (by decide)]
theorem mbest_ag {M N : Mem} (h : Agm M N) : mbest N = mbest M := by
  funext n kd k w
  simp only [mbest]
  rw [h 37 (by decide) (by decide), h 39 (by decide) (by decide), mhold_ag h]
theorem mkids_ag {M N : Mem} (h : Agm M N) : mkids N = mkids M := by
  funext n k w
  simp only [mkids]
  rw [h 37 (by decide) (by decide), h 38 (by decide) (by decide), mhold_ag h]
theorem msumv_ag {M N : Mem} (h : Agm M N) : msumv N = msumv M := by
  funext nl nc w n k
  simp only [msumv, mlb]
  rw [mkids_ag h, mbest_ag h, h 38 (by decide) (by decide), h 44 (by decide) (by decide), h 45 (by decide) (by decide), h 46 (by decide) (by decide), h 47 (by decide) (by decide), h 48 (by decide) (by decide), h 49 (by decide) (by decide), h 50 (by decide) (by decide), h 51 (by decide) (by decide)]
theorem mend_ag {M N : Mem} (h : Agm M N) : mend N = mend M := by
  funext w g
  simp only [mend, msch, mtold]
  rw [h 42 (by decide) (by decide), h 56 (by decide) (by decide), h 57 (by decide) (by decide)]
theorem mduev_ag {M N : Mem} (h : Agm M N) : mduev N = mduev M := by
  funext nl nc side k w
  simp only [mduev]
  rw [mend_ag h, msumv_ag h, h 43 (by decide) (by decide)]
theorem mpays_ag {M N : Mem} (h : Agm M N) : mpays N = mpays M := by
  funext w n
  simp only [mpays]
  rw [h 36 (by decide) (by decide), h 52 (by decide) (by decide), h 53 (by decide) (by decide), h 54 (by decide) (by decide)]
theorem s_rest_cong {f g : Nat → Int32} {c : Int32} : ∀ {n : Nat}, (∀ i, i < n → f i = g i) → s_rest f c n = s_rest g c n
  | 0, _ => rfl
  | n + 1, h => by
    simp only [s_rest]
    rw [s_rest_cong (n := n) (fun i hi => h i (by omega)), h n (by omega)]
theorem s_lft_cong {f g : Nat → Int32} {c : Int32} {n : Nat} (h : ∀ i, i ≤ n → f i = g i) : s_lft f c n = s_lft g c n := by
  simp only [s_lft]
  rw [s_rest_cong (n := n) (fun i hi => h i (by omega)), h n (by omega)]
def XS (M : Mem) (nc nl nb nw : Nat) : Prop := M 1 5 = nI nc ∧ nc ≤ 80 ∧ M 10 1 = nI nl ∧ nl ≤ 8 ∧ M 28 3 = nI nb ∧ nb ≤ 100 ∧ M 0 9 = nI nw ∧ nw < 120
def MS (M : Mem) (nc nl nb nw : Nat) : Prop := M 36 1 = nI nc ∧ nc ≤ 80 ∧ M 36 9 = nI nl ∧ nl ≤ 8 ∧ M 36 18 = nI nb ∧ nb ≤ 100 ∧ M 36 0 = nI nw ∧ nw < 120 ∧ ∀ i, i < nc → M 37 i ≠ 2 → 0 ≤ M 38 i
theorem XS.ag {M N : Mem} {nc nl nb nw : Nat} (h : XS M nc nl nb nw) (a : Agx M N) : XS N nc nl nb nw := by
  unfold XS at *
  rw [a 1 (by decide) (by decide) (by decide), a 10 (by decide) (by decide) (by decide), a 28 (by decide) (by decide) (by decide), a 0 (by decide) (by decide) (by decide)]
  exact h
theorem MS.ag {M N : Mem} {nc nl nb nw : Nat} (h : MS M nc nl nb nw) (a : Agm M N) : MS N nc nl nb nw := by
  unfold MS at *
  rw [a 36 (by decide) (by decide), a 37 (by decide) (by decide), a 38 (by decide) (by decide)]
  exact h
/-- behind settle: the dues of the weeks up to k, and what stays of them -/
def Settled (M : Mem) (D : Nat → Int32) (c : Int32) (k : Nat) (N : Mem) : Prop := Agx M N ∧ N 32 2 = nI (k + 1) ∧ (∀ i, i ≤ k → N 33 i = D i) ∧ N 32 3 = s_rest D c (k + 1) ∧ ∀ i, i ≤ k → N 34 i = s_lft D c i
def Found (M : Mem) (D : Nat → Int32) (k : Nat) (N : Mem) : Prop := Agm M N ∧ (∀ i, i ≤ k → N 59 i = D i) ∧ ∀ i, i ≤ k → N 60 i = s_tot D (i + 1)
set_option maxHeartbeats 4000000 in
set_option maxRecDepth 100000 in
theorem L_X9_settle {K : Kt} {d : Nat} {M : Mem} {nc nl nb nw : Nat} {side : Int32} {k : Nat} (hx : XS M nc nl nb nw) (hk : k < 120) {x : Cx} (C : Cok K x RX9 cX9_settle 4 (d + 5) (RV (Settled M (fun w => xduev M nl nc side (nI k) w) (xpays M (nI k) nb) k))) :
    ∀ (t j : Nat) (N : Mem), k + 1 < j + t → j ≤ k + 1 → (∀ i, i ≠ 33 → N i = M i) → (∀ i, i < j → N 33 i = xduev M nl nc side (nI k) i) → G K x 4 2 [(0, rf K 0), (1, .int side), (2, .int (nI k)), (3, .int (nI j))] [] N := by
  intro t
  induction t with
  | zero => intro j N h1 h2; omega
  | succ t ih =>
    intro j N h1 h2 h3 hd4
    have ha : Agx M N := fun i _ hi _ => h3 i hi
    have hxN := hx.ag ha
    have hxN' := hxN
    obtain ⟨hc, hc8, hl, hl8, hb, hb8, hw, hw8⟩ := hxN'
    refine G_iload_n C dX9_settle_2 rfl ?_
    refine G_iload_n C dX9_settle_3 rfl ?_
    refine G_icmp_gt C 29 dX9_settle_4 (by decide) (fun h4 => ?_) (fun h4 => ?_)
    · have hE : j = k + 1 := by have := n_gtE (N := 200) (by omega) (by omega) (by decide) h4; omega
      refine G_aload_r C dX9_settle_29 rfl ?_
      refine G_getR C fo_X9_56 rfl rfl dX9_settle_30 ?_
      refine G_iload_n C dX9_settle_33 rfl ?_
      refine G_iconst C (1) dX9_settle_34 (by decide) ?_
      refine G_iadd C dX9_settle_35 ?_
      rw [nI_1]
      refine G_putI C fp_X9_239 rfl rfl dX9_settle_36 ?_
      refine G_aload_r C dX9_settle_39 rfl ?_
      refine G_getR C fo_X9_56 rfl rfl dX9_settle_40 ?_
      refine G_aload_r C dX9_settle_43 rfl ?_
      refine G_getR C fo_X9_49 rfl rfl dX9_settle_44 ?_
      refine G_iload_n C dX9_settle_47 rfl ?_
      refine G_cVr1 C ok_X1_paysUpTo lk_X9_227 rfl rfl (c_X1_paysUpTo (n := nb) (by rw [wr_c (by decide)]; exact hb) hb8) (Nat.le_of_ble_eq_true rfl) dX9_settle_48 ?_
      refine G_cVv1 C ok_X0_payOldestFirst lk_X9_230 rfl rfl (c_X0_payOldestFirst (n := k + 1) wr_s (by omega)) (Nat.le_of_ble_eq_true rfl) dX9_settle_51 (fun N2 hq => ?_)
      refine G_vret C dX9_settle_54 ?_
      obtain ⟨q1, q2, q3, q4⟩ := hq
      have e33 : wr N 32 2 (nI (k + 1)) 33 = N 33 := wr_c (by decide)
      have ec : xpays (wr N 32 2 (nI (k + 1))) (nI k) nb = xpays M (nI k) nb := by rw [← xpays_ag ha]; exact congrFun (congrFun (xpays_ag (fun i hi _ _ => wr_c hi)) _) _
      have eD : ∀ i, i < k + 1 → wr N 32 2 (nI (k + 1)) 33 i = xduev M nl nc side (nI k) i := fun i hi => by rw [e33]; exact hd4 i (by omega)
      refine ⟨fun i h1 h2 h3' => ?_, ?_, fun i hi => ?_, ?_, fun i hi => ?_⟩
      · rw [q1 i h1 h3', wr_c h1]; exact h3 i h2
      · rw [q2 2 (by decide)]; exact wr_s
      · rw [q1 33 (by decide) (by decide)]; exact eD i (by omega)
      · rw [q3, ec]; exact s_rest_cong eD
      · rw [q4 i (by omega), ec]; exact s_lft_cong (fun q hq => eD q (by omega))
    · have hlt : j ≤ k := n_leE (N := 200) (by omega) (by omega) (by decide) h4
      have hj8 : j < 120 := by omega
      refine G_aload_r C dX9_settle_7 rfl ?_
      refine G_getR C fo_X9_56 rfl rfl dX9_settle_8 ?_
      refine G_getR C fo_X9_218 rfl rfl dX9_settle_11 ?_
      refine G_iload_n C dX9_settle_14 rfl ?_
      refine G_aload_r C dX9_settle_15 rfl ?_
      refine G_iload_n C dX9_settle_16 rfl ?_
      refine G_iload_n C dX9_settle_17 rfl ?_
      refine G_iload_n C dX9_settle_18 rfl ?_
      refine G_cVr3 C ok_X9_dueOf lk_X9_170 rfl rfl (c_X9_dueOf hl hl8 hc hc8 hj8) (Nat.le_of_ble_eq_true rfl) dX9_settle_19 ?_
      refine G_iastN C rfl (by assumption) (by decide) dX9_settle_22 ?_
      refine G_iincN C dX9_settle_23 (by decide) rfl ?_
      refine G_goto C 2 dX9_settle_26 (by decide) ?_
      refine G_sub [(0, _), (1, _), (2, _), (3, _)] (by repeat (first | refine And.intro rfl ?_ | exact True.intro)) ?_
      refine ih (j + 1) _ (by omega) (by omega) (fun i hi => (wr_c hi).trans (h3 i hi)) (fun i hi => ?_)
      rcases Nat.lt_or_ge i j with q | q
      · rw [wr_f (by omega)]; exact hd4 i q
      · have e : i = j := by omega
        subst e
        rw [wr_s]
        exact xduev_ag ha hl8 nc side (nI k) i
set_option maxHeartbeats 4000000 in
set_option maxRecDepth 100000 in
theorem c_X9_settle {K : Kt} {d : Nat} {M : Mem} {nc nl nb nw : Nat} {side : Int32} {k : Nat} (hx : XS M nc nl nb nw) (hk : k < 120) : Cv K (d + 5) mX9_settle [rf K 0, .int side, .int (nI k)] M (Settled M (fun w => xduev M nl nc side (nI k) w) (xpays M (nI k) nb) k) := by
  refine Cv_of RX9 [(0, rf K 0), (1, .int side), (2, .int (nI k))] rfl (by decide) rfl (Nat.le_of_ble_eq_true rfl) rfl (fun x C => ?_)
  refine G_iconst C (nI 0) dX9_settle_0 (by decide) ?_
  refine G_istore_n C dX9_settle_1 (by decide) ?_
  refine G_sub [(0, _), (1, _), (2, _), (3, _)] (by repeat (first | refine And.intro rfl ?_ | exact True.intro)) ?_
  exact L_X9_settle hx hk C (k + 2) 0 M (by omega) (by omega) (fun _ _ => rfl) (fun i hi => absurd hi (by omega))
set_option maxHeartbeats 4000000 in
set_option maxRecDepth 100000 in
theorem L_X10_findDues {K : Kt} {d : Nat} {M : Mem} {nc nl nb nw : Nat} {side : Int32} {k : Nat} (hx : MS M nc nl nb nw) (hk : k < 120) {x : Cx} (C : Cok K x RX10 cX10_findDues 5 (d + 5) (RV (Found M (fun w => mduev M nl nc side (nI k) w) k))) :
    ∀ (t j : Nat) (N : Mem) (b : Int32), k + 1 < j + t → j ≤ k + 1 → Agm M N → (∀ i, i < j → N 59 i = mduev M nl nc side (nI k) i) → (∀ i, i < j → N 60 i = s_tot (fun w => mduev M nl nc side (nI k) w) (i + 1)) → b = s_tot (fun w => mduev M nl nc side (nI k) w) j → G K x 5 5 [(0, rf K 36), (1, .int side), (2, .int (nI k)), (3, .int b), (4, .int (nI j))] [] N := by
  intro t
  induction t with
  | zero => intro j N b h1 h2; omega
  | succ t ih =>
    intro j N b h1 h2 ha h4 h5 hb
    have hxN := hx.ag ha
    obtain ⟨hc, hc8, hl, hl8, hbk, hb8, hw, hw8, hv⟩ := hxN
    refine G_iload C dX10_findDues_5 rfl ?_
    refine G_iload_n C dX10_findDues_7 rfl ?_
    refine G_icmp_gt C 50 dX10_findDues_8 (by decide) (fun h8 => ?_) (fun h8 => ?_)
    · have hE : j = k + 1 := by have := n_gtE (N := 200) (by omega) (by omega) (by decide) h8; omega
      exact G_vret C dX10_findDues_50 ⟨ha, fun i hi => h4 i (by omega), fun i hi => h5 i (by omega)⟩
    · have hlt : j ≤ k := n_leE (N := 200) (by omega) (by omega) (by decide) h8
      have hj8 : j < 120 := by omega
      refine G_aload_r C dX10_findDues_11 rfl ?_
      refine G_getR C fo_X10_81 rfl rfl dX10_findDues_12 ?_
      refine G_iload C dX10_findDues_15 rfl ?_
      refine G_aload_r C dX10_findDues_17 rfl ?_
      refine G_iload C dX10_findDues_18 rfl ?_
      refine G_iload_n C dX10_findDues_20 rfl ?_
      refine G_iload_n C dX10_findDues_21 rfl ?_
      refine G_cVr3 C ok_X10_dueOf lk_X10_209 rfl rfl (c_X10_dueOf hl hl8 hc hc8 hv hj8) (Nat.le_of_ble_eq_true rfl) dX10_findDues_22 ?_
      rw [mduev_ag ha]
      refine G_top (fun D eD => ?_)
      refine G_iastN C rfl (by assumption) (by decide) dX10_findDues_25 ?_
      refine G_iload_n C dX10_findDues_26 rfl ?_
      refine G_aload_r C dX10_findDues_27 rfl ?_
      refine G_getR C fo_X10_81 rfl rfl dX10_findDues_28 ?_
      refine G_iload C dX10_findDues_31 rfl ?_
      refine G_ialdN C rfl (by assumption) (by decide) dX10_findDues_33 ?_
      rw [wr_s]
      refine G_iadd C dX10_findDues_34 ?_
      refine G_istore_n C dX10_findDues_35 (by decide) ?_
      refine G_aload_r C dX10_findDues_36 rfl ?_
      refine G_getR C fo_X10_84 rfl rfl dX10_findDues_37 ?_
      refine G_iload C dX10_findDues_40 rfl ?_
      refine G_iload_n C dX10_findDues_42 rfl ?_
      refine G_iastN C rfl (by assumption) (by decide) dX10_findDues_43 ?_
      refine G_iincN C dX10_findDues_44 (by decide) rfl ?_
      refine G_goto C 5 dX10_findDues_47 (by decide) ?_
      refine G_sub [(0, _), (1, _), (2, _), (3, _), (4, _)] (by repeat (first | refine And.intro rfl ?_ | exact True.intro)) ?_
      refine ih (j + 1) _ _ (by omega) (by omega) (fun i h1' h2' => ?_) (fun i hi => ?_) (fun i hi => ?_) (by rw [hb, eD]; rfl)
      · rw [wr_c h2', wr_c h1']; exact ha i h1' h2'
      · rw [wr_c (by decide)]
        rcases Nat.lt_or_ge i j with q | q
        · rw [wr_f (by omega)]; exact h4 i q
        · have e : i = j := by omega
          subst e
          rw [wr_s]; exact eD
      · rcases Nat.lt_or_ge i j with q | q
        · rw [wr_f (by omega), wr_c (by decide)]; exact h5 i q
        · have e : i = j := by omega
          subst e
          rw [wr_s, hb, eD]; rfl
set_option maxHeartbeats 4000000 in
set_option maxRecDepth 100000 in
theorem c_X10_findDues {K : Kt} {d : Nat} {M : Mem} {nc nl nb nw : Nat} {side : Int32} {k : Nat} (hx : MS M nc nl nb nw) (hk : k < 120) : Cv K (d + 5) mX10_findDues [rf K 36, .int side, .int (nI k)] M (Found M (fun w => mduev M nl nc side (nI k) w) k) := by
  refine Cv_of RX10 [(0, rf K 36), (1, .int side), (2, .int (nI k))] rfl (by decide) rfl (Nat.le_of_ble_eq_true rfl) rfl (fun x C => ?_)
  refine G_iconst C (0) dX10_findDues_0 (by decide) ?_
  refine G_istore_n C dX10_findDues_1 (by decide) ?_
  refine G_iconst C (nI 0) dX10_findDues_2 (by decide) ?_
  refine G_istore C dX10_findDues_3 (by decide) ?_
  refine G_sub [(0, _), (1, _), (2, _), (3, _), (4, _)] (by repeat (first | refine And.intro rfl ?_ | exact True.intro)) ?_
  exact L_X10_findDues hx hk C (k + 2) 0 M 0 (by omega) (by omega) (fun _ _ _ => rfl) (fun i hi => absurd hi (by omega)) (fun i hi => absurd hi (by omega)) rfl
def s_inn (wk co : Nat → Int32) (pb : Nat → Bool) (coin w : Int32) : Nat → Nat → Int32 → Option Nat × Int32
  | 0, _, a => (none, a)
  | t + 1, i, a => if wk i = w ∧ pb i = true then (if coin ≤ a + co i then (some i, a + co i) else s_inn wk co pb coin w t (i + 1) (a + co i)) else s_inn wk co pb coin w t (i + 1) a
def s_out (wk co : Nat → Int32) (pb : Nat → Bool) (coin : Int32) (n : Nat) : Nat → Nat → Int32 → Option Nat
  | 0, _, _ => none
  | t + 1, w, a => match s_inn wk co pb coin (nI w) n 0 a with
    | (some i, _) => some i
    | (none, a') => s_out wk co pb coin n t (w + 1) a'
set_option maxHeartbeats 4000000 in
set_option maxRecDepth 100000 in
theorem L1_X1_lineWithCoin {K : Kt} {d : Nat} {M : Mem} {n w : Nat} {coin last : Int32} {x : Cx} {o : Option Nat} (hn : M 28 3 = nI n) (hN : n ≤ 100) (C : Cok K x RX1 cX1_lineWithCoin 6 (d + 1) (RI (fun v N => v = ixv o ∧ N = M))) :
    ∀ (t j : Nat) (a : Int32), j + t = n → (∀ q a', s_inn (M 29) (M 30) (payb (M 28 4) (M 31)) coin (nI w) t j a = (some q, a') → o = some q) → (∀ a', s_inn (M 29) (M 30) (payb (M 28 4) (M 31)) coin (nI w) t j a = (none, a') → G K x 6 71 [(0, rf K 28), (1, .int coin), (2, .int last), (3, .int a'), (4, .int (nI w))] [] M) → G K x 6 14 [(0, rf K 28), (1, .int coin), (2, .int last), (3, .int a), (4, .int (nI w)), (5, .int (nI j))] [] M := by
  intro t
  induction t with
  | zero =>
    intro j a h1 h2 h3
    have hj : j ≤ 100 := by omega
    refine G_iload C dX1_lineWithCoin_14 rfl ?_
    refine G_aload_r C dX1_lineWithCoin_16 rfl ?_
    refine G_getI C fo_X1_25 rfl rfl dX1_lineWithCoin_17 ?_
    refine G_icmp_ge C 71 dX1_lineWithCoin_20 (by decide) (fun h20 => ?_) (fun h20 => ?_)
    · refine G_sub [(0, _), (1, _), (2, _), (3, _), (4, _)] (by repeat (first | refine And.intro rfl ?_ | exact True.intro)) ?_
      exact h3 a rfl
    · exact absurd (n_gt hn hN hj (by decide) h20) (by omega)
  | succ t ih =>
    intro j a h1 h2 h3
    have hj : j ≤ 100 := by omega
    have hj8 : j < 100 := by omega
    refine G_iload C dX1_lineWithCoin_14 rfl ?_
    refine G_aload_r C dX1_lineWithCoin_16 rfl ?_
    refine G_getI C fo_X1_25 rfl rfl dX1_lineWithCoin_17 ?_
    refine G_icmp_ge C 71 dX1_lineWithCoin_20 (by decide) (fun h20 => ?_) (fun h20 => ?_)
    · exact absurd (n_le hn hN hj (by decide) h20) (by omega)
    · refine G_aload_r C dX1_lineWithCoin_23 rfl ?_
      refine G_getR C fo_X1_9 rfl rfl dX1_lineWithCoin_24 ?_
      refine G_iload C dX1_lineWithCoin_27 rfl ?_
      refine G_ialdN C rfl (by assumption) (by decide) dX1_lineWithCoin_29 ?_
      refine G_iload C dX1_lineWithCoin_30 rfl ?_
      refine G_icmp_ne C 65 dX1_lineWithCoin_32 (by decide) (fun h32 => ?_) (fun h32 => ?_)
      · refine G_iincN C dX1_lineWithCoin_65 (by decide) rfl ?_
        refine G_goto C 14 dX1_lineWithCoin_68 (by decide) ?_
        refine G_sub [(0, _), (1, _), (2, _), (3, _), (4, _), (5, _)] (by repeat (first | refine And.intro rfl ?_ | exact True.intro)) ?_
        exact ih (j + 1) _ (by omega) (fun q a2 hq => h2 q a2 (by simp only [s_inn]; rw [if_neg (by grind)]; exact hq)) (fun a2 hq => h3 a2 (by simp only [s_inn]; rw [if_neg (by grind)]; exact hq))
      · refine G_aload_r C dX1_lineWithCoin_35 rfl ?_
        refine G_iload C dX1_lineWithCoin_36 rfl ?_
        refine G_cVr1 C ok_X1_isPay lk_X1_28 rfl rfl (c_X1_isPay hj8) (Nat.le_of_ble_eq_true rfl) dX1_lineWithCoin_38 ?_
        refine G_if_ne C 47 dX1_lineWithCoin_41 (by decide) (fun h41 => ?_) (fun h41 => ?_)
        · rw [bl_z] at h41
          refine G_iload_n C dX1_lineWithCoin_47 rfl ?_
          refine G_aload_r C dX1_lineWithCoin_48 rfl ?_
          refine G_getR C fo_X1_15 rfl rfl dX1_lineWithCoin_49 ?_
          refine G_iload C dX1_lineWithCoin_52 rfl ?_
          refine G_ialdN C rfl (by assumption) (by decide) dX1_lineWithCoin_54 ?_
          refine G_iadd C dX1_lineWithCoin_55 ?_
          refine G_istore_n C dX1_lineWithCoin_56 (by decide) ?_
          refine G_iload_n C dX1_lineWithCoin_57 rfl ?_
          refine G_iload_n C dX1_lineWithCoin_58 rfl ?_
          refine G_icmp_lt C 65 dX1_lineWithCoin_59 (by decide) (fun h59 => ?_) (fun h59 => ?_)
          · refine G_iincN C dX1_lineWithCoin_65 (by decide) rfl ?_
            refine G_goto C 14 dX1_lineWithCoin_68 (by decide) ?_
            refine G_sub [(0, _), (1, _), (2, _), (3, _), (4, _), (5, _)] (by repeat (first | refine And.intro rfl ?_ | exact True.intro)) ?_
            exact ih (j + 1) _ (by omega) (fun q a2 hq => h2 q a2 (by simp only [s_inn]; rw [if_pos (by grind), if_neg (by grind)]; exact hq)) (fun a2 hq => h3 a2 (by simp only [s_inn]; rw [if_pos (by grind), if_neg (by grind)]; exact hq))
          · refine G_iload C dX1_lineWithCoin_62 rfl ?_
            exact G_retR C dX1_lineWithCoin_64 (by rw [h2 j _ (by simp only [s_inn]; rw [if_pos (by grind), if_pos (by grind)])]; rfl) rfl
        · rw [bl_z] at h41
          refine G_goto C 65 dX1_lineWithCoin_44 (by decide) ?_
          refine G_iincN C dX1_lineWithCoin_65 (by decide) rfl ?_
          refine G_goto C 14 dX1_lineWithCoin_68 (by decide) ?_
          refine G_sub [(0, _), (1, _), (2, _), (3, _), (4, _), (5, _)] (by repeat (first | refine And.intro rfl ?_ | exact True.intro)) ?_
          exact ih (j + 1) _ (by omega) (fun q a2 hq => h2 q a2 (by simp only [s_inn]; rw [if_neg (by grind)]; exact hq)) (fun a2 hq => h3 a2 (by simp only [s_inn]; rw [if_neg (by grind)]; exact hq))
set_option maxHeartbeats 4000000 in
set_option maxRecDepth 100000 in
theorem L2_X1_lineWithCoin {K : Kt} {d : Nat} {M : Mem} {n k : Nat} {coin : Int32} {x : Cx} {o : Option Nat} (hn : M 28 3 = nI n) (hN : n ≤ 100) (hk : k < 120) (C : Cok K x RX1 cX1_lineWithCoin 6 (d + 1) (RI (fun v N => v = ixv o ∧ N = M))) :
    ∀ (t w : Nat) (a : Int32), w + t = k + 1 → o = s_out (M 29) (M 30) (payb (M 28 4) (M 31)) coin n t w a → G K x 6 5 [(0, rf K 28), (1, .int coin), (2, .int (nI k)), (3, .int a), (4, .int (nI w))] [] M := by
  intro t
  induction t with
  | zero =>
    intro w a h1 ho
    refine G_iload C dX1_lineWithCoin_5 rfl ?_
    refine G_iload_n C dX1_lineWithCoin_7 rfl ?_
    refine G_icmp_gt C 77 dX1_lineWithCoin_8 (by decide) (fun h8 => ?_) (fun h8 => ?_)
    · refine G_ldc C kc_X1_32 dX1_lineWithCoin_77 ?_
      exact G_retR C dX1_lineWithCoin_79 (by rw [ho]; rfl) rfl
    · exact absurd (n_leE (N := 200) (by omega) (by omega) (by decide) h8) (by omega)
  | succ t ih =>
    intro w a h1 ho
    refine G_iload C dX1_lineWithCoin_5 rfl ?_
    refine G_iload_n C dX1_lineWithCoin_7 rfl ?_
    refine G_icmp_gt C 77 dX1_lineWithCoin_8 (by decide) (fun h8 => ?_) (fun h8 => ?_)
    · exact absurd (n_gtE (N := 200) (by omega) (by omega) (by decide) h8) (by omega)
    · refine G_iconst C (nI 0) dX1_lineWithCoin_11 (by decide) ?_
      refine G_istore C dX1_lineWithCoin_12 (by decide) ?_
      refine G_sub [(0, _), (1, _), (2, _), (3, _), (4, _), (5, _)] (by repeat (first | refine And.intro rfl ?_ | exact True.intro)) ?_
      refine L1_X1_lineWithCoin hn hN C n 0 a (by omega) (fun q a' hq => ?_) (fun a' hq => ?_)
      · rw [ho]; simp only [s_out]; rw [hq]
      · refine G_iincN C dX1_lineWithCoin_71 (by decide) rfl ?_
        refine G_goto C 5 dX1_lineWithCoin_74 (by decide) ?_
        refine G_sub [(0, _), (1, _), (2, _), (3, _), (4, _)] (by repeat (first | refine And.intro rfl ?_ | exact True.intro)) ?_
        exact ih (w + 1) a' (by omega) (by rw [ho]; simp only [s_out]; rw [hq])
set_option maxHeartbeats 4000000 in
set_option maxRecDepth 100000 in
theorem c_X1_lineWithCoin {K : Kt} {d : Nat} {M : Mem} {n k : Nat} {coin : Int32} (hn : M 28 3 = nI n) (hN : n ≤ 100) (hk : k < 120) : Ri K (d + 1) mX1_lineWithCoin [rf K 28, .int coin, .int (nI k)] M (ixv (s_out (M 29) (M 30) (payb (M 28 4) (M 31)) coin n (k + 1) 0 0)) M := by
  refine Ri_int RX1 [(0, rf K 28), (1, .int coin), (2, .int (nI k))] rfl (by decide) rfl (Nat.le_of_ble_eq_true rfl) rfl (fun x C => ?_)
  refine G_iconst C (0) dX1_lineWithCoin_0 (by decide) ?_
  refine G_istore_n C dX1_lineWithCoin_1 (by decide) ?_
  refine G_iconst C (nI 0) dX1_lineWithCoin_2 (by decide) ?_
  refine G_istore C dX1_lineWithCoin_3 (by decide) ?_
  refine G_sub [(0, _), (1, _), (2, _), (3, _), (4, _)] (by repeat (first | refine And.intro rfl ?_ | exact True.intro)) ?_
  exact L2_X1_lineWithCoin hn hN hk C (k + 1) 0 0 (by omega) rfl
