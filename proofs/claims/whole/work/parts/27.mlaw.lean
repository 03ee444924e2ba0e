section RL
variable {t : Nat → Int32} {n : Nat} {w : List Int32} {lo hb df : Int32} {R : RS} {p : Nat}
theorem ab_need (h : R.2.2 = some p) : r_need t n w R = R := by simp only [r_need, h]
theorem ab_nuS (h : R.2.2 = some p) : r_nuS t n lo hb R = R := by simp only [r_nuS, h]
theorem ab_skip (h : R.2.2 = some p) : r_skip t n w R = false := by simp [r_skip, h]
theorem ab_skS (h : R.2.2 = some p) : r_skS t n w R = R := by simp only [r_skS, ab_skip h]; rfl
theorem ab_opS (h : R.2.2 = some p) : r_opS t n w lo hb R = R := by simp only [r_opS, ab_skip h]; rfl
theorem need_f (h : R.2.2 = none) (ha : r_at t n w R = false) : r_need t n w R = r_fl R := by simp only [r_need, h, ha]; rfl
theorem need_t (h : R.2.2 = none) (ha : r_at t n w R = true) : r_need t n w R = r_step t n R := by simp only [r_need, h, ha]; rfl
theorem num_bad (h : R.2.2 = none) (hi : ¬ (lo ≤ capv 1000000 (dnum t n R) ∧ capv 1000000 (dnum t n R) ≤ hb)) : r_nuS t n lo hb R = r_fl R := by
  simp only [r_nuS, h, r_val]
  rw [if_neg hi]
theorem num_ok (h : R.2.2 = none) (hi : lo ≤ capv 1000000 (dnum t n R) ∧ capv 1000000 (dnum t n R) ≤ hb) : r_num t n lo hb R = capv 1000000 (dnum t n R) ∧ r_nuS t n lo hb R = r_step t n R := by
  simp only [r_num, r_nuS, h, r_val]
  rw [if_pos hi]
  exact ⟨rfl, rfl⟩
theorem skip_f (ha : r_at t n w R = false) : r_skip t n w R = false ∧ r_skS t n w R = R := by
  have : r_skip t n w R = false := by simp [r_skip, ha]
  exact ⟨this, by simp only [r_skS, this]; rfl⟩
theorem skip_t (h : R.2.2 = none) (ha : r_at t n w R = true) : r_skip t n w R = true ∧ r_skS t n w R = r_step t n R := by
  have : r_skip t n w R = true := by simp [r_skip, ha, h]
  exact ⟨this, by simp only [r_skS, this]; rfl⟩
theorem opt_f (ha : r_at t n w R = false) : r_opt t n w lo hb df R = df ∧ r_opS t n w lo hb R = R := by
  simp only [r_opt, r_opS, (skip_f ha).1]
  exact ⟨rfl, rfl⟩
theorem opt_bad (h : R.2.2 = none) (ha : r_at t n w R = true) (hi : ¬ (lo ≤ capv 1000000 (dnum t n (r_step t n R)) ∧ capv 1000000 (dnum t n (r_step t n R)) ≤ hb)) : r_opS t n w lo hb R = r_fl (r_step t n R) := by
  simp only [r_opS, (skip_t h ha).1]
  exact num_bad (R := r_step t n R) h hi
theorem opt_ok (h : R.2.2 = none) (ha : r_at t n w R = true) (hi : lo ≤ capv 1000000 (dnum t n (r_step t n R)) ∧ capv 1000000 (dnum t n (r_step t n R)) ≤ hb) : r_opt t n w lo hb df R = capv 1000000 (dnum t n (r_step t n R)) ∧ r_opS t n w lo hb R = r_step t n (r_step t n R) := by
  simp only [r_opt, r_opS, (skip_t h ha).1]
  exact num_ok (R := r_step t n R) h hi
theorem fin_AZ (h : (q_AZ t n).2.2 = some p) : q_fin t n = some p := by
  unfold q_fin
  rw [if_neg (fun z => by rw [h] at z; cases z.1), h]
theorem fin_A9 (h : (q_A9 t n).2.2 = some p) : q_fin t n = some p := fin_AZ (by unfold q_AZ; rw [ab_opS h]; exact h)
theorem fin_A8 (h : (q_A8 t n).2.2 = some p) : q_fin t n = some p := fin_A9 (by unfold q_A9; rw [ab_opS h]; exact h)
theorem fin_A7 (h : (q_A7 t n).2.2 = some p) : q_fin t n = some p := fin_A8 (by unfold q_A8; rw [ab_opS h]; exact h)
theorem fin_A6 (h : (q_A6 t n).2.2 = some p) : q_fin t n = some p := fin_A7 (by unfold q_A7; rw [ab_opS h]; exact h)
theorem fin_A5 (hb : q_b t n = true) (h : (q_A5 t n).2.2 = some p) : q_fin t n = some p := fin_A6 (by unfold q_A6; rw [hb]; show (r_nuS t n 0 60 (q_A5 t n)).2.2 = _; rw [ab_nuS h]; exact h)
theorem fin_A4 (hb : q_b t n = true) (h : (q_A4 t n).2.2 = some p) : q_fin t n = some p := fin_A5 hb (by unfold q_A5; rw [ab_need h]; exact h)
theorem fin_A2 (h : (q_A2 t n).2.2 = some p) : q_fin t n = some p := by
  have hb : q_b t n = false := ab_skip h
  refine fin_A6 ?_
  unfold q_A6
  rw [hb]
  show (q_A3 t n).2.2 = _
  unfold q_A3
  rw [ab_skS h]
  exact h
theorem fin_A1 (h : (q_A1 t n).2.2 = some p) : q_fin t n = some p := fin_A2 (by unfold q_A2; rw [ab_nuS h]; exact h)
end RL
def q_m2 (t : Nat → Int32) (n : Nat) : Int32 := bif q_b t n then r_num t n 1 100000 (q_A3 t n) else -1
def q_m7 (t : Nat → Int32) (n : Nat) : Int32 := r_opt t n (wd 5) (q_lo t n) 100000 (-1) (q_A9 t n)
def mrow (t : Nat → Int32) (n a k : Nat) : Int32 := if k = 0 then q_v1 t n else if k = 1 then q_m2 t n else if k = 2 then q_v3 t n else if k = 3 then (if 1 ≤ a then q_v4 t n else 0) else if k = 4 then (if 2 ≤ a then q_v5 t n else 0) else if k = 5 then (if 3 ≤ a then q_v6 t n else 0) else (if 4 ≤ a then q_m7 t n else -1)
def LF (M : Mem) (j : Nat) (N : Mem) : Prop := (∀ i, i ≠ 36 → ¬ (45 ≤ i ∧ i ≤ 51) → N i = M i) ∧ (∀ b, b ≠ 28 → b ≠ 29 → b ≠ 30 → b ≠ 31 → N 36 b = M 36 b) ∧ ∀ c q, 45 ≤ c → c ≤ 51 → q ≠ j → N c q = M c q
theorem LF.rf {M : Mem} {j : Nat} : LF M j M := ⟨fun _ _ _ => rfl, fun _ _ _ _ _ => rfl, fun _ _ _ _ _ => rfl⟩
theorem LF.op {M N L : Mem} {j : Nat} (h : LF M j N) (ha : A36 N L) : LF M j L := ⟨fun i h1 h2 => (ha.1 i h1).trans (h.1 i h1 h2), fun b h1 h2 h3 h4 => (ha.2 b h1 h2 h3 h4).trans (h.2.1 b h1 h2 h3 h4), fun c q h1 h2 h3 => (congrFun (ha.1 c (by omega)) q).trans (h.2.2 c q h1 h2 h3)⟩
theorem LF.put {M N : Mem} {j k : Nat} {y : Int32} (h : LF M j N) (hk : k < 7) : LF M j (wr N (45 + k) j y) := ⟨fun i h1 h2 => (wr_c (by omega)).trans (h.1 i h1 h2), fun b h1 h2 h3 h4 => (congrFun (wr_c (by omega)) b).trans (h.2.1 b h1 h2 h3 h4), fun c q h1 h2 h3 => by
  by_cases hc : c = 45 + k
  · subst hc; rw [wr_f h3]; exact h.2.2 _ q h1 h2 h3
  · rw [wr_c hc]; exact h.2.2 c q h1 h2 h3⟩
theorem S36.put {N : Mem} {t : Nat → Int32} {n c j : Nat} {R : RS} {y : Int32} (h : S36 N t n R) (hc : 45 ≤ c ∧ c ≤ 51) : S36 (wr N c j y) t n R := by
  obtain ⟨h1, h2, h3, h4, h5, h6⟩ := h
  refine ⟨?_, ?_, h3, h4, h5, ?_⟩
  · rw [wr_c (by omega)]; exact h1
  · rw [wr_c (by omega)]; exact h2
  · unfold RM; rw [wr_c (show 36 ≠ c by omega)]; exact h6
def ES (M : Mem) (j : Nat) (N : Mem) (t : Nat → Int32) (n : Nat) (R : RS) (v : Nat → Int32) : Prop := LF M j N ∧ S36 N t n R ∧ ∀ k, k < 7 → N (45 + k) j = v k
theorem ES.op {M N N' : Mem} {j : Nat} {t : Nat → Int32} {n : Nat} {R R' : RS} {v : Nat → Int32} (h : ES M j N t n R v) (ha : A36 N N') (hS : S36 N' t n R') : ES M j N' t n R' v := ⟨h.1.op ha, hS, fun k hk => (congrFun (ha.1 (45 + k) (by omega)) j).trans (h.2.2 k hk)⟩
theorem ES.put {M N : Mem} {j k : Nat} {t : Nat → Int32} {n : Nat} {R : RS} {v : Nat → Int32} {y : Int32} (h : ES M j N t n R v) (hk : k < 7) : ES M j (wr N (45 + k) j y) t n R (va_up v k y) := ⟨h.1.put hk, h.2.1.put ⟨by omega, by omega⟩, fun i hi => by
  by_cases e : i = k
  · subst e; rw [wr_s]; simp [va_up]
  · rw [wr_c (by omega), h.2.2 i hi]; simp [va_up, e]⟩
theorem ES.eqv {M N : Mem} {j : Nat} {t : Nat → Int32} {n : Nat} {R : RS} {v v' : Nat → Int32} (h : ES M j N t n R v) (e : ∀ k, k < 7 → v k = v' k) : ES M j N t n R v' := ⟨h.1, h.2.1, fun k hk => (h.2.2 k hk).trans (e k hk)⟩
def Bad (M : Mem) (j : Nat) (t : Nat → Int32) (n : Nat) (N : Mem) : Prop := LF M j N ∧ ∃ R', S36 N t n R' ∧ q_fin t n = some R'.1
set_option maxHeartbeats 4000000 in
set_option maxRecDepth 100000 in
theorem e_X10_readOver {K : Kt} {d : Nat} {M : Mem} {t : Nat → Int32} {n j : Nat} {v : Nat → Int32} {M0 : Mem} (hj : j < 8) (hE0 : ES M0 j M t n (q_A2 t n) v) (hat : r_at t n (wd 1) (q_A2 t n) = true) : Ci K (d + 3) mX10_readOver [rf K 36, .int (nI j)] M (fun r N => (r = 0 ∧ Bad M0 j t n N) ∨ (r = 1 ∧ ES M0 j N t n (q_A6 t n) (va_up (va_up v 1 (q_m2 t n)) 2 (q_v3 t n)))) := by
  refine Ci_bool RX10 [(0, rf K 36), (1, .int (nI j))] rfl (by decide) rfl (Nat.le_of_ble_eq_true rfl) rfl (fun v N h => by rcases h with h | h; exact Or.inl h.1; exact Or.inr h.1) (fun x C => ?_)
  have hS := hE0.2.1
  have f2 : (q_A2 t n).2.2 = none := hS.2.2.2.2.1
  have hb : q_b t n = true := (skip_t f2 hat).1
  have e3 : q_A3 t n = r_step t n (q_A2 t n) := (skip_t f2 hat).2
  refine G_aload_r C dX10_readOver_0 rfl ?_
  refine G_iconst C (1) dX10_readOver_1 (by decide) ?_
  refine G_ldc C kc_X10_97 dX10_readOver_2 ?_
  refine G_cVi2 C ok_X10_isNumber lk_X10_174 rfl rfl (e_X10_isNumber hS) (Nat.le_of_ble_eq_true rfl) dX10_readOver_4 (fun r N1 hq => ?_)
  obtain ⟨rfl, ha1, hS1, l1⟩ := hq
  rw [← e3] at hS1 l1 ⊢
  have f3 : (q_A3 t n).2.2 = none := hS1.2.2.2.2.1
  refine G_if_ne C 12 dX10_readOver_7 (by decide) (fun h7 => ?_) (fun h7 => ?_)
  · rw [bl_z] at h7
    have n3 := num_ok f3 (Decidable.not_not.mp h7)
    refine G_aload_r C dX10_readOver_12 rfl ?_
    refine G_getR C fo_X10_38 rfl rfl dX10_readOver_13 ?_
    refine G_iload_n C dX10_readOver_16 rfl ?_
    refine G_aload_r C dX10_readOver_17 rfl ?_
    refine G_getI C fo_X10_167 rfl rfl dX10_readOver_18 ?_
    refine G_is (q_m2 t n) (by rw [l1, ← n3.1]; simp only [q_m2, hb]; rfl) ?_
    refine G_iastN C rfl (by assumption) (by decide) dX10_readOver_21 ?_
    have hE1 := (hE0.op ha1 hS1).put (k := 1) (y := q_m2 t n) (by decide)
    generalize hM1 : wr N1 46 j _ = N1b at hE1 ⊢
    clear hM1
    refine G_aload_r C dX10_readOver_22 rfl ?_
    refine G_cVv0 C ok_X10_next lk_X10_160 rfl rfl (e_X10_next hE1.2.1) (Nat.le_of_ble_eq_true rfl) dX10_readOver_23 (fun N2 hq2 => ?_)
    obtain ⟨ha2, hS2⟩ := hq2
    rw [← n3.2] at hS2
    have hE2 : ES M0 j N2 t n (q_A4 t n) _ := hE1.op ha2 hS2
    have f4 : (q_A4 t n).2.2 = none := hS2.2.2.2.2.1
    refine G_aload_r C dX10_readOver_26 rfl ?_
    refine G_cVr0 C ok_X10_isTake lk_X10_177 rfl rfl (e_X10_isTake hE2.2.1) (Nat.le_of_ble_eq_true rfl) dX10_readOver_27 ?_
    refine G_if_eq C 43 dX10_readOver_30 (by decide) (fun h30 => ?_) (fun h30 => ?_)
    · rw [bl_z] at h30
      refine G_iconst C (0) dX10_readOver_43 (by decide) ?_
      exact G_ret C dX10_readOver_44 (Or.inl ⟨rfl, hE2.1, _, hS2, fin_A5 hb (by unfold q_A5; rw [need_f f4 (by simpa using h30)]; rfl)⟩)
    · rw [bl_z] at h30
      refine G_aload_r C dX10_readOver_33 rfl ?_
      refine G_iconst C (0) dX10_readOver_34 (by decide) ?_
      refine G_bipush C (60) dX10_readOver_35 (by decide) ?_
      refine G_cVi2 C ok_X10_isNumber lk_X10_174 rfl rfl (e_X10_isNumber hE2.2.1) (Nat.le_of_ble_eq_true rfl) dX10_readOver_37 (fun r N3 hq3 => ?_)
      obtain ⟨rfl, ha3, hS3, l3⟩ := hq3
      have e5 : q_A5 t n = r_step t n (q_A4 t n) := need_t f4 (by simpa using h30)
      rw [← e5] at hS3 l3 ⊢
      have f5 : (q_A5 t n).2.2 = none := hS3.2.2.2.2.1
      refine G_if_ne C 45 dX10_readOver_40 (by decide) (fun h40 => ?_) (fun h40 => ?_)
      · rw [bl_z] at h40
        have n5 := num_ok f5 (Decidable.not_not.mp h40)
        refine G_aload_r C dX10_readOver_45 rfl ?_
        refine G_getR C fo_X10_41 rfl rfl dX10_readOver_46 ?_
        refine G_iload_n C dX10_readOver_49 rfl ?_
        refine G_aload_r C dX10_readOver_50 rfl ?_
        refine G_getI C fo_X10_167 rfl rfl dX10_readOver_51 ?_
        refine G_is (q_v3 t n) (by rw [l3, ← n5.1]; simp only [q_v3, hb]; rfl) ?_
        refine G_iastN C rfl (by assumption) (by decide) dX10_readOver_54 ?_
        have hE3 := (hE2.op ha3 hS3).put (k := 2) (y := q_v3 t n) (by decide)
        generalize hM3 : wr N3 47 j _ = N3b at hE3 ⊢
        clear hM3
        refine G_aload_r C dX10_readOver_55 rfl ?_
        refine G_cVv0 C ok_X10_next lk_X10_160 rfl rfl (e_X10_next hE3.2.1) (Nat.le_of_ble_eq_true rfl) dX10_readOver_56 (fun N4 hq4 => ?_)
        obtain ⟨ha4, hS4⟩ := hq4
        rw [← n5.2] at hS4
        have e6 : q_A6 t n = r_nuS t n 0 60 (q_A5 t n) := by unfold q_A6; rw [hb]; rfl
        rw [← e6] at hS4
        refine G_iconst C (1) dX10_readOver_59 (by decide) ?_
        exact G_ret C dX10_readOver_60 (Or.inr ⟨rfl, hE3.op ha4 hS4⟩)
      · rw [bl_z] at h40
        refine G_iconst C (0) dX10_readOver_43 (by decide) ?_
        exact G_ret C dX10_readOver_44 (Or.inl ⟨rfl, hE2.1.op ha3, _, hS3, fin_A6 (by unfold q_A6; rw [hb]; show (r_nuS t n 0 60 (q_A5 t n)).2.2 = _; rw [num_bad f5 h40]; rfl)⟩)
  · rw [bl_z] at h7
    refine G_iconst C (0) dX10_readOver_10 (by decide) ?_
    exact G_ret C dX10_readOver_11 (Or.inl ⟨rfl, hE0.1.op ha1, _, hS1, fin_A4 hb (by unfold q_A4; rw [num_bad f3 h7]; rfl)⟩)
set_option maxHeartbeats 4000000 in
set_option maxRecDepth 100000 in
theorem L300 {K : Kt} {d : Nat} {t : Nat → Int32} {n j : Nat} {M0 N0 : Mem} {x : Cx} (hj : j < 8) (hE0 : ES M0 j N0 t n (q_AZ t n) (mrow t n 4)) (C : Cok K x RX10 cX10_readLaw 2 (d + 4) (RI (fun r N => (r = 0 ∧ Bad M0 j t n N) ∨ (r = 1 ∧ q_fin t n = none ∧ (∃ R, ES M0 j N t n R (mrow t n 4)))))) : G K x 2 300 [(0, rf K 36), (1, .int (nI j))] [] N0 := by
  obtain ⟨s1, s2, s3, s4, s5, s6⟩ := id hE0.2.1
  have o1 := s4.1
  have o2 := s4.2.1
  have o3 := s4.2.2
  refine G_aload_r C dX10_readLaw_300 rfl ?_
  refine G_getI C fo_X10_156 rfl rfl dX10_readLaw_301 ?_
  refine G_is (nI ((q_AZ t n).2.1 - (q_AZ t n).1)) s6.2.2 ?_
  refine G_if_ne C 311 dX10_readLaw_304 (by decide) (fun h304 => ?_) (fun h304 => ?_)
  · rw [show (0 : Int32) = nI 0 from rfl, nI_eq (by omega) (by decide)] at h304
    refine G_iconst C (0) dX10_readLaw_311 (by decide) ?_
    exact G_ret C dX10_readLaw_312 (Or.inl ⟨rfl, hE0.1, _, hE0.2.1, by unfold q_fin; rw [if_pos ⟨s5, by omega⟩]⟩)
  · rw [show (0 : Int32) = nI 0 from rfl, nI_eq (by omega) (by decide)] at h304
    refine G_iconst C (1) dX10_readLaw_307 (by decide) ?_
    refine G_goto C 312 dX10_readLaw_308 (by decide) ?_
    exact G_ret C dX10_readLaw_312 (Or.inr ⟨rfl, by unfold q_fin; rw [if_neg (fun z => by have := o3 z.2; omega)]; exact s5, _, hE0⟩)
set_option maxHeartbeats 4000000 in
set_option maxRecDepth 100000 in
theorem L239 {K : Kt} {d : Nat} {t : Nat → Int32} {n j : Nat} {M0 N0 : Mem} {x : Cx} (hj : j < 8) (hE0 : ES M0 j N0 t n (q_A9 t n) (mrow t n 3)) (C : Cok K x RX10 cX10_readLaw 2 (d + 4) (RI (fun r N => (r = 0 ∧ Bad M0 j t n N) ∨ (r = 1 ∧ q_fin t n = none ∧ (∃ R, ES M0 j N t n R (mrow t n 4)))))) : G K x 2 239 [(0, rf K 36), (1, .int (nI j))] [] N0 := by
  refine G_aload_r C dX10_readLaw_239 rfl ?_
  refine G_bipush C (109) dX10_readLaw_240 (by decide) ?_
  refine G_bipush C (111) dX10_readLaw_242 (by decide) ?_
  refine G_bipush C (115) dX10_readLaw_244 (by decide) ?_
  refine G_bipush C (116) dX10_readLaw_246 (by decide) ?_
  refine G_iconst C (0) dX10_readLaw_248 (by decide) ?_
  refine G_cVr5 C ok_X10_isWord lk_X10_170 rfl rfl (e_X10_isWord hE0.2.1) (Nat.le_of_ble_eq_true rfl) dX10_readLaw_249 ?_
  refine G_if_eq C 300 dX10_readLaw_252 (by decide) (fun h252 => ?_) (fun h252 => ?_)
  · rw [bl_z] at h252
    rw [show mw 109 111 115 116 0 = wd 5 from by decide] at h252
    have f0 : (q_A9 t n).2.2 = none := hE0.2.1.2.2.2.2.1
    have hat : r_at t n (wd 5) (q_A9 t n) = false := by simpa using h252
    refine G_sub [(0, _), (1, _)] (by repeat (first | refine And.intro rfl ?_ | exact True.intro)) ?_
    have nk := opt_f (lo := q_lo t n) (hb := 100000) (df := (-1)) hat
    have e1 : q_m7 t n = (-1) := nk.1
    have e2 : q_AZ t n = q_A9 t n := nk.2
    refine L300 hj ?_ C
    rw [e2]
    exact hE0.eqv (fun k hk => by simp only [mrow]; grind)
  · rw [bl_z] at h252
    rw [show mw 109 111 115 116 0 = wd 5 from by decide] at h252
    have f0 : (q_A9 t n).2.2 = none := hE0.2.1.2.2.2.2.1
    have hat : r_at t n (wd 5) (q_A9 t n) = true := by simpa using h252
    refine G_aload_r C dX10_readLaw_255 rfl ?_
    refine G_join 276 [.int (q_lo t n), rf K 36] (fun J => ?_) ?_
    · refine G_aload_r C dX10_readLaw_256 rfl ?_
      refine G_getR C fo_X10_50 rfl rfl dX10_readLaw_257 ?_
      refine G_iload_n C dX10_readLaw_260 rfl ?_
      refine G_ialdN C rfl (by assumption) (by decide) dX10_readLaw_261 ?_
      refine G_is (q_v6 t n) ((hE0.2.2 5 (by decide)).trans rfl) ?_
      refine G_iconst C (1) dX10_readLaw_262 (by decide) ?_
      refine G_icmp_le C 275 dX10_readLaw_263 (by decide) (fun h263 => ?_) (fun h263 => ?_)
      · refine G_iconst C (1) dX10_readLaw_275 (by decide) ?_
        rw [show q_lo t n = 1 from if_neg (by grind)] at J
        exact J
      · refine G_aload_r C dX10_readLaw_266 rfl ?_
        refine G_getR C fo_X10_50 rfl rfl dX10_readLaw_267 ?_
        refine G_iload_n C dX10_readLaw_270 rfl ?_
        refine G_ialdN C rfl (by assumption) (by decide) dX10_readLaw_271 ?_
        refine G_is (q_v6 t n) ((hE0.2.2 5 (by decide)).trans rfl) ?_
        refine G_goto C 276 dX10_readLaw_272 (by decide) ?_
        rw [show q_lo t n = q_v6 t n from if_pos (by grind)] at J
        exact J
    refine G_ldc C kc_X10_97 dX10_readLaw_276 ?_
    refine G_cVi2 C ok_X10_isNumber lk_X10_174 rfl rfl (e_X10_isNumber hE0.2.1 (lo := q_lo t n) (hb := 100000)) (Nat.le_of_ble_eq_true rfl) dX10_readLaw_278 (fun r N1 hq => ?_)
    obtain ⟨rfl, ha1, hS1, l1⟩ := hq
    refine G_if_ne C 286 dX10_readLaw_281 (by decide) (fun h281 => ?_) (fun h281 => ?_)
    · rw [bl_z] at h281
      have nk := opt_ok (df := (-1)) f0 hat (Decidable.not_not.mp h281)
      refine G_aload_r C dX10_readLaw_286 rfl ?_
      refine G_getR C fo_X10_53 rfl rfl dX10_readLaw_287 ?_
      refine G_iload_n C dX10_readLaw_290 rfl ?_
      refine G_aload_r C dX10_readLaw_291 rfl ?_
      refine G_getI C fo_X10_167 rfl rfl dX10_readLaw_292 ?_
      refine G_is (q_m7 t n) (by rw [l1, ← nk.1]; rfl) ?_
      refine G_iastN C rfl (by assumption) (by decide) dX10_readLaw_295 ?_
      have hE1 := (hE0.op ha1 hS1).put (k := 6) (y := q_m7 t n) (by decide)
      generalize hM1 : wr N1 51 j _ = N1b at hE1 ⊢
      clear hM1
      refine G_aload_r C dX10_readLaw_296 rfl ?_
      refine G_cVv0 C ok_X10_next lk_X10_160 rfl rfl (e_X10_next hE1.2.1) (Nat.le_of_ble_eq_true rfl) dX10_readLaw_297 (fun N2 hq2 => ?_)
      obtain ⟨ha2, hS2⟩ := hq2
      rw [← nk.2] at hS2
      refine G_sub [(0, _), (1, _)] (by repeat (first | refine And.intro rfl ?_ | exact True.intro)) ?_
      exact L300 hj ((hE1.op ha2 hS2).eqv (fun k hk => by simp only [va_up, mrow]; grind)) C
    · rw [bl_z] at h281
      refine G_iconst C (0) dX10_readLaw_284 (by decide) ?_
      exact G_ret C dX10_readLaw_285 (Or.inl ⟨rfl, hE0.1.op ha1, _, hS1, fin_AZ (by unfold q_AZ; rw [opt_bad f0 hat h281]; rfl)⟩)
set_option maxHeartbeats 4000000 in
set_option maxRecDepth 100000 in
theorem L196 {K : Kt} {d : Nat} {t : Nat → Int32} {n j : Nat} {M0 N0 : Mem} {x : Cx} (hj : j < 8) (hE0 : ES M0 j N0 t n (q_A8 t n) (mrow t n 2)) (C : Cok K x RX10 cX10_readLaw 2 (d + 4) (RI (fun r N => (r = 0 ∧ Bad M0 j t n N) ∨ (r = 1 ∧ q_fin t n = none ∧ (∃ R, ES M0 j N t n R (mrow t n 4)))))) : G K x 2 196 [(0, rf K 36), (1, .int (nI j))] [] N0 := by
  refine G_aload_r C dX10_readLaw_196 rfl ?_
  refine G_bipush C (108) dX10_readLaw_197 (by decide) ?_
  refine G_bipush C (101) dX10_readLaw_199 (by decide) ?_
  refine G_bipush C (97) dX10_readLaw_201 (by decide) ?_
  refine G_bipush C (115) dX10_readLaw_203 (by decide) ?_
  refine G_bipush C (116) dX10_readLaw_205 (by decide) ?_
  refine G_cVr5 C ok_X10_isWord lk_X10_170 rfl rfl (e_X10_isWord hE0.2.1) (Nat.le_of_ble_eq_true rfl) dX10_readLaw_207 ?_
  refine G_if_eq C 239 dX10_readLaw_210 (by decide) (fun h210 => ?_) (fun h210 => ?_)
  · rw [bl_z] at h210
    rw [show mw 108 101 97 115 116 = wd 4 from by decide] at h210
    have f0 : (q_A8 t n).2.2 = none := hE0.2.1.2.2.2.2.1
    have hat : r_at t n (wd 4) (q_A8 t n) = false := by simpa using h210
    refine G_sub [(0, _), (1, _)] (by repeat (first | refine And.intro rfl ?_ | exact True.intro)) ?_
    have nk := opt_f (lo := 0) (hb := 100000) (df := 0) hat
    have e1 : q_v6 t n = 0 := nk.1
    have e2 : q_A9 t n = q_A8 t n := nk.2
    refine L239 hj ?_ C
    rw [e2]
    exact hE0.eqv (fun k hk => by simp only [mrow]; grind)
  · rw [bl_z] at h210
    rw [show mw 108 101 97 115 116 = wd 4 from by decide] at h210
    have f0 : (q_A8 t n).2.2 = none := hE0.2.1.2.2.2.2.1
    have hat : r_at t n (wd 4) (q_A8 t n) = true := by simpa using h210
    refine G_aload_r C dX10_readLaw_213 rfl ?_
    refine G_iconst C (0) dX10_readLaw_214 (by decide) ?_
    refine G_ldc C kc_X10_97 dX10_readLaw_215 ?_
    refine G_cVi2 C ok_X10_isNumber lk_X10_174 rfl rfl (e_X10_isNumber hE0.2.1 (lo := 0) (hb := 100000)) (Nat.le_of_ble_eq_true rfl) dX10_readLaw_217 (fun r N1 hq => ?_)
    obtain ⟨rfl, ha1, hS1, l1⟩ := hq
    refine G_if_ne C 225 dX10_readLaw_220 (by decide) (fun h220 => ?_) (fun h220 => ?_)
    · rw [bl_z] at h220
      have nk := opt_ok (df := 0) f0 hat (Decidable.not_not.mp h220)
      refine G_aload_r C dX10_readLaw_225 rfl ?_
      refine G_getR C fo_X10_50 rfl rfl dX10_readLaw_226 ?_
      refine G_iload_n C dX10_readLaw_229 rfl ?_
      refine G_aload_r C dX10_readLaw_230 rfl ?_
      refine G_getI C fo_X10_167 rfl rfl dX10_readLaw_231 ?_
      refine G_is (q_v6 t n) (by rw [l1, ← nk.1]; rfl) ?_
      refine G_iastN C rfl (by assumption) (by decide) dX10_readLaw_234 ?_
      have hE1 := (hE0.op ha1 hS1).put (k := 5) (y := q_v6 t n) (by decide)
      generalize hM1 : wr N1 50 j _ = N1b at hE1 ⊢
      clear hM1
      refine G_aload_r C dX10_readLaw_235 rfl ?_
      refine G_cVv0 C ok_X10_next lk_X10_160 rfl rfl (e_X10_next hE1.2.1) (Nat.le_of_ble_eq_true rfl) dX10_readLaw_236 (fun N2 hq2 => ?_)
      obtain ⟨ha2, hS2⟩ := hq2
      rw [← nk.2] at hS2
      refine G_sub [(0, _), (1, _)] (by repeat (first | refine And.intro rfl ?_ | exact True.intro)) ?_
      exact L239 hj ((hE1.op ha2 hS2).eqv (fun k hk => by simp only [va_up, mrow]; grind)) C
    · rw [bl_z] at h220
      refine G_iconst C (0) dX10_readLaw_223 (by decide) ?_
      exact G_ret C dX10_readLaw_224 (Or.inl ⟨rfl, hE0.1.op ha1, _, hS1, fin_A9 (by unfold q_A9; rw [opt_bad f0 hat h220]; rfl)⟩)
set_option maxHeartbeats 4000000 in
set_option maxRecDepth 100000 in
theorem L153 {K : Kt} {d : Nat} {t : Nat → Int32} {n j : Nat} {M0 N0 : Mem} {x : Cx} (hj : j < 8) (hE0 : ES M0 j N0 t n (q_A7 t n) (mrow t n 1)) (C : Cok K x RX10 cX10_readLaw 2 (d + 4) (RI (fun r N => (r = 0 ∧ Bad M0 j t n N) ∨ (r = 1 ∧ q_fin t n = none ∧ (∃ R, ES M0 j N t n R (mrow t n 4)))))) : G K x 2 153 [(0, rf K 36), (1, .int (nI j))] [] N0 := by
  refine G_aload_r C dX10_readLaw_153 rfl ?_
  refine G_bipush C (111) dX10_readLaw_154 (by decide) ?_
  refine G_bipush C (116) dX10_readLaw_156 (by decide) ?_
  refine G_bipush C (104) dX10_readLaw_158 (by decide) ?_
  refine G_bipush C (101) dX10_readLaw_160 (by decide) ?_
  refine G_bipush C (114) dX10_readLaw_162 (by decide) ?_
  refine G_cVr5 C ok_X10_isWord lk_X10_170 rfl rfl (e_X10_isWord hE0.2.1) (Nat.le_of_ble_eq_true rfl) dX10_readLaw_164 ?_
  refine G_if_eq C 196 dX10_readLaw_167 (by decide) (fun h167 => ?_) (fun h167 => ?_)
  · rw [bl_z] at h167
    rw [show mw 111 116 104 101 114 = wd 3 from by decide] at h167
    have f0 : (q_A7 t n).2.2 = none := hE0.2.1.2.2.2.2.1
    have hat : r_at t n (wd 3) (q_A7 t n) = false := by simpa using h167
    refine G_sub [(0, _), (1, _)] (by repeat (first | refine And.intro rfl ?_ | exact True.intro)) ?_
    have nk := opt_f (lo := 0) (hb := 20) (df := 0) hat
    have e1 : q_v5 t n = 0 := nk.1
    have e2 : q_A8 t n = q_A7 t n := nk.2
    refine L196 hj ?_ C
    rw [e2]
    exact hE0.eqv (fun k hk => by simp only [mrow]; grind)
  · rw [bl_z] at h167
    rw [show mw 111 116 104 101 114 = wd 3 from by decide] at h167
    have f0 : (q_A7 t n).2.2 = none := hE0.2.1.2.2.2.2.1
    have hat : r_at t n (wd 3) (q_A7 t n) = true := by simpa using h167
    refine G_aload_r C dX10_readLaw_170 rfl ?_
    refine G_iconst C (0) dX10_readLaw_171 (by decide) ?_
    refine G_bipush C (20) dX10_readLaw_172 (by decide) ?_
    refine G_cVi2 C ok_X10_isNumber lk_X10_174 rfl rfl (e_X10_isNumber hE0.2.1 (lo := 0) (hb := 20)) (Nat.le_of_ble_eq_true rfl) dX10_readLaw_174 (fun r N1 hq => ?_)
    obtain ⟨rfl, ha1, hS1, l1⟩ := hq
    refine G_if_ne C 182 dX10_readLaw_177 (by decide) (fun h177 => ?_) (fun h177 => ?_)
    · rw [bl_z] at h177
      have nk := opt_ok (df := 0) f0 hat (Decidable.not_not.mp h177)
      refine G_aload_r C dX10_readLaw_182 rfl ?_
      refine G_getR C fo_X10_47 rfl rfl dX10_readLaw_183 ?_
      refine G_iload_n C dX10_readLaw_186 rfl ?_
      refine G_aload_r C dX10_readLaw_187 rfl ?_
      refine G_getI C fo_X10_167 rfl rfl dX10_readLaw_188 ?_
      refine G_is (q_v5 t n) (by rw [l1, ← nk.1]; rfl) ?_
      refine G_iastN C rfl (by assumption) (by decide) dX10_readLaw_191 ?_
      have hE1 := (hE0.op ha1 hS1).put (k := 4) (y := q_v5 t n) (by decide)
      generalize hM1 : wr N1 49 j _ = N1b at hE1 ⊢
      clear hM1
      refine G_aload_r C dX10_readLaw_192 rfl ?_
      refine G_cVv0 C ok_X10_next lk_X10_160 rfl rfl (e_X10_next hE1.2.1) (Nat.le_of_ble_eq_true rfl) dX10_readLaw_193 (fun N2 hq2 => ?_)
      obtain ⟨ha2, hS2⟩ := hq2
      rw [← nk.2] at hS2
      refine G_sub [(0, _), (1, _)] (by repeat (first | refine And.intro rfl ?_ | exact True.intro)) ?_
      exact L196 hj ((hE1.op ha2 hS2).eqv (fun k hk => by simp only [va_up, mrow]; grind)) C
    · rw [bl_z] at h177
      refine G_iconst C (0) dX10_readLaw_180 (by decide) ?_
      exact G_ret C dX10_readLaw_181 (Or.inl ⟨rfl, hE0.1.op ha1, _, hS1, fin_A8 (by unfold q_A8; rw [opt_bad f0 hat h177]; rfl)⟩)
set_option maxHeartbeats 4000000 in
set_option maxRecDepth 100000 in
theorem L110 {K : Kt} {d : Nat} {t : Nat → Int32} {n j : Nat} {M0 N0 : Mem} {x : Cx} (hj : j < 8) (hE0 : ES M0 j N0 t n (q_A6 t n) (mrow t n 0)) (C : Cok K x RX10 cX10_readLaw 2 (d + 4) (RI (fun r N => (r = 0 ∧ Bad M0 j t n N) ∨ (r = 1 ∧ q_fin t n = none ∧ (∃ R, ES M0 j N t n R (mrow t n 4)))))) : G K x 2 110 [(0, rf K 36), (1, .int (nI j))] [] N0 := by
  refine G_aload_r C dX10_readLaw_110 rfl ?_
  refine G_bipush C (110) dX10_readLaw_111 (by decide) ?_
  refine G_bipush C (105) dX10_readLaw_113 (by decide) ?_
  refine G_bipush C (103) dX10_readLaw_115 (by decide) ?_
  refine G_bipush C (104) dX10_readLaw_117 (by decide) ?_
  refine G_bipush C (116) dX10_readLaw_119 (by decide) ?_
  refine G_cVr5 C ok_X10_isWord lk_X10_170 rfl rfl (e_X10_isWord hE0.2.1) (Nat.le_of_ble_eq_true rfl) dX10_readLaw_121 ?_
  refine G_if_eq C 153 dX10_readLaw_124 (by decide) (fun h124 => ?_) (fun h124 => ?_)
  · rw [bl_z] at h124
    rw [show mw 110 105 103 104 116 = wd 2 from by decide] at h124
    have f0 : (q_A6 t n).2.2 = none := hE0.2.1.2.2.2.2.1
    have hat : r_at t n (wd 2) (q_A6 t n) = false := by simpa using h124
    refine G_sub [(0, _), (1, _)] (by repeat (first | refine And.intro rfl ?_ | exact True.intro)) ?_
    have nk := opt_f (lo := 0) (hb := 14) (df := 0) hat
    have e1 : q_v4 t n = 0 := nk.1
    have e2 : q_A7 t n = q_A6 t n := nk.2
    refine L153 hj ?_ C
    rw [e2]
    exact hE0.eqv (fun k hk => by simp only [mrow]; grind)
  · rw [bl_z] at h124
    rw [show mw 110 105 103 104 116 = wd 2 from by decide] at h124
    have f0 : (q_A6 t n).2.2 = none := hE0.2.1.2.2.2.2.1
    have hat : r_at t n (wd 2) (q_A6 t n) = true := by simpa using h124
    refine G_aload_r C dX10_readLaw_127 rfl ?_
    refine G_iconst C (0) dX10_readLaw_128 (by decide) ?_
    refine G_bipush C (14) dX10_readLaw_129 (by decide) ?_
    refine G_cVi2 C ok_X10_isNumber lk_X10_174 rfl rfl (e_X10_isNumber hE0.2.1 (lo := 0) (hb := 14)) (Nat.le_of_ble_eq_true rfl) dX10_readLaw_131 (fun r N1 hq => ?_)
    obtain ⟨rfl, ha1, hS1, l1⟩ := hq
    refine G_if_ne C 139 dX10_readLaw_134 (by decide) (fun h134 => ?_) (fun h134 => ?_)
    · rw [bl_z] at h134
      have nk := opt_ok (df := 0) f0 hat (Decidable.not_not.mp h134)
      refine G_aload_r C dX10_readLaw_139 rfl ?_
      refine G_getR C fo_X10_44 rfl rfl dX10_readLaw_140 ?_
      refine G_iload_n C dX10_readLaw_143 rfl ?_
      refine G_aload_r C dX10_readLaw_144 rfl ?_
      refine G_getI C fo_X10_167 rfl rfl dX10_readLaw_145 ?_
      refine G_is (q_v4 t n) (by rw [l1, ← nk.1]; rfl) ?_
      refine G_iastN C rfl (by assumption) (by decide) dX10_readLaw_148 ?_
      have hE1 := (hE0.op ha1 hS1).put (k := 3) (y := q_v4 t n) (by decide)
      generalize hM1 : wr N1 48 j _ = N1b at hE1 ⊢
      clear hM1
      refine G_aload_r C dX10_readLaw_149 rfl ?_
      refine G_cVv0 C ok_X10_next lk_X10_160 rfl rfl (e_X10_next hE1.2.1) (Nat.le_of_ble_eq_true rfl) dX10_readLaw_150 (fun N2 hq2 => ?_)
      obtain ⟨ha2, hS2⟩ := hq2
      rw [← nk.2] at hS2
      refine G_sub [(0, _), (1, _)] (by repeat (first | refine And.intro rfl ?_ | exact True.intro)) ?_
      exact L153 hj ((hE1.op ha2 hS2).eqv (fun k hk => by simp only [va_up, mrow]; grind)) C
    · rw [bl_z] at h134
      refine G_iconst C (0) dX10_readLaw_137 (by decide) ?_
      exact G_ret C dX10_readLaw_138 (Or.inl ⟨rfl, hE0.1.op ha1, _, hS1, fin_A7 (by unfold q_A7; rw [opt_bad f0 hat h134]; rfl)⟩)
def mrow0 (t : Nat → Int32) (n k : Nat) : Int32 := if k = 0 then q_v1 t n else if k = 1 then -1 else if k = 6 then -1 else 0
set_option maxHeartbeats 4000000 in
set_option maxRecDepth 100000 in
theorem L84 {K : Kt} {d : Nat} {t : Nat → Int32} {n j : Nat} {M0 N0 : Mem} {x : Cx} (hj : j < 8) (hE0 : ES M0 j N0 t n (q_A2 t n) (mrow0 t n)) (C : Cok K x RX10 cX10_readLaw 2 (d + 4) (RI (fun r N => (r = 0 ∧ Bad M0 j t n N) ∨ (r = 1 ∧ q_fin t n = none ∧ (∃ R, ES M0 j N t n R (mrow t n 4)))))) : G K x 2 84 [(0, rf K 36), (1, .int (nI j))] [] N0 := by
  have f2 : (q_A2 t n).2.2 = none := hE0.2.1.2.2.2.2.1
  refine G_aload_r C dX10_readLaw_84 rfl ?_
  refine G_bipush C (111) dX10_readLaw_85 (by decide) ?_
  refine G_bipush C (118) dX10_readLaw_87 (by decide) ?_
  refine G_bipush C (101) dX10_readLaw_89 (by decide) ?_
  refine G_bipush C (114) dX10_readLaw_91 (by decide) ?_
  refine G_iconst C (0) dX10_readLaw_93 (by decide) ?_
  refine G_cVr5 C ok_X10_isWord lk_X10_170 rfl rfl (e_X10_isWord hE0.2.1) (Nat.le_of_ble_eq_true rfl) dX10_readLaw_94 ?_
  refine G_if_eq C 110 dX10_readLaw_97 (by decide) (fun h97 => ?_) (fun h97 => ?_)
  · rw [bl_z] at h97
    rw [show mw 111 118 101 114 0 = wd 1 from by decide] at h97
    refine G_sub [(0, _), (1, _)] (by repeat (first | refine And.intro rfl ?_ | exact True.intro)) ?_
    have hat : r_at t n (wd 1) (q_A2 t n) = false := by simpa using h97
    have sk := skip_f hat
    have hb : q_b t n = false := sk.1
    have e6 : q_A6 t n = q_A2 t n := by unfold q_A6; rw [hb]; exact sk.2
    refine L110 hj ?_ C
    rw [e6]
    exact hE0.eqv (fun k hk => by simp only [mrow0, mrow, q_m2, q_v3, hb]; simp; grind)
  · rw [bl_z] at h97
    rw [show mw 111 118 101 114 0 = wd 1 from by decide] at h97
    refine G_aload_r C dX10_readLaw_100 rfl ?_
    refine G_iload_n C dX10_readLaw_101 rfl ?_
    refine G_cVi1 C ok_X10_readOver lk_X10_181 rfl rfl (e_X10_readOver hj hE0 (by simpa using h97)) (Nat.le_of_ble_eq_true rfl) dX10_readLaw_102 (fun r N1 hq => ?_)
    refine G_if_ne C 110 dX10_readLaw_105 (by decide) (fun h105 => ?_) (fun h105 => ?_)
    · have hq1 := hq.resolve_left (fun z => h105 z.1)
      refine G_sub [(0, _), (1, _)] (by repeat (first | refine And.intro rfl ?_ | exact True.intro)) ?_
      exact L110 hj (hq1.2.eqv (fun k hk => by simp only [va_up, mrow0, mrow]; grind)) C
    · have hq1 := hq.resolve_right (fun z => by rw [z.1] at h105; exact absurd h105 (by decide))
      refine G_iconst C (0) dX10_readLaw_108 (by decide) ?_
      exact G_ret C dX10_readLaw_109 (Or.inl ⟨rfl, hq1.2⟩)
set_option maxHeartbeats 4000000 in
set_option maxRecDepth 100000 in
theorem e_X10_readLaw {K : Kt} {d : Nat} {M : Mem} {n j : Nat} (hj : j < 8) (hn : M 36 25 = nI n) (h72 : n ≤ 72) : Ci K (d + 4) mX10_readLaw [rf K 36, .int (nI j)] M (fun r N => (r = 0 ∧ Bad M j (M 55) n N) ∨ (r = 1 ∧ q_fin (M 55) n = none ∧ (∃ R, ES M j N (M 55) n R (mrow (M 55) n 4)))) := by
  refine Ci_bool RX10 [(0, rf K 36), (1, .int (nI j))] rfl (by decide) rfl (Nat.le_of_ble_eq_true rfl) rfl (fun v N h => by rcases h with h | h; exact Or.inl h.1; exact Or.inr h.1) (fun x C => ?_)
  refine G_aload_r C dX10_readLaw_0 rfl ?_
  refine G_iconst C (nI 0) dX10_readLaw_1 (by decide) ?_
  refine G_putI C fp_X10_150 rfl rfl dX10_readLaw_2 ?_
  refine G_aload_r C dX10_readLaw_5 rfl ?_
  refine G_cVv0 C ok_X10_next lk_X10_160 rfl rfl (c_X10_next (R := (0, 0, none)) (n := n) ((wr_f (by decide)).trans hn) h72 (Nat.zero_le _) wr_s) (Nat.le_of_ble_eq_true rfl) dX10_readLaw_6 (fun N0 hq => ?_)
  obtain ⟨ha, hR⟩ := hq
  have ha0 : A36 M N0 := (A36.wr (by decide)).tr ha
  rw [wr_c (show 55 ≠ 36 by decide)] at hR
  have hS0 : S36 N0 (M 55) n (q_A0 (M 55) n) := ⟨ha0.1 55 (by decide), (ha0.2 25 (by decide) (by decide) (by decide) (by decide)).trans hn, h72, Tk.step (Nat.zero_le _), rfl, hR⟩
  have f0 : (q_A0 (M 55) n).2.2 = none := rfl
  refine G_aload_r C dX10_readLaw_9 rfl ?_
  refine G_cVr0 C ok_X10_isTake lk_X10_177 rfl rfl (e_X10_isTake hS0) (Nat.le_of_ble_eq_true rfl) dX10_readLaw_10 ?_
  refine G_if_eq C 26 dX10_readLaw_13 (by decide) (fun h13 => ?_) (fun h13 => ?_)
  · rw [bl_z] at h13
    refine G_iconst C (0) dX10_readLaw_26 (by decide) ?_
    exact G_ret C dX10_readLaw_27 (Or.inl ⟨rfl, LF.rf.op ha0, _, hS0, fin_A1 (by unfold q_A1; rw [need_f f0 (by simpa using h13)]; rfl)⟩)
  · rw [bl_z] at h13
    refine G_aload_r C dX10_readLaw_16 rfl ?_
    refine G_iconst C (0) dX10_readLaw_17 (by decide) ?_
    refine G_bipush C (60) dX10_readLaw_18 (by decide) ?_
    refine G_cVi2 C ok_X10_isNumber lk_X10_174 rfl rfl (e_X10_isNumber hS0 (lo := 0) (hb := 60)) (Nat.le_of_ble_eq_true rfl) dX10_readLaw_20 (fun r N1 hq1 => ?_)
    obtain ⟨rfl, ha1, hS1, l1⟩ := hq1
    have e1 : q_A1 (M 55) n = r_step (M 55) n (q_A0 (M 55) n) := need_t f0 (by simpa using h13)
    rw [← e1] at hS1 l1 ⊢
    have f1 : (q_A1 (M 55) n).2.2 = none := hS1.2.2.2.2.1
    have hL1 : LF M j N1 := LF.rf.op (ha0.tr ha1)
    refine G_if_ne C 28 dX10_readLaw_23 (by decide) (fun h23 => ?_) (fun h23 => ?_)
    · rw [bl_z] at h23
      have nk := num_ok f1 (Decidable.not_not.mp h23)
      refine G_aload_r C dX10_readLaw_28 rfl ?_
      refine G_getR C fo_X10_35 rfl rfl dX10_readLaw_29 ?_
      refine G_iload_n C dX10_readLaw_32 rfl ?_
      refine G_aload_r C dX10_readLaw_33 rfl ?_
      refine G_getI C fo_X10_167 rfl rfl dX10_readLaw_34 ?_
      refine G_is (q_v1 (M 55) n) (by rw [l1, ← nk.1]; rfl) ?_
      have hB0 : ES M j N1 (M 55) n (q_A1 (M 55) n) (fun k => N1 (45 + k) j) := ⟨hL1, hS1, fun _ _ => rfl⟩
      refine G_iastN C rfl (by assumption) (by decide) dX10_readLaw_37 ?_
      have hB1 := hB0.put (k := 0) (y := q_v1 (M 55) n) (by decide)
      generalize hMB1 : wr _ 45 j _ = XB1 at hB1 ⊢
      clear hMB1
      refine G_aload_r C dX10_readLaw_38 rfl ?_
      refine G_getR C fo_X10_38 rfl rfl dX10_readLaw_39 ?_
      refine G_iload_n C dX10_readLaw_42 rfl ?_
      refine G_iconst C (-1) dX10_readLaw_43 (by decide) ?_
      refine G_iastN C rfl (by assumption) (by decide) dX10_readLaw_44 ?_
      have hB2 := hB1.put (k := 1) (y := -1) (by decide)
      generalize hMB2 : wr _ 46 j _ = XB2 at hB2 ⊢
      clear hMB2
      refine G_aload_r C dX10_readLaw_45 rfl ?_
      refine G_getR C fo_X10_41 rfl rfl dX10_readLaw_46 ?_
      refine G_iload_n C dX10_readLaw_49 rfl ?_
      refine G_iconst C (0) dX10_readLaw_50 (by decide) ?_
      refine G_iastN C rfl (by assumption) (by decide) dX10_readLaw_51 ?_
      have hB3 := hB2.put (k := 2) (y := 0) (by decide)
      generalize hMB3 : wr _ 47 j _ = XB3 at hB3 ⊢
      clear hMB3
      refine G_aload_r C dX10_readLaw_52 rfl ?_
      refine G_getR C fo_X10_44 rfl rfl dX10_readLaw_53 ?_
      refine G_iload_n C dX10_readLaw_56 rfl ?_
      refine G_iconst C (0) dX10_readLaw_57 (by decide) ?_
      refine G_iastN C rfl (by assumption) (by decide) dX10_readLaw_58 ?_
      have hB4 := hB3.put (k := 3) (y := 0) (by decide)
      generalize hMB4 : wr _ 48 j _ = XB4 at hB4 ⊢
      clear hMB4
      refine G_aload_r C dX10_readLaw_59 rfl ?_
      refine G_getR C fo_X10_47 rfl rfl dX10_readLaw_60 ?_
      refine G_iload_n C dX10_readLaw_63 rfl ?_
      refine G_iconst C (0) dX10_readLaw_64 (by decide) ?_
      refine G_iastN C rfl (by assumption) (by decide) dX10_readLaw_65 ?_
      have hB5 := hB4.put (k := 4) (y := 0) (by decide)
      generalize hMB5 : wr _ 49 j _ = XB5 at hB5 ⊢
      clear hMB5
      refine G_aload_r C dX10_readLaw_66 rfl ?_
      refine G_getR C fo_X10_50 rfl rfl dX10_readLaw_67 ?_
      refine G_iload_n C dX10_readLaw_70 rfl ?_
      refine G_iconst C (0) dX10_readLaw_71 (by decide) ?_
      refine G_iastN C rfl (by assumption) (by decide) dX10_readLaw_72 ?_
      have hB6 := hB5.put (k := 5) (y := 0) (by decide)
      generalize hMB6 : wr _ 50 j _ = XB6 at hB6 ⊢
      clear hMB6
      refine G_aload_r C dX10_readLaw_73 rfl ?_
      refine G_getR C fo_X10_53 rfl rfl dX10_readLaw_74 ?_
      refine G_iload_n C dX10_readLaw_77 rfl ?_
      refine G_iconst C (-1) dX10_readLaw_78 (by decide) ?_
      refine G_iastN C rfl (by assumption) (by decide) dX10_readLaw_79 ?_
      have hB7 := hB6.put (k := 6) (y := -1) (by decide)
      generalize hMB7 : wr _ 51 j _ = XB7 at hB7 ⊢
      clear hMB7
      refine G_aload_r C dX10_readLaw_80 rfl ?_
      refine G_cVv0 C ok_X10_next lk_X10_160 rfl rfl (e_X10_next hB7.2.1) (Nat.le_of_ble_eq_true rfl) dX10_readLaw_81 (fun N9 hq9 => ?_)
      obtain ⟨ha9, hS9⟩ := hq9
      rw [← nk.2] at hS9
      refine G_sub [(0, _), (1, _)] (by repeat (first | refine And.intro rfl ?_ | exact True.intro)) ?_
      exact L84 hj ((hB7.op ha9 hS9).eqv (fun k hk => by simp only [va_up, mrow0]; grind)) C
    · rw [bl_z] at h23
      refine G_iconst C (0) dX10_readLaw_26 (by decide) ?_
      exact G_ret C dX10_readLaw_27 (Or.inl ⟨rfl, hL1, _, hS1, fin_A2 (by unfold q_A2; rw [num_bad f1 h23]; rfl)⟩)
