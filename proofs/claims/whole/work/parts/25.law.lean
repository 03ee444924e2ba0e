def q_A0 (t : Nat → Int32) (n : Nat) : RS := r_step t n (0, 0, none)
def q_A1 (t : Nat → Int32) (n : Nat) : RS := r_need t n (wd 0) (q_A0 t n)
def q_v1 (t : Nat → Int32) (n : Nat) : Int32 := r_num t n 0 60 (q_A1 t n)
def q_A2 (t : Nat → Int32) (n : Nat) : RS := r_nuS t n 0 60 (q_A1 t n)
def q_b (t : Nat → Int32) (n : Nat) : Bool := r_skip t n (wd 1) (q_A2 t n)
def q_A3 (t : Nat → Int32) (n : Nat) : RS := r_skS t n (wd 1) (q_A2 t n)
def q_A4 (t : Nat → Int32) (n : Nat) : RS := r_nuS t n 1 100000 (q_A3 t n)
def q_A5 (t : Nat → Int32) (n : Nat) : RS := r_need t n (wd 0) (q_A4 t n)
def q_v2 (t : Nat → Int32) (n : Nat) : Int32 := bif q_b t n then r_num t n 1 100000 (q_A3 t n) else 1000000000
def q_v3 (t : Nat → Int32) (n : Nat) : Int32 := bif q_b t n then r_num t n 0 60 (q_A5 t n) else 0
def q_A6 (t : Nat → Int32) (n : Nat) : RS := bif q_b t n then r_nuS t n 0 60 (q_A5 t n) else q_A3 t n
def q_v4 (t : Nat → Int32) (n : Nat) : Int32 := r_opt t n (wd 2) 0 14 0 (q_A6 t n)
def q_A7 (t : Nat → Int32) (n : Nat) : RS := r_opS t n (wd 2) 0 14 (q_A6 t n)
def q_v5 (t : Nat → Int32) (n : Nat) : Int32 := r_opt t n (wd 3) 0 20 0 (q_A7 t n)
def q_A8 (t : Nat → Int32) (n : Nat) : RS := r_opS t n (wd 3) 0 20 (q_A7 t n)
def q_v6 (t : Nat → Int32) (n : Nat) : Int32 := r_opt t n (wd 4) 0 100000 0 (q_A8 t n)
def q_A9 (t : Nat → Int32) (n : Nat) : RS := r_opS t n (wd 4) 0 100000 (q_A8 t n)
def q_lo (t : Nat → Int32) (n : Nat) : Int32 := if 1 < q_v6 t n then q_v6 t n else 1
def q_v7 (t : Nat → Int32) (n : Nat) : Int32 := r_opt t n (wd 5) (q_lo t n) 100000 1000000000 (q_A9 t n)
def q_AZ (t : Nat → Int32) (n : Nat) : RS := r_opS t n (wd 5) (q_lo t n) 100000 (q_A9 t n)
def q_fin (t : Nat → Int32) (n : Nat) : Option Nat := if (q_AZ t n).2.2 = none ∧ (q_AZ t n).1 < n then some (q_AZ t n).1 else (q_AZ t n).2.2
def q_row (t : Nat → Int32) (n : Nat) (v : Nat → Int32) : Nat → Int32 := fun k => if k = 1 then q_v1 t n else if k = 2 then q_v2 t n else if k = 3 then q_v3 t n else if k = 4 then q_v4 t n else if k = 5 then q_v5 t n else if k = 6 then q_v6 t n else if k = 7 then q_v7 t n else v k
def S9 (M : Mem) (t : Nat → Int32) (n : Nat) (R : RS) : Prop := M 8 = t ∧ M 7 1 = nI n ∧ n ≤ 72 ∧ Rok n R ∧ RX M R
theorem S9.op {M N : Mem} {t : Nat → Int32} {n : Nat} {R R' : RS} (h : S9 M t n R) (ha : A9 M N) (ok : Rok n R') (hR : RX N R') : S9 N t n R' := ⟨by rw [ha 8 (by decide)]; exact h.1, by rw [ha 7 (by decide)]; exact h.2.1, h.2.2.1, ok, hR⟩
def DS (M : Mem) (j : Nat) (N : Mem) (t : Nat → Int32) (n : Nat) (R : RS) (v : Nat → Int32) : Prop := (∀ i, i ≠ 9 → i ≠ 12 + j → N i = M i) ∧ S9 N t n R ∧ N (12 + j) = v
theorem DS.op {M N N' : Mem} {j : Nat} {t : Nat → Int32} {n : Nat} {R R' : RS} {v : Nat → Int32} (h : DS M j N t n R v) (hj : j < 9) (ha : A9 N N') (hS : S9 N' t n R') : DS M j N' t n R' v := ⟨fun i h1 h2 => (ha i h1).trans (h.1 i h1 h2), hS, (ha (12 + j) (by omega)).trans h.2.2⟩
theorem DS.put {M N : Mem} {j : Nat} {t : Nat → Int32} {n k : Nat} {R : RS} {v : Nat → Int32} {y : Int32} (h : DS M j N t n R v) (hj : j < 9) : DS M j (wr N (12 + j) k y) t n R (va_up v k y) := by
  obtain ⟨h1, ⟨s1, s2, s3, s4, s5⟩, h3⟩ := h
  refine ⟨fun i a b => (wr_c b).trans (h1 i a b), ⟨?_, ?_, s3, s4, ?_⟩, ?_⟩
  · rw [wr_c (by omega)]; exact s1
  · rw [wr_c (by omega)]; exact s2
  · unfold RX; rw [wr_c (show 9 ≠ 12 + j by omega)]; exact s5
  · rw [wr_r, h3]
theorem Cv.mono {K : Kt} {d : Nat} {q : Mt} {av : List Value} {M : Mem} {Q Q' : Mem → Prop} (h : Cv K d q av M Q) (hq : ∀ N, Q N → Q' N) : Cv K d q av M Q' := fun sz p e a1 a2 a3 s m args below a4 a5 a6 a7 => by
  have := h sz p e a1 a2 a3 s m args below a4 a5 a6 a7
  obtain ⟨t, o, b1, b2, b3, ⟨⟨⟨u, c1, c2, c3⟩, c4⟩, b5⟩⟩ := this
  exact ⟨t, o, b1, b2, b3, ⟨⟨⟨u, c1, hq u c2, c3⟩, c4⟩, b5⟩⟩
set_option maxHeartbeats 4000000 in
set_option maxRecDepth 100000 in
theorem d_X6_need {K : Kt} {d : Nat} {M : Mem} {t : Nat → Int32} {n : Nat} {R : RS} (hS : S9 M t n R) {i : Nat} (hv : (kF K).category = 1) (hi : i < 6) : Cv K (d + 6) mX6_need [rf K 9, sf K i] M (fun N => A9 M N ∧ S9 N t n (r_need t n (wd i) R)) := by
  obtain ⟨rfl, s2, s3, s4, s5⟩ := id hS
  exact (c_X6_need s2 s3 s4 s5 hv hi).mono (fun N h => ⟨h.1, hS.op h.1 s4.need h.2⟩)
set_option maxHeartbeats 4000000 in
set_option maxRecDepth 100000 in
theorem d_X6_skip {K : Kt} {d : Nat} {M : Mem} {t : Nat → Int32} {n : Nat} {R : RS} (hS : S9 M t n R) {i : Nat} (hv : (kF K).category = 1) (hi : i < 6) : Ci K (d + 5) mX6_skip [rf K 9, sf K i] M (fun r N => r = bl (r_skip t n (wd i) R = true) ∧ A9 M N ∧ S9 N t n (r_skS t n (wd i) R)) := by
  obtain ⟨rfl, s2, s3, s4, s5⟩ := id hS
  exact (c_X6_skip s2 s3 s4 s5 hv hi).mono (fun r N h => ⟨h.1, h.2.1, hS.op h.2.1 s4.skS h.2.2⟩)
set_option maxHeartbeats 4000000 in
set_option maxRecDepth 100000 in
theorem d_X6_number {K : Kt} {d : Nat} {M : Mem} {t : Nat → Int32} {n : Nat} {R : RS} (hS : S9 M t n R) {lo hb : Int32} (h0 : 0 ≤ lo) (h1 : hb ≤ 100000) : Ci K (d + 2) mX6_number [rf K 9, .int lo, .int hb] M (fun r N => r = r_num t n lo hb R ∧ A9 M N ∧ S9 N t n (r_nuS t n lo hb R)) := by
  obtain ⟨rfl, s2, s3, s4, s5⟩ := id hS
  exact (c_X6_number s2 s3 s4 s5 h0 h1).mono (fun r N h => ⟨h.1, h.2.1, hS.op h.2.1 s4.nuS h.2.2⟩)
set_option maxHeartbeats 4000000 in
set_option maxRecDepth 100000 in
theorem d_X6_option {K : Kt} {d : Nat} {M : Mem} {t : Nat → Int32} {n : Nat} {R : RS} (hS : S9 M t n R) {i : Nat} (hv : (kF K).category = 1) (hi : i < 6) {lo hb : Int32} (h0 : 0 ≤ lo) (h1 : hb ≤ 100000) {df : Int32} : Ci K (d + 6) mX6_option [rf K 9, sf K i, .int lo, .int hb, .int df] M (fun r N => r = r_opt t n (wd i) lo hb df R ∧ A9 M N ∧ S9 N t n (r_opS t n (wd i) lo hb R)) := by
  obtain ⟨rfl, s2, s3, s4, s5⟩ := id hS
  exact (c_X6_option s2 s3 s4 s5 hv hi h0 h1).mono (fun r N h => ⟨h.1, h.2.1, hS.op h.2.1 s4.opS h.2.2⟩)
theorem q_row_ne (t : Nat → Int32) (n : Nat) (v : Nat → Int32) : va_up (va_up (va_up (va_up (va_up (va_up (va_up v 1 (q_v1 t n)) 2 (q_v2 t n)) 3 (q_v3 t n)) 4 (q_v4 t n)) 5 (q_v5 t n)) 6 (q_v6 t n)) 7 (q_v7 t n) = q_row t n v := by
  funext k
  simp only [va_up, q_row]
  grind
theorem uu {f : Nat → Int32} {a b : Nat} {x y z : Int32} (h : a ≠ b) : va_up (va_up (va_up (va_up f a x) b 0) a y) b z = va_up (va_up f a y) b z := by
  funext k
  simp only [va_up]
  grind
theorem q_AZ_ok {t : Nat → Int32} {n : Nat} : Rok n (q_AZ t n) := by
  have h0 : Rok n (q_A0 t n) := Rok.step ⟨Nat.le_refl _, Nat.zero_le _, fun q h => by cases h⟩
  have h6 : Rok n (q_A6 t n) := by
    unfold q_A6
    cases q_b t n
    · exact (h0.need.nuS).skS
    · exact (((h0.need.nuS).skS).nuS).need.nuS
  exact (((h6.opS).opS).opS).opS
set_option maxHeartbeats 4000000 in
set_option maxRecDepth 100000 in
theorem L_X6_readInto {K : Kt} {d : Nat} {M : Mem} {n j : Nat} (hv : (kF K).category = 1) (hn : M 7 1 = nI n) (h72 : n ≤ 72) (hj : j < 9) {x : Cx} {N0 : Mem} (hD0 : DS M j N0 (M 8) n (q_A6 (M 8) n) (va_up (va_up (va_up (M (12 + j)) 1 (q_v1 (M 8) n)) 2 (q_v2 (M 8) n)) 3 (q_v3 (M 8) n))) (C : Cok K x RX6 cX6_readInto 2 (d + 7) (RI (fun r N => r = ixv (q_fin (M 8) n) ∧ (∀ i, i ≠ 9 → i ≠ 12 + j → N i = M i) ∧ N (12 + j) = q_row (M 8) n (M (12 + j))))) : G K x 2 80 [(0, rf K 9), (1, rf K (12 + j))] [] N0 := by
  have hok : Rok n (q_AZ (M 8) n) := q_AZ_ok
  refine G_aload_r C dX6_readInto_80 rfl ?_
  refine G_aload_r C dX6_readInto_81 rfl ?_
  refine G_ldcS C 2 rfl dX6_readInto_82 ?_
  refine G_iconst C (0) dX6_readInto_84 (by decide) ?_
  refine G_bipush C (14) dX6_readInto_85 (by decide) ?_
  refine G_iconst C (0) dX6_readInto_87 (by decide) ?_
  refine G_cVi4 C ok_X6_option lk_X6_57 rfl rfl (d_X6_option hD0.2.1 (i := 2) (lo := 0) (hb := 14) hv (by decide) (by decide) (by decide)) (Nat.le_of_ble_eq_true rfl) dX6_readInto_88 (fun r0 N1 hq0 => ?_)
  obtain ⟨rfl, ha0, hS0⟩ := hq0
  have hE0 : DS M j N1 (M 8) n (q_A7 (M 8) n) _ := hD0.op hj ha0 hS0
  refine G_is (q_v4 (M 8) n) rfl ?_
  refine G_putI C fp_X6_61 (lay_law j hj) rfl dX6_readInto_91 ?_
  have hD1 := hE0.put (k := 4) (y := q_v4 (M 8) n) hj
  generalize hM0 : wr N1 (12 + j) 4 _ = N1b at hD1 ⊢
  clear hM0
  refine G_aload_r C dX6_readInto_94 rfl ?_
  refine G_aload_r C dX6_readInto_95 rfl ?_
  refine G_ldcS C 3 rfl dX6_readInto_96 ?_
  refine G_iconst C (0) dX6_readInto_98 (by decide) ?_
  refine G_bipush C (20) dX6_readInto_99 (by decide) ?_
  refine G_iconst C (0) dX6_readInto_101 (by decide) ?_
  refine G_cVi4 C ok_X6_option lk_X6_57 rfl rfl (d_X6_option hD1.2.1 (i := 3) (lo := 0) (hb := 20) hv (by decide) (by decide) (by decide)) (Nat.le_of_ble_eq_true rfl) dX6_readInto_102 (fun r1 N2 hq1 => ?_)
  obtain ⟨rfl, ha1, hS1⟩ := hq1
  have hE1 : DS M j N2 (M 8) n (q_A8 (M 8) n) _ := hD1.op hj ha1 hS1
  refine G_is (q_v5 (M 8) n) rfl ?_
  refine G_putI C fp_X6_66 (lay_law j hj) rfl dX6_readInto_105 ?_
  have hD2 := hE1.put (k := 5) (y := q_v5 (M 8) n) hj
  generalize hM1 : wr N2 (12 + j) 5 _ = N2b at hD2 ⊢
  clear hM1
  refine G_aload_r C dX6_readInto_108 rfl ?_
  refine G_aload_r C dX6_readInto_109 rfl ?_
  refine G_ldcS C 4 rfl dX6_readInto_110 ?_
  refine G_iconst C (0) dX6_readInto_112 (by decide) ?_
  refine G_ldc C kc_X6_54 dX6_readInto_113 ?_
  refine G_iconst C (0) dX6_readInto_115 (by decide) ?_
  refine G_cVi4 C ok_X6_option lk_X6_57 rfl rfl (d_X6_option hD2.2.1 (i := 4) (lo := 0) (hb := 100000) hv (by decide) (by decide) (by decide)) (Nat.le_of_ble_eq_true rfl) dX6_readInto_116 (fun r2 N3 hq2 => ?_)
  obtain ⟨rfl, ha2, hS2⟩ := hq2
  have hE2 : DS M j N3 (M 8) n (q_A9 (M 8) n) _ := hD2.op hj ha2 hS2
  refine G_is (q_v6 (M 8) n) rfl ?_
  refine G_putI C fp_X6_71 (lay_law j hj) rfl dX6_readInto_119 ?_
  have hD3 := hE2.put (k := 6) (y := q_v6 (M 8) n) hj
  generalize hM2 : wr N3 (12 + j) 6 _ = N3b at hD3 ⊢
  clear hM2
  refine G_aload_r C dX6_readInto_122 rfl ?_
  refine G_aload_r C dX6_readInto_123 rfl ?_
  refine G_ldcS C 5 rfl dX6_readInto_124 ?_
  refine G_iconst C (1) dX6_readInto_126 (by decide) ?_
  refine G_aload_r C dX6_readInto_127 rfl ?_
  refine G_getI C fo_X6_71 (lay_law j hj) rfl dX6_readInto_128 ?_
  rw [show N3b (12 + j) 6 = q_v6 (M 8) n by rw [hD3.2.2]; rfl]
  refine G_mmax C lk_X6_75 ms_max mi_math mc_max (Nat.le_of_ble_eq_true rfl) dX6_readInto_131 ?_
  refine G_is (q_lo (M 8) n) rfl ?_
  refine G_ldc C kc_X6_54 dX6_readInto_134 ?_
  refine G_ldc C kc_X6_41 dX6_readInto_136 ?_
  refine G_cVi4 C ok_X6_option lk_X6_57 rfl rfl (d_X6_option hD3.2.1 (i := 5) (lo := q_lo (M 8) n) (hb := 100000) hv (by decide) (by simp only [q_lo]; grind) (by decide)) (Nat.le_of_ble_eq_true rfl) dX6_readInto_138 (fun r3 N4 hq3 => ?_)
  obtain ⟨rfl, ha3, hS3⟩ := hq3
  have hE3 : DS M j N4 (M 8) n (q_AZ (M 8) n) _ := hD3.op hj ha3 hS3
  refine G_is (q_v7 (M 8) n) rfl ?_
  refine G_putI C fp_X6_80 (lay_law j hj) rfl dX6_readInto_141 ?_
  have hD4 := hE3.put (k := 7) (y := q_v7 (M 8) n) hj
  generalize hM3 : wr N4 (12 + j) 7 _ = N4b at hD4 ⊢
  clear hM3
  obtain ⟨d1, ⟨d2, d3, d4, d5, d6, d7, d8⟩, d9⟩ := hD4
  rw [q_row_ne] at d9
  have hbn : ixv (q_AZ (M 8) n).2.2 = -2000000005 ↔ (q_AZ (M 8) n).2.2 = none := ixv_none (fun q hq => by have := hok.2.2 q hq; omega)
  refine G_aload_r C dX6_readInto_144 rfl ?_
  refine G_getI C fo_X6_16 rfl rfl dX6_readInto_145 ?_
  refine G_is (ixv (q_AZ (M 8) n).2.2) d8 ?_
  refine G_ldc C kc_X6_15 dX6_readInto_148 ?_
  refine G_icmp_ne C 175 dX6_readInto_150 (by decide) (fun h150 => ?_) (fun h150 => ?_)
  · rw [hbn] at h150
    refine G_aload_r C dX6_readInto_175 rfl ?_
    refine G_getI C fo_X6_16 rfl rfl dX6_readInto_176 ?_
    exact G_ret C dX6_readInto_179 ⟨by rw [d8]; simp only [q_fin]; rw [if_neg (by grind)], d1, d9⟩
  · rw [hbn] at h150
    refine G_aload_r C dX6_readInto_153 rfl ?_
    refine G_getI C fo_X6_82 rfl rfl dX6_readInto_154 ?_
    refine G_is (nI (q_AZ (M 8) n).1) d6 ?_
    refine G_aload_r C dX6_readInto_157 rfl ?_
    refine G_getR C fo_X6_9 rfl rfl dX6_readInto_158 ?_
    refine G_getI C fo_X6_85 rfl rfl dX6_readInto_161 ?_
    refine G_icmp_ge C 175 dX6_readInto_164 (by decide) (fun h164 => ?_) (fun h164 => ?_)
    · have o1 := hok.1
      have o2 := hok.2.1
      have hge : n ≤ (q_AZ (M 8) n).1 := n_le d3 h72 (by omega) (by decide) h164
      refine G_aload_r C dX6_readInto_175 rfl ?_
      refine G_getI C fo_X6_16 rfl rfl dX6_readInto_176 ?_
      exact G_ret C dX6_readInto_179 ⟨by rw [d8]; simp only [q_fin]; rw [if_neg (by grind)], d1, d9⟩
    · have o1 := hok.1
      have o2 := hok.2.1
      have hlt : (q_AZ (M 8) n).1 < n := n_gt d3 h72 (by omega) (by decide) h164
      refine G_aload_r C dX6_readInto_167 rfl ?_
      refine G_aload_r C dX6_readInto_168 rfl ?_
      refine G_getI C fo_X6_82 rfl rfl dX6_readInto_169 ?_
      refine G_is (nI (q_AZ (M 8) n).1) d6 ?_
      refine G_putI C fp_X6_16 rfl rfl dX6_readInto_172 ?_
      refine G_aload_r C dX6_readInto_175 rfl ?_
      refine G_getI C fo_X6_16 rfl rfl dX6_readInto_176 ?_
      exact G_ret C dX6_readInto_179 ⟨by rw [wr_s]; simp only [q_fin]; rw [if_pos ⟨h150, hlt⟩]; rfl, fun i h1 h2 => (wr_c h1).trans (d1 i h1 h2), by rw [wr_c (by omega)]; exact d9⟩
set_option maxHeartbeats 4000000 in
set_option maxRecDepth 100000 in
theorem c_X6_readInto {K : Kt} {d : Nat} {M : Mem} {n j : Nat} (hv : (kF K).category = 1) (hn : M 7 1 = nI n) (h72 : n ≤ 72) (hj : j < 9) : Ci K (d + 7) mX6_readInto [rf K 9, rf K (12 + j)] M (fun r N => r = ixv (q_fin (M 8) n) ∧ (∀ i, i ≠ 9 → i ≠ 12 + j → N i = M i) ∧ N (12 + j) = q_row (M 8) n (M (12 + j))) := by
  refine Ci_int RX6 [(0, rf K 9), (1, rf K (12 + j))] rfl (by decide) rfl (Nat.le_of_ble_eq_true rfl) rfl (fun x C => ?_)
  refine G_aload_r C dX6_readInto_0 rfl ?_
  refine G_ldc C kc_X6_15 dX6_readInto_1 ?_
  refine G_putI C fp_X6_16 rfl rfl dX6_readInto_3 ?_
  refine G_aload_r C dX6_readInto_6 rfl ?_
  refine G_iconst C (nI 0) dX6_readInto_7 (by decide) ?_
  refine G_putI C fp_X6_20 rfl rfl dX6_readInto_8 ?_
  refine G_aload_r C dX6_readInto_11 rfl ?_
  refine G_cVv0 C ok_X6_step lk_X6_23 rfl rfl (c0_X6_step (R := (0, 0, none)) (n := n) ((congrFun (wr_c (by decide)) 1).trans ((congrFun (wr_c (by decide)) 1).trans hn)) h72 (Nat.zero_le _) wr_s ((wr_f (by decide)).trans wr_s)) (Nat.le_of_ble_eq_true rfl) dX6_readInto_12 (fun N0 hq => ?_)
  obtain ⟨ha, hR⟩ := hq
  rw [wr_c (show 8 ≠ 9 by decide), wr_c (show 8 ≠ 9 by decide)] at hR
  have hD0 : DS M j N0 (M 8) n (q_A0 (M 8) n) (M (12 + j)) := by
    refine ⟨fun i h1 h2 => ?_, ⟨?_, ?_, h72, Rok.step ⟨Nat.le_refl _, Nat.zero_le _, fun q h => by cases h⟩, hR⟩, ?_⟩
    · rw [ha i h1, wr_c h1, wr_c h1]
    · rw [ha 8 (by decide), wr_c (by decide), wr_c (by decide)]
    · rw [ha 7 (by decide), wr_c (by decide), wr_c (by decide)]; exact hn
    · rw [ha (12 + j) (by omega), wr_c (by omega), wr_c (by omega)]
  refine G_aload_r C dX6_readInto_15 rfl ?_
  refine G_ldcS C 0 rfl dX6_readInto_16 ?_
  refine G_cVv1 C ok_X6_need lk_X6_28 rfl rfl (d_X6_need hD0.2.1 (i := 0) hv (by decide)) (Nat.le_of_ble_eq_true rfl) dX6_readInto_18 (fun N1 hq1 => ?_)
  obtain ⟨ha1, hS1⟩ := hq1
  have hD1 : DS M j N1 (M 8) n (q_A1 (M 8) n) _ := hD0.op hj ha1 hS1
  refine G_aload_r C dX6_readInto_21 rfl ?_
  refine G_aload_r C dX6_readInto_22 rfl ?_
  refine G_iconst C (0) dX6_readInto_23 (by decide) ?_
  refine G_bipush C (60) dX6_readInto_24 (by decide) ?_
  refine G_cVi2 C ok_X6_number lk_X6_32 rfl rfl (d_X6_number hD1.2.1 (lo := 0) (hb := 60) (by decide) (by decide)) (Nat.le_of_ble_eq_true rfl) dX6_readInto_26 (fun r2 N2 hq2 => ?_)
  obtain ⟨rfl, ha2, hS2⟩ := hq2
  have hE2 : DS M j N2 (M 8) n (q_A2 (M 8) n) _ := hD1.op hj ha2 hS2
  refine G_is (q_v1 (M 8) n) rfl ?_
  refine G_putI C fp_X6_36 (lay_law j hj) rfl dX6_readInto_29 ?_
  have hD2 := hE2.put (k := 1) (y := q_v1 (M 8) n) hj
  generalize hM2 : wr N2 (12 + j) 1 _ = N2b at hD2 ⊢
  clear hM2
  refine G_aload_r C dX6_readInto_32 rfl ?_
  refine G_ldc C kc_X6_41 dX6_readInto_33 ?_
  refine G_putI C fp_X6_42 (lay_law j hj) rfl dX6_readInto_35 ?_
  have hD3 := hD2.put (k := 2) (y := 1000000000) hj
  generalize hM3 : wr N2b (12 + j) 2 _ = N3 at hD3 ⊢
  clear hM3
  refine G_aload_r C dX6_readInto_38 rfl ?_
  refine G_iconst C (0) dX6_readInto_39 (by decide) ?_
  refine G_putI C fp_X6_45 (lay_law j hj) rfl dX6_readInto_40 ?_
  have hD4 := hD3.put (k := 3) (y := 0) hj
  generalize hM4 : wr N3 (12 + j) 3 _ = N4 at hD4 ⊢
  clear hM4
  refine G_aload_r C dX6_readInto_43 rfl ?_
  refine G_ldcS C 1 rfl dX6_readInto_44 ?_
  refine G_cVi1 C ok_X6_skip lk_X6_50 rfl rfl (d_X6_skip hD4.2.1 (i := 1) hv (by decide)) (Nat.le_of_ble_eq_true rfl) dX6_readInto_46 (fun r5 N5 hq5 => ?_)
  obtain ⟨rfl, ha5, hS5⟩ := hq5
  have hD5 : DS M j N5 (M 8) n (q_A3 (M 8) n) _ := hD4.op hj ha5 hS5
  refine G_if_eq C 80 dX6_readInto_49 (by decide) (fun h49 => ?_) (fun h49 => ?_)
  · rw [bl_z] at h49
    refine G_sub [(0, _), (1, _)] (by repeat (first | refine And.intro rfl ?_ | exact True.intro)) ?_
    have hf : q_b (M 8) n = false := by simpa [q_b] using h49
    refine L_X6_readInto hv hn h72 hj ?_ C
    simp only [q_v2, q_v3, q_A6, hf]
    exact hD5
  · rw [bl_z] at h49
    refine G_aload_r C dX6_readInto_52 rfl ?_
    refine G_aload_r C dX6_readInto_53 rfl ?_
    refine G_iconst C (1) dX6_readInto_54 (by decide) ?_
    refine G_ldc C kc_X6_54 dX6_readInto_55 ?_
    refine G_cVi2 C ok_X6_number lk_X6_32 rfl rfl (d_X6_number hD5.2.1 (lo := 1) (hb := 100000) (by decide) (by decide)) (Nat.le_of_ble_eq_true rfl) dX6_readInto_57 (fun r6 N6 hq6 => ?_)
    obtain ⟨rfl, ha6, hS6⟩ := hq6
    have hE6 : DS M j N6 (M 8) n (q_A4 (M 8) n) _ := hD5.op hj ha6 hS6
    refine G_putI C fp_X6_42 (lay_law j hj) rfl dX6_readInto_60 ?_
    have hD6 := hE6.put (k := 2) (y := r_num (M 8) n 1 100000 (q_A3 (M 8) n)) hj
    generalize hM6 : wr N6 (12 + j) 2 _ = N6b at hD6 ⊢
    clear hM6
    refine G_aload_r C dX6_readInto_63 rfl ?_
    refine G_ldcS C 0 rfl dX6_readInto_64 ?_
    refine G_cVv1 C ok_X6_need lk_X6_28 rfl rfl (d_X6_need hD6.2.1 (i := 0) hv (by decide)) (Nat.le_of_ble_eq_true rfl) dX6_readInto_66 (fun N7 hq7 => ?_)
    obtain ⟨ha7, hS7⟩ := hq7
    have hD7 : DS M j N7 (M 8) n (q_A5 (M 8) n) _ := hD6.op hj ha7 hS7
    refine G_aload_r C dX6_readInto_69 rfl ?_
    refine G_aload_r C dX6_readInto_70 rfl ?_
    refine G_iconst C (0) dX6_readInto_71 (by decide) ?_
    refine G_bipush C (60) dX6_readInto_72 (by decide) ?_
    refine G_cVi2 C ok_X6_number lk_X6_32 rfl rfl (d_X6_number hD7.2.1 (lo := 0) (hb := 60) (by decide) (by decide)) (Nat.le_of_ble_eq_true rfl) dX6_readInto_74 (fun r8 N8 hq8 => ?_)
    obtain ⟨rfl, ha8, hS8⟩ := hq8
    have hE8 := hD7.op hj ha8 hS8
    refine G_putI C fp_X6_45 (lay_law j hj) rfl dX6_readInto_77 ?_
    have hD8 := hE8.put (k := 3) (y := r_num (M 8) n 0 60 (q_A5 (M 8) n)) hj
    generalize hM8 : wr N8 (12 + j) 3 _ = N8b at hD8 ⊢
    clear hM8
    refine G_sub [(0, _), (1, _)] (by repeat (first | refine And.intro rfl ?_ | exact True.intro)) ?_
    have hf : q_b (M 8) n = true := by simpa [q_b] using h49
    refine L_X6_readInto hv hn h72 hj ?_ C
    rw [uu (by decide)] at hD8
    simp only [q_v2, q_v3, q_A6, hf]
    exact hD8
def AL (M : Mem) (nl n : Nat) (w r : Int32) (N : Mem) : Prop := (∀ i, i ≠ 9 → i ≠ 10 → i ≠ 12 + nl → N i = M i) ∧ ((∃ q, q_fin (M 8) n = some q ∧ r = -100 - nI q ∧ N 10 = M 10) ∨ (q_fin (M 8) n = none ∧ nl = 8 ∧ r = -2000000003 ∧ N 10 = M 10) ∨ (q_fin (M 8) n = none ∧ nl ≠ 8 ∧ r = nI nl ∧ N 10 = va_up (M 10) 1 (nI (nl + 1)) ∧ N (12 + nl) = va_up (q_row (M 8) n (M (12 + nl))) 0 w))
theorem q_fin_le {t : Nat → Int32} {n q : Nat} (h : q_fin t n = some q) : q ≤ n := by
  have hok : Rok n (q_AZ t n) := q_AZ_ok
  unfold q_fin at h
  split at h
  next hc => cases h; omega
  next => exact hok.2.2 q h
set_option maxHeartbeats 4000000 in
set_option maxRecDepth 100000 in
theorem c_X9_addLaw {K : Kt} {d : Nat} {M : Mem} {n nl : Nat} {w : Int32} (hv : (kF K).category = 1) (hn : M 7 1 = nI n) (h72 : n ≤ 72) (hl : M 10 1 = nI nl) (hl8 : nl ≤ 8) : Ci K (d + 8) mX9_addLaw [rf K 0, .int w] M (AL M nl n w) := by
  refine Ci_int RX9 [(0, rf K 0), (1, .int w)] rfl (by decide) rfl (Nat.le_of_ble_eq_true rfl) rfl (fun x C => ?_)
  have hbn : ixv (q_fin (M 8) n) = -2000000005 ↔ q_fin (M 8) n = none := ixv_none (fun q hq => by have := q_fin_le hq; omega)
  refine G_aload_r C dX9_addLaw_0 rfl ?_
  refine G_getR C fo_X9_35 rfl rfl dX9_addLaw_1 ?_
  refine G_getR C fo_X9_149 rfl rfl dX9_addLaw_4 ?_
  refine G_aload_r C dX9_addLaw_7 rfl ?_
  refine G_getR C fo_X9_35 rfl rfl dX9_addLaw_8 ?_
  refine G_getI C fo_X9_153 rfl rfl dX9_addLaw_11 ?_
  refine G_is (nI nl) hl ?_
  refine G_law C (j := nl) (by omega) dX9_addLaw_14 ?_
  refine G_astore_n C dX9_addLaw_15 (by decide) ?_
  refine G_aload_r C dX9_addLaw_16 rfl ?_
  refine G_getR C fo_X9_28 rfl rfl dX9_addLaw_17 ?_
  refine G_aload_r C dX9_addLaw_20 rfl ?_
  refine G_cVi1 C ok_X6_readInto lk_X9_154 rfl rfl (c_X6_readInto (j := nl) hv hn h72 (by omega)) (Nat.le_of_ble_eq_true rfl) dX9_addLaw_21 (fun r N hq => ?_)
  obtain ⟨rfl, n1, n2⟩ := hq
  have hl2 : N 10 1 = nI nl := by rw [n1 10 (by decide) (by omega)]; exact hl
  refine G_istore_n C dX9_addLaw_24 (by decide) ?_
  refine G_iload_n C dX9_addLaw_25 rfl ?_
  refine G_ldc C kc_X9_98 dX9_addLaw_26 ?_
  refine G_icmp_eq C 36 dX9_addLaw_28 (by decide) (fun h28 => ?_) (fun h28 => ?_)
  · rw [hbn] at h28
    refine G_aload_r C dX9_addLaw_36 rfl ?_
    refine G_getR C fo_X9_35 rfl rfl dX9_addLaw_37 ?_
    refine G_getI C fo_X9_153 rfl rfl dX9_addLaw_40 ?_
    refine G_is (nI nl) hl2 ?_
    refine G_bipush C (8) dX9_addLaw_43 (by decide) ?_
    refine G_icmp_ne C 51 dX9_addLaw_45 (by decide) (fun h45 => ?_) (fun h45 => ?_)
    · rw [nI_8 hl8] at h45
      refine G_aload_r C dX9_addLaw_51 rfl ?_
      refine G_iload_n C dX9_addLaw_52 rfl ?_
      refine G_putI C fp_X9_158 (lay_law nl (by omega)) rfl dX9_addLaw_53 ?_
      refine G_aload_r C dX9_addLaw_56 rfl ?_
      refine G_getR C fo_X9_35 rfl rfl dX9_addLaw_57 ?_
      refine G_dup C dX9_addLaw_60 rfl ?_
      refine G_getI C fo_X9_153 rfl rfl dX9_addLaw_61 ?_
      refine G_is (nI nl) ((congrFun (wr_c (by omega)) 1).trans hl2) ?_
      refine G_iconst C (1) dX9_addLaw_64 (by decide) ?_
      refine G_iadd C dX9_addLaw_65 ?_
      rw [nI_1]
      refine G_putI C fp_X9_153 rfl rfl dX9_addLaw_66 ?_
      refine G_aload_r C dX9_addLaw_69 rfl ?_
      refine G_getR C fo_X9_35 rfl rfl dX9_addLaw_70 ?_
      refine G_getI C fo_X9_153 rfl rfl dX9_addLaw_73 ?_
      refine G_is (nI (nl + 1)) wr_s ?_
      refine G_iconst C (1) dX9_addLaw_76 (by decide) ?_
      refine G_isub C dX9_addLaw_77 ?_
      refine G_ret C dX9_addLaw_78 ⟨fun i a b c => ?_, Or.inr (Or.inr ⟨h28, h45, nI_pred nl, ?_, ?_⟩)⟩
      · rw [wr_c b, wr_c c]; exact n1 i a c
      · rw [wr_r, wr_c (by omega), n1 10 (by decide) (by omega)]
      · rw [wr_c (by omega), wr_r, n2]
    · rw [nI_8 hl8] at h45
      refine G_ldc C kc_X9_77 dX9_addLaw_48 ?_
      exact G_ret C dX9_addLaw_50 ⟨fun i a _ c => n1 i a c, Or.inr (Or.inl ⟨h28, h45, rfl, n1 10 (by decide) (by omega)⟩)⟩
  · rw [hbn] at h28
    refine G_bipush C (-100) dX9_addLaw_31 (by decide) ?_
    refine G_iload_n C dX9_addLaw_33 rfl ?_
    refine G_isub C dX9_addLaw_34 ?_
    obtain ⟨q, hq⟩ : ∃ q, q_fin (M 8) n = some q := by cases e : q_fin (M 8) n with | none => exact absurd e h28 | some q => exact ⟨q, rfl⟩
    exact G_ret C dX9_addLaw_35 ⟨fun i a _ c => n1 i a c, Or.inl ⟨q, hq, by rw [hq]; rfl, n1 10 (by decide) (by omega)⟩⟩
def LX (M : Mem) (nl n : Nat) (w r : Int32) (N : Mem) : Prop := ∃ N', N = wr N' 7 1 0 ∧ ((¬ (0 ≤ w ∧ w < 120) ∧ r = -2000000001 ∧ N' = M) ∨ ((0 ≤ w ∧ w < 120) ∧ AL M nl n w r N'))
set_option maxHeartbeats 4000000 in
set_option maxRecDepth 100000 in
theorem c_X9_law {K : Kt} {d : Nat} {M : Mem} {n nl : Nat} {w : Int32} (hv : (kF K).category = 1) (hn : M 7 1 = nI n) (h72 : n ≤ 72) (hl : M 10 1 = nI nl) (hl8 : nl ≤ 8) : Ci K (d + 9) mX9_law [rf K 0, .int w] M (LX M nl n w) := by
  refine Ci_int RX9 [(0, rf K 0), (1, .int w)] rfl (by decide) rfl (Nat.le_of_ble_eq_true rfl) rfl (fun x C => ?_)
  refine G_iload_n C dX9_law_0 rfl ?_
  refine G_cSr1 C ok_X9_isWeek lk_X9_68 (c_X9_isWeek) (Nat.le_of_ble_eq_true rfl) dX9_law_1 ?_
  refine G_if_eq C 15 dX9_law_4 (by decide) (fun h4 => ?_) (fun h4 => ?_)
  · rw [bl_z] at h4
    refine G_ldc C kc_X9_72 dX9_law_15 ?_
    refine G_istore_n C dX9_law_17 (by decide) ?_
    refine G_aload_r C dX9_law_18 rfl ?_
    refine G_getR C fo_X9_19 rfl rfl dX9_law_19 ?_
    refine G_iconst C (0) dX9_law_22 (by decide) ?_
    refine G_putI C fp_X9_141 rfl rfl dX9_law_23 ?_
    refine G_iload_n C dX9_law_26 rfl ?_
    exact G_ret C dX9_law_27 ⟨M, rfl, Or.inl ⟨h4, rfl, rfl⟩⟩
  · rw [bl_z] at h4
    refine G_aload_r C dX9_law_7 rfl ?_
    refine G_iload_n C dX9_law_8 rfl ?_
    refine G_cVi1 C ok_X9_addLaw lk_X9_146 rfl rfl (c_X9_addLaw hv hn h72 hl hl8) (Nat.le_of_ble_eq_true rfl) dX9_law_9 (fun r N hq => ?_)
    refine G_goto C 17 dX9_law_12 (by decide) ?_
    refine G_istore_n C dX9_law_17 (by decide) ?_
    refine G_aload_r C dX9_law_18 rfl ?_
    refine G_getR C fo_X9_19 rfl rfl dX9_law_19 ?_
    refine G_iconst C (0) dX9_law_22 (by decide) ?_
    refine G_putI C fp_X9_141 rfl rfl dX9_law_23 ?_
    refine G_iload_n C dX9_law_26 rfl ?_
    exact G_ret C dX9_law_27 ⟨N, rfl, Or.inr ⟨Decidable.not_not.mp h4, hq⟩⟩
