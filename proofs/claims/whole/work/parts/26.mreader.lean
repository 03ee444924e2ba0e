def RM (M : Mem) (R : RS) : Prop := M 36 28 = nI R.2.1 ∧ M 36 29 = nI R.1 ∧ M 36 30 = nI (R.2.1 - R.1)
def A36 (M N : Mem) : Prop := (∀ i, i ≠ 36 → N i = M i) ∧ ∀ b, b ≠ 28 → b ≠ 29 → b ≠ 30 → b ≠ 31 → N 36 b = M 36 b
theorem A36.tr {M N L : Mem} (h : A36 M N) (g : A36 N L) : A36 M L := ⟨fun i hi => (g.1 i hi).trans (h.1 i hi), fun b h1 h2 h3 h4 => (g.2 b h1 h2 h3 h4).trans (h.2 b h1 h2 h3 h4)⟩
theorem A36.wr {M : Mem} {b : Nat} {v : Int32} (h : b = 28 ∨ b = 29 ∨ b = 30 ∨ b = 31) : A36 M (wr M 36 b v) := ⟨fun i hi => wr_c hi, fun c h1 h2 h3 h4 => wr_f (by omega)⟩
def Tk (n : Nat) (R : RS) : Prop := R.1 ≤ R.2.1 ∧ R.2.1 ≤ n ∧ (R.1 < n → R.1 < R.2.1)
theorem Tk.step {t : Nat → Int32} {n : Nat} {R : RS} (h : R.2.1 ≤ n) : Tk n (r_step t n R) := by
  have h1 := sk_r (p := isb t) h
  have h2 := sk_r (p := fun i => !isb t i) h1.2
  refine ⟨h2.1, h2.2, fun hl => ?_⟩
  have hl : tk1 t n R.2.1 < n := hl
  have h3 := sk_s (p := isb t) h
  have h4 : isb t (tk1 t n R.2.1) = false := by
    cases e : isb t (tk1 t n R.2.1) with
    | false => rfl
    | true => exact absurd ⟨hl, e⟩ h3
  show tk1 t n R.2.1 < sk (fun i => !isb t i) n (tk1 t n R.2.1)
  rw [sk_t hl (by simp [h4])]
  have := sk_r (p := fun i => !isb t i) (show tk1 t n R.2.1 + 1 ≤ n by omega)
  omega
set_option maxHeartbeats 4000000 in
set_option maxRecDepth 100000 in
theorem L2_X10_next {K : Kt} {d : Nat} {M : Mem} {n : Nat} {R : RS} (hn : M 36 25 = nI n) (h72 : n ≤ 72) {x : Cx} (he : R.2.1 ≤ n) (C : Cok K x RX10 cX10_next 1 d (RV (fun N => A36 M N ∧ RM N (r_step (M 55) n R)))) :
    ∀ (t i : Nat) (N : Mem), n < i + t → i ≤ n → A36 M N → N 36 29 = nI (tk1 (M 55) n R.2.1) → N 36 28 = nI i → sk (fun i => !isb (M 55) i) n i = tk2 (M 55) n R.2.1 → G K x 1 46 [(0, rf K 36)] [] N := by
  have htk : Tk n (r_step (M 55) n R) := Tk.step he
  intro t
  induction t with
  | zero => intro i N h1 h2; omega
  | succ t ih =>
    intro i N h1 h2 ha e1 e2 hs
    have hn2 : N 36 25 = nI n := by rw [ha.2 25 (by decide) (by decide) (by decide) (by decide)]; exact hn
    refine G_aload_r C dX10_next_46 rfl ?_
    refine G_getI C fo_X10_150 rfl rfl dX10_next_47 ?_
    refine G_is (nI i) e2 ?_
    refine G_aload_r C dX10_next_50 rfl ?_
    refine G_getI C fo_X10_143 rfl rfl dX10_next_51 ?_
    refine G_icmp_ge C 84 dX10_next_54 (by decide) (fun h54 => ?_) (fun h54 => ?_)
    · have hE : n ≤ i := n_le hn2 h72 (by omega) (by decide) h54
      refine G_aload_r C dX10_next_84 rfl ?_
      refine G_aload_r C dX10_next_85 rfl ?_
      refine G_getI C fo_X10_150 rfl rfl dX10_next_86 ?_
      refine G_is (nI i) e2 ?_
      refine G_aload_r C dX10_next_89 rfl ?_
      refine G_getI C fo_X10_153 rfl rfl dX10_next_90 ?_
      refine G_is (nI (tk1 (M 55) n R.2.1)) e1 ?_
      refine G_isub C dX10_next_93 ?_
      refine G_putI C fp_X10_156 rfl rfl dX10_next_94 ?_
      have hE : i = tk2 (M 55) n R.2.1 := by
        rw [← hs, sk_f]
        exact fun z => absurd z.1 (by omega)
      subst hE
      refine G_vret C dX10_next_97 ⟨ha.tr (A36.wr (by decide)), (wr_f (by decide)).trans e2, (wr_f (by decide)).trans e1, ?_⟩
      rw [wr_s]
      exact pk_sub htk.1
    · have hlt : i < n := n_gt hn2 h72 (by omega) (by decide) h54
      refine G_aload_r C dX10_next_57 rfl ?_
      refine G_getR C fo_X10_69 rfl rfl dX10_next_58 ?_
      refine G_aload_r C dX10_next_61 rfl ?_
      refine G_getI C fo_X10_150 rfl rfl dX10_next_62 ?_
      refine G_is (nI i) e2 ?_
      refine G_ialdN C rfl (show i < 72 by omega) (by decide) dX10_next_65 ?_
      rw [ha.1 55 (by decide)]
      refine G_bipush C (32) dX10_next_66 (by decide) ?_
      refine G_icmp_eq C 84 dX10_next_68 (by decide) (fun h68 => ?_) (fun h68 => ?_)
      · refine G_aload_r C dX10_next_84 rfl ?_
        refine G_aload_r C dX10_next_85 rfl ?_
        refine G_getI C fo_X10_150 rfl rfl dX10_next_86 ?_
        refine G_is (nI i) e2 ?_
        refine G_aload_r C dX10_next_89 rfl ?_
        refine G_getI C fo_X10_153 rfl rfl dX10_next_90 ?_
        refine G_is (nI (tk1 (M 55) n R.2.1)) e1 ?_
        refine G_isub C dX10_next_93 ?_
        refine G_putI C fp_X10_156 rfl rfl dX10_next_94 ?_
        have hE : i = tk2 (M 55) n R.2.1 := by
          rw [← hs, sk_f]
          exact fun z => by simp [isb, h68] at z
        subst hE
        refine G_vret C dX10_next_97 ⟨ha.tr (A36.wr (by decide)), (wr_f (by decide)).trans e2, (wr_f (by decide)).trans e1, ?_⟩
        rw [wr_s]
        exact pk_sub htk.1
      · refine G_aload_r C dX10_next_71 rfl ?_
        refine G_dup C dX10_next_72 rfl ?_
        refine G_getI C fo_X10_150 rfl rfl dX10_next_73 ?_
        refine G_is (nI i) e2 ?_
        refine G_iconst C (1) dX10_next_76 (by decide) ?_
        refine G_iadd C dX10_next_77 ?_
        rw [nI_1]
        refine G_putI C fp_X10_150 rfl rfl dX10_next_78 ?_
        refine G_goto C 46 dX10_next_81 (by decide) ?_
        refine G_sub [(0, _)] (by repeat (first | refine And.intro rfl ?_ | exact True.intro)) ?_
        exact ih (i + 1) _ (by omega) (by omega) (ha.tr (A36.wr (by decide))) ((wr_f (by decide)).trans e1) wr_s ((sk_t hlt (by simp [isb, h68])).symm.trans hs)
set_option maxHeartbeats 4000000 in
set_option maxRecDepth 100000 in
theorem L1_X10_next {K : Kt} {d : Nat} {M : Mem} {n : Nat} {R : RS} (hn : M 36 25 = nI n) (h72 : n ≤ 72) {x : Cx} (he : R.2.1 ≤ n) (C : Cok K x RX10 cX10_next 1 d (RV (fun N => A36 M N ∧ RM N (r_step (M 55) n R)))) :
    ∀ (t i : Nat) (N : Mem), n < i + t → i ≤ n → A36 M N → N 36 28 = nI i → sk (isb (M 55)) n i = tk1 (M 55) n R.2.1 → G K x 1 0 [(0, rf K 36)] [] N := by
  intro t
  induction t with
  | zero => intro i N h1 h2; omega
  | succ t ih =>
    intro i N h1 h2 ha e2 hs
    have hn2 : N 36 25 = nI n := by rw [ha.2 25 (by decide) (by decide) (by decide) (by decide)]; exact hn
    refine G_aload_r C dX10_next_0 rfl ?_
    refine G_getI C fo_X10_150 rfl rfl dX10_next_1 ?_
    refine G_is (nI i) e2 ?_
    refine G_aload_r C dX10_next_4 rfl ?_
    refine G_getI C fo_X10_143 rfl rfl dX10_next_5 ?_
    refine G_icmp_ge C 38 dX10_next_8 (by decide) (fun h8 => ?_) (fun h8 => ?_)
    · have hE : n ≤ i := n_le hn2 h72 (by omega) (by decide) h8
      refine G_aload_r C dX10_next_38 rfl ?_
      refine G_aload_r C dX10_next_39 rfl ?_
      refine G_getI C fo_X10_150 rfl rfl dX10_next_40 ?_
      refine G_is (nI i) e2 ?_
      refine G_putI C fp_X10_153 rfl rfl dX10_next_43 ?_
      refine G_sub [(0, _)] (by repeat (first | refine And.intro rfl ?_ | exact True.intro)) ?_
      have hE : i = tk1 (M 55) n R.2.1 := by
        rw [← hs, sk_f]
        exact fun z => absurd z.1 (by omega)
      exact L2_X10_next hn h72 he C (n + 1) i _ (by omega) (by omega) (ha.tr (A36.wr (by decide))) (by rw [wr_s, hE]) ((wr_f (by decide)).trans e2) (by rw [hE]; rfl)
    · have hlt : i < n := n_gt hn2 h72 (by omega) (by decide) h8
      refine G_aload_r C dX10_next_11 rfl ?_
      refine G_getR C fo_X10_69 rfl rfl dX10_next_12 ?_
      refine G_aload_r C dX10_next_15 rfl ?_
      refine G_getI C fo_X10_150 rfl rfl dX10_next_16 ?_
      refine G_is (nI i) e2 ?_
      refine G_ialdN C rfl (show i < 72 by omega) (by decide) dX10_next_19 ?_
      rw [ha.1 55 (by decide)]
      refine G_bipush C (32) dX10_next_20 (by decide) ?_
      refine G_icmp_ne C 38 dX10_next_22 (by decide) (fun h22 => ?_) (fun h22 => ?_)
      · refine G_aload_r C dX10_next_38 rfl ?_
        refine G_aload_r C dX10_next_39 rfl ?_
        refine G_getI C fo_X10_150 rfl rfl dX10_next_40 ?_
        refine G_is (nI i) e2 ?_
        refine G_putI C fp_X10_153 rfl rfl dX10_next_43 ?_
        refine G_sub [(0, _)] (by repeat (first | refine And.intro rfl ?_ | exact True.intro)) ?_
        have hE : i = tk1 (M 55) n R.2.1 := by
          rw [← hs, sk_f]
          exact fun z => by simp [isb, h22] at z
        exact L2_X10_next hn h72 he C (n + 1) i _ (by omega) (by omega) (ha.tr (A36.wr (by decide))) (by rw [wr_s, hE]) ((wr_f (by decide)).trans e2) (by rw [hE]; rfl)
      · refine G_aload_r C dX10_next_25 rfl ?_
        refine G_dup C dX10_next_26 rfl ?_
        refine G_getI C fo_X10_150 rfl rfl dX10_next_27 ?_
        refine G_is (nI i) e2 ?_
        refine G_iconst C (1) dX10_next_30 (by decide) ?_
        refine G_iadd C dX10_next_31 ?_
        rw [nI_1]
        refine G_putI C fp_X10_150 rfl rfl dX10_next_32 ?_
        refine G_goto C 0 dX10_next_35 (by decide) ?_
        refine G_sub [(0, _)] (by repeat (first | refine And.intro rfl ?_ | exact True.intro)) ?_
        exact ih (i + 1) _ (by omega) (by omega) (ha.tr (A36.wr (by decide))) wr_s ((sk_t hlt (by simp [isb]; grind)).symm.trans hs)
set_option maxHeartbeats 4000000 in
set_option maxRecDepth 100000 in
theorem c_X10_next {K : Kt} {d : Nat} {M : Mem} {n : Nat} {R : RS} (hn : M 36 25 = nI n) (h72 : n ≤ 72) (he : R.2.1 ≤ n) (r2 : M 36 28 = nI R.2.1) : Cv K d mX10_next [rf K 36] M (fun N => A36 M N ∧ RM N (r_step (M 55) n R)) := by
  refine Cv_of RX10 [(0, rf K 36)] rfl (by decide) rfl (Nat.le_of_ble_eq_true rfl) rfl (fun x C => ?_)
  exact L1_X10_next hn h72 he C (n + 1) R.2.1 M (by omega) he ⟨fun _ _ => rfl, fun _ _ _ _ _ => rfl⟩ r2 rfl
def S36 (M : Mem) (t : Nat → Int32) (n : Nat) (R : RS) : Prop := M 55 = t ∧ M 36 25 = nI n ∧ n ≤ 72 ∧ Tk n R ∧ R.2.2 = none ∧ RM M R
theorem S36.op {M N : Mem} {t : Nat → Int32} {n : Nat} {R R' : RS} (h : S36 M t n R) (ha : A36 M N) (ht : Tk n R') (hf : R'.2.2 = none) (hR : RM N R') : S36 N t n R' := ⟨by rw [ha.1 55 (by decide)]; exact h.1, by rw [ha.2 25 (by decide) (by decide) (by decide) (by decide)]; exact h.2.1, h.2.2.1, ht, hf, hR⟩
set_option maxHeartbeats 4000000 in
set_option maxRecDepth 100000 in
theorem e_X10_next {K : Kt} {d : Nat} {M : Mem} {t : Nat → Int32} {n : Nat} {R : RS} (hS : S36 M t n R) : Cv K d mX10_next [rf K 36] M (fun N => A36 M N ∧ S36 N t n (r_step t n R)) := by
  obtain ⟨rfl, s2, s3, s4, s5, s6⟩ := id hS
  exact (c_X10_next s2 s3 s4.2.1 s6.1).mono (fun N h => ⟨h.1, hS.op h.1 (Tk.step s4.2.1) s5 h.2⟩)
set_option maxHeartbeats 4000000 in
set_option maxRecDepth 100000 in
theorem e_X10_here {K : Kt} {d : Nat} {M : Mem} {t : Nat → Int32} {n : Nat} {R : RS} (hS : S36 M t n R) : Ri K d mX10_here [rf K 36] M (nI R.1) M := by
  refine Ri_int RX10 [(0, rf K 36)] rfl (by decide) rfl (Nat.le_of_ble_eq_true rfl) rfl (fun x C => ?_)
  obtain ⟨rfl, s2, s3, s4, s5, s6⟩ := id hS
  have o1 := s4.1
  have o2 := s4.2.1
  have o3 := s4.2.2
  refine G_aload_r C dX10_here_0 rfl ?_
  refine G_getI C fo_X10_156 rfl rfl dX10_here_1 ?_
  refine G_is (nI (R.2.1 - R.1)) s6.2.2 ?_
  refine G_if_ne C 14 dX10_here_4 (by decide) (fun h4 => ?_) (fun h4 => ?_)
  · rw [show (0 : Int32) = nI 0 from rfl, nI_eq (by omega) (by decide)] at h4
    refine G_aload_r C dX10_here_14 rfl ?_
    refine G_getI C fo_X10_153 rfl rfl dX10_here_15 ?_
    exact G_retR C dX10_here_18 (by rw [s6.2.1]) rfl
  · rw [show (0 : Int32) = nI 0 from rfl, nI_eq (by omega) (by decide)] at h4
    refine G_aload_r C dX10_here_7 rfl ?_
    refine G_getI C fo_X10_143 rfl rfl dX10_here_8 ?_
    refine G_goto C 18 dX10_here_11 (by decide) ?_
    exact G_retR C dX10_here_18 (by rw [s2, show n = R.1 by omega]) rfl
theorem at_4 {t : Nat → Int32} {n : Nat} {R : RS} {a b c e : Int32} (h1 : R.1 ≤ R.2.1) (h2 : R.2.1 ≤ n) : r_at t n [a, b, c, e] R = true ↔ (R.2.1 - R.1 = 4 ∧ t R.1 = a ∧ t (R.1 + 1) = b ∧ t (R.1 + 2) = c ∧ t (R.1 + 3) = e) := by
  simp only [r_at, decide_eq_true_eq, List.length_cons, List.length_nil]
  constructor
  · rintro ⟨_, k2, k3⟩
    exact ⟨by omega, k3 0 (by omega), k3 1 (by omega), k3 2 (by omega), k3 3 (by omega)⟩
  · rintro ⟨k1, k2, k3, k4, k5⟩
    refine ⟨h2, by omega, fun i hi => ?_⟩
    rcases (show i = 0 ∨ i = 1 ∨ i = 2 ∨ i = 3 by omega) with rfl | rfl | rfl | rfl
    · exact k2
    · exact k3
    · exact k4
    · exact k5
theorem at_5 {t : Nat → Int32} {n : Nat} {R : RS} {a b c e f : Int32} (h1 : R.1 ≤ R.2.1) (h2 : R.2.1 ≤ n) : r_at t n [a, b, c, e, f] R = true ↔ (R.2.1 - R.1 = 5 ∧ t R.1 = a ∧ t (R.1 + 1) = b ∧ t (R.1 + 2) = c ∧ t (R.1 + 3) = e ∧ t (R.1 + 4) = f) := by
  simp only [r_at, decide_eq_true_eq, List.length_cons, List.length_nil]
  constructor
  · rintro ⟨_, k2, k3⟩
    exact ⟨by omega, k3 0 (by omega), k3 1 (by omega), k3 2 (by omega), k3 3 (by omega), k3 4 (by omega)⟩
  · rintro ⟨k1, k2, k3, k4, k5, k6⟩
    refine ⟨h2, by omega, fun i hi => ?_⟩
    rcases (show i = 0 ∨ i = 1 ∨ i = 2 ∨ i = 3 ∨ i = 4 by omega) with rfl | rfl | rfl | rfl | rfl
    · exact k2
    · exact k3
    · exact k4
    · exact k5
    · exact k6
def mw (a b c e f : Int32) : List Int32 := if f = 0 then [a, b, c, e] else [a, b, c, e, f]
theorem at_w {t : Nat → Int32} {n : Nat} {R : RS} {a b c e f : Int32} (h1 : R.1 ≤ R.2.1) (h2 : R.2.1 ≤ n) : r_at t n (mw a b c e f) R = true ↔ (R.2.1 - R.1 = (if f = 0 then 4 else 5) ∧ t R.1 = a ∧ t (R.1 + 1) = b ∧ t (R.1 + 2) = c ∧ t (R.1 + 3) = e ∧ (f = 0 ∨ t (R.1 + 4) = f)) := by
  by_cases hf : f = 0
  · simp only [mw, hf, if_true, at_4 h1 h2, true_or, and_true]
  · simp only [mw, hf, if_false, at_5 h1 h2, false_or]
set_option maxHeartbeats 4000000 in
set_option maxRecDepth 100000 in
theorem e_X10_isWord {K : Kt} {d : Nat} {M : Mem} {t : Nat → Int32} {n : Nat} {R : RS} (hS : S36 M t n R) {a b c e f : Int32} : Ri K d mX10_isWord [rf K 36, .int a, .int b, .int c, .int e, .int f] M (bl (r_at t n (mw a b c e f) R = true)) M := by
  refine Ri_bool RX10 [(0, rf K 36), (1, .int a), (2, .int b), (3, .int c), (4, .int e), (5, .int f)] rfl (by decide) rfl (Nat.le_of_ble_eq_true rfl) rfl bl_or (fun x C => ?_)
  obtain ⟨rfl, s2, s3, s4, s5, s6⟩ := id hS
  have o1 := s4.1
  have o2 := s4.2.1
  have hat := at_w (t := M 55) (a := a) (b := b) (c := c) (e := e) (f := f) s4.1 s4.2.1
  refine G_aload_r C dX10_isWord_0 rfl ?_
  refine G_getI C fo_X10_156 rfl rfl dX10_isWord_1 ?_
  refine G_is (nI (R.2.1 - R.1)) s6.2.2 ?_
  refine G_iload C dX10_isWord_4 rfl ?_
  refine G_if_ne C 13 dX10_isWord_6 (by decide) (fun h6 => ?_) (fun h6 => ?_)
  · refine G_iconst C (nI 5) dX10_isWord_13 (by decide) ?_
    refine G_icmp_ne C 64 dX10_isWord_14 (by decide) (fun h14 => ?_) (fun h14 => ?_)
    · rw [nI_eq (by omega) (by decide)] at h14
      refine G_iconst C (0) dX10_isWord_64 (by decide) ?_
      refine G_istore C dX10_isWord_65 (by decide) ?_
      refine G_iload C dX10_isWord_67 rfl ?_
      refine G_if_eq C 113 dX10_isWord_69 (by decide) (fun h69 => ?_) (fun h69 => ?_)
      · refine G_iconst C (0) dX10_isWord_113 (by decide) ?_
        exact G_retR C dX10_isWord_114 (by clear C; first | exact (bl_t (hat.mpr (by grind))).symm | exact (bl_f (fun z => by have z2 := hat.mp z; grind)).symm) rfl
      · exact absurd rfl h69
    · rw [nI_eq (by omega) (by decide)] at h14
      refine G_aload_r C dX10_isWord_17 rfl ?_
      refine G_getR C fo_X10_69 rfl rfl dX10_isWord_18 ?_
      refine G_aload_r C dX10_isWord_21 rfl ?_
      refine G_getI C fo_X10_153 rfl rfl dX10_isWord_22 ?_
      refine G_is (nI R.1) s6.2.1 ?_
      refine G_ialdN C rfl (show R.1 < 72 by omega) (by decide) dX10_isWord_25 ?_
      refine G_iload_n C dX10_isWord_26 rfl ?_
      refine G_icmp_ne C 64 dX10_isWord_27 (by decide) (fun h27 => ?_) (fun h27 => ?_)
      · refine G_iconst C (0) dX10_isWord_64 (by decide) ?_
        refine G_istore C dX10_isWord_65 (by decide) ?_
        refine G_iload C dX10_isWord_67 rfl ?_
        refine G_if_eq C 113 dX10_isWord_69 (by decide) (fun h69 => ?_) (fun h69 => ?_)
        · refine G_iconst C (0) dX10_isWord_113 (by decide) ?_
          exact G_retR C dX10_isWord_114 (by clear C; first | exact (bl_t (hat.mpr (by grind))).symm | exact (bl_f (fun z => by have z2 := hat.mp z; grind)).symm) rfl
        · exact absurd rfl h69
      · refine G_aload_r C dX10_isWord_30 rfl ?_
        refine G_getR C fo_X10_69 rfl rfl dX10_isWord_31 ?_
        refine G_aload_r C dX10_isWord_34 rfl ?_
        refine G_getI C fo_X10_153 rfl rfl dX10_isWord_35 ?_
        refine G_is (nI R.1) s6.2.1 ?_
        refine G_iconst C (nI 1) dX10_isWord_38 (by decide) ?_
        refine G_iadd C dX10_isWord_39 ?_
        rw [nI_add]
        refine G_ialdN C rfl (show R.1 + 1 < 72 by omega) (by decide) dX10_isWord_40 ?_
        refine G_iload_n C dX10_isWord_41 rfl ?_
        refine G_icmp_ne C 64 dX10_isWord_42 (by decide) (fun h42 => ?_) (fun h42 => ?_)
        · refine G_iconst C (0) dX10_isWord_64 (by decide) ?_
          refine G_istore C dX10_isWord_65 (by decide) ?_
          refine G_iload C dX10_isWord_67 rfl ?_
          refine G_if_eq C 113 dX10_isWord_69 (by decide) (fun h69 => ?_) (fun h69 => ?_)
          · refine G_iconst C (0) dX10_isWord_113 (by decide) ?_
            exact G_retR C dX10_isWord_114 (by clear C; first | exact (bl_t (hat.mpr (by grind))).symm | exact (bl_f (fun z => by have z2 := hat.mp z; grind)).symm) rfl
          · exact absurd rfl h69
        · refine G_aload_r C dX10_isWord_45 rfl ?_
          refine G_getR C fo_X10_69 rfl rfl dX10_isWord_46 ?_
          refine G_aload_r C dX10_isWord_49 rfl ?_
          refine G_getI C fo_X10_153 rfl rfl dX10_isWord_50 ?_
          refine G_is (nI R.1) s6.2.1 ?_
          refine G_iconst C (nI 2) dX10_isWord_53 (by decide) ?_
          refine G_iadd C dX10_isWord_54 ?_
          rw [nI_add]
          refine G_ialdN C rfl (show R.1 + 2 < 72 by omega) (by decide) dX10_isWord_55 ?_
          refine G_iload_n C dX10_isWord_56 rfl ?_
          refine G_icmp_ne C 64 dX10_isWord_57 (by decide) (fun h57 => ?_) (fun h57 => ?_)
          · refine G_iconst C (0) dX10_isWord_64 (by decide) ?_
            refine G_istore C dX10_isWord_65 (by decide) ?_
            refine G_iload C dX10_isWord_67 rfl ?_
            refine G_if_eq C 113 dX10_isWord_69 (by decide) (fun h69 => ?_) (fun h69 => ?_)
            · refine G_iconst C (0) dX10_isWord_113 (by decide) ?_
              exact G_retR C dX10_isWord_114 (by clear C; first | exact (bl_t (hat.mpr (by grind))).symm | exact (bl_f (fun z => by have z2 := hat.mp z; grind)).symm) rfl
            · exact absurd rfl h69
          · refine G_iconst C (1) dX10_isWord_60 (by decide) ?_
            refine G_goto C 65 dX10_isWord_61 (by decide) ?_
            refine G_istore C dX10_isWord_65 (by decide) ?_
            refine G_iload C dX10_isWord_67 rfl ?_
            refine G_if_eq C 113 dX10_isWord_69 (by decide) (fun h69 => ?_) (fun h69 => ?_)
            · exact absurd h69 (by decide)
            · refine G_aload_r C dX10_isWord_72 rfl ?_
              refine G_getR C fo_X10_69 rfl rfl dX10_isWord_73 ?_
              refine G_aload_r C dX10_isWord_76 rfl ?_
              refine G_getI C fo_X10_153 rfl rfl dX10_isWord_77 ?_
              refine G_is (nI R.1) s6.2.1 ?_
              refine G_iconst C (nI 3) dX10_isWord_80 (by decide) ?_
              refine G_iadd C dX10_isWord_81 ?_
              rw [nI_add]
              refine G_ialdN C rfl (show R.1 + 3 < 72 by omega) (by decide) dX10_isWord_82 ?_
              refine G_iload C dX10_isWord_83 rfl ?_
              refine G_icmp_ne C 113 dX10_isWord_85 (by decide) (fun h85 => ?_) (fun h85 => ?_)
              · refine G_iconst C (0) dX10_isWord_113 (by decide) ?_
                exact G_retR C dX10_isWord_114 (by clear C; first | exact (bl_t (hat.mpr (by grind))).symm | exact (bl_f (fun z => by have z2 := hat.mp z; grind)).symm) rfl
              · refine G_iload C dX10_isWord_88 rfl ?_
                refine G_if_eq C 109 dX10_isWord_90 (by decide) (fun h90 => ?_) (fun h90 => ?_)
                · exact absurd h90 h6
                · refine G_aload_r C dX10_isWord_93 rfl ?_
                  refine G_getR C fo_X10_69 rfl rfl dX10_isWord_94 ?_
                  refine G_aload_r C dX10_isWord_97 rfl ?_
                  refine G_getI C fo_X10_153 rfl rfl dX10_isWord_98 ?_
                  refine G_is (nI R.1) s6.2.1 ?_
                  refine G_iconst C (nI 4) dX10_isWord_101 (by decide) ?_
                  refine G_iadd C dX10_isWord_102 ?_
                  rw [nI_add]
                  refine G_ialdN C rfl (show R.1 + 4 < 72 by omega) (by decide) dX10_isWord_103 ?_
                  refine G_iload C dX10_isWord_104 rfl ?_
                  refine G_icmp_ne C 113 dX10_isWord_106 (by decide) (fun h106 => ?_) (fun h106 => ?_)
                  · refine G_iconst C (0) dX10_isWord_113 (by decide) ?_
                    exact G_retR C dX10_isWord_114 (by clear C; first | exact (bl_t (hat.mpr (by grind))).symm | exact (bl_f (fun z => by have z2 := hat.mp z; grind)).symm) rfl
                  · refine G_iconst C (1) dX10_isWord_109 (by decide) ?_
                    refine G_goto C 114 dX10_isWord_110 (by decide) ?_
                    exact G_retR C dX10_isWord_114 (by clear C; first | exact (bl_t (hat.mpr (by grind))).symm | exact (bl_f (fun z => by have z2 := hat.mp z; grind)).symm) rfl
  · refine G_iconst C (nI 4) dX10_isWord_9 (by decide) ?_
    refine G_goto C 14 dX10_isWord_10 (by decide) ?_
    refine G_icmp_ne C 64 dX10_isWord_14 (by decide) (fun h14 => ?_) (fun h14 => ?_)
    · rw [nI_eq (by omega) (by decide)] at h14
      refine G_iconst C (0) dX10_isWord_64 (by decide) ?_
      refine G_istore C dX10_isWord_65 (by decide) ?_
      refine G_iload C dX10_isWord_67 rfl ?_
      refine G_if_eq C 113 dX10_isWord_69 (by decide) (fun h69 => ?_) (fun h69 => ?_)
      · refine G_iconst C (0) dX10_isWord_113 (by decide) ?_
        exact G_retR C dX10_isWord_114 (by clear C; first | exact (bl_t (hat.mpr (by grind))).symm | exact (bl_f (fun z => by have z2 := hat.mp z; grind)).symm) rfl
      · exact absurd rfl h69
    · rw [nI_eq (by omega) (by decide)] at h14
      refine G_aload_r C dX10_isWord_17 rfl ?_
      refine G_getR C fo_X10_69 rfl rfl dX10_isWord_18 ?_
      refine G_aload_r C dX10_isWord_21 rfl ?_
      refine G_getI C fo_X10_153 rfl rfl dX10_isWord_22 ?_
      refine G_is (nI R.1) s6.2.1 ?_
      refine G_ialdN C rfl (show R.1 < 72 by omega) (by decide) dX10_isWord_25 ?_
      refine G_iload_n C dX10_isWord_26 rfl ?_
      refine G_icmp_ne C 64 dX10_isWord_27 (by decide) (fun h27 => ?_) (fun h27 => ?_)
      · refine G_iconst C (0) dX10_isWord_64 (by decide) ?_
        refine G_istore C dX10_isWord_65 (by decide) ?_
        refine G_iload C dX10_isWord_67 rfl ?_
        refine G_if_eq C 113 dX10_isWord_69 (by decide) (fun h69 => ?_) (fun h69 => ?_)
        · refine G_iconst C (0) dX10_isWord_113 (by decide) ?_
          exact G_retR C dX10_isWord_114 (by clear C; first | exact (bl_t (hat.mpr (by grind))).symm | exact (bl_f (fun z => by have z2 := hat.mp z; grind)).symm) rfl
        · exact absurd rfl h69
      · refine G_aload_r C dX10_isWord_30 rfl ?_
        refine G_getR C fo_X10_69 rfl rfl dX10_isWord_31 ?_
        refine G_aload_r C dX10_isWord_34 rfl ?_
        refine G_getI C fo_X10_153 rfl rfl dX10_isWord_35 ?_
        refine G_is (nI R.1) s6.2.1 ?_
        refine G_iconst C (nI 1) dX10_isWord_38 (by decide) ?_
        refine G_iadd C dX10_isWord_39 ?_
        rw [nI_add]
        refine G_ialdN C rfl (show R.1 + 1 < 72 by omega) (by decide) dX10_isWord_40 ?_
        refine G_iload_n C dX10_isWord_41 rfl ?_
        refine G_icmp_ne C 64 dX10_isWord_42 (by decide) (fun h42 => ?_) (fun h42 => ?_)
        · refine G_iconst C (0) dX10_isWord_64 (by decide) ?_
          refine G_istore C dX10_isWord_65 (by decide) ?_
          refine G_iload C dX10_isWord_67 rfl ?_
          refine G_if_eq C 113 dX10_isWord_69 (by decide) (fun h69 => ?_) (fun h69 => ?_)
          · refine G_iconst C (0) dX10_isWord_113 (by decide) ?_
            exact G_retR C dX10_isWord_114 (by clear C; first | exact (bl_t (hat.mpr (by grind))).symm | exact (bl_f (fun z => by have z2 := hat.mp z; grind)).symm) rfl
          · exact absurd rfl h69
        · refine G_aload_r C dX10_isWord_45 rfl ?_
          refine G_getR C fo_X10_69 rfl rfl dX10_isWord_46 ?_
          refine G_aload_r C dX10_isWord_49 rfl ?_
          refine G_getI C fo_X10_153 rfl rfl dX10_isWord_50 ?_
          refine G_is (nI R.1) s6.2.1 ?_
          refine G_iconst C (nI 2) dX10_isWord_53 (by decide) ?_
          refine G_iadd C dX10_isWord_54 ?_
          rw [nI_add]
          refine G_ialdN C rfl (show R.1 + 2 < 72 by omega) (by decide) dX10_isWord_55 ?_
          refine G_iload_n C dX10_isWord_56 rfl ?_
          refine G_icmp_ne C 64 dX10_isWord_57 (by decide) (fun h57 => ?_) (fun h57 => ?_)
          · refine G_iconst C (0) dX10_isWord_64 (by decide) ?_
            refine G_istore C dX10_isWord_65 (by decide) ?_
            refine G_iload C dX10_isWord_67 rfl ?_
            refine G_if_eq C 113 dX10_isWord_69 (by decide) (fun h69 => ?_) (fun h69 => ?_)
            · refine G_iconst C (0) dX10_isWord_113 (by decide) ?_
              exact G_retR C dX10_isWord_114 (by clear C; first | exact (bl_t (hat.mpr (by grind))).symm | exact (bl_f (fun z => by have z2 := hat.mp z; grind)).symm) rfl
            · exact absurd rfl h69
          · refine G_iconst C (1) dX10_isWord_60 (by decide) ?_
            refine G_goto C 65 dX10_isWord_61 (by decide) ?_
            refine G_istore C dX10_isWord_65 (by decide) ?_
            refine G_iload C dX10_isWord_67 rfl ?_
            refine G_if_eq C 113 dX10_isWord_69 (by decide) (fun h69 => ?_) (fun h69 => ?_)
            · exact absurd h69 (by decide)
            · refine G_aload_r C dX10_isWord_72 rfl ?_
              refine G_getR C fo_X10_69 rfl rfl dX10_isWord_73 ?_
              refine G_aload_r C dX10_isWord_76 rfl ?_
              refine G_getI C fo_X10_153 rfl rfl dX10_isWord_77 ?_
              refine G_is (nI R.1) s6.2.1 ?_
              refine G_iconst C (nI 3) dX10_isWord_80 (by decide) ?_
              refine G_iadd C dX10_isWord_81 ?_
              rw [nI_add]
              refine G_ialdN C rfl (show R.1 + 3 < 72 by omega) (by decide) dX10_isWord_82 ?_
              refine G_iload C dX10_isWord_83 rfl ?_
              refine G_icmp_ne C 113 dX10_isWord_85 (by decide) (fun h85 => ?_) (fun h85 => ?_)
              · refine G_iconst C (0) dX10_isWord_113 (by decide) ?_
                exact G_retR C dX10_isWord_114 (by clear C; first | exact (bl_t (hat.mpr (by grind))).symm | exact (bl_f (fun z => by have z2 := hat.mp z; grind)).symm) rfl
              · refine G_iload C dX10_isWord_88 rfl ?_
                refine G_if_eq C 109 dX10_isWord_90 (by decide) (fun h90 => ?_) (fun h90 => ?_)
                · refine G_iconst C (1) dX10_isWord_109 (by decide) ?_
                  refine G_goto C 114 dX10_isWord_110 (by decide) ?_
                  exact G_retR C dX10_isWord_114 (by clear C; first | exact (bl_t (hat.mpr (by grind))).symm | exact (bl_f (fun z => by have z2 := hat.mp z; grind)).symm) rfl
                · exact absurd h6 h90
set_option maxHeartbeats 4000000 in
set_option maxRecDepth 100000 in
theorem e_X10_isTake {K : Kt} {d : Nat} {M : Mem} {t : Nat → Int32} {n : Nat} {R : RS} (hS : S36 M t n R) : Ri K (d + 1) mX10_isTake [rf K 36] M (bl (r_at t n (wd 0) R = true)) M := by
  refine Ri_bool RX10 [(0, rf K 36)] rfl (by decide) rfl (Nat.le_of_ble_eq_true rfl) rfl bl_or (fun x C => ?_)
  refine G_aload_r C dX10_isTake_0 rfl ?_
  refine G_bipush C (116) dX10_isTake_1 (by decide) ?_
  refine G_bipush C (97) dX10_isTake_3 (by decide) ?_
  refine G_bipush C (107) dX10_isTake_5 (by decide) ?_
  refine G_bipush C (101) dX10_isTake_7 (by decide) ?_
  refine G_iconst C (0) dX10_isTake_9 (by decide) ?_
  refine G_cVr5 C ok_X10_isWord lk_X10_170 rfl rfl (e_X10_isWord hS) (Nat.le_of_ble_eq_true rfl) dX10_isTake_10 ?_
  exact G_retR C dX10_isTake_13 rfl rfl
theorem cap_m {x : Nat} (hx : x < 2 ^ 31) : (if nI x ≤ 1000000 then nI x else 1000000) = nI (min x 1000000) := by
  rw [show (1000000 : Int32) = nI 1000000 from rfl]
  by_cases h : x ≤ 1000000
  · rw [if_pos ((nI_leI (b := 1000000) hx (by decide)).mpr h), Nat.min_eq_left h]
  · rw [if_neg (fun z => h ((nI_leI (b := 1000000) hx (by decide)).mp z)), Nat.min_eq_right (by omega)]
theorem dig_m {v : Int32} (h : 48 ≤ v ∧ v ≤ 57) : ∃ q : Nat, q < 10 ∧ v - 48 = nI q ∧ (v - 48).toNatClampNeg = q := by
  obtain ⟨q, h1, h2, h3⟩ := ix_ex (n := 10) (by decide) (a := v - 48) ⟨by grind, show v - 48 < (10 : Int32) by grind⟩
  exact ⟨q, h1, h2, by rw [h2]; exact h3⟩
theorem asub (a b c : Int32) : a + b - c = a + (b - c) := by grind
set_option maxHeartbeats 4000000 in
set_option maxRecDepth 100000 in
theorem L_X10_number {K : Kt} {d : Nat} {M : Mem} {t : Nat → Int32} {n : Nat} {R : RS} (hS : S36 M t n R) {o : Option Nat} {x : Cx} (hlt : R.1 < R.2.1) (C : Cok K x RX10 cX10_number 3 (d + 1) (RI (fun v N => v = capv 1000000 o ∧ N = M))) :
    ∀ (k i a : Nat), i + k = R.2.1 → o = dfold t k i a → G K x 3 7 [(0, rf K 36), (1, .int (nI (min a 1000000))), (2, .int (nI i))] [] M := by
  obtain ⟨rfl, s2, s3, s4, s5, s6⟩ := id hS
  have o1 := s4.1
  have o2 := s4.2.1
  intro k
  induction k with
  | zero =>
    intro i a h1 ho
    refine G_iload_n C dX10_number_7 rfl ?_
    refine G_aload_r C dX10_number_8 rfl ?_
    refine G_getI C fo_X10_153 rfl rfl dX10_number_9 ?_
    refine G_is (nI R.1) s6.2.1 ?_
    refine G_aload_r C dX10_number_12 rfl ?_
    refine G_getI C fo_X10_156 rfl rfl dX10_number_13 ?_
    refine G_is (nI (R.2.1 - R.1)) s6.2.2 ?_
    refine G_iadd C dX10_number_16 ?_
    rw [nI_add, show R.1 + (R.2.1 - R.1) = R.2.1 by omega]
    refine G_icmp_ge C 72 dX10_number_17 (by decide) (fun h17 => ?_) (fun h17 => ?_)
    · refine G_aload_r C dX10_number_72 rfl ?_
      refine G_getI C fo_X10_156 rfl rfl dX10_number_73 ?_
      refine G_is (nI (R.2.1 - R.1)) s6.2.2 ?_
      refine G_if_ne C 83 dX10_number_76 (by decide) (fun h76 => ?_) (fun h76 => ?_)
      · refine G_iload_n C dX10_number_83 rfl ?_
        exact G_retR C dX10_number_84 (by rw [ho]; rfl) rfl
      · exact absurd h76 (nI_ne0 (by omega) (by omega))
    · exact absurd (nI_le (show R.2.1 ≤ i by omega) (by omega)) h17
  | succ k ih =>
    intro i a h1 ho
    refine G_iload_n C dX10_number_7 rfl ?_
    refine G_aload_r C dX10_number_8 rfl ?_
    refine G_getI C fo_X10_153 rfl rfl dX10_number_9 ?_
    refine G_is (nI R.1) s6.2.1 ?_
    refine G_aload_r C dX10_number_12 rfl ?_
    refine G_getI C fo_X10_156 rfl rfl dX10_number_13 ?_
    refine G_is (nI (R.2.1 - R.1)) s6.2.2 ?_
    refine G_iadd C dX10_number_16 ?_
    rw [nI_add, show R.1 + (R.2.1 - R.1) = R.2.1 by omega]
    refine G_icmp_ge C 72 dX10_number_17 (by decide) (fun h17 => ?_) (fun h17 => ?_)
    · exact absurd ((nI_leI (by omega) (by omega)).mp h17) (by omega)
    · refine G_aload_r C dX10_number_20 rfl ?_
      refine G_getR C fo_X10_69 rfl rfl dX10_number_21 ?_
      refine G_iload_n C dX10_number_24 rfl ?_
      refine G_ialdN C rfl (show i < 72 by omega) (by decide) dX10_number_25 ?_
      refine G_bipush C (48) dX10_number_26 (by decide) ?_
      refine G_bipush C (57) dX10_number_28 (by decide) ?_
      refine G_cSr3 C ok_X10_isIn lk_X10_90 (c_X10_isIn) (Nat.le_of_ble_eq_true rfl) dX10_number_30 ?_
      refine G_if_ne C 38 dX10_number_33 (by decide) (fun h33 => ?_) (fun h33 => ?_)
      · rw [bl_z] at h33
        obtain ⟨q, hq, e1, e2⟩ := dig_m (Decidable.not_not.mp h33)
        refine G_bipush C (nI 10) dX10_number_38 (by decide) ?_
        refine G_iload_n C dX10_number_40 rfl ?_
        refine G_imul C dX10_number_41 ?_
        rw [pk_mul]
        refine G_aload_r C dX10_number_42 rfl ?_
        refine G_getR C fo_X10_69 rfl rfl dX10_number_43 ?_
        refine G_iload_n C dX10_number_46 rfl ?_
        refine G_ialdN C rfl (show i < 72 by omega) (by decide) dX10_number_47 ?_
        refine G_iadd C dX10_number_48 ?_
        refine G_bipush C (48) dX10_number_49 (by decide) ?_
        refine G_isub C dX10_number_51 ?_
        rw [asub, e1, nI_add]
        refine G_istore_n C dX10_number_52 (by decide) ?_
        refine G_join 65 [.int (if nI (10 * min a 1000000 + q) ≤ 1000000 then nI (10 * min a 1000000 + q) else 1000000)] (fun J => ?_) ?_
        · refine G_iload_n C dX10_number_53 rfl ?_
          refine G_ldc C kc_X10_159 dX10_number_54 ?_
          refine G_icmp_le C 64 dX10_number_56 (by decide) (fun h56 => ?_) (fun h56 => ?_)
          · refine G_iload_n C dX10_number_64 rfl ?_
            rw [if_pos h56] at J
            exact J
          · refine G_ldc C kc_X10_159 dX10_number_59 ?_
            refine G_goto C 65 dX10_number_61 (by decide) ?_
            rw [if_neg h56] at J
            exact J
        rw [cap_m (by omega), show min (10 * min a 1000000 + q) 1000000 = min (10 * a + q) 1000000 by omega]
        refine G_istore_n C dX10_number_65 (by decide) ?_
        refine G_iincN C dX10_number_66 (by decide) rfl ?_
        refine G_goto C 7 dX10_number_69 (by decide) ?_
        refine G_sub [(0, _), (1, _), (2, _)] (by repeat (first | refine And.intro rfl ?_ | exact True.intro)) ?_
        exact ih (i + 1) (10 * a + q) (by omega) (by rw [ho]; simp only [dfold]; rw [if_pos (Decidable.not_not.mp h33), e2])
      · rw [bl_z] at h33
        refine G_iconst C (-1) dX10_number_36 (by decide) ?_
        exact G_retR C dX10_number_37 (by rw [ho]; simp only [dfold]; rw [if_neg (by grind)]; rfl) rfl
set_option maxHeartbeats 4000000 in
set_option maxRecDepth 100000 in
theorem e_X10_number {K : Kt} {d : Nat} {M : Mem} {t : Nat → Int32} {n : Nat} {R : RS} (hS : S36 M t n R) : Ri K (d + 1) mX10_number [rf K 36] M (capv 1000000 (dnum t n R)) M := by
  refine Ri_int RX10 [(0, rf K 36)] rfl (by decide) rfl (Nat.le_of_ble_eq_true rfl) rfl (fun x C => ?_)
  by_cases hlt : R.1 < R.2.1
  · refine G_iconst C (nI (min 0 1000000)) dX10_number_0 (by decide) ?_
    refine G_istore_n C dX10_number_1 (by decide) ?_
    refine G_aload_r C dX10_number_2 rfl ?_
    refine G_getI C fo_X10_153 rfl rfl dX10_number_3 ?_
    refine G_is (nI R.1) hS.2.2.2.2.2.2.1 ?_
    refine G_istore_n C dX10_number_6 (by decide) ?_
    refine G_sub [(0, _), (1, _), (2, _)] (by repeat (first | refine And.intro rfl ?_ | exact True.intro)) ?_
    exact L_X10_number hS hlt C (R.2.1 - R.1) R.1 0 (by omega) (by simp only [dnum]; rw [if_pos ⟨hlt, hS.2.2.2.1.2.1⟩])
  · obtain ⟨rfl, s2, s3, s4, s5, s6⟩ := id hS
    have o1 := s4.1
    refine G_iconst C (0) dX10_number_0 (by decide) ?_
    refine G_istore_n C dX10_number_1 (by decide) ?_
    refine G_aload_r C dX10_number_2 rfl ?_
    refine G_getI C fo_X10_153 rfl rfl dX10_number_3 ?_
    refine G_is (nI R.1) hS.2.2.2.2.2.2.1 ?_
    refine G_istore_n C dX10_number_6 (by decide) ?_
    refine G_iload_n C dX10_number_7 rfl ?_
    refine G_aload_r C dX10_number_8 rfl ?_
    refine G_getI C fo_X10_153 rfl rfl dX10_number_9 ?_
    refine G_is (nI R.1) s6.2.1 ?_
    refine G_aload_r C dX10_number_12 rfl ?_
    refine G_getI C fo_X10_156 rfl rfl dX10_number_13 ?_
    refine G_is (nI (R.2.1 - R.1)) s6.2.2 ?_
    refine G_iadd C dX10_number_16 ?_
    rw [nI_add, show R.1 + (R.2.1 - R.1) = R.1 by omega]
    refine G_icmp_ge C 72 dX10_number_17 (by decide) (fun h17 => ?_) (fun h17 => ?_)
    · refine G_aload_r C dX10_number_72 rfl ?_
      refine G_getI C fo_X10_156 rfl rfl dX10_number_73 ?_
      refine G_is (nI (R.2.1 - R.1)) s6.2.2 ?_
      refine G_if_ne C 83 dX10_number_76 (by decide) (fun h76 => ?_) (fun h76 => ?_)
      · exact absurd (by rw [show R.2.1 - R.1 = 0 by omega]; rfl) h76
      · refine G_iconst C (-1) dX10_number_79 (by decide) ?_
        refine G_goto C 84 dX10_number_80 (by decide) ?_
        exact G_retR C dX10_number_84 (by simp only [dnum]; rw [if_neg (fun z => hlt z.1)]; rfl) rfl
    · exact absurd (Int32.le_refl _) h17
set_option maxHeartbeats 4000000 in
set_option maxRecDepth 100000 in
theorem e_X10_isNumber {K : Kt} {d : Nat} {M : Mem} {t : Nat → Int32} {n : Nat} {R : RS} (hS : S36 M t n R) {lo hb : Int32} : Ci K (d + 2) mX10_isNumber [rf K 36, .int lo, .int hb] M (fun r N => r = bl (lo ≤ capv 1000000 (dnum t n (r_step t n R)) ∧ capv 1000000 (dnum t n (r_step t n R)) ≤ hb) ∧ A36 M N ∧ S36 N t n (r_step t n R) ∧ N 36 31 = capv 1000000 (dnum t n (r_step t n R))) := by
  refine Ci_bool RX10 [(0, rf K 36), (1, .int lo), (2, .int hb)] rfl (by decide) rfl (Nat.le_of_ble_eq_true rfl) rfl (fun v N h => by rw [h.1]; exact bl_or) (fun x C => ?_)
  refine G_aload_r C dX10_isNumber_0 rfl ?_
  refine G_cVv0 C ok_X10_next lk_X10_160 rfl rfl (e_X10_next hS) (Nat.le_of_ble_eq_true rfl) dX10_isNumber_1 (fun N hq => ?_)
  obtain ⟨ha, hT⟩ := hq
  refine G_aload_r C dX10_isNumber_4 rfl ?_
  refine G_aload_r C dX10_isNumber_5 rfl ?_
  refine G_cVr0 C ok_X10_number lk_X10_163 rfl rfl (e_X10_number hT) (Nat.le_of_ble_eq_true rfl) dX10_isNumber_6 ?_
  refine G_putI C fp_X10_167 rfl rfl dX10_isNumber_9 ?_
  refine G_aload_r C dX10_isNumber_12 rfl ?_
  refine G_getI C fo_X10_167 rfl rfl dX10_isNumber_13 ?_
  refine G_is (capv 1000000 (dnum t n (r_step t n R))) wr_s ?_
  refine G_iload_n C dX10_isNumber_16 rfl ?_
  refine G_iload_n C dX10_isNumber_17 rfl ?_
  refine G_cSr3 C ok_X10_isIn lk_X10_90 (c_X10_isIn) (Nat.le_of_ble_eq_true rfl) dX10_isNumber_18 ?_
  refine G_ret C dX10_isNumber_21 ⟨rfl, ha.tr (A36.wr (by decide)), ?_, wr_s⟩
  exact hT.op (A36.wr (by decide)) hT.2.2.2.1 hT.2.2.2.2.1 ⟨(wr_f (by decide)).trans hT.2.2.2.2.2.1, (wr_f (by decide)).trans hT.2.2.2.2.2.2.1, (wr_f (by decide)).trans hT.2.2.2.2.2.2.2⟩
