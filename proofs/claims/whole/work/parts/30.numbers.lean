theorem n_ex {v : Int32} {c : Nat} {b : Int32} (hb : b = nI c) (hc : c < 2 ^ 31) (h : 0 ≤ v ∧ v ≤ b) : ∃ a : Nat, a ≤ c ∧ v = nI a := by
  subst hb
  obtain ⟨a, h1, h2, _⟩ := ix_le hc h
  exact ⟨a, h1, h2⟩
theorem i100 : (100 : Int32) = nI 100 := rfl
theorem lit_lt {v : Int32} {c a : Nat} (hv : v = nI c) (hc : c < 2 ^ 31) (ha : a < 2 ^ 31) : v < nI a ↔ c < a := by
  subst hv
  exact nI_ltI hc ha
theorem lit_ge {v : Int32} {c a : Nat} (hv : v = nI c) (hc : c < 2 ^ 31) (ha : a < 2 ^ 31) : nI a ≤ v ↔ a ≤ c := by
  subst hv
  exact nI_leI ha hc
theorem less_le {a o p : Nat} (ho : o ≤ 5) (hp : p ≤ 20) : o * (a * p / 100) ≤ a := by
  have h1 : a * p ≤ a * 20 := Nat.mul_le_mul_left a hp
  have h2 : a * p / 100 ≤ a / 5 := by omega
  have h3 : o * (a * p / 100) ≤ 5 * (a / 5) := Nat.mul_le_mul ho h2
  omega
theorem less_le7 {a o p : Nat} (ho : o ≤ 7) (hp : p ≤ 14) : o * (a * p / 100) ≤ a := by
  have h1 : a * p ≤ a * 14 := Nat.mul_le_mul_left a hp
  have h2 : a * p / 100 ≤ a * 14 / 100 := by omega
  have h3 : o * (a * p / 100) ≤ 7 * (a * 14 / 100) := Nat.mul_le_mul ho h2
  omega
theorem less_n {a o p : Nat} (ha : a ≤ 200000) (hp : p ≤ 20) (hle : o * (a * p / 100) ≤ a) : nI a - nI o * (nI a * nI p / 100) = nI (a - o * (a * p / 100)) := by
  have h1 : a * p ≤ 200000 * 20 := Nat.mul_le_mul ha hp
  rw [i100, pk_mul, pk_div (by omega) (by decide) (by decide), pk_mul, pk_sub hle]
theorem ilo_n {a o p : Nat} (ha : a ≤ 100000) (ho : o ≤ 5) (hp : p ≤ 20) : ∃ i : Nat, i ≤ a ∧ x_inc (nI a) (nI o) (nI p) = nI i ∧ m_ilo (nI a) (nI o) (nI p) = nI i := by
  have hle := less_le (a := a) ho hp
  have e := less_n (a := a) (o := o) (p := p) (by omega) hp hle
  refine ⟨a - o * (a * p / 100), by omega, ?_, ?_⟩
  · simp only [x_inc, e]
    by_cases h0 : a - o * (a * p / 100) = 0
    · rw [h0]; decide
    · rw [if_pos ((lit_lt (v := 0) (c := 0) rfl (by decide) (a := a - o * (a * p / 100)) (by omega)).mpr (by omega))]
  · simp only [m_ilo, e]
    rw [if_pos (nI_pos' (by omega))]
theorem low_n {i : Nat} {bo ov : Int32} (hi : i ≤ 100000) (hB : BB bo ov) (h1 : ov ≤ 100000) : ∃ l : Nat, l ≤ i ∧ x_low (nI i) bo = nI l ∧ m_low (nI i) ov = nI l := by
  rcases hB with ⟨h2, h3⟩ | ⟨h2, h3⟩
  · refine ⟨i, Nat.le_refl _, ?_, ?_⟩
    · simp only [x_low, h3]
      rw [if_neg (fun z => by have := (lit_lt (v := 1000000000) (c := 1000000000) rfl (by decide) (a := i) (by omega)).mp z; omega)]
    · simp only [m_low]
      rw [if_pos (Or.inl h2)]
  · obtain ⟨v, hv, rfl⟩ := n_ex (v := ov) (c := 100000) rfl (by decide) ⟨h2, h1⟩
    refine ⟨min v i, Nat.min_le_right _ _, ?_, ?_⟩
    · simp only [x_low, h3]
      by_cases h : v < i
      · rw [if_pos ((nI_ltI (a := v) (b := i) (by omega) (by omega)).mpr h), Nat.min_eq_left (by omega)]
      · rw [if_neg (fun z => h ((nI_ltI (a := v) (b := i) (by omega) (by omega)).mp z)), Nat.min_eq_right (by omega)]
    · simp only [m_low]
      by_cases h : i < v
      · rw [if_pos (Or.inr ((nI_ltI (a := i) (b := v) (by omega) (by omega)).mpr h)), Nat.min_eq_right (by omega)]
      · rw [if_neg (fun z => by
          rcases z with z | z
          · exact nI_pos (by omega) z
          · exact h ((nI_ltI (a := i) (b := v) (by omega) (by omega)).mp z)), Nat.min_eq_left (by omega)]
theorem mul_c : ∀ c : Nat, 1 ≤ c → c ≤ 4 → htab.getD (nI c).toNatClampNeg 0 = m_mul (nI c) ∧ ∃ u : Nat, u ≤ 200 ∧ m_mul (nI c) = nI u := by
  intro c h1 h2
  rcases (show c = 1 ∨ c = 2 ∨ c = 3 ∨ c = 4 by omega) with rfl | rfl | rfl | rfl
  · exact ⟨by decide, 100, by decide, by decide⟩
  · exact ⟨by decide, 150, by decide, by decide⟩
  · exact ⟨by decide, 180, by decide, by decide⟩
  · exact ⟨by decide, 200, by decide, by decide⟩
theorem chi_n {i c s m : Nat} {bo ov : Int32} (hi : i ≤ 100000) (hc : 1 ≤ c ∧ c ≤ 4) (hs : s ≤ 60) (hm : m ≤ 60) (hB : BB bo ov) (h1 : ov ≤ 100000) : ∃ v : Nat, v ≤ 120000 ∧ x_chi (nI i) (nI c) (nI s) bo (nI m) = nI v ∧ m_chi (nI i) (nI c) (nI s) ov (nI m) = nI v := by
  obtain ⟨l, hl, e1, e2⟩ := low_n hi hB h1
  obtain ⟨hu, u, hu2, e3⟩ := mul_c c hc.1 hc.2
  have b1 : l * s ≤ l * 60 := Nat.mul_le_mul_left l hs
  have b2 : (i - l) * m ≤ (i - l) * 60 := Nat.mul_le_mul_left _ hm
  have b3 : l * s / 100 + (i - l) * m / 100 ≤ 60000 := by omega
  have b4 : (l * s / 100 + (i - l) * m / 100) * u ≤ 60000 * 200 := Nat.mul_le_mul b3 hu2
  have key : (nI l * nI s / 100 + (nI i - nI l) * nI m / 100) * nI u / 100 = nI ((l * s / 100 + (i - l) * m / 100) * u / 100) := by
    rw [i100, pk_mul, pk_div (by omega) (by decide) (by decide), pk_sub hl, pk_mul, pk_div (by omega) (by decide) (by decide), nI_add, pk_mul, pk_div (by omega) (by decide) (by decide)]
  refine ⟨(l * s / 100 + (i - l) * m / 100) * u / 100, by omega, ?_, ?_⟩
  · simp only [x_chi, e1, hu, e3]; exact key
  · simp only [m_chi, e2, e3]; exact key
theorem nig_n {v k p : Nat} {le mo ms : Int32} (hv : v ≤ 120000) (hk : k ≤ 7) (hp : p ≤ 14) (hle : 0 ≤ le ∧ le ≤ 100000) (hB : BB mo ms) : x_nig (nI v) (nI k) (nI p) le mo = m_nig (nI v) (nI k) (nI p) le ms ∧ 0 ≤ m_nig (nI v) (nI k) (nI p) le ms ∧ m_nig (nI v) (nI k) (nI p) le ms ≤ 120000 := by
  have hl := less_le7 (a := v) hk hp
  have e := less_n (a := v) (o := k) (p := p) (by omega) (by omega) hl
  have r1 : ∃ T : Nat, T ≤ 120000 ∧ x_les (nI v) (nI k) (nI p) = nI T ∧ m_les (nI v) (nI k) (nI p) = nI T := by
    refine ⟨v - k * (v * p / 100), by omega, ?_, ?_⟩
    · simp only [x_les, e]
      by_cases h0 : v - k * (v * p / 100) = 0
      · rw [h0]; decide
      · rw [if_pos ((lit_lt (v := 0) (c := 0) rfl (by decide) (a := v - k * (v * p / 100)) (by omega)).mpr (by omega))]
    · simp only [m_les, e]
  obtain ⟨T, hT, e1, e2⟩ := r1
  have hT0 : 0 ≤ nI T := nI_pos' (by omega)
  have hT1 : nI T ≤ 120000 := (lit_ge (c := 120000) rfl (by decide) (by omega)).mpr hT
  have e3 : x_lea (nI v) (nI k) (nI p) le = m_lea (nI v) (nI k) (nI p) le := by
    simp only [x_lea, m_lea, e1, e2]
    grind
  have e4 : 0 ≤ m_lea (nI v) (nI k) (nI p) le ∧ m_lea (nI v) (nI k) (nI p) le ≤ 120000 := by
    simp only [m_lea, e2]
    grind
  simp only [x_nig, m_nig, e3]
  generalize m_lea (nI v) (nI k) (nI p) le = z at e4 ⊢
  rcases hB with ⟨b1, b2⟩ | ⟨b1, b2⟩ <;> grind
section SU
variable {M : Mem} {nc nl nb nt nw : Nat}
theorem inc_r (h : IV M nc nl nb nt nw) (k w : Int32) : ∃ a : Nat, a ≤ 100000 ∧ s_inc (M 38) (mbest M nc 3 k w) (mbest M nc 1 k w) = nI a := by
  have hv : ∀ kd, kd ≠ 2 → ∀ q, mbest M nc kd k w = some q → 0 ≤ M 38 q ∧ M 38 q ≤ 100000 := fun kd hk q hq => by
    have h1 := s_best_lt hq
    have h2 := s_best_p hq
    simp at h2
    exact okb_v (h.2.2.2.1.2.2.2.2 q h1).1 (by rw [h2.1]; exact hk)
  cases e3 : mbest M nc 3 k w with
  | some q => simp only [s_inc]; exact n_ex rfl (by decide) (hv 3 (by decide) q e3)
  | none =>
    cases e1 : mbest M nc 1 k w with
    | some q => simp only [s_inc]; exact n_ex rfl (by decide) (hv 1 (by decide) q e1)
    | none => exact ⟨0, by decide, rfl⟩
theorem oth_r (h : IV M nc nl nb nt nw) (k w : Int32) : ∃ a : Nat, a ≤ 5 ∧ s_oth (M 38) (mbest M nc 0 k w) = nI a := by
  cases e0 : mbest M nc 0 k w with
  | none => exact ⟨0, by decide, rfl⟩
  | some q =>
    have h1 := s_best_lt e0
    have h2 := s_best_p e0
    simp at h2
    have h3 := (h.2.2.2.1.2.2.2.2 q h1).1
    rw [h2.1] at h3
    simp only [s_oth]
    exact n_ex (b := 5) rfl (by decide) (okb_5 h3)
theorem kid_r (v : Int32) (h : ¬ s_kid v = 0) : ∃ c : Nat, (1 ≤ c ∧ c ≤ 4) ∧ s_kid v = nI c := by
  have hr := s_kid_r v
  obtain ⟨c, hc, e⟩ := n_ex (v := s_kid v) (b := 4) (c := 4) rfl (by decide) (by grind)
  refine ⟨c, ⟨?_, hc⟩, e⟩
  rcases Nat.eq_zero_or_pos c with z | z
  · subst z; exact absurd e h
  · exact z
theorem sum_eq (h : IV M nc nl nb nt nw) (w k : Int32) {n : Int32} (hn : 0 ≤ n ∧ n ≤ 7) : xsumv M nl nc w n k = msumv M nl nc w n k ∧ 0 ≤ msumv M nl nc w n k ∧ msumv M nl nc w n k ≤ 120000 := by
  have e3 : M 3 = M 38 := h.2.2.2.1.2.1
  simp only [xsumv, msumv, lb_eq h, kids_eq h, best_eq h, e3]
  cases el : mlb M nl w with
  | none => dsimp only; exact ⟨rfl, by decide, by decide⟩
  | some l =>
    have hl := s_best_lt el
    obtain ⟨l0, l1, l2, l3, l4, l5, l6, l7, r1, r2, r3, r4, r5, r6, r7⟩ := h.2.2.2.2.2.2.1 l hl
    dsimp only
    by_cases hk : s_kid (mkids M nc k w) = 0
    · rw [if_pos hk, if_pos hk]; exact ⟨rfl, by decide, by decide⟩
    · rw [if_neg hk, if_neg hk]
      obtain ⟨c, hc, ec⟩ := kid_r _ hk
      obtain ⟨a, ha, ea⟩ := inc_r h k w
      obtain ⟨o, ho, eo⟩ := oth_r h k w
      obtain ⟨q5, h5, e5⟩ := n_ex (v := M 49 l) (b := 20) (c := 20) rfl (by decide) r5
      obtain ⟨q1, h1, e1⟩ := n_ex (v := M 45 l) (b := 60) (c := 60) rfl (by decide) r1
      obtain ⟨q3, h3, e3'⟩ := n_ex (v := M 47 l) (b := 60) (c := 60) rfl (by decide) r3
      obtain ⟨q4, h4, e4⟩ := n_ex (v := M 48 l) (b := 14) (c := 14) rfl (by decide) r4
      obtain ⟨nn, hnn, en⟩ := n_ex (v := n) (b := 7) (c := 7) rfl (by decide) hn
      rw [l1, l3, l4, l5, l6, ec, ea, eo, e5, e1, e3', e4, en]
      obtain ⟨i, hi, i1, i2⟩ := ilo_n ha ho h5
      rw [i1, i2]
      obtain ⟨v, hv, v1, v2⟩ := chi_n (i := i) (by omega) hc h1 h3 l2 r2
      rw [v1, v2]
      exact nig_n hv hnn h4 r6 l7
theorem due_eq (h : IV M nc nl nb nt nw) (s k : Int32) {w : Nat} (hw : w < 120) : xduev M nl nc s k w = mduev M nl nc s k w ∧ 0 ≤ mduev M nl nc s k w ∧ mduev M nl nc s k w ≤ 120000 := by
  have ef : M 35 = M 43 := h.2.2.2.2.2.1
  have s0 := sum_eq h (nI w) k (mend_r h hw false)
  have s1 := sum_eq h (nI w) k (mend_r h hw true)
  simp only [xduev, mduev, ef, end_eq h hw, s0.1, s1.1]
  refine ⟨trivial, ?_⟩
  generalize msumv M nl nc (nI w) (mend M w false) k = a at s0 ⊢
  generalize msumv M nl nc (nI w) (mend M w true) k = b at s1 ⊢
  grind
theorem pays_eq (h : IV M nc nl nb nt nw) (w : Int32) : xpays M w nb = mpays M w nb := by
  obtain ⟨b1, b2, b3, b4, -⟩ := h.2.2.2.2.2.2.2.1
  simp only [xpays, mpays, b1, b2, b3, b4]
theorem pays_r (h : IV M nc nl nb nt nw) (w : Int32) : ∀ n, n ≤ nb → ∃ c : Nat, c ≤ 1000000 * n ∧ mpays M w n = nI c
  | 0, _ => ⟨0, Nat.zero_le _, rfl⟩
  | n + 1, hn => by
    obtain ⟨c, hc, e⟩ := pays_r h w n (by omega)
    by_cases hp : M 52 n ≤ w ∧ payb (M 36 22) (M 54) n = true
    · obtain ⟨v, hv, ev⟩ := n_ex (v := M 53 n) (b := 1000000) (c := 1000000) rfl (by decide) (by have := h.2.2.2.2.2.2.2.1.2.2.2.2 n (by omega); grind)
      refine ⟨c + v, by omega, ?_⟩
      show s_pays _ _ _ _ _ _ = _
      rw [← s_pays_t hp.1 hp.2]
      have e' : s_pays (M 52) (M 53) (M 54) (M 36 22) w n = nI c := e
      rw [e', ev, nI_add]
    · refine ⟨c, by omega, ?_⟩
      show s_pays _ _ _ _ _ _ = _
      rw [← s_pays_f hp]
      exact e
end SU
-- paying, the oldest first
theorem tot_n {D : Nat → Int32} {f : Nat → Nat} : ∀ {n : Nat}, (∀ i, i < n → D i = nI (f i)) → ∃ T : Nat → Nat, T 0 = 0 ∧ (∀ i, i < n → T (i + 1) = T i + f i) ∧ ∀ i, i ≤ n → s_tot D i = nI (T i)
  | 0, _ => ⟨fun _ => 0, rfl, fun i h => by omega, fun i h => by rw [show i = 0 by omega]; rfl⟩
  | n + 1, h => by
    obtain ⟨T, t0, t1, t2⟩ := tot_n (n := n) (fun i hi => h i (by omega))
    refine ⟨fun i => if i = n + 1 then T n + f n else T i, by simp [t0], fun i hi => ?_, fun i hi => ?_⟩
    · by_cases e : i = n
      · subst e; simp
      · dsimp only; rw [if_neg (by omega), if_neg (by omega)]; exact t1 i (by omega)
    · by_cases e : i = n + 1
      · subst e
        simp only [s_tot, if_true]
        rw [t2 n (by omega), h n (by omega), nI_add]
      · dsimp only; rw [if_neg e]; exact t2 i (by omega)
theorem tot_le {f T : Nat → Nat} {n B : Nat} (t0 : T 0 = 0) (t1 : ∀ i, i < n → T (i + 1) = T i + f i) (hf : ∀ i, i < n → f i ≤ B) : ∀ i, i ≤ n → T i ≤ B * i
  | 0, _ => by rw [t0]; exact Nat.zero_le _
  | i + 1, h => by
    have := tot_le t0 t1 hf i (by omega)
    have h2 := hf i (by omega)
    rw [t1 i (by omega), Nat.mul_succ]
    omega
theorem rest_n {D : Nat → Int32} {f T : Nat → Nat} {c n : Nat} (hf : ∀ i, i < n → D i = nI (f i)) (hb : ∀ i, i < n → f i < 2 ^ 31) (hc : c < 2 ^ 31) (t0 : T 0 = 0) (t1 : ∀ i, i < n → T (i + 1) = T i + f i) : ∀ i, i ≤ n → s_rest D (nI c) i = nI (c - T i)
  | 0, _ => by simp only [s_rest]; rw [t0]; rfl
  | i + 1, h => by
    have ih := rest_n hf hb hc t0 t1 i (by omega)
    have hbi := hb i (by omega)
    simp only [s_rest, ih, hf i (by omega), s_part]
    rw [t1 i (by omega)]
    by_cases hl : f i < c - T i
    · rw [if_pos ((nI_ltI hbi (by omega)).mpr hl), pk_sub (by omega)]
      congr 1
      omega
    · rw [if_neg (fun z => hl ((nI_ltI hbi (by omega)).mp z)), pk_sub (Nat.le_refl _)]
      congr 1
      omega
theorem lft_n {D : Nat → Int32} {f T : Nat → Nat} {c n : Nat} (hf : ∀ i, i < n → D i = nI (f i)) (hb : ∀ i, i < n → f i < 2 ^ 31) (hc : c < 2 ^ 31) (t0 : T 0 = 0) (t1 : ∀ i, i < n → T (i + 1) = T i + f i) {i : Nat} (hi : i < n) : s_lft D (nI c) i = nI (f i - (c - T i)) := by
  have hbi := hb i hi
  simp only [s_lft, rest_n hf hb hc t0 t1 i (by omega), hf i hi, s_part]
  by_cases hl : f i < c - T i
  · rw [if_pos ((nI_ltI hbi (by omega)).mpr hl), pk_sub (Nat.le_refl _)]
    congr 1
    omega
  · rw [if_neg (fun z => hl ((nI_ltI hbi (by omega)).mp z)), pk_sub (by omega)]
theorem lby_n {D : Nat → Int32} {f T : Nat → Nat} {c n : Nat} (hf : ∀ i, i < n → D i = nI (f i)) (hb : ∀ i, i < n → f i < 2 ^ 30) (hc : c < 2 ^ 30) (t1 : ∀ i, i < n → T (i + 1) = T i + f i) (t2 : ∀ i, i ≤ n → s_tot D i = nI (T i)) (hT : ∀ i, i ≤ n → T i < 2 ^ 30) {i : Nat} (hi : i < n) : mlf D (nI c) i = nI (f i - (c - T i)) := by
  have hbi := hb i hi
  have hTi := hT (i + 1) (by omega)
  have e := t1 i hi
  simp only [mlf, s_lby, t2 (i + 1) (by omega), hf i hi]
  by_cases hl : c ≤ T (i + 1)
  · rw [pk_sub hl, if_pos (nI_pos' (by omega))]
    by_cases h2 : f i ≤ T (i + 1) - c
    · rw [if_pos ((nI_leI (by omega) (by omega)).mpr h2)]
      congr 1
      omega
    · rw [if_neg (fun z => h2 ((nI_leI (by omega) (by omega)).mp z))]
      congr 1
      omega
  · have h3 := pk_sneg (a := T (i + 1)) (b := c) hc (by omega)
    rw [if_neg (by grind), show f i - (c - T i) = 0 by omega]
    rfl
theorem tot_lft {D : Nat → Int32} {f T : Nat → Nat} {c n : Nat} (hl : ∀ i, i < n → D i = nI (f i - (c - T i))) (t0 : T 0 = 0) (t1 : ∀ i, i < n → T (i + 1) = T i + f i) : ∀ i, i ≤ n → s_tot D i = nI (T i - c)
  | 0, _ => by simp only [s_tot]; rw [t0, Nat.zero_sub]; rfl
  | i + 1, h => by
    simp only [s_tot]
    rw [tot_lft hl t0 t1 i (by omega), hl i (by omega), nI_add, t1 i (by omega)]
    congr 1
    omega
theorem cl_n {a b : Nat} (ha : a < 2 ^ 30) (hb : b < 2 ^ 30) : s_cl (nI a - nI b) = nI (a - b) := by
  simp only [s_cl]
  by_cases h : b ≤ a
  · rw [pk_sub h, if_pos (nI_pos' (by omega))]
  · have h3 := pk_sneg (a := a) (b := b) hb (by omega)
    rw [if_neg (by grind), show a - b = 0 by omega]
    rfl
/-- all that the accounts need: both ways of paying are one -/
theorem pay_all {D : Nat → Int32} {c : Int32} {n cc : Nat} (hn : n ≤ 120) (hD : ∀ i, i < n → 0 ≤ D i ∧ D i ≤ 120000) (hc : c = nI cc) (hcc : cc ≤ 100000000) : (∀ i, i < n → s_lft D c i = mlf D c i) ∧ (∀ k, k ≤ n → s_tot (s_lft D c) k = s_cl (s_tot D k - c)) ∧ ∀ k, k ≤ n → s_rest D c k = s_cl (c - s_tot D k) := by
  subst hc
  have hex : ∃ f : Nat → Nat, ∀ i, i < n → D i = nI (f i) ∧ f i ≤ 120000 := by
    refine ⟨fun i => (D i).toNatClampNeg, fun i hi => ?_⟩
    obtain ⟨a, ha, e⟩ := n_ex (v := D i) (b := 120000) (c := 120000) rfl (by decide) (hD i hi)
    show D i = nI (D i).toNatClampNeg ∧ (D i).toNatClampNeg ≤ 120000
    rw [e, nI_clamp (by omega)]
    exact ⟨rfl, ha⟩
  obtain ⟨f, hf⟩ := hex
  obtain ⟨T, t0, t1, t2⟩ := tot_n (D := D) (f := f) (n := n) (fun i hi => (hf i hi).1)
  have hT := tot_le t0 t1 (fun i hi => (hf i hi).2)
  have hT' : ∀ i, i ≤ n → T i < 2 ^ 30 := fun i hi => by
    have h1 := hT i hi
    have h2 : 120000 * i ≤ 120000 * 120 := Nat.mul_le_mul_left _ (by omega)
    omega
  have hl : ∀ i, i < n → s_lft D (nI cc) i = nI (f i - (cc - T i)) := fun i hi => lft_n (fun i hi => (hf i hi).1) (fun i hi => by have := (hf i hi).2; omega) (by omega) t0 t1 hi
  refine ⟨fun i hi => ?_, fun k hk => ?_, fun k hk => ?_⟩
  · rw [hl i hi, lby_n (fun i hi => (hf i hi).1) (fun i hi => by have := (hf i hi).2; omega) (by omega) t1 t2 hT' hi]
  · rw [tot_lft hl t0 t1 k hk, t2 k hk, cl_n (hT' k hk) (by omega)]
  · rw [rest_n (fun i hi => (hf i hi).1) (fun i hi => by have := (hf i hi).2; omega) (by omega) t0 t1 k hk, t2 k hk, cl_n (by omega) (hT' k hk)]
