theorem fa_lt (a b : Int32) : a < b ↔ a.toInt < b.toInt := Int32.lt_iff_toInt_lt
theorem fa_le (a b : Int32) : a ≤ b ↔ a.toInt ≤ b.toInt := Int32.le_iff_toInt_le
theorem fa_eq (a b : Int32) : a = b ↔ a.toInt = b.toInt := Int32.toInt_inj.symm
def bl (p : Prop) [Decidable p] : Int32 := if p then 1 else 0
theorem bl_t {p : Prop} [Decidable p] (h : p) : bl p = 1 := if_pos h
theorem bl_f {p : Prop} [Decidable p] (h : ¬ p) : bl p = 0 := if_neg h
theorem bl_z {p : Prop} [Decidable p] : (bl p = 0) ↔ ¬ p := by
  by_cases h : p
  · rw [bl_t h]; simp [h]
  · rw [bl_f h]; simp [h]
theorem bl_o {p : Prop} [Decidable p] : (bl p = 1) ↔ p := by
  by_cases h : p
  · rw [bl_t h]; simp [h]
  · rw [bl_f h]; simp [h]
theorem bl_c {p q : Prop} [Decidable p] [Decidable q] (h : p ↔ q) : bl p = bl q := by
  by_cases hp : p
  · rw [bl_t hp, bl_t (h.mp hp)]
  · rw [bl_f hp, bl_f (fun hq => hp (h.mpr hq))]
theorem bl_or {p : Prop} [Decidable p] : bl p = 0 ∨ bl p = 1 := by
  by_cases hp : p
  · exact Or.inr (bl_t hp)
  · exact Or.inl (bl_f hp)
theorem nar_01 {v : Int32} (h : v = 0 ∨ v = 1) : narrow .boolean (.int v) = .int v := by
  rcases h with rfl | rfl <;> decide
theorem nar_bl {p : Prop} [Decidable p] : narrow .boolean (.int (bl p)) = .int (bl p) := nar_01 bl_or
theorem cat_all {av : List Value} (h : av.all (fun v => v.category == 1) = true) : ∀ v ∈ av, v.category = 1 := fun v hv => by
  have := List.all_eq_true.mp h v hv
  simpa using this
section UT
variable {K : Kt} {d : Nat} {y : MethodName} {cc : ByteArray} {nL : Nat} {av : List Value} {M : Mem}
theorem Ci_int {Q : Int32 → Mem → Prop} (own : String) (lv : List (Nat × Value)) (h1 : y.cls = own) (h2 : plainName own = true) (h3 : la 0 av = lv) (h4 : (lg_sl av).length ≤ nL) (h5 : av.all (fun v => v.category == 1) = true) (body : ∀ x : Cx, Cok K x own cc nL d (RI Q) → G K x nL 0 lv [] M) : Ci K d (y, cc, nL, some .int) av M Q := Ci.ofG own h1 h2 (fun v N h => vp_nar_int v) lv h3 h4 (cat_all h5) body
theorem Ri_int {r : Int32} {M' : Mem} (own : String) (lv : List (Nat × Value)) (h1 : y.cls = own) (h2 : plainName own = true) (h3 : la 0 av = lv) (h4 : (lg_sl av).length ≤ nL) (h5 : av.all (fun v => v.category == 1) = true) (body : ∀ x : Cx, Cok K x own cc nL d (RI (fun v N => v = r ∧ N = M')) → G K x nL 0 lv [] M) : Ri K d (y, cc, nL, some .int) av M r M' := Ci.ofG own h1 h2 (fun v N h => vp_nar_int v) lv h3 h4 (cat_all h5) body
theorem Ri_bool {r : Int32} {M' : Mem} (own : String) (lv : List (Nat × Value)) (h1 : y.cls = own) (h2 : plainName own = true) (h3 : la 0 av = lv) (h4 : (lg_sl av).length ≤ nL) (h5 : av.all (fun v => v.category == 1) = true) (hr : r = 0 ∨ r = 1) (body : ∀ x : Cx, Cok K x own cc nL d (RI (fun v N => v = r ∧ N = M')) → G K x nL 0 lv [] M) : Ri K d (y, cc, nL, some .boolean) av M r M' := Ci.ofG own h1 h2 (fun v N h => by rw [h.1]; exact nar_01 hr) lv h3 h4 (cat_all h5) body
theorem Ci_bool {Q : Int32 → Mem → Prop} (own : String) (lv : List (Nat × Value)) (h1 : y.cls = own) (h2 : plainName own = true) (h3 : la 0 av = lv) (h4 : (lg_sl av).length ≤ nL) (h5 : av.all (fun v => v.category == 1) = true) (hr : ∀ v N, Q v N → v = 0 ∨ v = 1) (body : ∀ x : Cx, Cok K x own cc nL d (RI Q) → G K x nL 0 lv [] M) : Ci K d (y, cc, nL, some .boolean) av M Q := Ci.ofG own h1 h2 (fun v N h => nar_01 (hr v N h)) lv h3 h4 (cat_all h5) body
theorem Cv_of {Q : Mem → Prop} (own : String) (lv : List (Nat × Value)) (h1 : y.cls = own) (h2 : plainName own = true) (h3 : la 0 av = lv) (h4 : (lg_sl av).length ≤ nL) (h5 : av.all (fun v => v.category == 1) = true) (body : ∀ x : Cx, Cok K x own cc nL d (RV Q) → G K x nL 0 lv [] M) : Cv K d (y, cc, nL, none) av M Q := Cv.ofG own h1 h2 lv h3 h4 (cat_all h5) body
theorem Rv_of {M' : Mem} (own : String) (lv : List (Nat × Value)) (h1 : y.cls = own) (h2 : plainName own = true) (h3 : la 0 av = lv) (h4 : (lg_sl av).length ≤ nL) (h5 : av.all (fun v => v.category == 1) = true) (body : ∀ x : Cx, Cok K x own cc nL d (RV (fun N => N = M')) → G K x nL 0 lv [] M) : Rv K d (y, cc, nL, none) av M M' := Cv.ofG own h1 h2 lv h3 h4 (cat_all h5) body
end UT
theorem G_iincN {K : Kt} {x : Cx} {own : String} {cc : ByteArray} {nL d : Nat} {Rp : Option Int32 → Mem → Prop} {pc : Nat} {lv : List (Nat × Value)} {st : List Value} {M : Mem} (C : Cok K x own cc nL d Rp) {i j : Nat} (hd : decode cc pc = .ok (.iinc i 1, 3)) (hi : i < nL) (hl : lk lv i = some (.int (nI j))) (k : G K x nL (pc + 3) ((i, .int (nI (j + 1))) :: lv) st M) : G K x nL pc lv st M := G_iinc C hd hi hl (nI_1 j) k
theorem Ri.eq {K : Kt} {d : Nat} {q : Mt} {av : List Value} {M M' N' : Mem} {r r' : Int32} (h : Ri K d q av M r M') (e1 : r = r') (e2 : M' = N') : Ri K d q av M r' N' := by subst e1; subst e2; exact h
theorem Ci.mono {K : Kt} {d : Nat} {q : Mt} {av : List Value} {M : Mem} {Q Q' : Int32 → Mem → Prop} (h : Ci K d q av M Q) (hq : ∀ r N, Q r N → Q' r N) : Ci K d q av M Q' := fun sz p e a1 a2 a3 s m args below a4 a5 a6 a7 => by
  have := h sz p e a1 a2 a3 s m args below a4 a5 a6 a7
  obtain ⟨t, o, b1, b2, b3, ⟨⟨⟨r, u, c1, c2, c3⟩, c4⟩, b5⟩⟩ := this
  exact ⟨t, o, b1, b2, b3, ⟨⟨⟨r, u, c1, hq r u c2, c3⟩, c4⟩, b5⟩⟩
theorem wr_s {M : Mem} {i j : Nat} {v : Int32} : wr M i j v i j = v := by simp [wr, va_up]
theorem wr_c {M : Mem} {i j a : Nat} {v : Int32} (h : a ≠ i) : wr M i j v a = M a := by simp [wr, va_up, h]
theorem wr_f {M : Mem} {i j b : Nat} {v : Int32} (h : b ≠ j) : wr M i j v i b = M i b := by simp [wr, va_up, h]
theorem wr_r {M : Mem} {i j : Nat} {v : Int32} : wr M i j v i = va_up (M i) j v := by simp [wr, va_up]
