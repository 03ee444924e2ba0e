theorem xb_mb {v k : Int32} (h : k = 24 ∨ k = 16 ∨ k = 8 ∨ k = 0) : xb v k = (mb v k).toInt8.toInt32 := by
  have key : ∀ (s : Nat), s ≤ 24 → (v.toBitVec >>> s).signExtend 8 = (v.toBitVec.sshiftRight s &&& 255#32).signExtend 8 := fun s hs => by
    apply BitVec.eq_of_getLsbD_eq
    intro i hi
    simp only [BitVec.getLsbD_signExtend, BitVec.getLsbD_ushiftRight, BitVec.getLsbD_and, BitVec.getLsbD_sshiftRight]
    have h1 : i < 32 := by omega
    have h2 : s + i < 32 := by omega
    have h3 : (255#32).getLsbD i = true := by
      rcases (show i = 0 ∨ i = 1 ∨ i = 2 ∨ i = 3 ∨ i = 4 ∨ i = 5 ∨ i = 6 ∨ i = 7 by omega) with rfl | rfl | rfl | rfl | rfl | rfl | rfl | rfl <;> decide
    have h4 : ¬ 32 ≤ i := by omega
    have h5 : (255#32)[i] = true := by rw [← BitVec.getLsbD_eq_getElem]; exact h3
    simp [h1, h2, h5, hi, h4]
  unfold xb mb
  congr 1
  apply Int8.toBitVec_inj.mp
  rcases h with rfl | rfl | rfl | rfl
  · exact key 24 (by omega)
  · exact key 16 (by omega)
  · exact key 8 (by omega)
  · exact key 0 (by omega)
theorem mb_r {v k : Int32} : 0 ≤ mb v k ∧ mb v k ≤ 255 := by
  unfold mb
  generalize v >>> (k &&& 31) = z
  have h1 : (z &&& 255).toBitVec = z.toBitVec &&& 255#32 := rfl
  have h2 : (z &&& 255).toBitVec.toNat ≤ 255 := by
    rw [h1, BitVec.toNat_and]
    exact Nat.and_le_right
  have h3 : (z &&& 255).toInt = (z &&& 255).toBitVec.toNat := by
    show (z &&& 255).toBitVec.toInt = _
    rw [BitVec.toInt_eq_toNat_of_lt (by omega)]
  rw [fa_le, fa_le, h3]
  constructor
  · show (0 : Int) ≤ _
    omega
  · show _ ≤ (255 : Int)
    omega
def bR (c8 c55 : Int32) : Prop := 0 ≤ c55 ∧ c55 ≤ 255 ∧ c8 = c55.toInt8.toInt32
theorem bR_o {v k : Int32} (h : k = 24 ∨ k = 16 ∨ k = 8 ∨ k = 0) : bR (xb v k) (mb v k) := ⟨mb_r.1, mb_r.2, xb_mb h⟩
/-- four bytes more on both tapes -/
theorem put_T {M N : Mem} {n : Nat} {v : Int32} (h : ∀ j, j < n → bR (M 8 j) (N 55 j)) : ∀ j, j < n + 4 → bR (putX M n v 8 j) (putM N n v 55 j) := fun j hj => by
  have e1 : putX M n v 8 = va_up (va_up (va_up (va_up (M 8) n (xb v 24)) (n + 1) (xb v 16)) (n + 2) (xb v 8)) (n + 3) (xb v 0) := by simp [putX, wr, va_up]
  have e2 : putM N n v 55 = va_up (va_up (va_up (va_up (N 55) n (mb v 24)) (n + 1) (mb v 16)) (n + 2) (mb v 8)) (n + 3) (mb v 0) := by simp [putM, wr, va_up]
  rw [e1, e2]
  by_cases h3 : j = n + 3
  · subst h3; rw [va_up_self, va_up_self]; exact bR_o (by decide)
  rw [va_up_ne _ _ h3, va_up_ne _ _ h3]
  by_cases h2 : j = n + 2
  · subst h2; rw [va_up_self, va_up_self]; exact bR_o (by decide)
  rw [va_up_ne _ _ h2, va_up_ne _ _ h2]
  by_cases h1 : j = n + 1
  · subst h1; rw [va_up_self, va_up_self]; exact bR_o (by decide)
  rw [va_up_ne _ _ h1, va_up_ne _ _ h1]
  by_cases h0 : j = n
  · subst h0; rw [va_up_self, va_up_self]; exact bR_o (by decide)
  rw [va_up_ne _ _ h0, va_up_ne _ _ h0]
  exact h j (by omega)
theorem putX_o {M : Mem} {n i : Nat} {v : Int32} (h : i ≠ 7) (h2 : i ≠ 8) : putX M n v i = M i := by simp [putX, wr, va_up, h, h2]
theorem putX_7 {M : Mem} {n : Nat} {v : Int32} : putX M n v 7 1 = nI (n + 4) := by simp [putX, wr, va_up]
theorem putM_o {M : Mem} {n i : Nat} {v : Int32} (h : i ≠ 36) (h2 : i ≠ 55) : putM M n v i = M i := by simp [putM, wr, va_up, h, h2]
theorem putM_25 {M : Mem} {n : Nat} {v : Int32} : putM M n v 36 25 = nI (n + 4) := by simp [putM, wr, va_up]
theorem putM_f {M : Mem} {n b : Nat} {v : Int32} (h : b ≠ 25) : putM M n v 36 b = M 36 b := by simp [putM, wr, va_up, h]
section PT
variable {K : Kt} {M : Mem} {nc nl nb nt nw : Nat}
/-- cells that the tape's feeding leaves -/
theorem IV.tape {N : Mem} {n : Nat} (h : IV M nc nl nb nt nw) (h1 : ∀ i, i ≠ 7 → i ≠ 8 → i ≠ 36 → i ≠ 55 → N i = M i) (h2 : ∀ b, b ≠ 25 → N 36 b = M 36 b) (h3 : iT (N 7 1) (N 36 25) (N 8) (N 55) n) : IV N nc nl nb n nw := by
  have E : ∀ i, (i ≠ 7 ∧ i ≠ 8 ∧ i ≠ 36 ∧ i ≠ 55) → N i = M i := fun i hi => h1 i hi.1 hi.2.1 hi.2.2.1 hi.2.2.2
  refine IV.of ?_ ?_ h3 ?_ ?_ ?_ (h.2.2.2.2.2.2.1.keep h.1.2.2.2.1 (fun i h1 h2 => E i (by omega)) (fun i h1 h2 => E i (by omega))) ?_ (h.2.2.2.2.2.2.2.2.1.keep (fun i h1 h2 => E i (by omega)) (fun i h1 h2 => E i (by omega))) ?_
  · rw [E 0 (by decide), E 1 (by decide), E 10 (by decide), E 28 (by decide)]; exact h.1
  · rw [h2 1 (by decide), h2 9 (by decide), h2 18 (by decide), h2 0 (by decide)]; exact h.2.1
  · rw [E 2 (by decide), E 3 (by decide), E 4 (by decide), E 5 (by decide), E 6 (by decide), E 37 (by decide), E 38 (by decide), E 39 (by decide), E 40 (by decide), E 41 (by decide)]; exact h.2.2.2.1
  · rw [E 27 (by decide), E 42 (by decide)]; exact h.2.2.2.2.1
  · rw [E 35 (by decide), E 43 (by decide)]; exact h.2.2.2.2.2.1
  · rw [E 29 (by decide), E 30 (by decide), E 31 (by decide), E 52 (by decide), E 53 (by decide), E 54 (by decide), E 28 (by decide), h2 22 (by decide)]; exact h.2.2.2.2.2.2.2.1
  · rw [E 0 (by decide), h2 23 (by decide)]; exact h.2.2.2.2.2.2.2.2.2
theorem q_feed (h : IV M nc nl nb nt nw) {a b c : Int32} : Pair K mX9_feed mX10_feed [.int a, .int b, .int c] M := by
  obtain ⟨t1, t2, t3, t4⟩ := h.2.2.1
  have h1 := c_X9_feed (K := K) (d := 11) (a := a) (b := b) (c := c) t1 t3
  by_cases ok : nt + 12 ≤ 72
  · rw [if_pos ok, if_pos ok] at h1
    have h2 := c_X10_feed (K := K) (d := 11) (a := a) (b := b) (c := c) (M := putX (putX (putX M nt a) (nt + 4) b) (nt + 4 + 4) c) (n := nt) (by rw [putX_o (by decide) (by decide), putX_o (by decide) (by decide), putX_o (by decide) (by decide)]; exact t2) t3
    rw [if_pos ok, if_pos ok] at h2
    refine Pair.rr h1 h2 rfl ⟨nc, nl, nb, nt + 12, nw, h.tape (fun i a1 a2 a3 a4 => ?_) (fun b hb => ?_) ⟨?_, ?_, ok, ?_⟩⟩
    · rw [putM_o a3 a4, putM_o a3 a4, putM_o a3 a4, putX_o a1 a2, putX_o a1 a2, putX_o a1 a2]
    · rw [putM_f hb, putM_f hb, putM_f hb, putX_o (by decide) (by decide), putX_o (by decide) (by decide), putX_o (by decide) (by decide)]
    · rw [putM_o (by decide) (by decide), putM_o (by decide) (by decide), putM_o (by decide) (by decide), putX_7]
    · rw [putM_25]
    · rw [putM_o (i := 8) (by decide) (by decide), putM_o (i := 8) (by decide) (by decide), putM_o (i := 8) (by decide) (by decide)]
      exact put_T (n := nt + 4 + 4) (put_T (n := nt + 4) (put_T (n := nt) (fun j hj => by
        rw [putX_o (by decide) (by decide), putX_o (by decide) (by decide), putX_o (by decide) (by decide)]
        exact t4 j hj)))
  · have h2 := c_X10_feed (K := K) (d := 11) (a := a) (b := b) (c := c) t2 t3
    rw [if_neg ok, if_neg ok] at h1 h2
    exact Pair.ro ⟨_, _, _, _, _, h⟩ h1 h2 rfl
end PT
