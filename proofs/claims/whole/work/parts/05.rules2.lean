section GR2
variable {K : Kt} {x : Cx} {own : String} {cc : ByteArray} {nL d : Nat} {Rp : Option Int32 → Mem → Prop} {pc : Nat} {lv : List (Nat × Value)} {st : List Value} {M : Mem}
def fOK (own : String) (idx ci k : Nat) : Prop := ∃ (C : String) (T : u_T) (N : Nat), vwCl[ci]? = some (C, T, N) ∧ (∀ w ∈ u_ws C T N, w ∈ gtbl) ∧ k < N ∧ (T k).1 = C ∧ Cond.fieldLink own idx C (T k).2.1 (T k).2.2.1 ∈ gtbl
def fPut (own : String) (idx ci k : Nat) : Prop := ∃ (C : String) (T : u_T) (N : Nat) (ty : Nat → FieldType), vwCl[ci]? = some (C, T, N) ∧ (∀ w ∈ u_ws C T N, w ∈ gtbl) ∧ k < N ∧ (T k).1 = C ∧ Cond.fieldLink own idx C (T k).2.1 (T k).2.2.1 ∈ gtbl ∧ (∀ k, k < N → parseFieldDescriptor (T k).2.2.1 = some (ty k)) ∧ (∀ a, a < N → ∀ b, b < N → a ≠ b → (T a).2.1 ≠ (T b).2.1) ∧ (T k).2.2.2 = false ∧ parseFieldDescriptor (T k).2.2.1 = some .int
theorem G_getI (C : Cok K x own cc nL d Rp) {idx ci k i : Nat} {fl : List (Option Nat)} (hf : fOK own idx ci k) (hlay : layL[i]? = some (.inl (ci, fl))) (hk : fl[k]? = some none) (hd : decode cc pc = .ok (.getfield idx, 3)) (k9 : G K x nL (pc + 3) lv (.int (M i k) :: st) M) : G K x nL pc lv (rf K i :: st) M := by
  obtain ⟨p, e, R, s, m, args, below, meth, c, cells, slots, Q, A⟩ := x
  obtain ⟨hx, hb, hml, hown, hts, hK, hA, hE, hd1, hd2, hd3, hd4, hrI, hrV⟩ := C
  obtain ⟨C', T, N, h1, h2, h3, h4, h5⟩ := hf
  intro H locs ls hP hD hS hl
  refine va_get hx hb hts h2 hown hK hP i (wld_get hlay) h1 k h3 (hts _ h5) (fun _ h => by rw [h4] at h; exact h) (v := .int (M i k)) ?_ hd (k9 H locs ls hP hD hS hl)
  rw [fldV_get, hk]
  simp
theorem G_getR (C : Cok K x own cc nL d Rp) {idx ci k i r : Nat} {fl : List (Option Nat)} (hf : fOK own idx ci k) (hlay : layL[i]? = some (.inl (ci, fl))) (hk : fl[k]? = some (some r)) (hd : decode cc pc = .ok (.getfield idx, 3)) (k9 : G K x nL (pc + 3) lv (rf K r :: st) M) : G K x nL pc lv (rf K i :: st) M := by
  obtain ⟨p, e, R, s, m, args, below, meth, c, cells, slots, Q, A⟩ := x
  obtain ⟨hx, hb, hml, hown, hts, hK, hA, hE, hd1, hd2, hd3, hd4, hrI, hrV⟩ := C
  obtain ⟨C', T, N, h1, h2, h3, h4, h5⟩ := hf
  intro H locs ls hP hD hS hl
  refine va_get hx hb hts h2 hown hK hP i (wld_get hlay) h1 k h3 (hts _ h5) (fun _ h => by rw [h4] at h; exact h) (v := rf K r) ?_ hd (k9 H locs ls hP hD hS hl)
  rw [fldV_get, hk]
  simp
theorem G_putI (C : Cok K x own cc nL d Rp) {idx ci k i : Nat} {v : Int32} {fl : List (Option Nat)} (hf : fPut own idx ci k) (hlay : layL[i]? = some (.inl (ci, fl))) (hk : fl[k]? = some none) (hd : decode cc pc = .ok (.putfield idx, 3)) (k9 : G K x nL (pc + 3) lv st (wr M i k v)) : G K x nL pc lv (.int v :: rf K i :: st) M := by
  obtain ⟨p, e, R, s, m, args, below, meth, c, cells, slots, Q, A⟩ := x
  obtain ⟨hx, hb, hml, hown, hts, hK, hA, hE, hd1, hd2, hd3, hd4, hrI, hrV⟩ := C
  obtain ⟨C', T, N, ty, h1, h2, h3, h4, h5, h6, h7, h8, h9⟩ := hf
  intro H locs ls hP hD hS hl
  refine va_put hx hb hts h2 ty h6 h7 hown hK hP hD hS i (wld_get hlay) h1 k h3 (hts _ h5) (fun _ h => by rw [h4] at h; exact h) h8 (ty := .int) (v := .int v) h9 rfl rfl (by rw [fldV_len]; exact (List.getElem?_eq_some_iff.mp hk).1) hd (fun H1 locs1 hP1 hD1 hS1 => ?_)
  have e : (wld K M).set i (kA K i, .inr (ci, (fldV K (M i) 0 fl).set k (.int v))) = wld K (wr M i k v) := by
    rw [fldV_set K (M i) v fl 0 k hk, Nat.zero_add]
    exact wld_set (d := .inl (ci, fl)) hlay
  rw [e] at hP1 hD1
  exact k9 H1 locs1 ls hP1 hD1 hS1 hl
theorem G_iald (C : Cok K x own cc nL d Rp) {i n : Nat} {j : Int32} (hlay : layL[i]? = some (.inr (.inl (0, n)))) (hin : vp_in j n) (hd : decode cc pc = .ok (.iaload, 1)) (k9 : G K x nL (pc + 1) lv (.int (M i j.toNatClampNeg) :: st) M) : G K x nL pc lv (.int j :: rf K i :: st) M := by
  obtain ⟨p, e, R, s, m, args, below, meth, c, cells, slots, Q, A⟩ := x
  obtain ⟨hx, hb, hml, hown, hts, hK, hA, hE, hd1, hd2, hd3, hd4, hrI, hrV⟩ := C
  intro H locs ls hP hD hS hl
  exact va_iald hx hb hK hP i 0 (wld_get hlay) rfl hin hd (k9 H locs ls hP hD hS hl)
theorem G_ialdN (C : Cok K x own cc nL d Rp) {i n j : Nat} (hlay : layL[i]? = some (.inr (.inl (0, n)))) (hj : j < n) (hn : n < 2 ^ 31) (hd : decode cc pc = .ok (.iaload, 1)) (k9 : G K x nL (pc + 1) lv (.int (M i j) :: st) M) : G K x nL pc lv (.int (nI j) :: rf K i :: st) M := by
  refine G_iald C hlay (vp_in_nI hj hn) hd ?_
  rw [nI_clamp (Nat.lt_trans hj hn)]
  exact k9
theorem G_bald (C : Cok K x own cc nL d Rp) {i n : Nat} {j : Int32} (hlay : layL[i]? = some (.inr (.inl (1, n)))) (hin : vp_in j n) (hd : decode cc pc = .ok (.baload, 1)) (k9 : G K x nL (pc + 1) lv (.int (M i j.toNatClampNeg) :: st) M) : G K x nL pc lv (.int j :: rf K i :: st) M := by
  obtain ⟨p, e, R, s, m, args, below, meth, c, cells, slots, Q, A⟩ := x
  obtain ⟨hx, hb, hml, hown, hts, hK, hA, hE, hd1, hd2, hd3, hd4, hrI, hrV⟩ := C
  intro H locs ls hP hD hS hl
  exact va_bald hx hb hK hP i 1 (wld_get hlay) rfl hin hd (k9 H locs ls hP hD hS hl)
theorem G_baldN (C : Cok K x own cc nL d Rp) {i n j : Nat} (hlay : layL[i]? = some (.inr (.inl (1, n)))) (hj : j < n) (hn : n < 2 ^ 31) (hd : decode cc pc = .ok (.baload, 1)) (k9 : G K x nL (pc + 1) lv (.int (M i j) :: st) M) : G K x nL pc lv (.int (nI j) :: rf K i :: st) M := by
  refine G_bald C hlay (vp_in_nI hj hn) hd ?_
  rw [nI_clamp (Nat.lt_trans hj hn)]
  exact k9
theorem G_zald (C : Cok K x own cc nL d Rp) {i n : Nat} {j : Int32} (hlay : layL[i]? = some (.inr (.inl (2, n)))) (hin : vp_in j n) (hd : decode cc pc = .ok (.baload, 1)) (k9 : G K x nL (pc + 1) lv (.int (M i j.toNatClampNeg) :: st) M) : G K x nL pc lv (.int j :: rf K i :: st) M := by
  obtain ⟨p, e, R, s, m, args, below, meth, c, cells, slots, Q, A⟩ := x
  obtain ⟨hx, hb, hml, hown, hts, hK, hA, hE, hd1, hd2, hd3, hd4, hrI, hrV⟩ := C
  intro H locs ls hP hD hS hl
  exact va_zald hx hb hK hP i 2 (wld_get hlay) rfl hin hd (k9 H locs ls hP hD hS hl)
theorem G_zaldN (C : Cok K x own cc nL d Rp) {i n j : Nat} (hlay : layL[i]? = some (.inr (.inl (2, n)))) (hj : j < n) (hn : n < 2 ^ 31) (hd : decode cc pc = .ok (.baload, 1)) (k9 : G K x nL (pc + 1) lv (.int (M i j) :: st) M) : G K x nL pc lv (.int (nI j) :: rf K i :: st) M := by
  refine G_zald C hlay (vp_in_nI hj hn) hd ?_
  rw [nI_clamp (Nat.lt_trans hj hn)]
  exact k9
theorem G_iast (C : Cok K x own cc nL d Rp) {i n : Nat} {j v : Int32} (hlay : layL[i]? = some (.inr (.inl (0, n)))) (hin : vp_in j n) (hd : decode cc pc = .ok (.iastore, 1)) (k9 : G K x nL (pc + 1) lv st (wr M i j.toNatClampNeg (v))) : G K x nL pc lv (.int v :: .int j :: rf K i :: st) M := by
  obtain ⟨p, e, R, s, m, args, below, meth, c, cells, slots, Q, A⟩ := x
  obtain ⟨hx, hb, hml, hown, hts, hK, hA, hE, hd1, hd2, hd3, hd4, hrI, hrV⟩ := C
  intro H locs ls hP hD hS hl
  refine va_iast hx hb hK hP hD hS i 0 (wld_get hlay) rfl hin hd (fun H1 locs1 hP1 hD1 hS1 => ?_)
  have e : (wld K M).set i (kA K i, .inl (kC K 0, n, .inl (upd (M i) j.toNatClampNeg v))) = wld K (wr M i j.toNatClampNeg (v)) := by
    exact wld_set (d := .inr (.inl (0, n))) hlay
  rw [e] at hP1 hD1
  exact k9 H1 locs1 ls hP1 hD1 hS1 hl
theorem G_iastN (C : Cok K x own cc nL d Rp) {i n j : Nat} {v : Int32} (hlay : layL[i]? = some (.inr (.inl (0, n)))) (hj : j < n) (hn : n < 2 ^ 31) (hd : decode cc pc = .ok (.iastore, 1)) (k9 : G K x nL (pc + 1) lv st (wr M i j (v))) : G K x nL pc lv (.int v :: .int (nI j) :: rf K i :: st) M := by
  refine G_iast C hlay (vp_in_nI hj hn) hd ?_
  rw [nI_clamp (Nat.lt_trans hj hn)]
  exact k9
theorem G_bast (C : Cok K x own cc nL d Rp) {i n : Nat} {j v : Int32} (hlay : layL[i]? = some (.inr (.inl (1, n)))) (hin : vp_in j n) (hd : decode cc pc = .ok (.bastore, 1)) (k9 : G K x nL (pc + 1) lv st (wr M i j.toNatClampNeg (v.toInt8.toInt32))) : G K x nL pc lv (.int v :: .int j :: rf K i :: st) M := by
  obtain ⟨p, e, R, s, m, args, below, meth, c, cells, slots, Q, A⟩ := x
  obtain ⟨hx, hb, hml, hown, hts, hK, hA, hE, hd1, hd2, hd3, hd4, hrI, hrV⟩ := C
  have e0 : vp_nar .byte v = v.toInt8.toInt32 := vp_nar_byte v
  intro H locs ls hP hD hS hl
  refine va_bast hx hb hK hP hD hS i 1 (wld_get hlay) rfl hin hd (fun H1 locs1 hP1 hD1 hS1 => ?_)
  have e : (wld K M).set i (kA K i, .inl (kC K 1, n, .inl (upd (M i) j.toNatClampNeg (vp_nar .byte v)))) = wld K (wr M i j.toNatClampNeg (v.toInt8.toInt32)) := by
    rw [e0]
    exact wld_set (d := .inr (.inl (1, n))) hlay
  rw [e] at hP1 hD1
  exact k9 H1 locs1 ls hP1 hD1 hS1 hl
theorem G_bastN (C : Cok K x own cc nL d Rp) {i n j : Nat} {v : Int32} (hlay : layL[i]? = some (.inr (.inl (1, n)))) (hj : j < n) (hn : n < 2 ^ 31) (hd : decode cc pc = .ok (.bastore, 1)) (k9 : G K x nL (pc + 1) lv st (wr M i j (v.toInt8.toInt32))) : G K x nL pc lv (.int v :: .int (nI j) :: rf K i :: st) M := by
  refine G_bast C hlay (vp_in_nI hj hn) hd ?_
  rw [nI_clamp (Nat.lt_trans hj hn)]
  exact k9
theorem G_zast (C : Cok K x own cc nL d Rp) {i n : Nat} {j v : Int32} (hlay : layL[i]? = some (.inr (.inl (2, n)))) (hin : vp_in j n) (hv : v = 0 ∨ v = 1) (hd : decode cc pc = .ok (.bastore, 1)) (k9 : G K x nL (pc + 1) lv st (wr M i j.toNatClampNeg (v))) : G K x nL pc lv (.int v :: .int j :: rf K i :: st) M := by
  obtain ⟨p, e, R, s, m, args, below, meth, c, cells, slots, Q, A⟩ := x
  obtain ⟨hx, hb, hml, hown, hts, hK, hA, hE, hd1, hd2, hd3, hd4, hrI, hrV⟩ := C
  have e0 : vp_nar .boolean v = v := by rcases hv with rfl | rfl <;> decide
  intro H locs ls hP hD hS hl
  refine va_zast hx hb hK hP hD hS i 2 (wld_get hlay) rfl hin hd (fun H1 locs1 hP1 hD1 hS1 => ?_)
  have e : (wld K M).set i (kA K i, .inl (kC K 2, n, .inl (upd (M i) j.toNatClampNeg (vp_nar .boolean v)))) = wld K (wr M i j.toNatClampNeg (v)) := by
    rw [e0]
    exact wld_set (d := .inr (.inl (2, n))) hlay
  rw [e] at hP1 hD1
  exact k9 H1 locs1 ls hP1 hD1 hS1 hl
theorem G_zastN (C : Cok K x own cc nL d Rp) {i n j : Nat} {v : Int32} (hlay : layL[i]? = some (.inr (.inl (2, n)))) (hj : j < n) (hn : n < 2 ^ 31) (hv : v = 0 ∨ v = 1) (hd : decode cc pc = .ok (.bastore, 1)) (k9 : G K x nL (pc + 1) lv st (wr M i j (v))) : G K x nL pc lv (.int v :: .int (nI j) :: rf K i :: st) M := by
  refine G_zast C hlay (vp_in_nI hj hn) hv hd ?_
  rw [nI_clamp (Nat.lt_trans hj hn)]
  exact k9
theorem G_aald (C : Cok K x own cc nL d Rp) {i r a : Nat} {rs : List Nat} {j : Int32} (hlay : layL[i]? = some (.inr (.inr (a, rs)))) (ha : a = 3 ∨ a = 4) (hin : vp_in j rs.length) (hr : rs[j.toNatClampNeg]? = some r) (hd : decode cc pc = .ok (.aaload, 1)) (k9 : G K x nL (pc + 1) lv (rf K r :: st) M) : G K x nL pc lv (.int j :: rf K i :: st) M := by
  obtain ⟨p, e, R, s, m, args, below, meth, c, cells, slots, Q, A⟩ := x
  obtain ⟨hx, hb, hml, hown, hts, hK, hA, hE, hd1, hd2, hd3, hd4, hrI, hrV⟩ := C
  intro H locs ls hP hD hS hl
  have e : va_rf ((rs[j.toNatClampNeg]?).map (kA K)) = rf K r := by rw [hr]; rfl
  rcases ha with rfl | rfl
  · refine va_aldq (C := "ChildPay$Law") hx hb hK hP i 3 (wld_get hlay) rfl hin hd ?_
    rw [e]
    exact k9 H locs ls hP hD hS hl
  · refine va_aldq (C := "ChildPay$Sheet") hx hb hK hP i 4 (wld_get hlay) rfl hin hd ?_
    rw [e]
    exact k9 H locs ls hP hD hS hl
theorem G_alenW (C : Cok K x own cc nL d Rp) {i n a : Nat} (hlay : layL[i]? = some (.inr (.inl (a, n)))) (ha : a < 3) (hd : decode cc pc = .ok (.arraylength, 1)) (k9 : G K x nL (pc + 1) lv (.int (nI n) :: st) M) : G K x nL pc lv (rf K i :: st) M := by
  obtain ⟨p, e, R, s, m, args, below, meth, c, cells, slots, Q, A⟩ := x
  obtain ⟨hx, hb, hml, hown, hts, hK, hA, hE, hd1, hd2, hd3, hd4, hrI, hrV⟩ := C
  intro H locs ls hP hD hS hl
  rcases (show a = 0 ∨ a = 1 ∨ a = 2 by omega) with rfl | rfl | rfl
  · exact va_alen hx hb hK hP i 0 (wld_get hlay) (ty := .int) rfl rfl hd (k9 H locs ls hP hD hS hl)
  · exact va_alen hx hb hK hP i 1 (wld_get hlay) (ty := .byte) rfl rfl hd (k9 H locs ls hP hD hS hl)
  · exact va_alen hx hb hK hP i 2 (wld_get hlay) (ty := .boolean) rfl rfl hd (k9 H locs ls hP hD hS hl)
theorem G_getH (C : Cok K x RX3 cc nL d Rp) (hd : decode cc pc = .ok (.getstatic 19, 3)) (k9 : G K x nL (pc + 3) lv (hf K :: st) M) : G K x nL pc lv st M := by
  obtain ⟨p, e, R, s, m, args, below, meth, c, cells, slots, Q, A⟩ := x
  obtain ⟨hx, hb, hml, hown, hts, hK, hA, hE, hd1, hd2, hd3, hd4, hrI, hrV⟩ := C
  intro H locs ls hP hD hS hl
  exact va_getsN hx hb hE.2.2.1 hS hown (va_Nw.use rfl hE.2.1) (fun _ h => h) hd (k9 H locs ls hP hD hS hl)
theorem G_aldH (C : Cok K x own cc nL d Rp) {j : Int32} (hin : vp_in j 5) (hd : decode cc pc = .ok (.iaload, 1)) (k9 : G K x nL (pc + 1) lv (.int (htab.getD j.toNatClampNeg 0) :: st) M) : G K x nL pc lv (.int j :: hf K :: st) M := by
  obtain ⟨p, e, R, s, m, args, below, meth, c, cells, slots, Q, A⟩ := x
  obtain ⟨hx, hb, hml, hown, hts, hK, hA, hE, hd1, hd2, hd3, hd4, hrI, hrV⟩ := C
  intro H locs ls hP hD hS hl
  exact va_ti hx hb hE.2.2.2.1 hS hin rfl hd (k9 H locs ls hP hD hS hl)
theorem G_alenH (C : Cok K x own cc nL d Rp) (hd : decode cc pc = .ok (.arraylength, 1)) (k9 : G K x nL (pc + 1) lv (.int 5 :: st) M) : G K x nL pc lv (hf K :: st) M := by
  obtain ⟨p, e, R, s, m, args, below, meth, c, cells, slots, Q, A⟩ := x
  obtain ⟨hx, hb, hml, hown, hts, hK, hA, hE, hd1, hd2, hd3, hd4, hrI, hrV⟩ := C
  intro H locs ls hP hD hS hl
  exact va_tlen hx hb hE.2.2.2.1 hS rfl hd (k9 H locs ls hP hD hS hl)
theorem G_getC (C : Cok K x RJ0 cc nL d Rp) {idx : Nat} (hw : Cond.fieldLink RJ0 idx "java/lang/String" "COMPACT_STRINGS" "Z" ∈ gtbl) (hd : decode cc pc = .ok (.getstatic idx, 3)) (k9 : G K x nL (pc + 3) lv (.int 1 :: st) M) : G K x nL pc lv st M := by
  obtain ⟨p, e, R, s, m, args, below, meth, c, cells, slots, Q, A⟩ := x
  obtain ⟨hx, hb, hml, hown, hts, hK, hA, hE, hd1, hd2, hd3, hd4, hrI, hrV⟩ := C
  intro H locs ls hP hD hS hl
  exact va_gets hx hb hE.2.2.2.2.1 hS hown (hts _ hw) (fun _ h => h) hd (k9 H locs ls hP hD hS hl)
theorem G_getF (C : Cok K x RJ0 cc nL d Rp) {idx : Nat} (hw : Cond.fieldLink RJ0 idx sioN "SIOOBE_FORMATTER" sioD ∈ gtbl) (hd : decode cc pc = .ok (.getstatic idx, 3)) (k9 : G K x nL (pc + 3) lv (kF K :: st) M) : G K x nL pc lv st M := by
  obtain ⟨p, e, R, s, m, args, below, meth, c, cells, slots, Q, A⟩ := x
  obtain ⟨hx, hb, hml, hown, hts, hK, hA, hE, hd1, hd2, hd3, hd4, hrI, hrV⟩ := C
  intro H locs ls hP hD hS hl
  exact va_gets hx hb hE.2.2.2.2.2.1 hS hown (hts _ hw) (fun _ h => h) hd (k9 H locs ls hP hD hS hl)
theorem G_getCo (C : Cok K x own cc nL d Rp) {idx i : Nat} (hi : i < 6) (hw : Cond.fieldLink own idx "java/lang/String" "coder" "B" ∈ gtbl) (hd : decode cc pc = .ok (.getfield idx, 3)) (k9 : G K x nL (pc + 3) lv (.int 0 :: st) M) : G K x nL pc lv (sf K i :: st) M := by
  obtain ⟨p, e, R, s, m, args, below, meth, c, cells, slots, Q, A⟩ := x
  obtain ⟨hx, hb, hml, hown, hts, hK, hA, hE, hd1, hd2, hd3, hd4, hrI, hrV⟩ := C
  intro H locs ls hP hD hS hl
  exact vk_getf hx hb (hE.2.2.2.2.2.2.1.1 i hi).2.1 hS hown (hts _ hw) (fun _ h => h) hd (k9 H locs ls hP hD hS hl)
theorem G_getVa (C : Cok K x own cc nL d Rp) {idx i : Nat} (hi : i < 6) (hw : Cond.fieldLink own idx "java/lang/String" "value" "[B" ∈ gtbl) (hd : decode cc pc = .ok (.getfield idx, 3)) (k9 : G K x nL (pc + 3) lv (sv K i :: st) M) : G K x nL pc lv (sf K i :: st) M := by
  obtain ⟨p, e, R, s, m, args, below, meth, c, cells, slots, Q, A⟩ := x
  obtain ⟨hx, hb, hml, hown, hts, hK, hA, hE, hd1, hd2, hd3, hd4, hrI, hrV⟩ := C
  intro H locs ls hP hD hS hl
  exact vk_getf hx hb (hE.2.2.2.2.2.2.1.1 i hi).2.2.1 hS hown (hts _ hw) (fun _ h => h) hd (k9 H locs ls hP hD hS hl)
theorem G_alenS (C : Cok K x own cc nL d Rp) {i : Nat} (hi : i < 6) (hd : decode cc pc = .ok (.arraylength, 1)) (k9 : G K x nL (pc + 1) lv (.int (nI (slen.getD i 0)) :: st) M) : G K x nL pc lv (sv K i :: st) M := by
  obtain ⟨p, e, R, s, m, args, below, meth, c, cells, slots, Q, A⟩ := x
  obtain ⟨hx, hb, hml, hown, hts, hK, hA, hE, hd1, hd2, hd3, hd4, hrI, hrV⟩ := C
  intro H locs ls hP hD hS hl
  exact va_tlen hx hb (hE.2.2.2.2.2.2.1.1 i hi).2.2.2 hS rfl hd (k9 H locs ls hP hD hS hl)
theorem G_aldS (C : Cok K x own cc nL d Rp) {i : Nat} {j : Int32} (hi : i < 6) (hin : vp_in j (slen.getD i 0)) (hd : decode cc pc = .ok (.baload, 1)) (k9 : G K x nL (pc + 1) lv (.int ((sbyt.getD i []).getD j.toNatClampNeg 0) :: st) M) : G K x nL pc lv (.int j :: sv K i :: st) M := by
  obtain ⟨p, e, R, s, m, args, below, meth, c, cells, slots, Q, A⟩ := x
  obtain ⟨hx, hb, hml, hown, hts, hK, hA, hE, hd1, hd2, hd3, hd4, hrI, hrV⟩ := C
  intro H locs ls hP hD hS hl
  exact va_tb hx hb (hE.2.2.2.2.2.2.1.1 i hi).2.2.2 hS hin rfl hd (k9 H locs ls hP hD hS hl)
def mOK (q : Mt) (n : Nat) : Prop := Cond.code q.1 q.2.1 q.2.2.1 q.2.2.2 ∈ gtbl ∧ Cond.initialized q.1.cls ∈ gtbl ∧ (q.1.cls ≠ "java/lang/invoke/MethodHandle" ∧ q.1.cls ≠ "java/lang/invoke/VarHandle" ∧ (parseMethodDescriptor q.1.desc).map (fun d => d.parameters.length) = some n) ∧ q.2.2.1 ≤ 17
def lkV (own : String) (idx : Nat) (q : Mt) : Prop := Cond.methodLink own idx q.1 ∈ gtbl ∧ Cond.instanceMethod q.1 ∈ gtbl ∧ Cond.selects q.1.cls q.1 q.1 ∈ gtbl
def lkS (own : String) (idx : Nat) (q : Mt) : Prop := Cond.methodLink own idx q.1 ∈ gtbl ∧ Cond.static q.1 ∈ gtbl
def lkN (own : String) (idx : Nat) (q : Mt) : Prop := (own, idx, q.1) ∈ nestM ∧ Cond.static q.1 ∈ gtbl
theorem mws_good {q : Mt} {n : Nat} (ok : mOK q n) : GoodIn gtbl (mws q) := fun w hw => by
  rcases List.mem_cons.mp hw with rfl | h
  · exact ⟨ok.1, gt_good ok.1⟩
  · exact ⟨h, gt_good h⟩
theorem A_free {K : Kt} {M : Mem} {A : Nat → Prop} {H0 H : Heap} {locs : List Loc} (hD : va_D A (wld K M)) (hS : va_S A H0 H locs) (hA : ∀ a, H0.size ≤ a → A a) : ∀ q, va_A (wld K M) H.size q → A q := by
  intro q h
  rcases h with ⟨k, e, h⟩ | h
  · exact hD.2 k (q, e) h
  · exact hA q (Nat.le_trans hS.1 h)
theorem callB_K {q : Mt} {n idx : Nat} {R : Room} {s : State} {args : Array Value} {own : String} {d : Nat} (ok : mOK q n) (hl : Cond.methodLink own idx q.1 ∈ gtbl) (hts : ∀ w ∈ gtbl, w.before args s = true) (h1 : d + 1 ≤ R.frames) (h2 : 36 * (d + 1) ≤ R.locals) : CallB R s args own idx q.1 q.2.1 q.2.2.1 q.2.2.2 (mws q) (rmD d) 0 0 n :=
  callB_of n hts (mws_good ok) rfl rfl rfl (hts _ ok.2.1) (hts _ hl) ok.2.2.1 ⟨h1, by have := ok.2.2.2; show 8 + (q.2.2.1 + 11) + 36 * d ≤ R.locals; omega⟩
theorem callN_K {q : Mt} {n idx : Nat} {R : Room} {s : State} {args : Array Value} {own : String} {d : Nat} (ok : mOK q n) (hl : va_Nw (.methodLinkNest own idx q.1 RX9) s) (hts : ∀ w ∈ gtbl, w.before args s = true) (h1 : d + 1 ≤ R.frames) (h2 : 36 * (d + 1) ≤ R.locals) : va_CN R s args own idx q.1 RX9 q.2.1 q.2.2.1 q.2.2.2 (mws q) (rmD d) 0 0 n :=
  va_cnB n hts (mws_good ok) rfl rfl rfl hl (hts _ ok.2.1) ok.2.2.1 ⟨h1, by have := ok.2.2.2; show 8 + (q.2.2.1 + 11) + 36 * d ≤ R.locals; omega⟩
end GR2
section GR3
variable {K : Kt} {x : Cx} {own : String} {cc : ByteArray} {nL d : Nat} {Rp : Option Int32 → Mem → Prop} {pc : Nat} {lv : List (Nat × Value)} {st : List Value} {M : Mem}
set_option maxHeartbeats 1000000 in
theorem G_callVi (C : Cok K x own cc nL (d + 1) Rp) {q : Mt} {n idx : Nat} {Q0 : Int32 → Mem → Prop} {As rest : List Value} (ok : mOK q n) (lk : lkV own idx q) {ci i : Nat} {fl : List (Option Nat)} (hlay : layL[i]? = some (.inl (ci, fl))) (hci : (vwCl[ci]?).map (fun r => r.1) = some q.1.cls) (hc : Ci K d q (rf K i :: As) M Q0) (hn : As.length = n) (hst : st = As.reverse ++ rf K i :: rest) (hW8 : (rest.map fun v => v.category).sum ≤ 8) (hd : decode cc pc = .ok (.invokevirtual idx, 3)) (k9 : ∀ (r : Int32) (N : Mem), Q0 r N → G K x nL (pc + 3) lv (.int r :: rest) N) : G K x nL pc lv st M := by
  obtain ⟨p, e, R, s, m, args, below, meth, c, cells, slots, Q, A⟩ := x
  obtain ⟨hx, hb, hml, hown, hts, hK, hA, hE, hd1, hd2, hd3, hd4, hrI, hrV⟩ := C
  intro H locs ls hP hD hS hl
  have hrec : ∃ cell : Cell, H[kA K i]? = some cell ∧ cell.vm.isStatics = false ∧ s.vm.findClass q.1.cls = some cell.cls := by
    cases h : vwCl[ci]? with
    | none => rw [h] at hci; simp at hci
    | some r =>
      rw [h] at hci
      simp at hci
      rw [← hci]
      exact va_recv hK hP h (wld_get hlay)
  have hF := A_free hD hS hA
  refine va_calli (va_runV (As := As) (rest := rest) (C := q.1.cls) ⟨hx, hb, hml, hown, hts⟩ (hc H.size) ⟨callB_K ok lk.1 hts hd1 hd2, hts _ lk.2.1, hts _ lk.2.2⟩ ⟨Pm.blind, hrec, fun U hU hW => ⟨rfl, by rw [hU], by rw [hU]; exact hP, va_K.moved hW.alike hK, hD.weaken (fun _ _ _ _ => trivial), hE.pass hW (fun a h1 h2 => by rw [hU]; exact hS.2.1 a h1 h2) hF⟩⟩ rfl hn hl.1 hst (lv_room hW8) hd ⟨hd3, hd4⟩) hS (fun q _ h => hF q h) hF (fun r N t H1 locs1 ht hvm hq hB hz hk hS1 => ?_)
  obtain ⟨hP1, hK1, hD1⟩ := hB
  rw [ht] at hP1
  exact k9 r N hq H1 locs1 ls hP1 (hD1.weaken (fun k q _ h => hF q.1 h)) hS1 hl
set_option maxHeartbeats 1000000 in
theorem G_callVv (C : Cok K x own cc nL (d + 1) Rp) {q : Mt} {n idx : Nat} {Q0 : Mem → Prop} {As rest : List Value} (ok : mOK q n) (lk : lkV own idx q) {ci i : Nat} {fl : List (Option Nat)} (hlay : layL[i]? = some (.inl (ci, fl))) (hci : (vwCl[ci]?).map (fun r => r.1) = some q.1.cls) (hc : Cv K d q (rf K i :: As) M Q0) (hn : As.length = n) (hst : st = As.reverse ++ rf K i :: rest) (hW8 : (rest.map fun v => v.category).sum ≤ 8) (hd : decode cc pc = .ok (.invokevirtual idx, 3)) (k9 : ∀ (N : Mem), Q0 N → G K x nL (pc + 3) lv rest N) : G K x nL pc lv st M := by
  obtain ⟨p, e, R, s, m, args, below, meth, c, cells, slots, Q, A⟩ := x
  obtain ⟨hx, hb, hml, hown, hts, hK, hA, hE, hd1, hd2, hd3, hd4, hrI, hrV⟩ := C
  intro H locs ls hP hD hS hl
  have hrec : ∃ cell : Cell, H[kA K i]? = some cell ∧ cell.vm.isStatics = false ∧ s.vm.findClass q.1.cls = some cell.cls := by
    cases h : vwCl[ci]? with
    | none => rw [h] at hci; simp at hci
    | some r =>
      rw [h] at hci
      simp at hci
      rw [← hci]
      exact va_recv hK hP h (wld_get hlay)
  have hF := A_free hD hS hA
  refine va_callv (va_runV (As := As) (rest := rest) (C := q.1.cls) ⟨hx, hb, hml, hown, hts⟩ (hc H.size) ⟨callB_K ok lk.1 hts hd1 hd2, hts _ lk.2.1, hts _ lk.2.2⟩ ⟨Pm.blind, hrec, fun U hU hW => ⟨rfl, by rw [hU], by rw [hU]; exact hP, va_K.moved hW.alike hK, hD.weaken (fun _ _ _ _ => trivial), hE.pass hW (fun a h1 h2 => by rw [hU]; exact hS.2.1 a h1 h2) hF⟩⟩ rfl hn hl.1 hst (lv_room hW8) hd ⟨hd3, hd4⟩) hS (fun q _ h => hF q h) hF (fun N t H1 locs1 ht hvm hq hB hz hk hS1 => ?_)
  obtain ⟨hP1, hK1, hD1⟩ := hB
  rw [ht] at hP1
  exact k9 N hq H1 locs1 ls hP1 (hD1.weaken (fun k q _ h => hF q.1 h)) hS1 hl
set_option maxHeartbeats 1000000 in
theorem G_callUi (C : Cok K x own cc nL (d + 1) Rp) {q : Mt} {n idx : Nat} {Q0 : Int32 → Mem → Prop} {As rest : List Value} (ok : mOK q n) (lk : lkV own idx q) {i : Nat} (hi : i < 6) (hcs : q.1.cls = "java/lang/String") (hc : Ci K d q (sf K i :: As) M Q0) (hn : As.length = n) (hst : st = As.reverse ++ sf K i :: rest) (hW8 : (rest.map fun v => v.category).sum ≤ 8) (hd : decode cc pc = .ok (.invokevirtual idx, 3)) (k9 : ∀ (r : Int32) (N : Mem), Q0 r N → G K x nL (pc + 3) lv (.int r :: rest) N) : G K x nL pc lv st M := by
  obtain ⟨p, e, R, s, m, args, below, meth, c, cells, slots, Q, A⟩ := x
  obtain ⟨hx, hb, hml, hown, hts, hK, hA, hE, hd1, hd2, hd3, hd4, hrI, hrV⟩ := C
  intro H locs ls hP hD hS hl
  have hrec : ∃ cell : Cell, H[kS K i]? = some cell ∧ cell.vm.isStatics = false ∧ s.vm.findClass q.1.cls = some cell.cls := by
    rw [hcs]
    exact vk_recv hE.2.2.2.2.2.2.1 hi hS
  have hF := A_free hD hS hA
  refine va_calli (va_runV (As := As) (rest := rest) (C := q.1.cls) ⟨hx, hb, hml, hown, hts⟩ (hc H.size) ⟨callB_K ok lk.1 hts hd1 hd2, hts _ lk.2.1, hts _ lk.2.2⟩ ⟨Pm.blind, hrec, fun U hU hW => ⟨rfl, by rw [hU], by rw [hU]; exact hP, va_K.moved hW.alike hK, hD.weaken (fun _ _ _ _ => trivial), hE.pass hW (fun a h1 h2 => by rw [hU]; exact hS.2.1 a h1 h2) hF⟩⟩ rfl hn hl.1 hst (lv_room hW8) hd ⟨hd3, hd4⟩) hS (fun q _ h => hF q h) hF (fun r N t H1 locs1 ht hvm hq hB hz hk hS1 => ?_)
  obtain ⟨hP1, hK1, hD1⟩ := hB
  rw [ht] at hP1
  exact k9 r N hq H1 locs1 ls hP1 (hD1.weaken (fun k q _ h => hF q.1 h)) hS1 hl
set_option maxHeartbeats 1000000 in
theorem G_callUv (C : Cok K x own cc nL (d + 1) Rp) {q : Mt} {n idx : Nat} {Q0 : Mem → Prop} {As rest : List Value} (ok : mOK q n) (lk : lkV own idx q) {i : Nat} (hi : i < 6) (hcs : q.1.cls = "java/lang/String") (hc : Cv K d q (sf K i :: As) M Q0) (hn : As.length = n) (hst : st = As.reverse ++ sf K i :: rest) (hW8 : (rest.map fun v => v.category).sum ≤ 8) (hd : decode cc pc = .ok (.invokevirtual idx, 3)) (k9 : ∀ (N : Mem), Q0 N → G K x nL (pc + 3) lv rest N) : G K x nL pc lv st M := by
  obtain ⟨p, e, R, s, m, args, below, meth, c, cells, slots, Q, A⟩ := x
  obtain ⟨hx, hb, hml, hown, hts, hK, hA, hE, hd1, hd2, hd3, hd4, hrI, hrV⟩ := C
  intro H locs ls hP hD hS hl
  have hrec : ∃ cell : Cell, H[kS K i]? = some cell ∧ cell.vm.isStatics = false ∧ s.vm.findClass q.1.cls = some cell.cls := by
    rw [hcs]
    exact vk_recv hE.2.2.2.2.2.2.1 hi hS
  have hF := A_free hD hS hA
  refine va_callv (va_runV (As := As) (rest := rest) (C := q.1.cls) ⟨hx, hb, hml, hown, hts⟩ (hc H.size) ⟨callB_K ok lk.1 hts hd1 hd2, hts _ lk.2.1, hts _ lk.2.2⟩ ⟨Pm.blind, hrec, fun U hU hW => ⟨rfl, by rw [hU], by rw [hU]; exact hP, va_K.moved hW.alike hK, hD.weaken (fun _ _ _ _ => trivial), hE.pass hW (fun a h1 h2 => by rw [hU]; exact hS.2.1 a h1 h2) hF⟩⟩ rfl hn hl.1 hst (lv_room hW8) hd ⟨hd3, hd4⟩) hS (fun q _ h => hF q h) hF (fun N t H1 locs1 ht hvm hq hB hz hk hS1 => ?_)
  obtain ⟨hP1, hK1, hD1⟩ := hB
  rw [ht] at hP1
  exact k9 N hq H1 locs1 ls hP1 (hD1.weaken (fun k q _ h => hF q.1 h)) hS1 hl
set_option maxHeartbeats 1000000 in
theorem G_callSi (C : Cok K x own cc nL (d + 1) Rp) {q : Mt} {n idx : Nat} {Q0 : Int32 → Mem → Prop} {As rest : List Value} (ok : mOK q n) (lk : lkS own idx q) (hc : Ci K d q As M Q0) (hn : As.length = n) (hst : st = As.reverse ++ rest) (hW8 : (rest.map fun v => v.category).sum ≤ 8) (hd : decode cc pc = .ok (.invokestatic idx, 3)) (k9 : ∀ (r : Int32) (N : Mem), Q0 r N → G K x nL (pc + 3) lv (.int r :: rest) N) : G K x nL pc lv st M := by
  obtain ⟨p, e, R, s, m, args, below, meth, c, cells, slots, Q, A⟩ := x
  obtain ⟨hx, hb, hml, hown, hts, hK, hA, hE, hd1, hd2, hd3, hd4, hrI, hrV⟩ := C
  intro H locs ls hP hD hS hl
  have hF := A_free hD hS hA
  refine va_calli (va_runS (As := As) (rest := rest) ⟨hx, hb, hml, hown, hts⟩ (hc H.size) ⟨callB_K ok lk.1 hts hd1 hd2, hts _ lk.2⟩ ⟨Pm.blind, fun U hU hW => ⟨rfl, by rw [hU], by rw [hU]; exact hP, va_K.moved hW.alike hK, hD.weaken (fun _ _ _ _ => trivial), hE.pass hW (fun a h1 h2 => by rw [hU]; exact hS.2.1 a h1 h2) hF⟩⟩ rfl hn hl.1 hst (lv_room hW8) hd ⟨hd3, hd4⟩) hS (fun q _ h => hF q h) hF (fun r N t H1 locs1 ht hvm hq hB hz hk hS1 => ?_)
  obtain ⟨hP1, hK1, hD1⟩ := hB
  rw [ht] at hP1
  exact k9 r N hq H1 locs1 ls hP1 (hD1.weaken (fun k q _ h => hF q.1 h)) hS1 hl
set_option maxHeartbeats 1000000 in
theorem G_callSv (C : Cok K x own cc nL (d + 1) Rp) {q : Mt} {n idx : Nat} {Q0 : Mem → Prop} {As rest : List Value} (ok : mOK q n) (lk : lkS own idx q) (hc : Cv K d q As M Q0) (hn : As.length = n) (hst : st = As.reverse ++ rest) (hW8 : (rest.map fun v => v.category).sum ≤ 8) (hd : decode cc pc = .ok (.invokestatic idx, 3)) (k9 : ∀ (N : Mem), Q0 N → G K x nL (pc + 3) lv rest N) : G K x nL pc lv st M := by
  obtain ⟨p, e, R, s, m, args, below, meth, c, cells, slots, Q, A⟩ := x
  obtain ⟨hx, hb, hml, hown, hts, hK, hA, hE, hd1, hd2, hd3, hd4, hrI, hrV⟩ := C
  intro H locs ls hP hD hS hl
  have hF := A_free hD hS hA
  refine va_callv (va_runS (As := As) (rest := rest) ⟨hx, hb, hml, hown, hts⟩ (hc H.size) ⟨callB_K ok lk.1 hts hd1 hd2, hts _ lk.2⟩ ⟨Pm.blind, fun U hU hW => ⟨rfl, by rw [hU], by rw [hU]; exact hP, va_K.moved hW.alike hK, hD.weaken (fun _ _ _ _ => trivial), hE.pass hW (fun a h1 h2 => by rw [hU]; exact hS.2.1 a h1 h2) hF⟩⟩ rfl hn hl.1 hst (lv_room hW8) hd ⟨hd3, hd4⟩) hS (fun q _ h => hF q h) hF (fun N t H1 locs1 ht hvm hq hB hz hk hS1 => ?_)
  obtain ⟨hP1, hK1, hD1⟩ := hB
  rw [ht] at hP1
  exact k9 N hq H1 locs1 ls hP1 (hD1.weaken (fun k q _ h => hF q.1 h)) hS1 hl
set_option maxHeartbeats 1000000 in
theorem G_callNi (C : Cok K x own cc nL (d + 1) Rp) {q : Mt} {n idx : Nat} {Q0 : Int32 → Mem → Prop} {As rest : List Value} (ok : mOK q n) (lk : lkN own idx q) (hc : Ci K d q As M Q0) (hn : As.length = n) (hst : st = As.reverse ++ rest) (hW8 : (rest.map fun v => v.category).sum ≤ 8) (hd : decode cc pc = .ok (.invokestatic idx, 3)) (k9 : ∀ (r : Int32) (N : Mem), Q0 r N → G K x nL (pc + 3) lv (.int r :: rest) N) : G K x nL pc lv st M := by
  obtain ⟨p, e, R, s, m, args, below, meth, c, cells, slots, Q, A⟩ := x
  obtain ⟨hx, hb, hml, hown, hts, hK, hA, hE, hd1, hd2, hd3, hd4, hrI, hrV⟩ := C
  intro H locs ls hP hD hS hl
  have hF := A_free hD hS hA
  refine va_calli (va_runSN (As := As) (rest := rest) (host := RX9) ⟨hx, hb, hml, hown, hts⟩ (hc H.size) ⟨callN_K ok (hE.1 _ lk.1) hts hd1 hd2, hts _ lk.2, trivial⟩ ⟨Pm.blind, fun U hU hW => ⟨rfl, by rw [hU], by rw [hU]; exact hP, va_K.moved hW.alike hK, hD.weaken (fun _ _ _ _ => trivial), hE.pass hW (fun a h1 h2 => by rw [hU]; exact hS.2.1 a h1 h2) hF⟩⟩ rfl hn hl.1 hst (lv_room hW8) hd ⟨hd3, hd4⟩) hS (fun q _ h => hF q h) hF (fun r N t H1 locs1 ht hvm hq hB hz hk hS1 => ?_)
  obtain ⟨hP1, hK1, hD1⟩ := hB
  rw [ht] at hP1
  exact k9 r N hq H1 locs1 ls hP1 (hD1.weaken (fun k q _ h => hF q.1 h)) hS1 hl
set_option maxHeartbeats 1000000 in
theorem G_callNv (C : Cok K x own cc nL (d + 1) Rp) {q : Mt} {n idx : Nat} {Q0 : Mem → Prop} {As rest : List Value} (ok : mOK q n) (lk : lkN own idx q) (hc : Cv K d q As M Q0) (hn : As.length = n) (hst : st = As.reverse ++ rest) (hW8 : (rest.map fun v => v.category).sum ≤ 8) (hd : decode cc pc = .ok (.invokestatic idx, 3)) (k9 : ∀ (N : Mem), Q0 N → G K x nL (pc + 3) lv rest N) : G K x nL pc lv st M := by
  obtain ⟨p, e, R, s, m, args, below, meth, c, cells, slots, Q, A⟩ := x
  obtain ⟨hx, hb, hml, hown, hts, hK, hA, hE, hd1, hd2, hd3, hd4, hrI, hrV⟩ := C
  intro H locs ls hP hD hS hl
  have hF := A_free hD hS hA
  refine va_callv (va_runSN (As := As) (rest := rest) (host := RX9) ⟨hx, hb, hml, hown, hts⟩ (hc H.size) ⟨callN_K ok (hE.1 _ lk.1) hts hd1 hd2, hts _ lk.2, trivial⟩ ⟨Pm.blind, fun U hU hW => ⟨rfl, by rw [hU], by rw [hU]; exact hP, va_K.moved hW.alike hK, hD.weaken (fun _ _ _ _ => trivial), hE.pass hW (fun a h1 h2 => by rw [hU]; exact hS.2.1 a h1 h2) hF⟩⟩ rfl hn hl.1 hst (lv_room hW8) hd ⟨hd3, hd4⟩) hS (fun q _ h => hF q h) hF (fun N t H1 locs1 ht hvm hq hB hz hk hS1 => ?_)
  obtain ⟨hP1, hK1, hD1⟩ := hB
  rw [ht] at hP1
  exact k9 N hq H1 locs1 ls hP1 (hD1.weaken (fun k q _ h => hF q.1 h)) hS1 hl
def Ri (K : Kt) (d : Nat) (q : Mt) (av : List Value) (M : Mem) (r : Int32) (M' : Mem) : Prop := Ci K d q av M (fun v N => v = r ∧ N = M')
def Rv (K : Kt) (d : Nat) (q : Mt) (av : List Value) (M : Mem) (M' : Mem) : Prop := Cv K d q av M (fun N => N = M')
theorem G_cVi0 (C : Cok K x own cc nL (d + 1) Rp) {q : Mt} {idx : Nat} {Q0 : Int32 → Mem → Prop} {rest : List Value} (ok : mOK q 0) (lk : lkV own idx q) {ci i : Nat} {fl : List (Option Nat)} (hlay : layL[i]? = some (.inl (ci, fl))) (hci : (vwCl[ci]?).map (fun r => r.1) = some q.1.cls) (hc : Ci K d q [rf K i] M Q0) (hW8 : (rest.map fun v => v.category).sum ≤ 8) (hd : decode cc pc = .ok (.invokevirtual idx, 3)) (k9 : ∀ (r : Int32) (N : Mem), Q0 r N → G K x nL (pc + 3) lv (.int r :: rest) N) : G K x nL pc lv (rf K i :: rest) M := G_callVi C (As := []) ok lk hlay hci hc rfl rfl hW8 hd k9
theorem G_cVr0 (C : Cok K x own cc nL (d + 1) Rp) {q : Mt} {idx : Nat} {r : Int32} {N : Mem} {rest : List Value} (ok : mOK q 0) (lk : lkV own idx q) {ci i : Nat} {fl : List (Option Nat)} (hlay : layL[i]? = some (.inl (ci, fl))) (hci : (vwCl[ci]?).map (fun r => r.1) = some q.1.cls) (hc : Ri K d q [rf K i] M r N) (hW8 : (rest.map fun v => v.category).sum ≤ 8) (hd : decode cc pc = .ok (.invokevirtual idx, 3)) (k9 : G K x nL (pc + 3) lv (.int r :: rest) N) : G K x nL pc lv (rf K i :: rest) M := G_callVi C (As := []) ok lk hlay hci hc rfl rfl hW8 hd (fun r' N' h => by obtain ⟨rfl, rfl⟩ := h; exact k9)
theorem G_cVv0 (C : Cok K x own cc nL (d + 1) Rp) {q : Mt} {idx : Nat} {Q0 : Mem → Prop} {rest : List Value} (ok : mOK q 0) (lk : lkV own idx q) {ci i : Nat} {fl : List (Option Nat)} (hlay : layL[i]? = some (.inl (ci, fl))) (hci : (vwCl[ci]?).map (fun r => r.1) = some q.1.cls) (hc : Cv K d q [rf K i] M Q0) (hW8 : (rest.map fun v => v.category).sum ≤ 8) (hd : decode cc pc = .ok (.invokevirtual idx, 3)) (k9 : ∀ (N : Mem), Q0 N → G K x nL (pc + 3) lv rest N) : G K x nL pc lv (rf K i :: rest) M := G_callVv C (As := []) ok lk hlay hci hc rfl rfl hW8 hd k9
theorem G_cVw0 (C : Cok K x own cc nL (d + 1) Rp) {q : Mt} {idx : Nat} {N : Mem} {rest : List Value} (ok : mOK q 0) (lk : lkV own idx q) {ci i : Nat} {fl : List (Option Nat)} (hlay : layL[i]? = some (.inl (ci, fl))) (hci : (vwCl[ci]?).map (fun r => r.1) = some q.1.cls) (hc : Rv K d q [rf K i] M N) (hW8 : (rest.map fun v => v.category).sum ≤ 8) (hd : decode cc pc = .ok (.invokevirtual idx, 3)) (k9 : G K x nL (pc + 3) lv rest N) : G K x nL pc lv (rf K i :: rest) M := G_callVv C (As := []) ok lk hlay hci hc rfl rfl hW8 hd (fun N' h => by subst h; exact k9)
theorem G_cVi1 (C : Cok K x own cc nL (d + 1) Rp) {q : Mt} {idx : Nat} {Q0 : Int32 → Mem → Prop} {v1 : Value} {rest : List Value} (ok : mOK q 1) (lk : lkV own idx q) {ci i : Nat} {fl : List (Option Nat)} (hlay : layL[i]? = some (.inl (ci, fl))) (hci : (vwCl[ci]?).map (fun r => r.1) = some q.1.cls) (hc : Ci K d q [rf K i, v1] M Q0) (hW8 : (rest.map fun v => v.category).sum ≤ 8) (hd : decode cc pc = .ok (.invokevirtual idx, 3)) (k9 : ∀ (r : Int32) (N : Mem), Q0 r N → G K x nL (pc + 3) lv (.int r :: rest) N) : G K x nL pc lv (v1 :: rf K i :: rest) M := G_callVi C (As := [v1]) ok lk hlay hci hc rfl rfl hW8 hd k9
theorem G_cVr1 (C : Cok K x own cc nL (d + 1) Rp) {q : Mt} {idx : Nat} {r : Int32} {N : Mem} {v1 : Value} {rest : List Value} (ok : mOK q 1) (lk : lkV own idx q) {ci i : Nat} {fl : List (Option Nat)} (hlay : layL[i]? = some (.inl (ci, fl))) (hci : (vwCl[ci]?).map (fun r => r.1) = some q.1.cls) (hc : Ri K d q [rf K i, v1] M r N) (hW8 : (rest.map fun v => v.category).sum ≤ 8) (hd : decode cc pc = .ok (.invokevirtual idx, 3)) (k9 : G K x nL (pc + 3) lv (.int r :: rest) N) : G K x nL pc lv (v1 :: rf K i :: rest) M := G_callVi C (As := [v1]) ok lk hlay hci hc rfl rfl hW8 hd (fun r' N' h => by obtain ⟨rfl, rfl⟩ := h; exact k9)
theorem G_cVv1 (C : Cok K x own cc nL (d + 1) Rp) {q : Mt} {idx : Nat} {Q0 : Mem → Prop} {v1 : Value} {rest : List Value} (ok : mOK q 1) (lk : lkV own idx q) {ci i : Nat} {fl : List (Option Nat)} (hlay : layL[i]? = some (.inl (ci, fl))) (hci : (vwCl[ci]?).map (fun r => r.1) = some q.1.cls) (hc : Cv K d q [rf K i, v1] M Q0) (hW8 : (rest.map fun v => v.category).sum ≤ 8) (hd : decode cc pc = .ok (.invokevirtual idx, 3)) (k9 : ∀ (N : Mem), Q0 N → G K x nL (pc + 3) lv rest N) : G K x nL pc lv (v1 :: rf K i :: rest) M := G_callVv C (As := [v1]) ok lk hlay hci hc rfl rfl hW8 hd k9
theorem G_cVw1 (C : Cok K x own cc nL (d + 1) Rp) {q : Mt} {idx : Nat} {N : Mem} {v1 : Value} {rest : List Value} (ok : mOK q 1) (lk : lkV own idx q) {ci i : Nat} {fl : List (Option Nat)} (hlay : layL[i]? = some (.inl (ci, fl))) (hci : (vwCl[ci]?).map (fun r => r.1) = some q.1.cls) (hc : Rv K d q [rf K i, v1] M N) (hW8 : (rest.map fun v => v.category).sum ≤ 8) (hd : decode cc pc = .ok (.invokevirtual idx, 3)) (k9 : G K x nL (pc + 3) lv rest N) : G K x nL pc lv (v1 :: rf K i :: rest) M := G_callVv C (As := [v1]) ok lk hlay hci hc rfl rfl hW8 hd (fun N' h => by subst h; exact k9)
theorem G_cVi2 (C : Cok K x own cc nL (d + 1) Rp) {q : Mt} {idx : Nat} {Q0 : Int32 → Mem → Prop} {v1 v2 : Value} {rest : List Value} (ok : mOK q 2) (lk : lkV own idx q) {ci i : Nat} {fl : List (Option Nat)} (hlay : layL[i]? = some (.inl (ci, fl))) (hci : (vwCl[ci]?).map (fun r => r.1) = some q.1.cls) (hc : Ci K d q [rf K i, v1, v2] M Q0) (hW8 : (rest.map fun v => v.category).sum ≤ 8) (hd : decode cc pc = .ok (.invokevirtual idx, 3)) (k9 : ∀ (r : Int32) (N : Mem), Q0 r N → G K x nL (pc + 3) lv (.int r :: rest) N) : G K x nL pc lv (v2 :: v1 :: rf K i :: rest) M := G_callVi C (As := [v1, v2]) ok lk hlay hci hc rfl rfl hW8 hd k9
theorem G_cVr2 (C : Cok K x own cc nL (d + 1) Rp) {q : Mt} {idx : Nat} {r : Int32} {N : Mem} {v1 v2 : Value} {rest : List Value} (ok : mOK q 2) (lk : lkV own idx q) {ci i : Nat} {fl : List (Option Nat)} (hlay : layL[i]? = some (.inl (ci, fl))) (hci : (vwCl[ci]?).map (fun r => r.1) = some q.1.cls) (hc : Ri K d q [rf K i, v1, v2] M r N) (hW8 : (rest.map fun v => v.category).sum ≤ 8) (hd : decode cc pc = .ok (.invokevirtual idx, 3)) (k9 : G K x nL (pc + 3) lv (.int r :: rest) N) : G K x nL pc lv (v2 :: v1 :: rf K i :: rest) M := G_callVi C (As := [v1, v2]) ok lk hlay hci hc rfl rfl hW8 hd (fun r' N' h => by obtain ⟨rfl, rfl⟩ := h; exact k9)
theorem G_cVv2 (C : Cok K x own cc nL (d + 1) Rp) {q : Mt} {idx : Nat} {Q0 : Mem → Prop} {v1 v2 : Value} {rest : List Value} (ok : mOK q 2) (lk : lkV own idx q) {ci i : Nat} {fl : List (Option Nat)} (hlay : layL[i]? = some (.inl (ci, fl))) (hci : (vwCl[ci]?).map (fun r => r.1) = some q.1.cls) (hc : Cv K d q [rf K i, v1, v2] M Q0) (hW8 : (rest.map fun v => v.category).sum ≤ 8) (hd : decode cc pc = .ok (.invokevirtual idx, 3)) (k9 : ∀ (N : Mem), Q0 N → G K x nL (pc + 3) lv rest N) : G K x nL pc lv (v2 :: v1 :: rf K i :: rest) M := G_callVv C (As := [v1, v2]) ok lk hlay hci hc rfl rfl hW8 hd k9
theorem G_cVw2 (C : Cok K x own cc nL (d + 1) Rp) {q : Mt} {idx : Nat} {N : Mem} {v1 v2 : Value} {rest : List Value} (ok : mOK q 2) (lk : lkV own idx q) {ci i : Nat} {fl : List (Option Nat)} (hlay : layL[i]? = some (.inl (ci, fl))) (hci : (vwCl[ci]?).map (fun r => r.1) = some q.1.cls) (hc : Rv K d q [rf K i, v1, v2] M N) (hW8 : (rest.map fun v => v.category).sum ≤ 8) (hd : decode cc pc = .ok (.invokevirtual idx, 3)) (k9 : G K x nL (pc + 3) lv rest N) : G K x nL pc lv (v2 :: v1 :: rf K i :: rest) M := G_callVv C (As := [v1, v2]) ok lk hlay hci hc rfl rfl hW8 hd (fun N' h => by subst h; exact k9)
theorem G_cVi3 (C : Cok K x own cc nL (d + 1) Rp) {q : Mt} {idx : Nat} {Q0 : Int32 → Mem → Prop} {v1 v2 v3 : Value} {rest : List Value} (ok : mOK q 3) (lk : lkV own idx q) {ci i : Nat} {fl : List (Option Nat)} (hlay : layL[i]? = some (.inl (ci, fl))) (hci : (vwCl[ci]?).map (fun r => r.1) = some q.1.cls) (hc : Ci K d q [rf K i, v1, v2, v3] M Q0) (hW8 : (rest.map fun v => v.category).sum ≤ 8) (hd : decode cc pc = .ok (.invokevirtual idx, 3)) (k9 : ∀ (r : Int32) (N : Mem), Q0 r N → G K x nL (pc + 3) lv (.int r :: rest) N) : G K x nL pc lv (v3 :: v2 :: v1 :: rf K i :: rest) M := G_callVi C (As := [v1, v2, v3]) ok lk hlay hci hc rfl rfl hW8 hd k9
theorem G_cVr3 (C : Cok K x own cc nL (d + 1) Rp) {q : Mt} {idx : Nat} {r : Int32} {N : Mem} {v1 v2 v3 : Value} {rest : List Value} (ok : mOK q 3) (lk : lkV own idx q) {ci i : Nat} {fl : List (Option Nat)} (hlay : layL[i]? = some (.inl (ci, fl))) (hci : (vwCl[ci]?).map (fun r => r.1) = some q.1.cls) (hc : Ri K d q [rf K i, v1, v2, v3] M r N) (hW8 : (rest.map fun v => v.category).sum ≤ 8) (hd : decode cc pc = .ok (.invokevirtual idx, 3)) (k9 : G K x nL (pc + 3) lv (.int r :: rest) N) : G K x nL pc lv (v3 :: v2 :: v1 :: rf K i :: rest) M := G_callVi C (As := [v1, v2, v3]) ok lk hlay hci hc rfl rfl hW8 hd (fun r' N' h => by obtain ⟨rfl, rfl⟩ := h; exact k9)
theorem G_cVv3 (C : Cok K x own cc nL (d + 1) Rp) {q : Mt} {idx : Nat} {Q0 : Mem → Prop} {v1 v2 v3 : Value} {rest : List Value} (ok : mOK q 3) (lk : lkV own idx q) {ci i : Nat} {fl : List (Option Nat)} (hlay : layL[i]? = some (.inl (ci, fl))) (hci : (vwCl[ci]?).map (fun r => r.1) = some q.1.cls) (hc : Cv K d q [rf K i, v1, v2, v3] M Q0) (hW8 : (rest.map fun v => v.category).sum ≤ 8) (hd : decode cc pc = .ok (.invokevirtual idx, 3)) (k9 : ∀ (N : Mem), Q0 N → G K x nL (pc + 3) lv rest N) : G K x nL pc lv (v3 :: v2 :: v1 :: rf K i :: rest) M := G_callVv C (As := [v1, v2, v3]) ok lk hlay hci hc rfl rfl hW8 hd k9
theorem G_cVw3 (C : Cok K x own cc nL (d + 1) Rp) {q : Mt} {idx : Nat} {N : Mem} {v1 v2 v3 : Value} {rest : List Value} (ok : mOK q 3) (lk : lkV own idx q) {ci i : Nat} {fl : List (Option Nat)} (hlay : layL[i]? = some (.inl (ci, fl))) (hci : (vwCl[ci]?).map (fun r => r.1) = some q.1.cls) (hc : Rv K d q [rf K i, v1, v2, v3] M N) (hW8 : (rest.map fun v => v.category).sum ≤ 8) (hd : decode cc pc = .ok (.invokevirtual idx, 3)) (k9 : G K x nL (pc + 3) lv rest N) : G K x nL pc lv (v3 :: v2 :: v1 :: rf K i :: rest) M := G_callVv C (As := [v1, v2, v3]) ok lk hlay hci hc rfl rfl hW8 hd (fun N' h => by subst h; exact k9)
theorem G_cVi4 (C : Cok K x own cc nL (d + 1) Rp) {q : Mt} {idx : Nat} {Q0 : Int32 → Mem → Prop} {v1 v2 v3 v4 : Value} {rest : List Value} (ok : mOK q 4) (lk : lkV own idx q) {ci i : Nat} {fl : List (Option Nat)} (hlay : layL[i]? = some (.inl (ci, fl))) (hci : (vwCl[ci]?).map (fun r => r.1) = some q.1.cls) (hc : Ci K d q [rf K i, v1, v2, v3, v4] M Q0) (hW8 : (rest.map fun v => v.category).sum ≤ 8) (hd : decode cc pc = .ok (.invokevirtual idx, 3)) (k9 : ∀ (r : Int32) (N : Mem), Q0 r N → G K x nL (pc + 3) lv (.int r :: rest) N) : G K x nL pc lv (v4 :: v3 :: v2 :: v1 :: rf K i :: rest) M := G_callVi C (As := [v1, v2, v3, v4]) ok lk hlay hci hc rfl rfl hW8 hd k9
theorem G_cVr4 (C : Cok K x own cc nL (d + 1) Rp) {q : Mt} {idx : Nat} {r : Int32} {N : Mem} {v1 v2 v3 v4 : Value} {rest : List Value} (ok : mOK q 4) (lk : lkV own idx q) {ci i : Nat} {fl : List (Option Nat)} (hlay : layL[i]? = some (.inl (ci, fl))) (hci : (vwCl[ci]?).map (fun r => r.1) = some q.1.cls) (hc : Ri K d q [rf K i, v1, v2, v3, v4] M r N) (hW8 : (rest.map fun v => v.category).sum ≤ 8) (hd : decode cc pc = .ok (.invokevirtual idx, 3)) (k9 : G K x nL (pc + 3) lv (.int r :: rest) N) : G K x nL pc lv (v4 :: v3 :: v2 :: v1 :: rf K i :: rest) M := G_callVi C (As := [v1, v2, v3, v4]) ok lk hlay hci hc rfl rfl hW8 hd (fun r' N' h => by obtain ⟨rfl, rfl⟩ := h; exact k9)
theorem G_cVv4 (C : Cok K x own cc nL (d + 1) Rp) {q : Mt} {idx : Nat} {Q0 : Mem → Prop} {v1 v2 v3 v4 : Value} {rest : List Value} (ok : mOK q 4) (lk : lkV own idx q) {ci i : Nat} {fl : List (Option Nat)} (hlay : layL[i]? = some (.inl (ci, fl))) (hci : (vwCl[ci]?).map (fun r => r.1) = some q.1.cls) (hc : Cv K d q [rf K i, v1, v2, v3, v4] M Q0) (hW8 : (rest.map fun v => v.category).sum ≤ 8) (hd : decode cc pc = .ok (.invokevirtual idx, 3)) (k9 : ∀ (N : Mem), Q0 N → G K x nL (pc + 3) lv rest N) : G K x nL pc lv (v4 :: v3 :: v2 :: v1 :: rf K i :: rest) M := G_callVv C (As := [v1, v2, v3, v4]) ok lk hlay hci hc rfl rfl hW8 hd k9
theorem G_cVw4 (C : Cok K x own cc nL (d + 1) Rp) {q : Mt} {idx : Nat} {N : Mem} {v1 v2 v3 v4 : Value} {rest : List Value} (ok : mOK q 4) (lk : lkV own idx q) {ci i : Nat} {fl : List (Option Nat)} (hlay : layL[i]? = some (.inl (ci, fl))) (hci : (vwCl[ci]?).map (fun r => r.1) = some q.1.cls) (hc : Rv K d q [rf K i, v1, v2, v3, v4] M N) (hW8 : (rest.map fun v => v.category).sum ≤ 8) (hd : decode cc pc = .ok (.invokevirtual idx, 3)) (k9 : G K x nL (pc + 3) lv rest N) : G K x nL pc lv (v4 :: v3 :: v2 :: v1 :: rf K i :: rest) M := G_callVv C (As := [v1, v2, v3, v4]) ok lk hlay hci hc rfl rfl hW8 hd (fun N' h => by subst h; exact k9)
theorem G_cVi5 (C : Cok K x own cc nL (d + 1) Rp) {q : Mt} {idx : Nat} {Q0 : Int32 → Mem → Prop} {v1 v2 v3 v4 v5 : Value} {rest : List Value} (ok : mOK q 5) (lk : lkV own idx q) {ci i : Nat} {fl : List (Option Nat)} (hlay : layL[i]? = some (.inl (ci, fl))) (hci : (vwCl[ci]?).map (fun r => r.1) = some q.1.cls) (hc : Ci K d q [rf K i, v1, v2, v3, v4, v5] M Q0) (hW8 : (rest.map fun v => v.category).sum ≤ 8) (hd : decode cc pc = .ok (.invokevirtual idx, 3)) (k9 : ∀ (r : Int32) (N : Mem), Q0 r N → G K x nL (pc + 3) lv (.int r :: rest) N) : G K x nL pc lv (v5 :: v4 :: v3 :: v2 :: v1 :: rf K i :: rest) M := G_callVi C (As := [v1, v2, v3, v4, v5]) ok lk hlay hci hc rfl rfl hW8 hd k9
theorem G_cVr5 (C : Cok K x own cc nL (d + 1) Rp) {q : Mt} {idx : Nat} {r : Int32} {N : Mem} {v1 v2 v3 v4 v5 : Value} {rest : List Value} (ok : mOK q 5) (lk : lkV own idx q) {ci i : Nat} {fl : List (Option Nat)} (hlay : layL[i]? = some (.inl (ci, fl))) (hci : (vwCl[ci]?).map (fun r => r.1) = some q.1.cls) (hc : Ri K d q [rf K i, v1, v2, v3, v4, v5] M r N) (hW8 : (rest.map fun v => v.category).sum ≤ 8) (hd : decode cc pc = .ok (.invokevirtual idx, 3)) (k9 : G K x nL (pc + 3) lv (.int r :: rest) N) : G K x nL pc lv (v5 :: v4 :: v3 :: v2 :: v1 :: rf K i :: rest) M := G_callVi C (As := [v1, v2, v3, v4, v5]) ok lk hlay hci hc rfl rfl hW8 hd (fun r' N' h => by obtain ⟨rfl, rfl⟩ := h; exact k9)
theorem G_cVv5 (C : Cok K x own cc nL (d + 1) Rp) {q : Mt} {idx : Nat} {Q0 : Mem → Prop} {v1 v2 v3 v4 v5 : Value} {rest : List Value} (ok : mOK q 5) (lk : lkV own idx q) {ci i : Nat} {fl : List (Option Nat)} (hlay : layL[i]? = some (.inl (ci, fl))) (hci : (vwCl[ci]?).map (fun r => r.1) = some q.1.cls) (hc : Cv K d q [rf K i, v1, v2, v3, v4, v5] M Q0) (hW8 : (rest.map fun v => v.category).sum ≤ 8) (hd : decode cc pc = .ok (.invokevirtual idx, 3)) (k9 : ∀ (N : Mem), Q0 N → G K x nL (pc + 3) lv rest N) : G K x nL pc lv (v5 :: v4 :: v3 :: v2 :: v1 :: rf K i :: rest) M := G_callVv C (As := [v1, v2, v3, v4, v5]) ok lk hlay hci hc rfl rfl hW8 hd k9
theorem G_cVw5 (C : Cok K x own cc nL (d + 1) Rp) {q : Mt} {idx : Nat} {N : Mem} {v1 v2 v3 v4 v5 : Value} {rest : List Value} (ok : mOK q 5) (lk : lkV own idx q) {ci i : Nat} {fl : List (Option Nat)} (hlay : layL[i]? = some (.inl (ci, fl))) (hci : (vwCl[ci]?).map (fun r => r.1) = some q.1.cls) (hc : Rv K d q [rf K i, v1, v2, v3, v4, v5] M N) (hW8 : (rest.map fun v => v.category).sum ≤ 8) (hd : decode cc pc = .ok (.invokevirtual idx, 3)) (k9 : G K x nL (pc + 3) lv rest N) : G K x nL pc lv (v5 :: v4 :: v3 :: v2 :: v1 :: rf K i :: rest) M := G_callVv C (As := [v1, v2, v3, v4, v5]) ok lk hlay hci hc rfl rfl hW8 hd (fun N' h => by subst h; exact k9)
theorem G_cUi0 (C : Cok K x own cc nL (d + 1) Rp) {q : Mt} {idx : Nat} {Q0 : Int32 → Mem → Prop} {rest : List Value} (ok : mOK q 0) (lk : lkV own idx q) {i : Nat} (hi : i < 6) (hcs : q.1.cls = "java/lang/String") (hc : Ci K d q [sf K i] M Q0) (hW8 : (rest.map fun v => v.category).sum ≤ 8) (hd : decode cc pc = .ok (.invokevirtual idx, 3)) (k9 : ∀ (r : Int32) (N : Mem), Q0 r N → G K x nL (pc + 3) lv (.int r :: rest) N) : G K x nL pc lv (sf K i :: rest) M := G_callUi C (As := []) ok lk hi hcs hc rfl rfl hW8 hd k9
theorem G_cUr0 (C : Cok K x own cc nL (d + 1) Rp) {q : Mt} {idx : Nat} {r : Int32} {N : Mem} {rest : List Value} (ok : mOK q 0) (lk : lkV own idx q) {i : Nat} (hi : i < 6) (hcs : q.1.cls = "java/lang/String") (hc : Ri K d q [sf K i] M r N) (hW8 : (rest.map fun v => v.category).sum ≤ 8) (hd : decode cc pc = .ok (.invokevirtual idx, 3)) (k9 : G K x nL (pc + 3) lv (.int r :: rest) N) : G K x nL pc lv (sf K i :: rest) M := G_callUi C (As := []) ok lk hi hcs hc rfl rfl hW8 hd (fun r' N' h => by obtain ⟨rfl, rfl⟩ := h; exact k9)
theorem G_cUv0 (C : Cok K x own cc nL (d + 1) Rp) {q : Mt} {idx : Nat} {Q0 : Mem → Prop} {rest : List Value} (ok : mOK q 0) (lk : lkV own idx q) {i : Nat} (hi : i < 6) (hcs : q.1.cls = "java/lang/String") (hc : Cv K d q [sf K i] M Q0) (hW8 : (rest.map fun v => v.category).sum ≤ 8) (hd : decode cc pc = .ok (.invokevirtual idx, 3)) (k9 : ∀ (N : Mem), Q0 N → G K x nL (pc + 3) lv rest N) : G K x nL pc lv (sf K i :: rest) M := G_callUv C (As := []) ok lk hi hcs hc rfl rfl hW8 hd k9
theorem G_cUw0 (C : Cok K x own cc nL (d + 1) Rp) {q : Mt} {idx : Nat} {N : Mem} {rest : List Value} (ok : mOK q 0) (lk : lkV own idx q) {i : Nat} (hi : i < 6) (hcs : q.1.cls = "java/lang/String") (hc : Rv K d q [sf K i] M N) (hW8 : (rest.map fun v => v.category).sum ≤ 8) (hd : decode cc pc = .ok (.invokevirtual idx, 3)) (k9 : G K x nL (pc + 3) lv rest N) : G K x nL pc lv (sf K i :: rest) M := G_callUv C (As := []) ok lk hi hcs hc rfl rfl hW8 hd (fun N' h => by subst h; exact k9)
theorem G_cUi1 (C : Cok K x own cc nL (d + 1) Rp) {q : Mt} {idx : Nat} {Q0 : Int32 → Mem → Prop} {v1 : Value} {rest : List Value} (ok : mOK q 1) (lk : lkV own idx q) {i : Nat} (hi : i < 6) (hcs : q.1.cls = "java/lang/String") (hc : Ci K d q [sf K i, v1] M Q0) (hW8 : (rest.map fun v => v.category).sum ≤ 8) (hd : decode cc pc = .ok (.invokevirtual idx, 3)) (k9 : ∀ (r : Int32) (N : Mem), Q0 r N → G K x nL (pc + 3) lv (.int r :: rest) N) : G K x nL pc lv (v1 :: sf K i :: rest) M := G_callUi C (As := [v1]) ok lk hi hcs hc rfl rfl hW8 hd k9
theorem G_cUr1 (C : Cok K x own cc nL (d + 1) Rp) {q : Mt} {idx : Nat} {r : Int32} {N : Mem} {v1 : Value} {rest : List Value} (ok : mOK q 1) (lk : lkV own idx q) {i : Nat} (hi : i < 6) (hcs : q.1.cls = "java/lang/String") (hc : Ri K d q [sf K i, v1] M r N) (hW8 : (rest.map fun v => v.category).sum ≤ 8) (hd : decode cc pc = .ok (.invokevirtual idx, 3)) (k9 : G K x nL (pc + 3) lv (.int r :: rest) N) : G K x nL pc lv (v1 :: sf K i :: rest) M := G_callUi C (As := [v1]) ok lk hi hcs hc rfl rfl hW8 hd (fun r' N' h => by obtain ⟨rfl, rfl⟩ := h; exact k9)
theorem G_cUv1 (C : Cok K x own cc nL (d + 1) Rp) {q : Mt} {idx : Nat} {Q0 : Mem → Prop} {v1 : Value} {rest : List Value} (ok : mOK q 1) (lk : lkV own idx q) {i : Nat} (hi : i < 6) (hcs : q.1.cls = "java/lang/String") (hc : Cv K d q [sf K i, v1] M Q0) (hW8 : (rest.map fun v => v.category).sum ≤ 8) (hd : decode cc pc = .ok (.invokevirtual idx, 3)) (k9 : ∀ (N : Mem), Q0 N → G K x nL (pc + 3) lv rest N) : G K x nL pc lv (v1 :: sf K i :: rest) M := G_callUv C (As := [v1]) ok lk hi hcs hc rfl rfl hW8 hd k9
theorem G_cUw1 (C : Cok K x own cc nL (d + 1) Rp) {q : Mt} {idx : Nat} {N : Mem} {v1 : Value} {rest : List Value} (ok : mOK q 1) (lk : lkV own idx q) {i : Nat} (hi : i < 6) (hcs : q.1.cls = "java/lang/String") (hc : Rv K d q [sf K i, v1] M N) (hW8 : (rest.map fun v => v.category).sum ≤ 8) (hd : decode cc pc = .ok (.invokevirtual idx, 3)) (k9 : G K x nL (pc + 3) lv rest N) : G K x nL pc lv (v1 :: sf K i :: rest) M := G_callUv C (As := [v1]) ok lk hi hcs hc rfl rfl hW8 hd (fun N' h => by subst h; exact k9)
theorem G_cSi1 (C : Cok K x own cc nL (d + 1) Rp) {q : Mt} {idx : Nat} {Q0 : Int32 → Mem → Prop} {v1 : Value} {rest : List Value} (ok : mOK q 1) (lk : lkS own idx q) (hc : Ci K d q [v1] M Q0) (hW8 : (rest.map fun v => v.category).sum ≤ 8) (hd : decode cc pc = .ok (.invokestatic idx, 3)) (k9 : ∀ (r : Int32) (N : Mem), Q0 r N → G K x nL (pc + 3) lv (.int r :: rest) N) : G K x nL pc lv (v1 :: rest) M := G_callSi C (As := [v1]) ok lk hc rfl rfl hW8 hd k9
theorem G_cSr1 (C : Cok K x own cc nL (d + 1) Rp) {q : Mt} {idx : Nat} {r : Int32} {N : Mem} {v1 : Value} {rest : List Value} (ok : mOK q 1) (lk : lkS own idx q) (hc : Ri K d q [v1] M r N) (hW8 : (rest.map fun v => v.category).sum ≤ 8) (hd : decode cc pc = .ok (.invokestatic idx, 3)) (k9 : G K x nL (pc + 3) lv (.int r :: rest) N) : G K x nL pc lv (v1 :: rest) M := G_callSi C (As := [v1]) ok lk hc rfl rfl hW8 hd (fun r' N' h => by obtain ⟨rfl, rfl⟩ := h; exact k9)
theorem G_cSv1 (C : Cok K x own cc nL (d + 1) Rp) {q : Mt} {idx : Nat} {Q0 : Mem → Prop} {v1 : Value} {rest : List Value} (ok : mOK q 1) (lk : lkS own idx q) (hc : Cv K d q [v1] M Q0) (hW8 : (rest.map fun v => v.category).sum ≤ 8) (hd : decode cc pc = .ok (.invokestatic idx, 3)) (k9 : ∀ (N : Mem), Q0 N → G K x nL (pc + 3) lv rest N) : G K x nL pc lv (v1 :: rest) M := G_callSv C (As := [v1]) ok lk hc rfl rfl hW8 hd k9
theorem G_cSw1 (C : Cok K x own cc nL (d + 1) Rp) {q : Mt} {idx : Nat} {N : Mem} {v1 : Value} {rest : List Value} (ok : mOK q 1) (lk : lkS own idx q) (hc : Rv K d q [v1] M N) (hW8 : (rest.map fun v => v.category).sum ≤ 8) (hd : decode cc pc = .ok (.invokestatic idx, 3)) (k9 : G K x nL (pc + 3) lv rest N) : G K x nL pc lv (v1 :: rest) M := G_callSv C (As := [v1]) ok lk hc rfl rfl hW8 hd (fun N' h => by subst h; exact k9)
theorem G_cSi2 (C : Cok K x own cc nL (d + 1) Rp) {q : Mt} {idx : Nat} {Q0 : Int32 → Mem → Prop} {v1 v2 : Value} {rest : List Value} (ok : mOK q 2) (lk : lkS own idx q) (hc : Ci K d q [v1, v2] M Q0) (hW8 : (rest.map fun v => v.category).sum ≤ 8) (hd : decode cc pc = .ok (.invokestatic idx, 3)) (k9 : ∀ (r : Int32) (N : Mem), Q0 r N → G K x nL (pc + 3) lv (.int r :: rest) N) : G K x nL pc lv (v2 :: v1 :: rest) M := G_callSi C (As := [v1, v2]) ok lk hc rfl rfl hW8 hd k9
theorem G_cSr2 (C : Cok K x own cc nL (d + 1) Rp) {q : Mt} {idx : Nat} {r : Int32} {N : Mem} {v1 v2 : Value} {rest : List Value} (ok : mOK q 2) (lk : lkS own idx q) (hc : Ri K d q [v1, v2] M r N) (hW8 : (rest.map fun v => v.category).sum ≤ 8) (hd : decode cc pc = .ok (.invokestatic idx, 3)) (k9 : G K x nL (pc + 3) lv (.int r :: rest) N) : G K x nL pc lv (v2 :: v1 :: rest) M := G_callSi C (As := [v1, v2]) ok lk hc rfl rfl hW8 hd (fun r' N' h => by obtain ⟨rfl, rfl⟩ := h; exact k9)
theorem G_cSv2 (C : Cok K x own cc nL (d + 1) Rp) {q : Mt} {idx : Nat} {Q0 : Mem → Prop} {v1 v2 : Value} {rest : List Value} (ok : mOK q 2) (lk : lkS own idx q) (hc : Cv K d q [v1, v2] M Q0) (hW8 : (rest.map fun v => v.category).sum ≤ 8) (hd : decode cc pc = .ok (.invokestatic idx, 3)) (k9 : ∀ (N : Mem), Q0 N → G K x nL (pc + 3) lv rest N) : G K x nL pc lv (v2 :: v1 :: rest) M := G_callSv C (As := [v1, v2]) ok lk hc rfl rfl hW8 hd k9
theorem G_cSw2 (C : Cok K x own cc nL (d + 1) Rp) {q : Mt} {idx : Nat} {N : Mem} {v1 v2 : Value} {rest : List Value} (ok : mOK q 2) (lk : lkS own idx q) (hc : Rv K d q [v1, v2] M N) (hW8 : (rest.map fun v => v.category).sum ≤ 8) (hd : decode cc pc = .ok (.invokestatic idx, 3)) (k9 : G K x nL (pc + 3) lv rest N) : G K x nL pc lv (v2 :: v1 :: rest) M := G_callSv C (As := [v1, v2]) ok lk hc rfl rfl hW8 hd (fun N' h => by subst h; exact k9)
theorem G_cSi3 (C : Cok K x own cc nL (d + 1) Rp) {q : Mt} {idx : Nat} {Q0 : Int32 → Mem → Prop} {v1 v2 v3 : Value} {rest : List Value} (ok : mOK q 3) (lk : lkS own idx q) (hc : Ci K d q [v1, v2, v3] M Q0) (hW8 : (rest.map fun v => v.category).sum ≤ 8) (hd : decode cc pc = .ok (.invokestatic idx, 3)) (k9 : ∀ (r : Int32) (N : Mem), Q0 r N → G K x nL (pc + 3) lv (.int r :: rest) N) : G K x nL pc lv (v3 :: v2 :: v1 :: rest) M := G_callSi C (As := [v1, v2, v3]) ok lk hc rfl rfl hW8 hd k9
theorem G_cSr3 (C : Cok K x own cc nL (d + 1) Rp) {q : Mt} {idx : Nat} {r : Int32} {N : Mem} {v1 v2 v3 : Value} {rest : List Value} (ok : mOK q 3) (lk : lkS own idx q) (hc : Ri K d q [v1, v2, v3] M r N) (hW8 : (rest.map fun v => v.category).sum ≤ 8) (hd : decode cc pc = .ok (.invokestatic idx, 3)) (k9 : G K x nL (pc + 3) lv (.int r :: rest) N) : G K x nL pc lv (v3 :: v2 :: v1 :: rest) M := G_callSi C (As := [v1, v2, v3]) ok lk hc rfl rfl hW8 hd (fun r' N' h => by obtain ⟨rfl, rfl⟩ := h; exact k9)
theorem G_cSv3 (C : Cok K x own cc nL (d + 1) Rp) {q : Mt} {idx : Nat} {Q0 : Mem → Prop} {v1 v2 v3 : Value} {rest : List Value} (ok : mOK q 3) (lk : lkS own idx q) (hc : Cv K d q [v1, v2, v3] M Q0) (hW8 : (rest.map fun v => v.category).sum ≤ 8) (hd : decode cc pc = .ok (.invokestatic idx, 3)) (k9 : ∀ (N : Mem), Q0 N → G K x nL (pc + 3) lv rest N) : G K x nL pc lv (v3 :: v2 :: v1 :: rest) M := G_callSv C (As := [v1, v2, v3]) ok lk hc rfl rfl hW8 hd k9
theorem G_cSw3 (C : Cok K x own cc nL (d + 1) Rp) {q : Mt} {idx : Nat} {N : Mem} {v1 v2 v3 : Value} {rest : List Value} (ok : mOK q 3) (lk : lkS own idx q) (hc : Rv K d q [v1, v2, v3] M N) (hW8 : (rest.map fun v => v.category).sum ≤ 8) (hd : decode cc pc = .ok (.invokestatic idx, 3)) (k9 : G K x nL (pc + 3) lv rest N) : G K x nL pc lv (v3 :: v2 :: v1 :: rest) M := G_callSv C (As := [v1, v2, v3]) ok lk hc rfl rfl hW8 hd (fun N' h => by subst h; exact k9)
theorem G_cSi4 (C : Cok K x own cc nL (d + 1) Rp) {q : Mt} {idx : Nat} {Q0 : Int32 → Mem → Prop} {v1 v2 v3 v4 : Value} {rest : List Value} (ok : mOK q 4) (lk : lkS own idx q) (hc : Ci K d q [v1, v2, v3, v4] M Q0) (hW8 : (rest.map fun v => v.category).sum ≤ 8) (hd : decode cc pc = .ok (.invokestatic idx, 3)) (k9 : ∀ (r : Int32) (N : Mem), Q0 r N → G K x nL (pc + 3) lv (.int r :: rest) N) : G K x nL pc lv (v4 :: v3 :: v2 :: v1 :: rest) M := G_callSi C (As := [v1, v2, v3, v4]) ok lk hc rfl rfl hW8 hd k9
theorem G_cSr4 (C : Cok K x own cc nL (d + 1) Rp) {q : Mt} {idx : Nat} {r : Int32} {N : Mem} {v1 v2 v3 v4 : Value} {rest : List Value} (ok : mOK q 4) (lk : lkS own idx q) (hc : Ri K d q [v1, v2, v3, v4] M r N) (hW8 : (rest.map fun v => v.category).sum ≤ 8) (hd : decode cc pc = .ok (.invokestatic idx, 3)) (k9 : G K x nL (pc + 3) lv (.int r :: rest) N) : G K x nL pc lv (v4 :: v3 :: v2 :: v1 :: rest) M := G_callSi C (As := [v1, v2, v3, v4]) ok lk hc rfl rfl hW8 hd (fun r' N' h => by obtain ⟨rfl, rfl⟩ := h; exact k9)
theorem G_cSv4 (C : Cok K x own cc nL (d + 1) Rp) {q : Mt} {idx : Nat} {Q0 : Mem → Prop} {v1 v2 v3 v4 : Value} {rest : List Value} (ok : mOK q 4) (lk : lkS own idx q) (hc : Cv K d q [v1, v2, v3, v4] M Q0) (hW8 : (rest.map fun v => v.category).sum ≤ 8) (hd : decode cc pc = .ok (.invokestatic idx, 3)) (k9 : ∀ (N : Mem), Q0 N → G K x nL (pc + 3) lv rest N) : G K x nL pc lv (v4 :: v3 :: v2 :: v1 :: rest) M := G_callSv C (As := [v1, v2, v3, v4]) ok lk hc rfl rfl hW8 hd k9
theorem G_cSw4 (C : Cok K x own cc nL (d + 1) Rp) {q : Mt} {idx : Nat} {N : Mem} {v1 v2 v3 v4 : Value} {rest : List Value} (ok : mOK q 4) (lk : lkS own idx q) (hc : Rv K d q [v1, v2, v3, v4] M N) (hW8 : (rest.map fun v => v.category).sum ≤ 8) (hd : decode cc pc = .ok (.invokestatic idx, 3)) (k9 : G K x nL (pc + 3) lv rest N) : G K x nL pc lv (v4 :: v3 :: v2 :: v1 :: rest) M := G_callSv C (As := [v1, v2, v3, v4]) ok lk hc rfl rfl hW8 hd (fun N' h => by subst h; exact k9)
theorem G_cSi5 (C : Cok K x own cc nL (d + 1) Rp) {q : Mt} {idx : Nat} {Q0 : Int32 → Mem → Prop} {v1 v2 v3 v4 v5 : Value} {rest : List Value} (ok : mOK q 5) (lk : lkS own idx q) (hc : Ci K d q [v1, v2, v3, v4, v5] M Q0) (hW8 : (rest.map fun v => v.category).sum ≤ 8) (hd : decode cc pc = .ok (.invokestatic idx, 3)) (k9 : ∀ (r : Int32) (N : Mem), Q0 r N → G K x nL (pc + 3) lv (.int r :: rest) N) : G K x nL pc lv (v5 :: v4 :: v3 :: v2 :: v1 :: rest) M := G_callSi C (As := [v1, v2, v3, v4, v5]) ok lk hc rfl rfl hW8 hd k9
theorem G_cSr5 (C : Cok K x own cc nL (d + 1) Rp) {q : Mt} {idx : Nat} {r : Int32} {N : Mem} {v1 v2 v3 v4 v5 : Value} {rest : List Value} (ok : mOK q 5) (lk : lkS own idx q) (hc : Ri K d q [v1, v2, v3, v4, v5] M r N) (hW8 : (rest.map fun v => v.category).sum ≤ 8) (hd : decode cc pc = .ok (.invokestatic idx, 3)) (k9 : G K x nL (pc + 3) lv (.int r :: rest) N) : G K x nL pc lv (v5 :: v4 :: v3 :: v2 :: v1 :: rest) M := G_callSi C (As := [v1, v2, v3, v4, v5]) ok lk hc rfl rfl hW8 hd (fun r' N' h => by obtain ⟨rfl, rfl⟩ := h; exact k9)
theorem G_cSv5 (C : Cok K x own cc nL (d + 1) Rp) {q : Mt} {idx : Nat} {Q0 : Mem → Prop} {v1 v2 v3 v4 v5 : Value} {rest : List Value} (ok : mOK q 5) (lk : lkS own idx q) (hc : Cv K d q [v1, v2, v3, v4, v5] M Q0) (hW8 : (rest.map fun v => v.category).sum ≤ 8) (hd : decode cc pc = .ok (.invokestatic idx, 3)) (k9 : ∀ (N : Mem), Q0 N → G K x nL (pc + 3) lv rest N) : G K x nL pc lv (v5 :: v4 :: v3 :: v2 :: v1 :: rest) M := G_callSv C (As := [v1, v2, v3, v4, v5]) ok lk hc rfl rfl hW8 hd k9
theorem G_cSw5 (C : Cok K x own cc nL (d + 1) Rp) {q : Mt} {idx : Nat} {N : Mem} {v1 v2 v3 v4 v5 : Value} {rest : List Value} (ok : mOK q 5) (lk : lkS own idx q) (hc : Rv K d q [v1, v2, v3, v4, v5] M N) (hW8 : (rest.map fun v => v.category).sum ≤ 8) (hd : decode cc pc = .ok (.invokestatic idx, 3)) (k9 : G K x nL (pc + 3) lv rest N) : G K x nL pc lv (v5 :: v4 :: v3 :: v2 :: v1 :: rest) M := G_callSv C (As := [v1, v2, v3, v4, v5]) ok lk hc rfl rfl hW8 hd (fun N' h => by subst h; exact k9)
theorem G_cNi1 (C : Cok K x own cc nL (d + 1) Rp) {q : Mt} {idx : Nat} {Q0 : Int32 → Mem → Prop} {v1 : Value} {rest : List Value} (ok : mOK q 1) (lk : lkN own idx q) (hc : Ci K d q [v1] M Q0) (hW8 : (rest.map fun v => v.category).sum ≤ 8) (hd : decode cc pc = .ok (.invokestatic idx, 3)) (k9 : ∀ (r : Int32) (N : Mem), Q0 r N → G K x nL (pc + 3) lv (.int r :: rest) N) : G K x nL pc lv (v1 :: rest) M := G_callNi C (As := [v1]) ok lk hc rfl rfl hW8 hd k9
theorem G_cNr1 (C : Cok K x own cc nL (d + 1) Rp) {q : Mt} {idx : Nat} {r : Int32} {N : Mem} {v1 : Value} {rest : List Value} (ok : mOK q 1) (lk : lkN own idx q) (hc : Ri K d q [v1] M r N) (hW8 : (rest.map fun v => v.category).sum ≤ 8) (hd : decode cc pc = .ok (.invokestatic idx, 3)) (k9 : G K x nL (pc + 3) lv (.int r :: rest) N) : G K x nL pc lv (v1 :: rest) M := G_callNi C (As := [v1]) ok lk hc rfl rfl hW8 hd (fun r' N' h => by obtain ⟨rfl, rfl⟩ := h; exact k9)
theorem G_cNv1 (C : Cok K x own cc nL (d + 1) Rp) {q : Mt} {idx : Nat} {Q0 : Mem → Prop} {v1 : Value} {rest : List Value} (ok : mOK q 1) (lk : lkN own idx q) (hc : Cv K d q [v1] M Q0) (hW8 : (rest.map fun v => v.category).sum ≤ 8) (hd : decode cc pc = .ok (.invokestatic idx, 3)) (k9 : ∀ (N : Mem), Q0 N → G K x nL (pc + 3) lv rest N) : G K x nL pc lv (v1 :: rest) M := G_callNv C (As := [v1]) ok lk hc rfl rfl hW8 hd k9
theorem G_cNw1 (C : Cok K x own cc nL (d + 1) Rp) {q : Mt} {idx : Nat} {N : Mem} {v1 : Value} {rest : List Value} (ok : mOK q 1) (lk : lkN own idx q) (hc : Rv K d q [v1] M N) (hW8 : (rest.map fun v => v.category).sum ≤ 8) (hd : decode cc pc = .ok (.invokestatic idx, 3)) (k9 : G K x nL (pc + 3) lv rest N) : G K x nL pc lv (v1 :: rest) M := G_callNv C (As := [v1]) ok lk hc rfl rfl hW8 hd (fun N' h => by subst h; exact k9)
theorem G_cNi2 (C : Cok K x own cc nL (d + 1) Rp) {q : Mt} {idx : Nat} {Q0 : Int32 → Mem → Prop} {v1 v2 : Value} {rest : List Value} (ok : mOK q 2) (lk : lkN own idx q) (hc : Ci K d q [v1, v2] M Q0) (hW8 : (rest.map fun v => v.category).sum ≤ 8) (hd : decode cc pc = .ok (.invokestatic idx, 3)) (k9 : ∀ (r : Int32) (N : Mem), Q0 r N → G K x nL (pc + 3) lv (.int r :: rest) N) : G K x nL pc lv (v2 :: v1 :: rest) M := G_callNi C (As := [v1, v2]) ok lk hc rfl rfl hW8 hd k9
theorem G_cNr2 (C : Cok K x own cc nL (d + 1) Rp) {q : Mt} {idx : Nat} {r : Int32} {N : Mem} {v1 v2 : Value} {rest : List Value} (ok : mOK q 2) (lk : lkN own idx q) (hc : Ri K d q [v1, v2] M r N) (hW8 : (rest.map fun v => v.category).sum ≤ 8) (hd : decode cc pc = .ok (.invokestatic idx, 3)) (k9 : G K x nL (pc + 3) lv (.int r :: rest) N) : G K x nL pc lv (v2 :: v1 :: rest) M := G_callNi C (As := [v1, v2]) ok lk hc rfl rfl hW8 hd (fun r' N' h => by obtain ⟨rfl, rfl⟩ := h; exact k9)
theorem G_cNv2 (C : Cok K x own cc nL (d + 1) Rp) {q : Mt} {idx : Nat} {Q0 : Mem → Prop} {v1 v2 : Value} {rest : List Value} (ok : mOK q 2) (lk : lkN own idx q) (hc : Cv K d q [v1, v2] M Q0) (hW8 : (rest.map fun v => v.category).sum ≤ 8) (hd : decode cc pc = .ok (.invokestatic idx, 3)) (k9 : ∀ (N : Mem), Q0 N → G K x nL (pc + 3) lv rest N) : G K x nL pc lv (v2 :: v1 :: rest) M := G_callNv C (As := [v1, v2]) ok lk hc rfl rfl hW8 hd k9
theorem G_cNw2 (C : Cok K x own cc nL (d + 1) Rp) {q : Mt} {idx : Nat} {N : Mem} {v1 v2 : Value} {rest : List Value} (ok : mOK q 2) (lk : lkN own idx q) (hc : Rv K d q [v1, v2] M N) (hW8 : (rest.map fun v => v.category).sum ≤ 8) (hd : decode cc pc = .ok (.invokestatic idx, 3)) (k9 : G K x nL (pc + 3) lv rest N) : G K x nL pc lv (v2 :: v1 :: rest) M := G_callNv C (As := [v1, v2]) ok lk hc rfl rfl hW8 hd (fun N' h => by subst h; exact k9)
theorem G_cNi3 (C : Cok K x own cc nL (d + 1) Rp) {q : Mt} {idx : Nat} {Q0 : Int32 → Mem → Prop} {v1 v2 v3 : Value} {rest : List Value} (ok : mOK q 3) (lk : lkN own idx q) (hc : Ci K d q [v1, v2, v3] M Q0) (hW8 : (rest.map fun v => v.category).sum ≤ 8) (hd : decode cc pc = .ok (.invokestatic idx, 3)) (k9 : ∀ (r : Int32) (N : Mem), Q0 r N → G K x nL (pc + 3) lv (.int r :: rest) N) : G K x nL pc lv (v3 :: v2 :: v1 :: rest) M := G_callNi C (As := [v1, v2, v3]) ok lk hc rfl rfl hW8 hd k9
theorem G_cNr3 (C : Cok K x own cc nL (d + 1) Rp) {q : Mt} {idx : Nat} {r : Int32} {N : Mem} {v1 v2 v3 : Value} {rest : List Value} (ok : mOK q 3) (lk : lkN own idx q) (hc : Ri K d q [v1, v2, v3] M r N) (hW8 : (rest.map fun v => v.category).sum ≤ 8) (hd : decode cc pc = .ok (.invokestatic idx, 3)) (k9 : G K x nL (pc + 3) lv (.int r :: rest) N) : G K x nL pc lv (v3 :: v2 :: v1 :: rest) M := G_callNi C (As := [v1, v2, v3]) ok lk hc rfl rfl hW8 hd (fun r' N' h => by obtain ⟨rfl, rfl⟩ := h; exact k9)
theorem G_cNv3 (C : Cok K x own cc nL (d + 1) Rp) {q : Mt} {idx : Nat} {Q0 : Mem → Prop} {v1 v2 v3 : Value} {rest : List Value} (ok : mOK q 3) (lk : lkN own idx q) (hc : Cv K d q [v1, v2, v3] M Q0) (hW8 : (rest.map fun v => v.category).sum ≤ 8) (hd : decode cc pc = .ok (.invokestatic idx, 3)) (k9 : ∀ (N : Mem), Q0 N → G K x nL (pc + 3) lv rest N) : G K x nL pc lv (v3 :: v2 :: v1 :: rest) M := G_callNv C (As := [v1, v2, v3]) ok lk hc rfl rfl hW8 hd k9
theorem G_cNw3 (C : Cok K x own cc nL (d + 1) Rp) {q : Mt} {idx : Nat} {N : Mem} {v1 v2 v3 : Value} {rest : List Value} (ok : mOK q 3) (lk : lkN own idx q) (hc : Rv K d q [v1, v2, v3] M N) (hW8 : (rest.map fun v => v.category).sum ≤ 8) (hd : decode cc pc = .ok (.invokestatic idx, 3)) (k9 : G K x nL (pc + 3) lv rest N) : G K x nL pc lv (v3 :: v2 :: v1 :: rest) M := G_callNv C (As := [v1, v2, v3]) ok lk hc rfl rfl hW8 hd (fun N' h => by subst h; exact k9)
theorem G_cNi4 (C : Cok K x own cc nL (d + 1) Rp) {q : Mt} {idx : Nat} {Q0 : Int32 → Mem → Prop} {v1 v2 v3 v4 : Value} {rest : List Value} (ok : mOK q 4) (lk : lkN own idx q) (hc : Ci K d q [v1, v2, v3, v4] M Q0) (hW8 : (rest.map fun v => v.category).sum ≤ 8) (hd : decode cc pc = .ok (.invokestatic idx, 3)) (k9 : ∀ (r : Int32) (N : Mem), Q0 r N → G K x nL (pc + 3) lv (.int r :: rest) N) : G K x nL pc lv (v4 :: v3 :: v2 :: v1 :: rest) M := G_callNi C (As := [v1, v2, v3, v4]) ok lk hc rfl rfl hW8 hd k9
theorem G_cNr4 (C : Cok K x own cc nL (d + 1) Rp) {q : Mt} {idx : Nat} {r : Int32} {N : Mem} {v1 v2 v3 v4 : Value} {rest : List Value} (ok : mOK q 4) (lk : lkN own idx q) (hc : Ri K d q [v1, v2, v3, v4] M r N) (hW8 : (rest.map fun v => v.category).sum ≤ 8) (hd : decode cc pc = .ok (.invokestatic idx, 3)) (k9 : G K x nL (pc + 3) lv (.int r :: rest) N) : G K x nL pc lv (v4 :: v3 :: v2 :: v1 :: rest) M := G_callNi C (As := [v1, v2, v3, v4]) ok lk hc rfl rfl hW8 hd (fun r' N' h => by obtain ⟨rfl, rfl⟩ := h; exact k9)
theorem G_cNv4 (C : Cok K x own cc nL (d + 1) Rp) {q : Mt} {idx : Nat} {Q0 : Mem → Prop} {v1 v2 v3 v4 : Value} {rest : List Value} (ok : mOK q 4) (lk : lkN own idx q) (hc : Cv K d q [v1, v2, v3, v4] M Q0) (hW8 : (rest.map fun v => v.category).sum ≤ 8) (hd : decode cc pc = .ok (.invokestatic idx, 3)) (k9 : ∀ (N : Mem), Q0 N → G K x nL (pc + 3) lv rest N) : G K x nL pc lv (v4 :: v3 :: v2 :: v1 :: rest) M := G_callNv C (As := [v1, v2, v3, v4]) ok lk hc rfl rfl hW8 hd k9
theorem G_cNw4 (C : Cok K x own cc nL (d + 1) Rp) {q : Mt} {idx : Nat} {N : Mem} {v1 v2 v3 v4 : Value} {rest : List Value} (ok : mOK q 4) (lk : lkN own idx q) (hc : Rv K d q [v1, v2, v3, v4] M N) (hW8 : (rest.map fun v => v.category).sum ≤ 8) (hd : decode cc pc = .ok (.invokestatic idx, 3)) (k9 : G K x nL (pc + 3) lv rest N) : G K x nL pc lv (v4 :: v3 :: v2 :: v1 :: rest) M := G_callNv C (As := [v1, v2, v3, v4]) ok lk hc rfl rfl hW8 hd (fun N' h => by subst h; exact k9)
theorem G_cNi5 (C : Cok K x own cc nL (d + 1) Rp) {q : Mt} {idx : Nat} {Q0 : Int32 → Mem → Prop} {v1 v2 v3 v4 v5 : Value} {rest : List Value} (ok : mOK q 5) (lk : lkN own idx q) (hc : Ci K d q [v1, v2, v3, v4, v5] M Q0) (hW8 : (rest.map fun v => v.category).sum ≤ 8) (hd : decode cc pc = .ok (.invokestatic idx, 3)) (k9 : ∀ (r : Int32) (N : Mem), Q0 r N → G K x nL (pc + 3) lv (.int r :: rest) N) : G K x nL pc lv (v5 :: v4 :: v3 :: v2 :: v1 :: rest) M := G_callNi C (As := [v1, v2, v3, v4, v5]) ok lk hc rfl rfl hW8 hd k9
theorem G_cNr5 (C : Cok K x own cc nL (d + 1) Rp) {q : Mt} {idx : Nat} {r : Int32} {N : Mem} {v1 v2 v3 v4 v5 : Value} {rest : List Value} (ok : mOK q 5) (lk : lkN own idx q) (hc : Ri K d q [v1, v2, v3, v4, v5] M r N) (hW8 : (rest.map fun v => v.category).sum ≤ 8) (hd : decode cc pc = .ok (.invokestatic idx, 3)) (k9 : G K x nL (pc + 3) lv (.int r :: rest) N) : G K x nL pc lv (v5 :: v4 :: v3 :: v2 :: v1 :: rest) M := G_callNi C (As := [v1, v2, v3, v4, v5]) ok lk hc rfl rfl hW8 hd (fun r' N' h => by obtain ⟨rfl, rfl⟩ := h; exact k9)
theorem G_cNv5 (C : Cok K x own cc nL (d + 1) Rp) {q : Mt} {idx : Nat} {Q0 : Mem → Prop} {v1 v2 v3 v4 v5 : Value} {rest : List Value} (ok : mOK q 5) (lk : lkN own idx q) (hc : Cv K d q [v1, v2, v3, v4, v5] M Q0) (hW8 : (rest.map fun v => v.category).sum ≤ 8) (hd : decode cc pc = .ok (.invokestatic idx, 3)) (k9 : ∀ (N : Mem), Q0 N → G K x nL (pc + 3) lv rest N) : G K x nL pc lv (v5 :: v4 :: v3 :: v2 :: v1 :: rest) M := G_callNv C (As := [v1, v2, v3, v4, v5]) ok lk hc rfl rfl hW8 hd k9
theorem G_cNw5 (C : Cok K x own cc nL (d + 1) Rp) {q : Mt} {idx : Nat} {N : Mem} {v1 v2 v3 v4 v5 : Value} {rest : List Value} (ok : mOK q 5) (lk : lkN own idx q) (hc : Rv K d q [v1, v2, v3, v4, v5] M N) (hW8 : (rest.map fun v => v.category).sum ≤ 8) (hd : decode cc pc = .ok (.invokestatic idx, 3)) (k9 : G K x nL (pc + 3) lv rest N) : G K x nL pc lv (v5 :: v4 :: v3 :: v2 :: v1 :: rest) M := G_callNv C (As := [v1, v2, v3, v4, v5]) ok lk hc rfl rfl hW8 hd (fun N' h => by subst h; exact k9)
theorem G_mmax (C : Cok K x own cc nL (d + 1) Rp) {idx : Nat} {a b : Int32} {rest : List Value} (lk : Cond.methodLink own idx Lib.Math.max.name ∈ gtbl) (hst : Cond.static Lib.Math.max.name ∈ gtbl) (hin : Cond.initialized "java/lang/Math" ∈ gtbl) (hco : Cond.code Lib.Math.max.name Lib.Math.max.code 2 (some .int) ∈ gtbl) (hW8 : (rest.map fun v => v.category).sum ≤ 8) (hd : decode cc pc = .ok (.invokestatic idx, 3)) (k9 : G K x nL (pc + 3) lv (.int (if a < b then b else a) :: rest) M) : G K x nL pc lv (.int b :: .int a :: rest) M := by
  obtain ⟨p, e, R, s, m, args, below, meth, c, cells, slots, Q, A⟩ := x
  obtain ⟨hx, hb, hml, hown, hts, hK, hA, hE, hd1, hd2, hd3, hd4, hrI, hrV⟩ := C
  intro H locs ls hP hD hS hl
  exact va_mmax hx hb (by rw [hml, hl.1]) hown (hts _ lk) (hts _ hst) (hts _ hin) (hts _ hco) (by omega) (by omega) hd3 hd4 hd (k9 H locs ls hP hD hS hl)
theorem G_mmin (C : Cok K x own cc nL (d + 1) Rp) {idx : Nat} {a b : Int32} {rest : List Value} (lk : Cond.methodLink own idx Lib.Math.min.name ∈ gtbl) (hst : Cond.static Lib.Math.min.name ∈ gtbl) (hin : Cond.initialized "java/lang/Math" ∈ gtbl) (hco : Cond.code Lib.Math.min.name Lib.Math.min.code 2 (some .int) ∈ gtbl) (hW8 : (rest.map fun v => v.category).sum ≤ 8) (hd : decode cc pc = .ok (.invokestatic idx, 3)) (k9 : G K x nL (pc + 3) lv (.int (if b < a then b else a) :: rest) M) : G K x nL pc lv (.int b :: .int a :: rest) M := by
  obtain ⟨p, e, R, s, m, args, below, meth, c, cells, slots, Q, A⟩ := x
  obtain ⟨hx, hb, hml, hown, hts, hK, hA, hE, hd1, hd2, hd3, hd4, hrI, hrV⟩ := C
  intro H locs ls hP hD hS hl
  exact va_mmin hx hb (by rw [hml, hl.1]) hown (hts _ lk) (hts _ hst) (hts _ hin) (hts _ hco) (by omega) (by omega) hd3 hd4 hd (k9 H locs ls hP hD hS hl)
end GR3
