theorem gd_mem {w : Cond} (i : Nat) (h : lw_tbl[i]? = some w) (hg : goodWord w = true) : w ∈ lw_tbl.filter goodWord := List.mem_filter.mpr ⟨List.mem_of_getElem? h, hg⟩
def gtbl : List Cond := lw_tbl.filter goodWord
theorem gt_mem {w : Cond} (i : Nat) (h : lw_tbl[i]? = some w) (hg : goodWord w = true) : w ∈ gtbl := gd_mem i h hg
theorem gt_good {w : Cond} (h : w ∈ gtbl) : (w.onTables && w.keeps) = true ∨ ∃ ty, w = .arrayClass ty := good_of_word (List.mem_filter.mp h).2
theorem gt_in {w : Cond} (h : w ∈ gtbl) : w ∈ lw_tbl := (List.mem_filter.mp h).1

abbrev Mem : Type := Nat → Nat → Int32
abbrev Kt : Type := Launch × va_G × (Nat → ClassId) × (Nat → Nat) × (Nat → Nat) × (Nat → Nat) × Nat × Value
def kL (K : Kt) : Launch := K.1
def kD (K : Kt) : va_G := K.2.1
def kC (K : Kt) : Nat → ClassId := K.2.2.1
def kA (K : Kt) : Nat → Nat := K.2.2.2.1
def kS (K : Kt) : Nat → Nat := K.2.2.2.2.1
def kV (K : Kt) : Nat → Nat := K.2.2.2.2.2.1
def kH (K : Kt) : Nat := K.2.2.2.2.2.2.1
def kF (K : Kt) : Value := K.2.2.2.2.2.2.2
def rf (K : Kt) (i : Nat) : Value := .ref (kA K i)
def sf (K : Kt) (i : Nat) : Value := .ref (kS K i)
def sv (K : Kt) (i : Nat) : Value := .ref (kV K i)
def hf (K : Kt) : Value := .ref (kH K)
def wr (M : Mem) (i j : Nat) (v : Int32) : Mem := va_up M i (va_up (M i) j v)

abbrev Desc : Type := (Nat × List (Option Nat)) ⊕ (Nat × Nat) ⊕ (Nat × List Nat)
def fldV (K : Kt) (m : Nat → Int32) : Nat → List (Option Nat) → List Value
  | _, [] => []
  | k, none :: r => .int (m k) :: fldV K m (k + 1) r
  | k, some q :: r => rf K q :: fldV K m (k + 1) r
def cellOf (K : Kt) (d : Desc) (m : Nat → Int32) : va_E := match d with
  | .inl (ci, fs) => .inr (ci, fldV K m 0 fs)
  | .inr (.inl (a, n)) => .inl (kC K a, n, .inl m)
  | .inr (.inr (a, rs)) => .inl (kC K a, rs.length, .inr (.inr (.inr (.inr (fun j => (rs[j]?).map (kA K))))))
def layL : List Desc := [
  .inl (9, [some 1, some 7, some 9, some 10, some 21, some 28, some 32, some 35, none, none]),
  .inl (2, [some 2, some 3, some 4, some 5, some 6, none]),
  .inr (.inl (0, 80)), .inr (.inl (0, 80)), .inr (.inl (0, 80)), .inr (.inl (0, 80)), .inr (.inl (0, 80)),
  .inl (8, [some 8, none]), .inr (.inl (1, 72)),
  .inl (6, [some 7, none, none, none]),
  .inl (4, [some 11, none]), .inr (.inr (3, [12, 13, 14, 15, 16, 17, 18, 19, 20])),
  .inl (3, [none, none, none, none, none, none, none, none]), .inl (3, [none, none, none, none, none, none, none, none]), .inl (3, [none, none, none, none, none, none, none, none]),
  .inl (3, [none, none, none, none, none, none, none, none]), .inl (3, [none, none, none, none, none, none, none, none]), .inl (3, [none, none, none, none, none, none, none, none]),
  .inl (3, [none, none, none, none, none, none, none, none]), .inl (3, [none, none, none, none, none, none, none, none]), .inl (3, [none, none, none, none, none, none, none, none]),
  .inl (5, [some 22, some 27]), .inr (.inr (4, [23, 24])),
  .inl (7, [some 25, none]), .inl (7, [some 26, none]), .inr (.inl (1, 120)), .inr (.inl (1, 120)), .inr (.inl (0, 120)),
  .inl (1, [some 29, some 30, some 31, none, none]), .inr (.inl (0, 100)), .inr (.inl (0, 100)), .inr (.inl (0, 100)),
  .inl (0, [some 33, some 34, none, none]), .inr (.inl (0, 120)), .inr (.inl (0, 120)),
  .inr (.inl (2, 120)),
  .inl (10, [none, none, some 37, some 38, some 39, some 40, some 41, some 42, some 43, none, some 44, some 45, some 46, some 47, some 48, some 49, some 50, some 51, none, some 52, some 53, some 54, none, none, some 55, none, some 56, some 57, none, none, none, none, some 58, some 59, some 60, some 61]),
  .inr (.inl (0, 80)), .inr (.inl (0, 80)), .inr (.inl (0, 80)), .inr (.inl (0, 80)), .inr (.inl (0, 80)), .inr (.inl (0, 120)), .inr (.inl (2, 120)),
  .inr (.inl (0, 8)), .inr (.inl (0, 8)), .inr (.inl (0, 8)), .inr (.inl (0, 8)), .inr (.inl (0, 8)), .inr (.inl (0, 8)), .inr (.inl (0, 8)), .inr (.inl (0, 8)),
  .inr (.inl (0, 100)), .inr (.inl (0, 100)), .inr (.inl (0, 100)), .inr (.inl (0, 72)), .inr (.inl (0, 2)), .inr (.inl (0, 240)), .inr (.inl (0, 7)), .inr (.inl (0, 120)), .inr (.inl (0, 120)), .inr (.inl (0, 120))]
def wldF (K : Kt) (M : Mem) : Nat → List Desc → va_W
  | _, [] => []
  | i, d :: r => (kA K i, cellOf K d (M i)) :: wldF K M (i + 1) r
def wld (K : Kt) (M : Mem) : va_W := wldF K M 0 layL
def tyL (K : Kt) : List (ClassId × FieldType) := [(kC K 0, .int), (kC K 1, .byte), (kC K 2, .boolean), (kC K 3, .object "ChildPay$Law"), (kC K 4, .object "ChildPay$Sheet")]

theorem fldV_get (K : Kt) (m : Nat → Int32) : ∀ (fs : List (Option Nat)) (k j : Nat), (fldV K m k fs)[j]? = (fs[j]?).map (fun f => match f with | none => Value.int (m (k + j)) | some q => rf K q)
  | [], k, j => by simp [fldV]
  | none :: r, k, 0 => by simp [fldV]
  | some q :: r, k, 0 => by simp [fldV]
  | none :: r, k, j + 1 => by simp only [fldV, List.getElem?_cons_succ, fldV_get K m r (k + 1) j]; congr 1; funext f; cases f <;> simp [Nat.add_assoc, Nat.add_comm 1 j]
  | some q :: r, k, j + 1 => by simp only [fldV, List.getElem?_cons_succ, fldV_get K m r (k + 1) j]; congr 1; funext f; cases f <;> simp [Nat.add_assoc, Nat.add_comm 1 j]
theorem fldV_len (K : Kt) (m : Nat → Int32) : ∀ (fs : List (Option Nat)) (k : Nat), (fldV K m k fs).length = fs.length
  | [], k => rfl
  | none :: r, k => by simp [fldV, fldV_len K m r (k + 1)]
  | some q :: r, k => by simp [fldV, fldV_len K m r (k + 1)]
theorem fldV_up (K : Kt) (m : Nat → Int32) (v : Int32) : ∀ (fs : List (Option Nat)) (k j : Nat), j < k → fldV K (va_up m j v) k fs = fldV K m k fs
  | [], k, j, _ => rfl
  | none :: r, k, j, h => by
    have h1 : va_up m j v k = m k := by simp [va_up]; omega
    simp [fldV, h1, fldV_up K m v r (k + 1) j (by omega)]
  | some q :: r, k, j, h => by simp [fldV, fldV_up K m v r (k + 1) j (by omega)]
theorem fldV_set (K : Kt) (m : Nat → Int32) (v : Int32) : ∀ (fs : List (Option Nat)) (k j : Nat), fs[j]? = some none → (fldV K m k fs).set j (.int v) = fldV K (va_up m (k + j) v) k fs
  | [], k, j, h => by simp at h
  | none :: r, k, 0, _ => by simp [fldV, va_up, fldV_up K m v r (k + 1) k (by omega)]
  | some q :: r, k, 0, h => by simp at h
  | none :: r, k, j + 1, h => by
    have h1 : va_up m (k + (j + 1)) v k = m k := by simp [va_up]
    have e : k + (j + 1) = (k + 1) + j := by omega
    simp only [fldV, List.set_cons_succ, h1]
    rw [fldV_set K m v r (k + 1) j (by simpa using h), e]
  | some q :: r, k, j + 1, h => by
    have e : k + (j + 1) = (k + 1) + j := by omega
    simp only [fldV, List.set_cons_succ]
    rw [fldV_set K m v r (k + 1) j (by simpa using h), e]
theorem wldF_get (K : Kt) (M : Mem) : ∀ (L : List Desc) (i j : Nat), (wldF K M i L)[j]? = (L[j]?).map (fun d => (kA K (i + j), cellOf K d (M (i + j))))
  | [], i, j => by simp [wldF]
  | d :: r, i, 0 => by simp [wldF]
  | d :: r, i, j + 1 => by simp only [wldF, List.getElem?_cons_succ, wldF_get K M r (i + 1) j]; congr 1; funext d; simp [Nat.add_assoc, Nat.add_comm 1 j]
theorem wldF_up (K : Kt) (M : Mem) (m : Nat → Int32) : ∀ (L : List Desc) (i j : Nat), j < i → wldF K (va_up M j m) i L = wldF K M i L
  | [], i, j, _ => rfl
  | d :: r, i, j, h => by
    have h1 : va_up M j m i = M i := by simp [va_up]; omega
    simp [wldF, h1, wldF_up K M m r (i + 1) j (by omega)]
theorem wldF_set (K : Kt) (M : Mem) (m : Nat → Int32) : ∀ (L : List Desc) (i j : Nat) (d : Desc), L[j]? = some d → (wldF K M i L).set j (kA K (i + j), cellOf K d m) = wldF K (va_up M (i + j) m) i L
  | [], i, j, d, h => by simp at h
  | d0 :: r, i, 0, d, h => by
    simp at h
    subst h
    have h1 : va_up M i m i = m := by simp [va_up]
    simp [wldF, h1, wldF_up K M m r (i + 1) i (by omega)]
  | d0 :: r, i, j + 1, d, h => by
    have e : i + (j + 1) = (i + 1) + j := by omega
    have h1 : va_up M (i + (j + 1)) m i = M i := by simp [va_up]
    simp only [wldF, List.set_cons_succ, h1]
    rw [e, wldF_set K M m r (i + 1) j d (by simpa using h)]
theorem wld_get {K : Kt} {M : Mem} {i : Nat} {d : Desc} (h : layL[i]? = some d) : (wld K M)[i]? = some (kA K i, cellOf K d (M i)) := by
  unfold wld
  rw [wldF_get, h]
  simp
theorem wld_set {K : Kt} {M : Mem} {i : Nat} {d : Desc} {m : Nat → Int32} (h : layL[i]? = some d) : (wld K M).set i (kA K i, cellOf K d m) = wld K (va_up M i m) := by
  unfold wld
  have := wldF_set K M m layL 0 i d h
  simpa using this
theorem wld_ad {K : Kt} {M M' : Mem} {q : Nat} {k : Nat} {e : va_E} (h : (wld K M)[k]? = some (q, e)) : ∃ e', (wld K M')[k]? = some (q, e') := by
  unfold wld at h ⊢
  rw [wldF_get] at h ⊢
  cases hd : layL[k]? with
  | none => rw [hd] at h; simp at h
  | some d =>
    rw [hd] at h
    simp at h
    exact ⟨_, by simp; exact ⟨h.1, rfl⟩⟩
theorem wld_A {K : Kt} (M M' : Mem) {sz q : Nat} (h : va_A (wld K M) sz q) : va_A (wld K M') sz q := by
  rcases h with ⟨k, e, h⟩ | h
  · obtain ⟨e', h'⟩ := wld_ad (M' := M') h
    exact Or.inl ⟨k, e', h'⟩
  · exact Or.inr h
