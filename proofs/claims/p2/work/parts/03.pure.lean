/-! Pure facts of Tables: rows of W numbers, at most M, R of them there -/
theorem vz_max0 {M : Nat} (h : M < 2 ^ 31) : (if (0 : Int32) < nI M then nI M else 0) = nI M := by
  by_cases h0 : M = 0
  · subst h0; rfl
  · rw [if_pos]
    have := nI_lt (a := 0) (b := M) (by omega) h
    exact this
theorem vz_max1 {W : Nat} (h1 : 1 ≤ W) (h : W < 2 ^ 31) : (if (1 : Int32) < nI W then nI W else 1) = nI W := by
  by_cases h0 : W = 1
  · subst h0; rfl
  · rw [if_pos]
    have := nI_lt (a := 1) (b := W) (by omega) h
    exact this
theorem vz_min {C M : Nat} (h : C ≤ M) (hM : M < 2 ^ 31) : (if nI M < nI C then nI M else nI C) = nI C := by
  rw [if_neg (nI_nlt h hM)]
theorem vz_mul (a b : Nat) : nI a * nI b = nI (a * b) := by
  simp [nI]
theorem vz_dec {a : Nat} (h : 1 ≤ a) : nI a - 1 = nI (a - 1) := by
  obtain ⟨k, rfl⟩ : ∃ k, a = k + 1 := ⟨a - 1, by omega⟩
  rw [nI_pred]; rfl
/-- the place of a row and a column -/
theorem vz_tix {i j : Int32} {W M R : Nat} (hb : M * W < 2 ^ 30) (hM : M < 2 ^ 30) (hW : W < 2 ^ 30) (hR : R ≤ M) (h1 : ¬ i < 0) (h2 : ¬ nI R ≤ i) (h3 : ¬ j < 0) (h4 : j < nI W) : ∃ k, k < M * W ∧ i * nI W + j = nI k := by
  obtain ⟨a, ha, rfl⟩ := nI_of h1
  obtain ⟨b, hb2, rfl⟩ := nI_of h3
  have h5 : a < R := by
    rcases Nat.lt_or_ge a R with q | q
    · exact q
    · exact absurd (nI_le q ha) h2
  have h6 : b < W := (nI_ltI hb2 (by omega)).mp h4
  refine ⟨a * W + b, ?_, by rw [vz_mul, nI_add]⟩
  calc a * W + b < a * W + W := by omega
    _ = (a + 1) * W := by rw [Nat.succ_mul]
    _ ≤ M * W := Nat.mul_le_mul_right W (by omega)
def tg (W R : Nat) (f : Nat → Int32) (i j : Int32) : Int32 := if i < 0 ∨ nI R ≤ i ∨ j < 0 ∨ ¬ j < nI W then -9 else f (i * nI W + j).toNatClampNeg
def ts (W R : Nat) (f : Nat → Int32) (i j v : Int32) : Nat → Int32 := if i < 0 ∨ nI R ≤ i ∨ j < 0 ∨ ¬ j < nI W then f else upd f (i * nI W + j).toNatClampNeg v
theorem tg_in {W R : Nat} {f : Nat → Int32} {i j : Int32} {k : Nat} (h1 : ¬ i < 0) (h2 : ¬ nI R ≤ i) (h3 : ¬ j < 0) (h4 : j < nI W) (hk : k < 2 ^ 31) (e : i * nI W + j = nI k) : f k = tg W R f i j := by
  unfold tg
  rw [if_neg (by intro h; rcases h with h | h | h | h <;> contradiction), e, nI_clamp hk]
theorem tg_out {W R : Nat} {f : Nat → Int32} {i j : Int32} (h : i < 0 ∨ nI R ≤ i ∨ j < 0 ∨ ¬ j < nI W) : -9 = tg W R f i j := by
  unfold tg; rw [if_pos h]
theorem ts_in {W R : Nat} {f : Nat → Int32} {i j v : Int32} {k : Nat} (h1 : ¬ i < 0) (h2 : ¬ nI R ≤ i) (h3 : ¬ j < 0) (h4 : j < nI W) (e : i * nI W + j = nI k) : upd f (nI k).toNatClampNeg v = ts W R f i j v := by
  unfold ts
  rw [if_neg (by intro h; rcases h with h | h | h | h <;> contradiction), e]
theorem ts_out {W R : Nat} {f : Nat → Int32} {i j v : Int32} (h : i < 0 ∨ nI R ≤ i ∨ j < 0 ∨ ¬ j < nI W) : f = ts W R f i j v := by
  unfold ts; rw [if_pos h]
/-- the cells from lo on, ahead of hi, hold v -/
def tf (f : Nat → Int32) (lo hi : Nat) (v : Int32) : Nat → Int32 := fun j => if lo ≤ j ∧ j < hi then v else f j
theorem tf_0 {f : Nat → Int32} {lo : Nat} {v : Int32} : f = tf f lo lo v := by
  funext j; unfold tf; rw [if_neg (by omega)]
theorem tf_s {f : Nat → Int32} {lo i : Nat} {v : Int32} (h : lo ≤ i) (hi : i < 2 ^ 31) : upd (tf f lo i v) (nI i).toNatClampNeg v = tf f lo (i + 1) v := by
  rw [nI_clamp hi]
  funext j
  unfold upd tf
  by_cases hj : j = i
  · subst hj; simp [h]
  · rw [if_neg hj]
    by_cases h2 : lo ≤ j ∧ j < i
    · rw [if_pos h2, if_pos (by omega)]
    · rw [if_neg h2, if_neg (by omega)]
/-- a Table's numbers: W columns, M rows at most, R rows now, N cells -/
abbrev tok (W M R N : Nat) : Prop := N = M * W ∧ N < 2 ^ 27 ∧ M < 2 ^ 30 ∧ W < 2 ^ 30 ∧ 1 ≤ W ∧ R ≤ M
theorem ts_c {W R : Nat} {f : Nat → Int32} {i j v : Int32} (k : Nat) (h : ¬ (i < 0 ∨ nI R ≤ i ∨ j < 0 ∨ ¬ j < nI W)) (e : (i * nI W + j).toNatClampNeg = k) : ts W R f i j v = upd f k v := by
  unfold ts; rw [if_neg h, e]
theorem tg_c {W R : Nat} {f : Nat → Int32} {i j : Int32} (k : Nat) (h : ¬ (i < 0 ∨ nI R ≤ i ∨ j < 0 ∨ ¬ j < nI W)) (e : (i * nI W + j).toNatClampNeg = k) : tg W R f i j = f k := by
  unfold tg; rw [if_neg h, e]
theorem tg_0 {W : Nat} {f : Nat → Int32} {i j : Int32} : tg W 0 f i j = -9 := by
  refine (tg_out ?_).symm
  by_cases h : i < 0
  · exact Or.inl h
  · refine Or.inr (Or.inl ?_)
    obtain ⟨a, ha, rfl⟩ := nI_of h
    exact nI_le (Nat.zero_le a) ha
