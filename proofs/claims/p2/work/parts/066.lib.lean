theorem vz_mb (y x : Int32) : (y.toInt - x.toInt).toNat < 2 ^ 34 := by have h1 := y.toInt_lt; have h2 := x.le_toInt; omega
theorem vz_mc (x : Int32) : (x.toInt + 1).toNat < 2 ^ 34 := by have h1 := x.toInt_lt; omega
theorem vz_lt9 {n : Nat} {y : Int32} (h1 : y ≤ 8) (hn : n < 2 ^ 31) (h : ¬ y < nI n) : n < 9 := by
  rw [Int32.le_iff_toInt_le] at h1; rw [Int32.lt_iff_toInt_lt, nI_toInt hn] at h; have : (8 : Int32).toInt = 8 := rfl; omega
theorem vz_lec {n B : Nat} (hB : B < 2 ^ 31) (hn : n < 2 ^ 31) (h : nI n ≤ nI B) : n ≤ B := by
  rw [Int32.le_iff_toInt_le, nI_toInt hn, nI_toInt hB] at h; omega
theorem vz_ti {x : Int32} (c : Int32) {z : Int} (h : x.toInt = z) (hc : c.toInt = z) : x = c := Int32.toInt_inj.mp (h.trans hc.symm)
abbrev plW (g : Nat → ClassId) (a : Nat → Nat) (r : Nat → Nat) (f : Nat → Nat → Int32) (mx : Nat) : va_W := [tT (a 0) (a 1) (nI 4) (nI mx) (nI (r 0)), tA g (a 1) (mx * 4) (f 0)]
abbrev plW_lim : Nat → Nat → Nat := fun mx k => [mx].getD k 0
abbrev oucW (g : Nat → ClassId) (a : Nat → Nat) (r : Nat → Nat) (f : Nat → Nat → Int32) : va_W := [tT (a 0) (a 1) (nI 4) (nI 61) (nI (r 0)), tA g (a 1) 244 (f 0)]
abbrev oucW_lim : Nat → Nat := fun k => [61].getD k 0
