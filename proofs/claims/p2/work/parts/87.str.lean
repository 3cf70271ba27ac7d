/-! What the claim's premises say of the String constants. -/
abbrev zsT9 : Nat → Term := fun i => .string RX5 (zsK i)
abbrev zsV9 : Nat → Term := fun i => .field (zsT9 i) "java/lang/String" "value" "[B"
abbrev zsF9 : List Cond := flatC (Jvm.Cond.and given_1 narrow_1)
theorem zs_ex : ∀ i : Nat, i < 3 → Cond.exactly (zsT9 i) "java/lang/String" ∈ zsF9 := by decide +kernel
theorem zs_co : ∀ i : Nat, i < 3 → Cond.eq (.field (zsT9 i) "java/lang/String" "coder" "B") (.int 0) ∈ zsF9 := by decide +kernel
theorem zs_ar : ∀ i : Nat, i < 3 → Cond.arrayOf (zsV9 i) .byte ∈ zsF9 := by decide +kernel
theorem zs_le : ∀ i : Nat, i < 3 → Cond.eq (.length (zsV9 i)) (.int (Int32.ofNat (zsL.getD i 0))) ∈ zsF9 := by decide +kernel
theorem zs_el : ∀ i : Nat, i < 3 → ∀ j : Nat, j < zsL.getD i 0 → Cond.eq (.elem (zsV9 i) (.int (Int32.ofNat j))) (.int ((zsB.getD i []).getD j 0)) ∈ zsF9 := by decide +kernel
theorem zs_ne : ∀ i : Nat, i < 3 → ∀ j : Nat, j < 3 → i ≠ j → Cond.not (Cond.eq (zsT9 i) (zsT9 j)) ∈ zsF9 ∨ Cond.not (Cond.eq (zsT9 j) (zsT9 i)) ∈ zsF9 := by decide +kernel
theorem zs_sr : ∀ i : Nat, i < 3 → Cond.stringRef RX5 (zsK i) (zsT i) ∈ lw_tbl := by decide +kernel
theorem zs_cs : Cond.laysStatic "java/lang/String" "COMPACT_STRINGS" "Z" ∈ lw_tbl ∧ Cond.initialized "java/lang/String" ∈ lw_tbl ∧ Cond.eq (.static "java/lang/String" "COMPACT_STRINGS" "Z") (.int 1) ∈ zsF9 := by decide +kernel
theorem zs_fo : Cond.laysStatic "jdk/internal/util/Preconditions" "SIOOBE_FORMATTER" "Ljava/util/function/BiFunction;" ∈ lw_tbl ∧ Cond.initialized "jdk/internal/util/Preconditions" ∈ lw_tbl ∧ Cond.isRef (.static "jdk/internal/util/Preconditions" "SIOOBE_FORMATTER" "Ljava/util/function/BiFunction;") ∈ zsF9 := by decide +kernel
theorem zz_of {s : State} {b : Nat} {A : Nat → Prop} (hA : ∀ a : Nat, a < s.heap.size → ¬ A a) (hts : ∀ w ∈ lw_tbl, w.before #[Value.ref b] s = true) (hg : (Jvm.Cond.and given_1 narrow_1).before #[Value.ref b] s = true) : ∃ (k v : Nat → Nat) (fo : Nat), zz k v fo A s := by
  have hf := flat_of_before _ hg
  obtain ⟨k, v, h1, h2⟩ := vk_Sof (args := #[Value.ref b]) (s := s) (N := 3) (tm := zsT9) (len := zsL) (byt := zsB) (A := A) (by decide) (fun i hi => hf _ (zs_ex i hi)) (fun i hi => hf _ (zs_co i hi)) (fun i hi => hf _ (zs_ar i hi)) (fun i hi => hf _ (zs_le i hi)) (fun i hi j hj => hf _ (zs_el i hi j hj)) (fun i j hi hj hij => (zs_ne i hi j hj hij).imp (hf _) (hf _)) hA
  exact ⟨k, v, 0, h1, va_Zof (hts _ zs_cs.1) (hts _ zs_cs.2.1) (va_eqt (hf _ zs_cs.2.2)) hA, fun i hi => vk_R.of (hts _ (zs_sr i hi)) (h2 i hi), va_Zqof (hts _ zs_fo.1) (hts _ zs_fo.2.1) (hf _ zs_fo.2.2) hA⟩
