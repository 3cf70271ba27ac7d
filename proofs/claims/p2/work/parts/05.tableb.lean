theorem vz_clip (c : Int32) {M : Nat} (hM : M < 2 ^ 30) : ∃ C : Nat, C ≤ M ∧ (if (0 : Int32) < (if nI M < c then nI M else c) then (if nI M < c then nI M else c) else 0) = nI C := by
  by_cases h : nI M < c
  · rw [if_pos h]
    refine ⟨M, Nat.le_refl M, vz_max0 (by omega)⟩
  · rw [if_neg h]
    by_cases h0 : (0 : Int32) < c
    · rw [if_pos h0]
      obtain ⟨C, hC, rfl⟩ := nI_of (Int32.not_lt.mpr (Int32.le_of_lt h0))
      refine ⟨C, ?_, rfl⟩
      rcases Nat.lt_or_ge M C with z | z
      · exact absurd (nI_lt z hC) h
      · exact z
    · rw [if_neg h0]; exact ⟨0, Nat.zero_le M, rfl⟩
theorem dX6_drop_0 : decode cX6_drop 0 = .ok (.aload_n 0, 1) := by decide +kernel
theorem dX6_drop_1 : decode cX6_drop 1 = .ok (.getfield 28, 3) := by decide +kernel
theorem dX6_drop_4 : decode cX6_drop 4 = .ok (.ifCond .le 13, 3) := by decide +kernel
theorem dX6_drop_7 : decode cX6_drop 7 = .ok (.aload_n 0, 1) := by decide +kernel
theorem dX6_drop_8 : decode cX6_drop 8 = .ok (.dup, 1) := by decide +kernel
theorem dX6_drop_9 : decode cX6_drop 9 = .ok (.getfield 28, 3) := by decide +kernel
theorem dX6_drop_12 : decode cX6_drop 12 = .ok (.iconst 1, 1) := by decide +kernel
theorem dX6_drop_13 : decode cX6_drop 13 = .ok (.isub, 1) := by decide +kernel
theorem dX6_drop_14 : decode cX6_drop 14 = .ok (.putfield 28, 3) := by decide +kernel
theorem dX6_drop_17 : decode cX6_drop 17 = .ok (.return_, 1) := by decide +kernel
set_option maxHeartbeats 4000000 in
set_option maxRecDepth 100000 in
theorem c_T_drop (l : Launch) (D : va_G) (g : Nat → ClassId) (h q sz : Nat) (w mo : Int32) (R : Nat) (hR : R < 2 ^ 31) : vz_Mv l D (tyG g) yX6_drop cX6_drop 1 0 0 0 0 [.ref h] sz [tT h q w mo (nI R)] (fun u : Nat => u ≤ R) (fun u => [tT h q w mo (nI u)]) := by
  refine vz_sv (by decide) (Nat.le_of_ble_eq_true rfl) (fun p e s m args below meth c hx hb hr hml hts hown hlk hin hK hsz A hA H locs hP hD hS ls hl => ?_)
  have hl : lv_has ls 1 [(0, .ref h)] := hl
  refine lv_aload_n hx hb dX6_drop_0 rfl (lv_at hl 0 rfl) ?_
  refine va_get (D := D) (ci := 6) (v := .int (nI R)) (C := RX6) (T := TX6) (N := 4) hx hb hts inlX6 hown hK hP 0 rfl rfl 3 (by decide) (hts _ q72) (fun _ h => h) rfl dX6_drop_1 ?_
  refine lv_if_le (tgt := 17) hx hb dX6_drop_4 (by decide) (fun kc => ?_) (fun kc => ?_)
  · exact vz_vret hx hb hr hlk hK hP hD hS (R) (Nat.le_refl R) [0] rfl (by decide) (Nat.le_refl 0) (Nat.le_refl 0) dX6_drop_17
  · have hR1 : 1 ≤ R := by
      rcases Nat.lt_or_ge R 1 with z | z
      · exact absurd (nI_le (a := R) (b := 0) (by omega) (by decide)) kc
      · exact z
    refine lv_aload_n hx hb dX6_drop_7 rfl (lv_at hl 0 rfl) ?_
    refine lv_dup hx hb dX6_drop_8 rfl ?_
    refine va_get (D := D) (ci := 6) (v := .int (nI R)) (C := RX6) (T := TX6) (N := 4) hx hb hts inlX6 hown hK hP 0 rfl rfl 3 (by decide) (hts _ q72) (fun _ h => h) rfl dX6_drop_9 ?_
    refine lv_iconst (v := 1) hx hb dX6_drop_12 (by decide) ?_
    refine lv_isub hx hb dX6_drop_13 ?_
    refine lv_topi (nm_r (e' := nI (R - 1)) (vz_dec hR1) ?_)
    refine va_put (D := D) (ci := 6) (v := .int (nI (R - 1))) (ty := .int) (C := RX6) (T := TX6) (N := 4) hx hb hts inlX6 tyX6 tyX6_ok nmX6 hown hK hP hD hS 0 rfl rfl 3 (by decide) (hts _ q72) (fun _ h => h) rfl (by decide +kernel) rfl rfl (Nat.le_of_ble_eq_true rfl) dX6_drop_14 (fun H locs hP hD hS => ?_)
    have hP : va_P D vwCl [tT h q w mo (nI (R - 1))] H := hP
    have hD : va_D A [tT h q w mo (nI (R - 1))] := hD
    exact vz_vret hx hb hr hlk hK hP hD hS (R - 1) (Nat.sub_le R 1) [0] rfl (by decide) (Nat.le_refl 0) (Nat.le_refl 0) dX6_drop_17
set_option maxHeartbeats 4000000 in
set_option maxRecDepth 100000 in
theorem c_T_fillw (l : Launch) (D : va_G) (g : Nat → ClassId) (h q sz Wi M R N : Nat) (f : Nat → Int32) (c9 v : Int32) (ht : tok Wi M R N) : vz_Mv l D (tyG g) yX6_fill cX6_fill 4 1 15 0 0 [.ref h, .int c9, .int v] sz [tT h q (nI Wi) (nI M) (nI R), tA g q N f] (fun u : Nat × (Nat → Int32) => u.1 ≤ M) (fun u => [tT h q (nI Wi) (nI M) (nI u.1), tA g q N u.2]) := by
  obtain ⟨h1, h2, h3, h4, h5, h6⟩ := ht
  refine vz_sv (by decide) (Nat.le_of_ble_eq_true rfl) (fun p e s m args below meth c hx hb hr hml hts hown hlk hin hK hsz A hA H locs hP hD hS ls hl => ?_)
  have hl : lv_has ls 4 [(0, .ref h), (1, .int c9), (2, .int v)] := hl
  obtain ⟨C, hC, ec⟩ := vz_clip c9 h3
  have hCN : C * Wi ≤ N := by rw [h1]; exact Nat.mul_le_mul_right Wi hC
  refine lv_aload_n hx hb dX6_fill_0 rfl (lv_at hl 0 rfl) ?_
  refine lv_iconst (v := 0) hx hb dX6_fill_1 (by decide) ?_
  refine lv_iload_n hx hb dX6_fill_2 rfl (lv_at hl 1 rfl) ?_
  refine lv_aload_n hx hb dX6_fill_3 rfl (lv_at hl 0 rfl) ?_
  refine va_get (D := D) (ci := 6) (v := .int (nI M)) (C := RX6) (T := TX6) (N := 4) hx hb hts inlX6 hown hK hP 0 rfl rfl 2 (by decide) (hts _ q68) (fun _ h => h) rfl dX6_fill_4 ?_
  refine va_mmin hx hb (hml.trans hl.1.symm) hown (hts _ q145) (hts _ q146) (hts _ q66) (hts _ q147) (Nat.le_of_ble_eq_true rfl) (Nat.le_of_ble_eq_true rfl) (Nat.le_of_ble_eq_true rfl) (Nat.le_of_ble_eq_true rfl) dX6_fill_7 ?_
  refine va_mmax hx hb (hml.trans hl.1.symm) hown (hts _ q64) (hts _ q65) (hts _ q66) (hts _ q67) (Nat.le_of_ble_eq_true rfl) (Nat.le_of_ble_eq_true rfl) (Nat.le_of_ble_eq_true rfl) (Nat.le_of_ble_eq_true rfl) dX6_fill_10 ?_
  refine lv_topi (nm_r (e' := nI C) (ec) ?_)
  refine va_put (D := D) (ci := 6) (v := .int (nI C)) (ty := .int) (C := RX6) (T := TX6) (N := 4) hx hb hts inlX6 tyX6 tyX6_ok nmX6 hown hK hP hD hS 0 rfl rfl 3 (by decide) (hts _ q72) (fun _ h => h) rfl (by decide +kernel) rfl rfl (Nat.le_of_ble_eq_true rfl) dX6_fill_13 (fun H locs hP hD hS => ?_)
  have hP : va_P D vwCl [tT h q (nI Wi) (nI M) (nI C), tA g q N f] H := hP
  have hD : va_D A [tT h q (nI Wi) (nI M) (nI C), tA g q N f] := hD
  refine lv_iconst (v := 0) hx hb dX6_fill_16 (by decide) ?_
  refine lv_istore_n (lv' := [(3, .int 0), (0, .ref h), (1, .int c9), (2, .int v)]) hx hb dX6_fill_17 rfl hl (by decide) rfl (fun ls hl => ?_)
  have hfe : f = tf f 0 0 v := tf_0
  rw [hfe] at hP hD
  refine lp_T_fill hx hb hown hts hK (by omega) hCN ?_ (C * Wi + 1) 0 (Nat.zero_le _) (by omega) H locs ls hP hD hS (lv_sub hl [1, 3, 0] rfl)
  intro H locs ls hP hD hS hl
  exact vz_vret hx hb hr hlk hK hP hD hS ((C, tf f 0 (C * Wi) v)) (hC) [0, 1] rfl (by decide) (Nat.le_refl 0) (Nat.le_refl 0) dX6_fill_53
