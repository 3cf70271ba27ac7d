theorem q445 : Cond.fieldLink RX3 74 "WaysAtlas$Reader" "fault" "I" ∈ wsL_law := mT_1 (List.mem_of_getElem? (i := 134) rfl) rfl
theorem q465 : Cond.fieldLink RX3 98 "WaysAtlas$Reader" "place" "I" ∈ wsL_law := mT_1 (List.mem_of_getElem? (i := 132) rfl) rfl
theorem q446 : Cond.fieldLink RX3 77 "WaysAtlas$Reader" "faultPlace" "I" ∈ wsL_law := mT_1 (List.mem_of_getElem? (i := 136) rfl) rfl
theorem q443 : Cond.fieldLink RX3 41 "WaysAtlas$Reader" "token" "I" ∈ wsL_law := mT_1 (List.mem_of_getElem? (i := 130) rfl) rfl
theorem dX3_fail_0 : decode cX3_fail 0 = .ok (.aload_n 0, 1) := by decide +kernel
theorem dX3_fail_1 : decode cX3_fail 1 = .ok (.getfield 74, 3) := by decide +kernel
theorem dX3_fail_4 : decode cX3_fail 4 = .ok (.ifCond .ne 16, 3) := by decide +kernel
theorem dX3_fail_7 : decode cX3_fail 7 = .ok (.aload_n 0, 1) := by decide +kernel
theorem dX3_fail_8 : decode cX3_fail 8 = .ok (.iload_n 1, 1) := by decide +kernel
theorem dX3_fail_9 : decode cX3_fail 9 = .ok (.putfield 74, 3) := by decide +kernel
theorem dX3_fail_12 : decode cX3_fail 12 = .ok (.aload_n 0, 1) := by decide +kernel
theorem dX3_fail_13 : decode cX3_fail 13 = .ok (.aload_n 0, 1) := by decide +kernel
theorem dX3_fail_14 : decode cX3_fail 14 = .ok (.getfield 98, 3) := by decide +kernel
theorem dX3_fail_17 : decode cX3_fail 17 = .ok (.putfield 77, 3) := by decide +kernel
theorem dX3_fail_20 : decode cX3_fail 20 = .ok (.aload_n 0, 1) := by decide +kernel
theorem dX3_fail_21 : decode cX3_fail 21 = .ok (.iconst 1, 1) := by decide +kernel
theorem dX3_fail_22 : decode cX3_fail 22 = .ok (.putfield 41, 3) := by decide +kernel
theorem dX3_fail_25 : decode cX3_fail 25 = .ok (.return_, 1) := by decide +kernel
set_option maxHeartbeats 8000000 in
set_option maxRecDepth 100000 in
theorem a_D_fail (l : Launch) (D : va_G) (g : Nat → ClassId)   (sz : Nat) (h : Nat) (va : Nat → Nat) (vi : Nat → Int32) (vr : Nat → Nat) (vf : Nat → Nat → Int32) (ta : Nat → Nat) (ph : Nat) (tr : Nat → Nat) (tf : Nat → Nat → Int32) (pa : Nat → Nat) (pr : Nat → Nat) (pf : Nat → Nat → Int32) (n1 : Int32) (hw_v : ∀ k, vr k ≤ rdW_lim k) (hw_t : ∀ k, tr k ≤ tkW_lim k) (hw_p : ∀ k, pr k ≤ pgW_lim k) : vz_Mv l D (tyG g) yX3_fail cX3_fail 2 0 0 0 0 [.ref h, .int n1] sz (vz_w [rdW g h va vi vr vf (ta 0) ph, tkW g ta tr tf, pgW g ph pa pr pf]) (fun u : (Nat → Int32) => (n1 ≠ 0 → u 5 ≠ 0)) (fun u => vz_w [rdW g h va u vr vf (ta 0) ph, tkW g ta tr tf, pgW g ph pa pr pf]) := by
  refine vz_svQ (by decide) (Nat.le_of_ble_eq_true rfl) (fun p e s m args below meth c hx hb hr hml hts hown hlk hin hK hsz A hA H locs hP hD hS ls hl Q hQ => ?_)
  have hl : lv_has ls 2 [(0, .ref h), (1, .int n1)] := hl
  refine lv_aload_n hx hb dX3_fail_0 rfl (lv_at hl 0 rfl) ?_
  refine va_get (D := D) (ci := 3) (v := .int (vi 5)) (C := RX3) (T := TX3) (N := 12) hx hb hts inlX3 hown hK hP 0 rfl rfl 10 (by decide) (hts _ q445) (fun _ h => h) rfl dX3_fail_1 ?_
  refine lv_if_ne (tgt := 20) hx hb dX3_fail_4 (by decide) (fun kc1 => ?_) (fun kc1 => ?_)
  · refine lv_aload_n hx hb dX3_fail_20 rfl (lv_at hl 0 rfl) ?_
    refine lv_iconst (v := 1) hx hb dX3_fail_21 (by decide) ?_
    refine va_put (D := D) (ci := 3) (v := .int 1) (ty := .int) (C := RX3) (T := TX3) (N := 12) hx hb hts inlX3 tyX3 tyX3_ok nmX3 hown hK hP hD hS 0 rfl rfl 6 (by decide) (hts _ q443) (fun _ h => h) rfl (by decide +kernel) rfl rfl (Nat.le_of_ble_eq_true rfl) dX3_fail_22 (fun H locs hP hD hS => ?_)
    obtain ⟨vi_2, hvi_2, hP, hD⟩ : ∃ vi_2 : Nat → Int32, (vi_2 = (upd vi 1 1)) ∧ va_P D vwCl (vz_w [rdW g h va vi_2 vr vf (ta 0) ph, tkW g ta tr tf, pgW g ph pa pr pf]) H ∧ va_D A (vz_w [rdW g h va vi_2 vr vf (ta 0) ph, tkW g ta tr tf, pgW g ph pa pr pf]) := ⟨(upd vi 1 1), rfl, hP, hD⟩
    rw [hQ]
    exact vz_vret3 hx hb hr hlk hK hP hD hS vi_2 (fun h9 => by rw [hvi_2]; exact kc1) rfl (Nat.le_refl 0) (Nat.le_refl 0) dX3_fail_25
  · refine lv_aload_n hx hb dX3_fail_7 rfl (lv_at hl 0 rfl) ?_
    refine lv_iload_n hx hb dX3_fail_8 rfl (lv_at hl 1 rfl) ?_
    refine va_put (D := D) (ci := 3) (v := .int n1) (ty := .int) (C := RX3) (T := TX3) (N := 12) hx hb hts inlX3 tyX3 tyX3_ok nmX3 hown hK hP hD hS 0 rfl rfl 10 (by decide) (hts _ q445) (fun _ h => h) rfl (by decide +kernel) rfl rfl (Nat.le_of_ble_eq_true rfl) dX3_fail_9 (fun H locs hP hD hS => ?_)
    obtain ⟨vi_3, hvi_3, hP, hD⟩ : ∃ vi_3 : Nat → Int32, (vi_3 = (upd vi 5 n1)) ∧ va_P D vwCl (vz_w [rdW g h va vi_3 vr vf (ta 0) ph, tkW g ta tr tf, pgW g ph pa pr pf]) H ∧ va_D A (vz_w [rdW g h va vi_3 vr vf (ta 0) ph, tkW g ta tr tf, pgW g ph pa pr pf]) := ⟨(upd vi 5 n1), rfl, hP, hD⟩
    refine lv_aload_n hx hb dX3_fail_12 rfl (lv_at hl 0 rfl) ?_
    refine lv_aload_n hx hb dX3_fail_13 rfl (lv_at hl 0 rfl) ?_
    refine va_get (D := D) (ci := 3) (v := .int (vi_3 3)) (C := RX3) (T := TX3) (N := 12) hx hb hts inlX3 hown hK hP 0 rfl rfl 8 (by decide) (hts _ q465) (fun _ h => h) rfl dX3_fail_14 ?_
    refine va_put (D := D) (ci := 3) (v := .int (vi_3 3)) (ty := .int) (C := RX3) (T := TX3) (N := 12) hx hb hts inlX3 tyX3 tyX3_ok nmX3 hown hK hP hD hS 0 rfl rfl 11 (by decide) (hts _ q446) (fun _ h => h) rfl (by decide +kernel) rfl rfl (Nat.le_of_ble_eq_true rfl) dX3_fail_17 (fun H locs hP hD hS => ?_)
    obtain ⟨vi_4, hvi_4, hP, hD⟩ : ∃ vi_4 : Nat → Int32, (vi_4 = (upd vi_3 6 (vi_3 3))) ∧ va_P D vwCl (vz_w [rdW g h va vi_4 vr vf (ta 0) ph, tkW g ta tr tf, pgW g ph pa pr pf]) H ∧ va_D A (vz_w [rdW g h va vi_4 vr vf (ta 0) ph, tkW g ta tr tf, pgW g ph pa pr pf]) := ⟨(upd vi_3 6 (vi_3 3)), rfl, hP, hD⟩
    refine lv_aload_n hx hb dX3_fail_20 rfl (lv_at hl 0 rfl) ?_
    refine lv_iconst (v := 1) hx hb dX3_fail_21 (by decide) ?_
    refine va_put (D := D) (ci := 3) (v := .int 1) (ty := .int) (C := RX3) (T := TX3) (N := 12) hx hb hts inlX3 tyX3 tyX3_ok nmX3 hown hK hP hD hS 0 rfl rfl 6 (by decide) (hts _ q443) (fun _ h => h) rfl (by decide +kernel) rfl rfl (Nat.le_of_ble_eq_true rfl) dX3_fail_22 (fun H locs hP hD hS => ?_)
    obtain ⟨vi_5, hvi_5, hP, hD⟩ : ∃ vi_5 : Nat → Int32, (vi_5 = (upd vi_4 1 1)) ∧ va_P D vwCl (vz_w [rdW g h va vi_5 vr vf (ta 0) ph, tkW g ta tr tf, pgW g ph pa pr pf]) H ∧ va_D A (vz_w [rdW g h va vi_5 vr vf (ta 0) ph, tkW g ta tr tf, pgW g ph pa pr pf]) := ⟨(upd vi_4 1 1), rfl, hP, hD⟩
    rw [hQ]
    exact vz_vret3 hx hb hr hlk hK hP hD hS vi_5 (fun h9 => by rw [hvi_5, hvi_4, hvi_3]; exact h9) rfl (Nat.le_refl 0) (Nat.le_refl 0) dX3_fail_25
theorem q451 : Cond.fieldLink RX3 86 "WaysAtlas$Reader" "at" "I" ∈ wsL_law := mT_1 (List.mem_of_getElem? (i := 129) rfl) rfl
theorem q96 : Cond.fieldLink RX3 9 "WaysAtlas$Reader" "tokens" "LWaysAtlas$Table;" ∈ wsL_law := mT_1 (List.mem_of_getElem? (i := 124) rfl) rfl
theorem q466 : Cond.methodLink RX3 92 yX6_get ∈ wsL_law := mT_3 (List.mem_of_getElem? (i := 141) rfl) rfl
theorem kv_X3_92 : vz_cv RX3 92 yX6_get cX6_get 4 (some .int) 2 := ⟨q466, q294, q295, q15, q296, by decide +kernel⟩
theorem q464 : Cond.fieldLink RX3 95 "WaysAtlas$Reader" "value" "I" ∈ wsL_law := mT_1 (List.mem_of_getElem? (i := 131) rfl) rfl
theorem dX3_advance_0 : decode cX3_advance 0 = .ok (.aload_n 0, 1) := by decide +kernel
theorem dX3_advance_1 : decode cX3_advance 1 = .ok (.getfield 74, 3) := by decide +kernel
theorem dX3_advance_4 : decode cX3_advance 4 = .ok (.ifCond .eq 9, 3) := by decide +kernel
theorem dX3_advance_7 : decode cX3_advance 7 = .ok (.aload_n 0, 1) := by decide +kernel
theorem dX3_advance_8 : decode cX3_advance 8 = .ok (.iconst 1, 1) := by decide +kernel
theorem dX3_advance_9 : decode cX3_advance 9 = .ok (.putfield 41, 3) := by decide +kernel
theorem dX3_advance_12 : decode cX3_advance 12 = .ok (.return_, 1) := by decide +kernel
theorem dX3_advance_13 : decode cX3_advance 13 = .ok (.aload_n 0, 1) := by decide +kernel
theorem dX3_advance_14 : decode cX3_advance 14 = .ok (.dup, 1) := by decide +kernel
theorem dX3_advance_15 : decode cX3_advance 15 = .ok (.getfield 86, 3) := by decide +kernel
theorem dX3_advance_18 : decode cX3_advance 18 = .ok (.iconst 1, 1) := by decide +kernel
theorem dX3_advance_19 : decode cX3_advance 19 = .ok (.iadd, 1) := by decide +kernel
theorem dX3_advance_20 : decode cX3_advance 20 = .ok (.putfield 86, 3) := by decide +kernel
theorem dX3_advance_23 : decode cX3_advance 23 = .ok (.aload_n 0, 1) := by decide +kernel
theorem dX3_advance_24 : decode cX3_advance 24 = .ok (.aload_n 0, 1) := by decide +kernel
theorem dX3_advance_25 : decode cX3_advance 25 = .ok (.getfield 9, 3) := by decide +kernel
theorem dX3_advance_28 : decode cX3_advance 28 = .ok (.aload_n 0, 1) := by decide +kernel
theorem dX3_advance_29 : decode cX3_advance 29 = .ok (.getfield 86, 3) := by decide +kernel
theorem dX3_advance_32 : decode cX3_advance 32 = .ok (.iconst 0, 1) := by decide +kernel
theorem dX3_advance_33 : decode cX3_advance 33 = .ok (.invokevirtual 92, 3) := by decide +kernel
theorem dX3_advance_36 : decode cX3_advance 36 = .ok (.putfield 41, 3) := by decide +kernel
theorem dX3_advance_39 : decode cX3_advance 39 = .ok (.aload_n 0, 1) := by decide +kernel
theorem dX3_advance_40 : decode cX3_advance 40 = .ok (.aload_n 0, 1) := by decide +kernel
theorem dX3_advance_41 : decode cX3_advance 41 = .ok (.getfield 9, 3) := by decide +kernel
theorem dX3_advance_44 : decode cX3_advance 44 = .ok (.aload_n 0, 1) := by decide +kernel
theorem dX3_advance_45 : decode cX3_advance 45 = .ok (.getfield 86, 3) := by decide +kernel
theorem dX3_advance_48 : decode cX3_advance 48 = .ok (.iconst 1, 1) := by decide +kernel
theorem dX3_advance_49 : decode cX3_advance 49 = .ok (.invokevirtual 92, 3) := by decide +kernel
theorem dX3_advance_52 : decode cX3_advance 52 = .ok (.putfield 95, 3) := by decide +kernel
theorem dX3_advance_55 : decode cX3_advance 55 = .ok (.aload_n 0, 1) := by decide +kernel
theorem dX3_advance_56 : decode cX3_advance 56 = .ok (.aload_n 0, 1) := by decide +kernel
theorem dX3_advance_57 : decode cX3_advance 57 = .ok (.getfield 9, 3) := by decide +kernel
theorem dX3_advance_60 : decode cX3_advance 60 = .ok (.aload_n 0, 1) := by decide +kernel
theorem dX3_advance_61 : decode cX3_advance 61 = .ok (.getfield 86, 3) := by decide +kernel
theorem dX3_advance_64 : decode cX3_advance 64 = .ok (.iconst 2, 1) := by decide +kernel
theorem dX3_advance_65 : decode cX3_advance 65 = .ok (.invokevirtual 92, 3) := by decide +kernel
theorem dX3_advance_68 : decode cX3_advance 68 = .ok (.putfield 98, 3) := by decide +kernel
theorem dX3_advance_71 : decode cX3_advance 71 = .ok (.return_, 1) := by decide +kernel
set_option maxHeartbeats 8000000 in
set_option maxRecDepth 100000 in
theorem a_D_advance (l : Launch) (D : va_G) (g : Nat → ClassId)   (sz : Nat) (h : Nat) (va : Nat → Nat) (vi : Nat → Int32) (vr : Nat → Nat) (vf : Nat → Nat → Int32) (ta : Nat → Nat) (ph : Nat) (tr : Nat → Nat) (tf : Nat → Nat → Int32) (pa : Nat → Nat) (pr : Nat → Nat) (pf : Nat → Nat → Int32) (hw_v : ∀ k, vr k ≤ rdW_lim k) (hw_t : ∀ k, tr k ≤ tkW_lim k) (hw_p : ∀ k, pr k ≤ pgW_lim k) : vz_Mv l D (tyG g) yX3_advance cX3_advance 1 1 23 0 0 [.ref h] sz (vz_w [rdW g h va vi vr vf (ta 0) ph, tkW g ta tr tf, pgW g ph pa pr pf]) (fun u : (Nat → Int32) => True) (fun u => vz_w [rdW g h va u vr vf (ta 0) ph, tkW g ta tr tf, pgW g ph pa pr pf]) := by
  refine vz_svQ (by decide) (Nat.le_of_ble_eq_true rfl) (fun p e s m args below meth c hx hb hr hml hts hown hlk hin hK hsz A hA H locs hP hD hS ls hl Q hQ => ?_)
  have hl : lv_has ls 1 [(0, .ref h)] := hl
  refine lv_aload_n hx hb dX3_advance_0 rfl (lv_at hl 0 rfl) ?_
  refine va_get (D := D) (ci := 3) (v := .int (vi 5)) (C := RX3) (T := TX3) (N := 12) hx hb hts inlX3 hown hK hP 0 rfl rfl 10 (by decide) (hts _ q445) (fun _ h => h) rfl dX3_advance_1 ?_
  refine lv_if_eq (tgt := 13) hx hb dX3_advance_4 (by decide) (fun kc1 => ?_) (fun kc1 => ?_)
  · refine lv_aload_n hx hb dX3_advance_13 rfl (lv_at hl 0 rfl) ?_
    refine lv_dup hx hb dX3_advance_14 rfl ?_
    refine va_get (D := D) (ci := 3) (v := .int (vi 0)) (C := RX3) (T := TX3) (N := 12) hx hb hts inlX3 hown hK hP 0 rfl rfl 5 (by decide) (hts _ q451) (fun _ h => h) rfl dX3_advance_15 ?_
    refine lv_iconst (v := 1) hx hb dX3_advance_18 (by decide) ?_
    refine lv_iadd hx hb dX3_advance_19 ?_
    refine va_put (D := D) (ci := 3) (v := .int ((vi 0) + 1)) (ty := .int) (C := RX3) (T := TX3) (N := 12) hx hb hts inlX3 tyX3 tyX3_ok nmX3 hown hK hP hD hS 0 rfl rfl 5 (by decide) (hts _ q451) (fun _ h => h) rfl (by decide +kernel) rfl rfl (Nat.le_of_ble_eq_true rfl) dX3_advance_20 (fun H locs hP hD hS => ?_)
    obtain ⟨vi_2, hvi_2, hP, hD⟩ : ∃ vi_2 : Nat → Int32, (vi_2 = (upd vi 0 ((vi 0) + 1))) ∧ va_P D vwCl (vz_w [rdW g h va vi_2 vr vf (ta 0) ph, tkW g ta tr tf, pgW g ph pa pr pf]) H ∧ va_D A (vz_w [rdW g h va vi_2 vr vf (ta 0) ph, tkW g ta tr tf, pgW g ph pa pr pf]) := ⟨(upd vi 0 ((vi 0) + 1)), rfl, hP, hD⟩
    refine lv_aload_n hx hb dX3_advance_23 rfl (lv_at hl 0 rfl) ?_
    refine lv_aload_n hx hb dX3_advance_24 rfl (lv_at hl 0 rfl) ?_
    refine va_get (D := D) (ci := 3) (v := .ref (ta 0)) (C := RX3) (T := TX3) (N := 12) hx hb hts inlX3 hown hK hP 0 rfl rfl 0 (by decide) (hts _ q96) (fun _ h => h) rfl dX3_advance_25 ?_
    refine lv_aload_n hx hb dX3_advance_28 rfl (lv_at hl 0 rfl) ?_
    refine va_get (D := D) (ci := 3) (v := .int (vi_2 0)) (C := RX3) (T := TX3) (N := 12) hx hb hts inlX3 hown hK hP 0 rfl rfl 5 (by decide) (hts _ q451) (fun _ h => h) rfl dX3_advance_29 ?_
    refine lv_iconst (v := 0) hx hb dX3_advance_32 (by decide) ?_
    refine vz_Vi2 (ws' := fun u : Unit => vz_w [rdW g h va vi_2 vr vf (ta 0) ph, tkW g ta tr tf, pgW g ph pa pr pf]) (As := [.int (vi_2 0), .int 0]) (rest := [.ref h]) hx hb hml hown hts hK hA hP hD hS (c_T_get l D g (ta 0) (ta 1) H.size 3 1001 (tr 0) 3003 (tf 0) (vi_2 0) 0 ⟨rfl, by decide, by decide, by decide, by decide, hw_t 0⟩) kv_X3_92 ⟨Nat.le_of_ble_eq_true rfl, Nat.le_of_ble_eq_true rfl⟩ (q0 := 7) (ci := 6) rfl rfl rfl [7, 8] rfl (by decide) (fun _ => rfl) (fun _ => rfl) hl.1 (Nat.le_of_ble_eq_true rfl) dX3_advance_33 ⟨Nat.le_refl _, Nat.le_refl _⟩ rfl (fun v3 _ H locs he4 _ hP hD hS => ?_)
    refine va_put (D := D) (ci := 3) (v := .int v3) (ty := .int) (C := RX3) (T := TX3) (N := 12) hx hb hts inlX3 tyX3 tyX3_ok nmX3 hown hK hP hD hS 0 rfl rfl 6 (by decide) (hts _ q443) (fun _ h => h) rfl (by decide +kernel) rfl rfl (Nat.le_of_ble_eq_true rfl) dX3_advance_36 (fun H locs hP hD hS => ?_)
    obtain ⟨vi_5, hvi_5, hP, hD⟩ : ∃ vi_5 : Nat → Int32, (vi_5 = (upd vi_2 1 v3)) ∧ va_P D vwCl (vz_w [rdW g h va vi_5 vr vf (ta 0) ph, tkW g ta tr tf, pgW g ph pa pr pf]) H ∧ va_D A (vz_w [rdW g h va vi_5 vr vf (ta 0) ph, tkW g ta tr tf, pgW g ph pa pr pf]) := ⟨(upd vi_2 1 v3), rfl, hP, hD⟩
    refine lv_aload_n hx hb dX3_advance_39 rfl (lv_at hl 0 rfl) ?_
    refine lv_aload_n hx hb dX3_advance_40 rfl (lv_at hl 0 rfl) ?_
    refine va_get (D := D) (ci := 3) (v := .ref (ta 0)) (C := RX3) (T := TX3) (N := 12) hx hb hts inlX3 hown hK hP 0 rfl rfl 0 (by decide) (hts _ q96) (fun _ h => h) rfl dX3_advance_41 ?_
    refine lv_aload_n hx hb dX3_advance_44 rfl (lv_at hl 0 rfl) ?_
    refine va_get (D := D) (ci := 3) (v := .int (vi_5 0)) (C := RX3) (T := TX3) (N := 12) hx hb hts inlX3 hown hK hP 0 rfl rfl 5 (by decide) (hts _ q451) (fun _ h => h) rfl dX3_advance_45 ?_
    refine lv_iconst (v := 1) hx hb dX3_advance_48 (by decide) ?_
    refine vz_Vi2 (ws' := fun u : Unit => vz_w [rdW g h va vi_5 vr vf (ta 0) ph, tkW g ta tr tf, pgW g ph pa pr pf]) (As := [.int (vi_5 0), .int 1]) (rest := [.ref h]) hx hb hml hown hts hK hA hP hD hS (c_T_get l D g (ta 0) (ta 1) H.size 3 1001 (tr 0) 3003 (tf 0) (vi_5 0) 1 ⟨rfl, by decide, by decide, by decide, by decide, hw_t 0⟩) kv_X3_92 ⟨Nat.le_of_ble_eq_true rfl, Nat.le_of_ble_eq_true rfl⟩ (q0 := 7) (ci := 6) rfl rfl rfl [7, 8] rfl (by decide) (fun _ => rfl) (fun _ => rfl) hl.1 (Nat.le_of_ble_eq_true rfl) dX3_advance_49 ⟨Nat.le_refl _, Nat.le_refl _⟩ rfl (fun v6 _ H locs he7 _ hP hD hS => ?_)
    refine va_put (D := D) (ci := 3) (v := .int v6) (ty := .int) (C := RX3) (T := TX3) (N := 12) hx hb hts inlX3 tyX3 tyX3_ok nmX3 hown hK hP hD hS 0 rfl rfl 7 (by decide) (hts _ q464) (fun _ h => h) rfl (by decide +kernel) rfl rfl (Nat.le_of_ble_eq_true rfl) dX3_advance_52 (fun H locs hP hD hS => ?_)
    obtain ⟨vi_8, hvi_8, hP, hD⟩ : ∃ vi_8 : Nat → Int32, (vi_8 = (upd vi_5 2 v6)) ∧ va_P D vwCl (vz_w [rdW g h va vi_8 vr vf (ta 0) ph, tkW g ta tr tf, pgW g ph pa pr pf]) H ∧ va_D A (vz_w [rdW g h va vi_8 vr vf (ta 0) ph, tkW g ta tr tf, pgW g ph pa pr pf]) := ⟨(upd vi_5 2 v6), rfl, hP, hD⟩
    refine lv_aload_n hx hb dX3_advance_55 rfl (lv_at hl 0 rfl) ?_
    refine lv_aload_n hx hb dX3_advance_56 rfl (lv_at hl 0 rfl) ?_
    refine va_get (D := D) (ci := 3) (v := .ref (ta 0)) (C := RX3) (T := TX3) (N := 12) hx hb hts inlX3 hown hK hP 0 rfl rfl 0 (by decide) (hts _ q96) (fun _ h => h) rfl dX3_advance_57 ?_
    refine lv_aload_n hx hb dX3_advance_60 rfl (lv_at hl 0 rfl) ?_
    refine va_get (D := D) (ci := 3) (v := .int (vi_8 0)) (C := RX3) (T := TX3) (N := 12) hx hb hts inlX3 hown hK hP 0 rfl rfl 5 (by decide) (hts _ q451) (fun _ h => h) rfl dX3_advance_61 ?_
    refine lv_iconst (v := 2) hx hb dX3_advance_64 (by decide) ?_
    refine vz_Vi2 (ws' := fun u : Unit => vz_w [rdW g h va vi_8 vr vf (ta 0) ph, tkW g ta tr tf, pgW g ph pa pr pf]) (As := [.int (vi_8 0), .int 2]) (rest := [.ref h]) hx hb hml hown hts hK hA hP hD hS (c_T_get l D g (ta 0) (ta 1) H.size 3 1001 (tr 0) 3003 (tf 0) (vi_8 0) 2 ⟨rfl, by decide, by decide, by decide, by decide, hw_t 0⟩) kv_X3_92 ⟨Nat.le_of_ble_eq_true rfl, Nat.le_of_ble_eq_true rfl⟩ (q0 := 7) (ci := 6) rfl rfl rfl [7, 8] rfl (by decide) (fun _ => rfl) (fun _ => rfl) hl.1 (Nat.le_of_ble_eq_true rfl) dX3_advance_65 ⟨Nat.le_refl _, Nat.le_refl _⟩ rfl (fun v9 _ H locs he10 _ hP hD hS => ?_)
    refine va_put (D := D) (ci := 3) (v := .int v9) (ty := .int) (C := RX3) (T := TX3) (N := 12) hx hb hts inlX3 tyX3 tyX3_ok nmX3 hown hK hP hD hS 0 rfl rfl 8 (by decide) (hts _ q465) (fun _ h => h) rfl (by decide +kernel) rfl rfl (Nat.le_of_ble_eq_true rfl) dX3_advance_68 (fun H locs hP hD hS => ?_)
    obtain ⟨vi_11, hvi_11, hP, hD⟩ : ∃ vi_11 : Nat → Int32, (vi_11 = (upd vi_8 3 v9)) ∧ va_P D vwCl (vz_w [rdW g h va vi_11 vr vf (ta 0) ph, tkW g ta tr tf, pgW g ph pa pr pf]) H ∧ va_D A (vz_w [rdW g h va vi_11 vr vf (ta 0) ph, tkW g ta tr tf, pgW g ph pa pr pf]) := ⟨(upd vi_8 3 v9), rfl, hP, hD⟩
    rw [hQ]
    exact vz_vret3 hx hb hr hlk hK hP hD hS vi_11 trivial rfl (Nat.le_refl 0) (Nat.le_refl 0) dX3_advance_71
  · refine lv_aload_n hx hb dX3_advance_7 rfl (lv_at hl 0 rfl) ?_
    refine lv_iconst (v := 1) hx hb dX3_advance_8 (by decide) ?_
    refine va_put (D := D) (ci := 3) (v := .int 1) (ty := .int) (C := RX3) (T := TX3) (N := 12) hx hb hts inlX3 tyX3 tyX3_ok nmX3 hown hK hP hD hS 0 rfl rfl 6 (by decide) (hts _ q443) (fun _ h => h) rfl (by decide +kernel) rfl rfl (Nat.le_of_ble_eq_true rfl) dX3_advance_9 (fun H locs hP hD hS => ?_)
    obtain ⟨vi_12, hvi_12, hP, hD⟩ : ∃ vi_12 : Nat → Int32, (vi_12 = (upd vi 1 1)) ∧ va_P D vwCl (vz_w [rdW g h va vi_12 vr vf (ta 0) ph, tkW g ta tr tf, pgW g ph pa pr pf]) H ∧ va_D A (vz_w [rdW g h va vi_12 vr vf (ta 0) ph, tkW g ta tr tf, pgW g ph pa pr pf]) := ⟨(upd vi 1 1), rfl, hP, hD⟩
    rw [hQ]
    exact vz_vret3 hx hb hr hlk hK hP hD hS vi_12 trivial rfl (Nat.le_refl 0) (Nat.le_refl 0) dX3_advance_12
theorem q460 : Cond.methodLink RX3 89 yX3_advance ∈ wsL_law := mT_3 (List.mem_of_getElem? (i := 137) rfl) rfl
theorem q461 : Cond.instanceMethod yX3_advance ∈ wsL_law := mT_3 (List.mem_of_getElem? (i := 139) rfl) rfl
theorem q462 : Cond.selects RX3 yX3_advance yX3_advance ∈ wsL_law := mS_1 (q := (yX3_advance, 12)) (List.mem_of_getElem? (i := 5) rfl) rfl
theorem q28 : Cond.initialized RX3 ∈ wsL_law := mT_1 (List.mem_of_getElem? (i := 6) rfl) rfl
theorem q463 : Cond.code yX3_advance cX3_advance 1 none ∈ wsL_law := mT_3 (List.mem_of_getElem? (i := 140) rfl) rfl
theorem kv_X3_89 : vz_cv RX3 89 yX3_advance cX3_advance 1 none 0 := ⟨q460, q461, q462, q28, q463, by decide +kernel⟩
theorem q473 : Cond.methodLink RX3 68 yX3_fail ∈ wsL_law := mT_3 (List.mem_of_getElem? (i := 146) rfl) rfl
theorem q474 : Cond.instanceMethod yX3_fail ∈ wsL_law := mT_3 (List.mem_of_getElem? (i := 148) rfl) rfl
theorem q475 : Cond.selects RX3 yX3_fail yX3_fail ∈ wsL_law := mS_1 (q := (yX3_fail, 12)) (List.mem_of_getElem? (i := 7) rfl) rfl
theorem q476 : Cond.code yX3_fail cX3_fail 2 none ∈ wsL_law := mT_3 (List.mem_of_getElem? (i := 149) rfl) rfl
theorem kv_X3_68 : vz_cv RX3 68 yX3_fail cX3_fail 2 none 1 := ⟨q473, q474, q475, q28, q476, by decide +kernel⟩
theorem dX3_expect_0 : decode cX3_expect 0 = .ok (.aload_n 0, 1) := by decide +kernel
theorem dX3_expect_1 : decode cX3_expect 1 = .ok (.getfield 41, 3) := by decide +kernel
theorem dX3_expect_4 : decode cX3_expect 4 = .ok (.iload_n 1, 1) := by decide +kernel
theorem dX3_expect_5 : decode cX3_expect 5 = .ok (.if_icmp .ne 10, 3) := by decide +kernel
theorem dX3_expect_8 : decode cX3_expect 8 = .ok (.aload_n 0, 1) := by decide +kernel
theorem dX3_expect_9 : decode cX3_expect 9 = .ok (.invokevirtual 89, 3) := by decide +kernel
theorem dX3_expect_12 : decode cX3_expect 12 = .ok (.goto 8, 3) := by decide +kernel
theorem dX3_expect_15 : decode cX3_expect 15 = .ok (.aload_n 0, 1) := by decide +kernel
theorem dX3_expect_16 : decode cX3_expect 16 = .ok (.iconst 1, 1) := by decide +kernel
theorem dX3_expect_17 : decode cX3_expect 17 = .ok (.invokevirtual 68, 3) := by decide +kernel
theorem dX3_expect_20 : decode cX3_expect 20 = .ok (.return_, 1) := by decide +kernel
set_option maxHeartbeats 8000000 in
set_option maxRecDepth 100000 in
theorem a_D_expect (l : Launch) (D : va_G) (g : Nat → ClassId)   (sz : Nat) (h : Nat) (va : Nat → Nat) (vi : Nat → Int32) (vr : Nat → Nat) (vf : Nat → Nat → Int32) (ta : Nat → Nat) (ph : Nat) (tr : Nat → Nat) (tf : Nat → Nat → Int32) (pa : Nat → Nat) (pr : Nat → Nat) (pf : Nat → Nat → Int32) (n1 : Int32) (hw_v : ∀ k, vr k ≤ rdW_lim k) (hw_t : ∀ k, tr k ≤ tkW_lim k) (hw_p : ∀ k, pr k ≤ pgW_lim k) : vz_Mv l D (tyG g) yX3_expect cX3_expect 2 2 43 0 0 [.ref h, .int n1] sz (vz_w [rdW g h va vi vr vf (ta 0) ph, tkW g ta tr tf, pgW g ph pa pr pf]) (fun u : (Nat → Int32) => (vi 1 = n1 ∨ u 5 ≠ 0)) (fun u => vz_w [rdW g h va u vr vf (ta 0) ph, tkW g ta tr tf, pgW g ph pa pr pf]) := by
  refine vz_svQ (by decide) (Nat.le_of_ble_eq_true rfl) (fun p e s m args below meth c hx hb hr hml hts hown hlk hin hK hsz A hA H locs hP hD hS ls hl Q hQ => ?_)
  have hl : lv_has ls 2 [(0, .ref h), (1, .int n1)] := hl
  refine lv_aload_n hx hb dX3_expect_0 rfl (lv_at hl 0 rfl) ?_
  refine va_get (D := D) (ci := 3) (v := .int (vi 1)) (C := RX3) (T := TX3) (N := 12) hx hb hts inlX3 hown hK hP 0 rfl rfl 6 (by decide) (hts _ q443) (fun _ h => h) rfl dX3_expect_1 ?_
  refine lv_iload_n hx hb dX3_expect_4 rfl (lv_at hl 1 rfl) ?_
  refine lv_icmp_ne (tgt := 15) hx hb dX3_expect_5 (by decide) (fun kc1 => ?_) (fun kc1 => ?_)
  · refine lv_aload_n hx hb dX3_expect_15 rfl (lv_at hl 0 rfl) ?_
    refine lv_iconst (v := 1) hx hb dX3_expect_16 (by decide) ?_
    refine vz_Vv3 (As := [.int 1]) (rest := []) hx hb hml hown hts hK hA hP hD hS (a_D_fail l D g H.size h va vi vr vf ta ph tr tf pa pr pf 1 hw_v hw_t hw_p) kv_X3_68 ⟨Nat.le_of_ble_eq_true rfl, Nat.le_of_ble_eq_true rfl⟩ (q0 := 0) (ci := 3) rfl rfl rfl  hl.1 (Nat.le_of_ble_eq_true rfl) dX3_expect_17 ⟨Nat.le_refl _, Nat.le_refl _⟩ rfl (fun vi_2 H locs hp3 _ hP hD hS => ?_)
    try dsimp only at hp3
    replace hP : va_P D vwCl (vz_w [rdW g h va vi_2 vr vf (ta 0) ph, tkW g ta tr tf, pgW g ph pa pr pf]) H := hP
    replace hD : va_D A (vz_w [rdW g h va vi_2 vr vf (ta 0) ph, tkW g ta tr tf, pgW g ph pa pr pf]) := hD
    rw [hQ]
    exact vz_vret3 hx hb hr hlk hK hP hD hS vi_2 (Or.inr (hp3 (by decide))) rfl (Nat.le_refl 0) (Nat.le_refl 0) dX3_expect_20
  · refine lv_aload_n hx hb dX3_expect_8 rfl (lv_at hl 0 rfl) ?_
    refine vz_Vv3 (As := []) (rest := []) hx hb hml hown hts hK hA hP hD hS (a_D_advance l D g H.size h va vi vr vf ta ph tr tf pa pr pf hw_v hw_t hw_p) kv_X3_89 ⟨Nat.le_of_ble_eq_true rfl, Nat.le_of_ble_eq_true rfl⟩ (q0 := 0) (ci := 3) rfl rfl rfl  hl.1 (Nat.le_of_ble_eq_true rfl) dX3_expect_9 ⟨Nat.le_refl _, Nat.le_refl _⟩ rfl (fun vi_4 H locs _ _ hP hD hS => ?_)
    replace hP : va_P D vwCl (vz_w [rdW g h va vi_4 vr vf (ta 0) ph, tkW g ta tr tf, pgW g ph pa pr pf]) H := hP
    replace hD : va_D A (vz_w [rdW g h va vi_4 vr vf (ta 0) ph, tkW g ta tr tf, pgW g ph pa pr pf]) := hD
    refine lv_goto (tgt := 20) hx hb dX3_expect_12 (by decide) ?_
    rw [hQ]
    exact vz_vret3 hx hb hr hlk hK hP hD hS vi_4 (Or.inl kc1) rfl (Nat.le_refl 0) (Nat.le_refl 0) dX3_expect_20
theorem q102 : Cond.fieldLink RX3 33 "WaysAtlas$Reader" "lesserPlace" "I" ∈ wsL_law := mT_1 (List.mem_of_getElem? (i := 133) rfl) rfl
theorem dX3_failLesser_0 : decode cX3_failLesser 0 = .ok (.aload_n 0, 1) := by decide +kernel
theorem dX3_failLesser_1 : decode cX3_failLesser 1 = .ok (.getfield 33, 3) := by decide +kernel
theorem dX3_failLesser_4 : decode cX3_failLesser 4 = .ok (.bipush (-9), 2) := by decide +kernel
theorem dX3_failLesser_6 : decode cX3_failLesser 6 = .ok (.if_icmp .eq 11, 3) := by decide +kernel
theorem dX3_failLesser_9 : decode cX3_failLesser 9 = .ok (.iload_n 1, 1) := by decide +kernel
theorem dX3_failLesser_10 : decode cX3_failLesser 10 = .ok (.aload_n 0, 1) := by decide +kernel
theorem dX3_failLesser_11 : decode cX3_failLesser 11 = .ok (.getfield 33, 3) := by decide +kernel
theorem dX3_failLesser_14 : decode cX3_failLesser 14 = .ok (.if_icmp .ge 8, 3) := by decide +kernel
theorem dX3_failLesser_17 : decode cX3_failLesser 17 = .ok (.aload_n 0, 1) := by decide +kernel
theorem dX3_failLesser_18 : decode cX3_failLesser 18 = .ok (.iload_n 1, 1) := by decide +kernel
theorem dX3_failLesser_19 : decode cX3_failLesser 19 = .ok (.putfield 33, 3) := by decide +kernel
theorem dX3_failLesser_22 : decode cX3_failLesser 22 = .ok (.return_, 1) := by decide +kernel
set_option maxHeartbeats 8000000 in
set_option maxRecDepth 100000 in
theorem a_D_failLesser (l : Launch) (D : va_G) (g : Nat → ClassId)   (sz : Nat) (h : Nat) (va : Nat → Nat) (vi : Nat → Int32) (vr : Nat → Nat) (vf : Nat → Nat → Int32) (ta : Nat → Nat) (ph : Nat) (tr : Nat → Nat) (tf : Nat → Nat → Int32) (pa : Nat → Nat) (pr : Nat → Nat) (pf : Nat → Nat → Int32) (n1 : Int32) (hw_v : ∀ k, vr k ≤ rdW_lim k) (hw_t : ∀ k, tr k ≤ tkW_lim k) (hw_p : ∀ k, pr k ≤ pgW_lim k) : vz_Mv l D (tyG g) yX3_failLesser cX3_failLesser 2 0 0 0 0 [.ref h, .int n1] sz (vz_w [rdW g h va vi vr vf (ta 0) ph, tkW g ta tr tf, pgW g ph pa pr pf]) (fun u : (Nat → Int32) => True) (fun u => vz_w [rdW g h va u vr vf (ta 0) ph, tkW g ta tr tf, pgW g ph pa pr pf]) := by
  refine vz_svQ (by decide) (Nat.le_of_ble_eq_true rfl) (fun p e s m args below meth c hx hb hr hml hts hown hlk hin hK hsz A hA H locs hP hD hS ls hl Q hQ => ?_)
  have hl : lv_has ls 2 [(0, .ref h), (1, .int n1)] := hl
  have J22 : ∀ (vi_22 : Nat → Int32), ∀ (H : Heap) (locs : List Loc) (ls : Array Slot), va_P D vwCl (vz_w [rdW g h va vi_22 vr vf (ta 0) ph, tkW g ta tr tf, pgW g ph pa pr pf]) H → va_D A (vz_w [rdW g h va vi_22 vr vf (ta 0) ph, tkW g ta tr tf, pgW g ph pa pr pf]) → va_S A s.heap H locs → lv_has ls 2 [(0, .ref h), (1, .int n1)] → W p l e { frames := 0, cells := 0, slots := 0, locals := 0 } s m args below meth c H locs 0 0 Q (F0 m 22 ls []) := by
    intro vi_22 H locs ls hP hD hS hl
    rw [hQ]
    exact vz_vret3 hx hb hr hlk hK hP hD hS vi_22 trivial rfl (Nat.le_refl 0) (Nat.le_refl 0) dX3_failLesser_22
  have J17 : ∀ (vi_17 : Nat → Int32), ∀ (H : Heap) (locs : List Loc) (ls : Array Slot), va_P D vwCl (vz_w [rdW g h va vi_17 vr vf (ta 0) ph, tkW g ta tr tf, pgW g ph pa pr pf]) H → va_D A (vz_w [rdW g h va vi_17 vr vf (ta 0) ph, tkW g ta tr tf, pgW g ph pa pr pf]) → va_S A s.heap H locs → lv_has ls 2 [(0, .ref h), (1, .int n1)] → W p l e { frames := 0, cells := 0, slots := 0, locals := 0 } s m args below meth c H locs 0 0 Q (F0 m 17 ls []) := by
    intro vi_17 H locs ls hP hD hS hl
    refine lv_aload_n hx hb dX3_failLesser_17 rfl (lv_at hl 0 rfl) ?_
    refine lv_iload_n hx hb dX3_failLesser_18 rfl (lv_at hl 1 rfl) ?_
    refine va_put (D := D) (ci := 3) (v := .int n1) (ty := .int) (C := RX3) (T := TX3) (N := 12) hx hb hts inlX3 tyX3 tyX3_ok nmX3 hown hK hP hD hS 0 rfl rfl 9 (by decide) (hts _ q102) (fun _ h => h) rfl (by decide +kernel) rfl rfl (Nat.le_of_ble_eq_true rfl) dX3_failLesser_19 (fun H locs hP hD hS => ?_)
    obtain ⟨vi_1, hvi_1, hP, hD⟩ : ∃ vi_1 : Nat → Int32, (vi_1 = (upd vi_17 4 n1)) ∧ va_P D vwCl (vz_w [rdW g h va vi_1 vr vf (ta 0) ph, tkW g ta tr tf, pgW g ph pa pr pf]) H ∧ va_D A (vz_w [rdW g h va vi_1 vr vf (ta 0) ph, tkW g ta tr tf, pgW g ph pa pr pf]) := ⟨(upd vi_17 4 n1), rfl, hP, hD⟩
    exact J22 vi_1 H locs ls hP hD hS (lv_sub hl [0, 1] rfl)
  refine lv_aload_n hx hb dX3_failLesser_0 rfl (lv_at hl 0 rfl) ?_
  refine va_get (D := D) (ci := 3) (v := .int (vi 4)) (C := RX3) (T := TX3) (N := 12) hx hb hts inlX3 hown hK hP 0 rfl rfl 9 (by decide) (hts _ q102) (fun _ h => h) rfl dX3_failLesser_1 ?_
  refine lv_bipush (v := (-9)) hx hb dX3_failLesser_4 (by decide) ?_
  refine lv_icmp_eq (tgt := 17) hx hb dX3_failLesser_6 (by decide) (fun kc1 => ?_) (fun kc1 => ?_)
  · exact J17 vi H locs ls hP hD hS (lv_sub hl [0, 1] rfl)
  · refine lv_iload_n hx hb dX3_failLesser_9 rfl (lv_at hl 1 rfl) ?_
    refine lv_aload_n hx hb dX3_failLesser_10 rfl (lv_at hl 0 rfl) ?_
    refine va_get (D := D) (ci := 3) (v := .int (vi 4)) (C := RX3) (T := TX3) (N := 12) hx hb hts inlX3 hown hK hP 0 rfl rfl 9 (by decide) (hts _ q102) (fun _ h => h) rfl dX3_failLesser_11 ?_
    refine lv_icmp_ge (tgt := 22) hx hb dX3_failLesser_14 (by decide) (fun kc2 => ?_) (fun kc2 => ?_)
    · exact J22 vi H locs ls hP hD hS (lv_sub hl [0, 1] rfl)
    · exact J17 vi H locs ls hP hD hS (lv_sub hl [0, 1] rfl)
theorem dX3_isNoVariable_0 : decode cX3_isNoVariable 0 = .ok (.aload_n 0, 1) := by decide +kernel
theorem dX3_isNoVariable_1 : decode cX3_isNoVariable 1 = .ok (.getfield 41, 3) := by decide +kernel
theorem dX3_isNoVariable_4 : decode cX3_isNoVariable 4 = .ok (.iconst 5, 1) := by decide +kernel
theorem dX3_isNoVariable_5 : decode cX3_isNoVariable 5 = .ok (.if_icmp .ne 16, 3) := by decide +kernel
theorem dX3_isNoVariable_8 : decode cX3_isNoVariable 8 = .ok (.aload_n 0, 1) := by decide +kernel
theorem dX3_isNoVariable_9 : decode cX3_isNoVariable 9 = .ok (.getfield 95, 3) := by decide +kernel
theorem dX3_isNoVariable_12 : decode cX3_isNoVariable 12 = .ok (.bipush 6, 2) := by decide +kernel
theorem dX3_isNoVariable_14 : decode cX3_isNoVariable 14 = .ok (.if_icmp .lt 7, 3) := by decide +kernel
theorem dX3_isNoVariable_17 : decode cX3_isNoVariable 17 = .ok (.iconst 1, 1) := by decide +kernel
theorem dX3_isNoVariable_18 : decode cX3_isNoVariable 18 = .ok (.goto 4, 3) := by decide +kernel
theorem dX3_isNoVariable_21 : decode cX3_isNoVariable 21 = .ok (.iconst 0, 1) := by decide +kernel
theorem dX3_isNoVariable_22 : decode cX3_isNoVariable 22 = .ok (.ireturn, 1) := by decide +kernel
set_option maxHeartbeats 8000000 in
set_option maxRecDepth 100000 in
theorem a_D_isNoVariable (l : Launch) (D : va_G) (g : Nat → ClassId)   (sz : Nat) (h : Nat) (va : Nat → Nat) (vi : Nat → Int32) (vr : Nat → Nat) (vf : Nat → Nat → Int32) (ta : Nat → Nat) (ph : Nat) (tr : Nat → Nat) (tf : Nat → Nat → Int32) (pa : Nat → Nat) (pr : Nat → Nat) (pf : Nat → Nat → Int32) (hw_v : ∀ k, vr k ≤ rdW_lim k) (hw_t : ∀ k, tr k ≤ tkW_lim k) (hw_p : ∀ k, pr k ≤ pgW_lim k) : vz_Mi l D (tyG g) yX3_isNoVariable cX3_isNoVariable 1 0 0 0 0 .boolean [.ref h] sz (vz_w [rdW g h va vi vr vf (ta 0) ph, tkW g ta tr tf, pgW g ph pa pr pf]) (fun r (u : Unit) => (r = 0 ∨ r = 1)) (fun u => vz_w [rdW g h va vi vr vf (ta 0) ph, tkW g ta tr tf, pgW g ph pa pr pf]) := by
  refine vz_siQ (by decide) (Nat.le_of_ble_eq_true rfl) (fun p e s m args below meth c hx hb hr hml hts hown hlk hin hK hsz A hA H locs hP hD hS ls hl Q hQ => ?_)
  have hl : lv_has ls 1 [(0, .ref h)] := hl
  have J22 : ∀ (y0_22 : Int32), (y0_22 = 0 ∨ y0_22 = 1) → ∀ (H : Heap) (locs : List Loc) (ls : Array Slot), va_P D vwCl (vz_w [rdW g h va vi vr vf (ta 0) ph, tkW g ta tr tf, pgW g ph pa pr pf]) H → va_D A (vz_w [rdW g h va vi vr vf (ta 0) ph, tkW g ta tr tf, pgW g ph pa pr pf]) → va_S A s.heap H locs → lv_has ls 1 [(0, .ref h)] → W p l e { frames := 0, cells := 0, slots := 0, locals := 0 } s m args below meth c H locs 0 0 Q (F0 m 22 ls [.int y0_22]) := by
    intro y0_22 hz_y0_22 H locs ls hP hD hS hl
    rw [hQ]
    exact vz_zret3 hx hb hr hlk hK hP hD hS () hz_y0_22 rfl (Nat.le_refl 0) (Nat.le_refl 0) (vz_nb hz_y0_22) dX3_isNoVariable_22
  have J21 : ∀ (H : Heap) (locs : List Loc) (ls : Array Slot), va_P D vwCl (vz_w [rdW g h va vi vr vf (ta 0) ph, tkW g ta tr tf, pgW g ph pa pr pf]) H → va_D A (vz_w [rdW g h va vi vr vf (ta 0) ph, tkW g ta tr tf, pgW g ph pa pr pf]) → va_S A s.heap H locs → lv_has ls 1 [(0, .ref h)] → W p l e { frames := 0, cells := 0, slots := 0, locals := 0 } s m args below meth c H locs 0 0 Q (F0 m 21 ls []) := by
    intro H locs ls hP hD hS hl
    refine lv_iconst (v := 0) hx hb dX3_isNoVariable_21 (by decide) ?_
    exact J22 0 (Or.inl rfl) H locs ls hP hD hS (lv_sub hl [0] rfl)
  refine lv_aload_n hx hb dX3_isNoVariable_0 rfl (lv_at hl 0 rfl) ?_
  refine va_get (D := D) (ci := 3) (v := .int (vi 1)) (C := RX3) (T := TX3) (N := 12) hx hb hts inlX3 hown hK hP 0 rfl rfl 6 (by decide) (hts _ q443) (fun _ h => h) rfl dX3_isNoVariable_1 ?_
  refine lv_iconst (v := 5) hx hb dX3_isNoVariable_4 (by decide) ?_
  refine lv_icmp_ne (tgt := 21) hx hb dX3_isNoVariable_5 (by decide) (fun kc1 => ?_) (fun kc1 => ?_)
  · exact J21 H locs ls hP hD hS (lv_sub hl [0] rfl)
  · refine lv_aload_n hx hb dX3_isNoVariable_8 rfl (lv_at hl 0 rfl) ?_
    refine va_get (D := D) (ci := 3) (v := .int (vi 2)) (C := RX3) (T := TX3) (N := 12) hx hb hts inlX3 hown hK hP 0 rfl rfl 7 (by decide) (hts _ q464) (fun _ h => h) rfl dX3_isNoVariable_9 ?_
    refine lv_bipush (v := 6) hx hb dX3_isNoVariable_12 (by decide) ?_
    refine lv_icmp_lt (tgt := 21) hx hb dX3_isNoVariable_14 (by decide) (fun kc2 => ?_) (fun kc2 => ?_)
    · exact J21 H locs ls hP hD hS (lv_sub hl [0] rfl)
    · refine lv_iconst (v := 1) hx hb dX3_isNoVariable_17 (by decide) ?_
      refine lv_goto (tgt := 22) hx hb dX3_isNoVariable_18 (by decide) ?_
      exact J22 1 (Or.inr rfl) H locs ls hP hD hS (lv_sub hl [0] rfl)
theorem dX3_isNoRow_0 : decode cX3_isNoRow 0 = .ok (.aload_n 0, 1) := by decide +kernel
theorem dX3_isNoRow_1 : decode cX3_isNoRow 1 = .ok (.getfield 41, 3) := by decide +kernel
theorem dX3_isNoRow_4 : decode cX3_isNoRow 4 = .ok (.bipush 6, 2) := by decide +kernel
theorem dX3_isNoRow_6 : decode cX3_isNoRow 6 = .ok (.if_icmp .ne 15, 3) := by decide +kernel
theorem dX3_isNoRow_9 : decode cX3_isNoRow 9 = .ok (.aload_n 0, 1) := by decide +kernel
theorem dX3_isNoRow_10 : decode cX3_isNoRow 10 = .ok (.getfield 95, 3) := by decide +kernel
theorem dX3_isNoRow_13 : decode cX3_isNoRow 13 = .ok (.iconst 3, 1) := by decide +kernel
theorem dX3_isNoRow_14 : decode cX3_isNoRow 14 = .ok (.if_icmp .lt 7, 3) := by decide +kernel
theorem dX3_isNoRow_17 : decode cX3_isNoRow 17 = .ok (.iconst 1, 1) := by decide +kernel
theorem dX3_isNoRow_18 : decode cX3_isNoRow 18 = .ok (.goto 4, 3) := by decide +kernel
theorem dX3_isNoRow_21 : decode cX3_isNoRow 21 = .ok (.iconst 0, 1) := by decide +kernel
theorem dX3_isNoRow_22 : decode cX3_isNoRow 22 = .ok (.ireturn, 1) := by decide +kernel
set_option maxHeartbeats 8000000 in
set_option maxRecDepth 100000 in
theorem a_D_isNoRow (l : Launch) (D : va_G) (g : Nat → ClassId)   (sz : Nat) (h : Nat) (va : Nat → Nat) (vi : Nat → Int32) (vr : Nat → Nat) (vf : Nat → Nat → Int32) (ta : Nat → Nat) (ph : Nat) (tr : Nat → Nat) (tf : Nat → Nat → Int32) (pa : Nat → Nat) (pr : Nat → Nat) (pf : Nat → Nat → Int32) (hw_v : ∀ k, vr k ≤ rdW_lim k) (hw_t : ∀ k, tr k ≤ tkW_lim k) (hw_p : ∀ k, pr k ≤ pgW_lim k) : vz_Mi l D (tyG g) yX3_isNoRow cX3_isNoRow 1 0 0 0 0 .boolean [.ref h] sz (vz_w [rdW g h va vi vr vf (ta 0) ph, tkW g ta tr tf, pgW g ph pa pr pf]) (fun r (u : Unit) => (r = 0 ∨ r = 1)) (fun u => vz_w [rdW g h va vi vr vf (ta 0) ph, tkW g ta tr tf, pgW g ph pa pr pf]) := by
  refine vz_siQ (by decide) (Nat.le_of_ble_eq_true rfl) (fun p e s m args below meth c hx hb hr hml hts hown hlk hin hK hsz A hA H locs hP hD hS ls hl Q hQ => ?_)
  have hl : lv_has ls 1 [(0, .ref h)] := hl
  have J22 : ∀ (y0_22 : Int32), (y0_22 = 0 ∨ y0_22 = 1) → ∀ (H : Heap) (locs : List Loc) (ls : Array Slot), va_P D vwCl (vz_w [rdW g h va vi vr vf (ta 0) ph, tkW g ta tr tf, pgW g ph pa pr pf]) H → va_D A (vz_w [rdW g h va vi vr vf (ta 0) ph, tkW g ta tr tf, pgW g ph pa pr pf]) → va_S A s.heap H locs → lv_has ls 1 [(0, .ref h)] → W p l e { frames := 0, cells := 0, slots := 0, locals := 0 } s m args below meth c H locs 0 0 Q (F0 m 22 ls [.int y0_22]) := by
    intro y0_22 hz_y0_22 H locs ls hP hD hS hl
    rw [hQ]
    exact vz_zret3 hx hb hr hlk hK hP hD hS () hz_y0_22 rfl (Nat.le_refl 0) (Nat.le_refl 0) (vz_nb hz_y0_22) dX3_isNoRow_22
  have J21 : ∀ (H : Heap) (locs : List Loc) (ls : Array Slot), va_P D vwCl (vz_w [rdW g h va vi vr vf (ta 0) ph, tkW g ta tr tf, pgW g ph pa pr pf]) H → va_D A (vz_w [rdW g h va vi vr vf (ta 0) ph, tkW g ta tr tf, pgW g ph pa pr pf]) → va_S A s.heap H locs → lv_has ls 1 [(0, .ref h)] → W p l e { frames := 0, cells := 0, slots := 0, locals := 0 } s m args below meth c H locs 0 0 Q (F0 m 21 ls []) := by
    intro H locs ls hP hD hS hl
    refine lv_iconst (v := 0) hx hb dX3_isNoRow_21 (by decide) ?_
    exact J22 0 (Or.inl rfl) H locs ls hP hD hS (lv_sub hl [0] rfl)
  refine lv_aload_n hx hb dX3_isNoRow_0 rfl (lv_at hl 0 rfl) ?_
  refine va_get (D := D) (ci := 3) (v := .int (vi 1)) (C := RX3) (T := TX3) (N := 12) hx hb hts inlX3 hown hK hP 0 rfl rfl 6 (by decide) (hts _ q443) (fun _ h => h) rfl dX3_isNoRow_1 ?_
  refine lv_bipush (v := 6) hx hb dX3_isNoRow_4 (by decide) ?_
  refine lv_icmp_ne (tgt := 21) hx hb dX3_isNoRow_6 (by decide) (fun kc1 => ?_) (fun kc1 => ?_)
  · exact J21 H locs ls hP hD hS (lv_sub hl [0] rfl)
  · refine lv_aload_n hx hb dX3_isNoRow_9 rfl (lv_at hl 0 rfl) ?_
    refine va_get (D := D) (ci := 3) (v := .int (vi 2)) (C := RX3) (T := TX3) (N := 12) hx hb hts inlX3 hown hK hP 0 rfl rfl 7 (by decide) (hts _ q464) (fun _ h => h) rfl dX3_isNoRow_10 ?_
    refine lv_iconst (v := 3) hx hb dX3_isNoRow_13 (by decide) ?_
    refine lv_icmp_lt (tgt := 21) hx hb dX3_isNoRow_14 (by decide) (fun kc2 => ?_) (fun kc2 => ?_)
    · exact J21 H locs ls hP hD hS (lv_sub hl [0] rfl)
    · refine lv_iconst (v := 1) hx hb dX3_isNoRow_17 (by decide) ?_
      refine lv_goto (tgt := 22) hx hb dX3_isNoRow_18 (by decide) ?_
      exact J22 1 (Or.inr rfl) H locs ls hP hD hS (lv_sub hl [0] rfl)
theorem q97 : Cond.fieldLink RX3 15 "WaysAtlas$Reader" "program" "LWaysAtlas$Program;" ∈ wsL_law := mT_1 (List.mem_of_getElem? (i := 128) rfl) rfl
theorem q536 : Cond.fieldLink RX3 201 "WaysAtlas$Program" "nodes" "LWaysAtlas$Table;" ∈ wsL_law := mT_1 (List.mem_of_getElem? (i := 90) rfl) rfl
theorem q489 : Cond.methodLink RX3 110 yX6_add ∈ wsL_law := mT_3 (List.mem_of_getElem? (i := 162) rfl) rfl
theorem kv_X3_110 : vz_cv RX3 110 yX6_add cX6_add 2 (some .int) 0 := ⟨q489, q261, q262, q15, q263, by decide +kernel⟩
theorem q490 : Cond.methodLink RX3 60 yX6_set ∈ wsL_law := mT_3 (List.mem_of_getElem? (i := 163) rfl) rfl
theorem kv_X3_60 : vz_cv RX3 60 yX6_set cX6_set 5 none 3 := ⟨q490, q265, q266, q15, q267, by decide +kernel⟩
theorem dX3_newNode_0 : decode cX3_newNode 0 = .ok (.aload_n 0, 1) := by decide +kernel
theorem dX3_newNode_1 : decode cX3_newNode 1 = .ok (.getfield 15, 3) := by decide +kernel
theorem dX3_newNode_4 : decode cX3_newNode 4 = .ok (.getfield 201, 3) := by decide +kernel
theorem dX3_newNode_7 : decode cX3_newNode 7 = .ok (.invokevirtual 110, 3) := by decide +kernel
theorem dX3_newNode_10 : decode cX3_newNode 10 = .ok (.istore_n 3, 1) := by decide +kernel
theorem dX3_newNode_11 : decode cX3_newNode 11 = .ok (.aload_n 0, 1) := by decide +kernel
theorem dX3_newNode_12 : decode cX3_newNode 12 = .ok (.getfield 15, 3) := by decide +kernel
theorem dX3_newNode_15 : decode cX3_newNode 15 = .ok (.getfield 201, 3) := by decide +kernel
theorem dX3_newNode_18 : decode cX3_newNode 18 = .ok (.iload_n 3, 1) := by decide +kernel
theorem dX3_newNode_19 : decode cX3_newNode 19 = .ok (.iconst 0, 1) := by decide +kernel
theorem dX3_newNode_20 : decode cX3_newNode 20 = .ok (.iload_n 1, 1) := by decide +kernel
theorem dX3_newNode_21 : decode cX3_newNode 21 = .ok (.invokevirtual 60, 3) := by decide +kernel
theorem dX3_newNode_24 : decode cX3_newNode 24 = .ok (.aload_n 0, 1) := by decide +kernel
theorem dX3_newNode_25 : decode cX3_newNode 25 = .ok (.getfield 15, 3) := by decide +kernel
theorem dX3_newNode_28 : decode cX3_newNode 28 = .ok (.getfield 201, 3) := by decide +kernel
theorem dX3_newNode_31 : decode cX3_newNode 31 = .ok (.iload_n 3, 1) := by decide +kernel
theorem dX3_newNode_32 : decode cX3_newNode 32 = .ok (.iconst 1, 1) := by decide +kernel
theorem dX3_newNode_33 : decode cX3_newNode 33 = .ok (.iload_n 2, 1) := by decide +kernel
theorem dX3_newNode_34 : decode cX3_newNode 34 = .ok (.invokevirtual 60, 3) := by decide +kernel
theorem dX3_newNode_37 : decode cX3_newNode 37 = .ok (.iload_n 3, 1) := by decide +kernel
theorem dX3_newNode_38 : decode cX3_newNode 38 = .ok (.ireturn, 1) := by decide +kernel
set_option maxHeartbeats 8000000 in
set_option maxRecDepth 100000 in
theorem a_D_newNode (l : Launch) (D : va_G) (g : Nat → ClassId)   (sz : Nat) (h : Nat) (va : Nat → Nat) (vi : Nat → Int32) (vr : Nat → Nat) (vf : Nat → Nat → Int32) (ta : Nat → Nat) (ph : Nat) (tr : Nat → Nat) (tf : Nat → Nat → Int32) (pa : Nat → Nat) (pr : Nat → Nat) (pf : Nat → Nat → Int32) (n1 : Int32) (n2 : Int32) (hw_v : ∀ k, vr k ≤ rdW_lim k) (hw_t : ∀ k, tr k ≤ tkW_lim k) (hw_p : ∀ k, pr k ≤ pgW_lim k) : vz_Mi l D (tyG g) yX3_newNode cX3_newNode 4 1 24 0 0 .int [.ref h, .int n1, .int n2] sz (vz_w [rdW g h va vi vr vf (ta 0) ph, tkW g ta tr tf, pgW g ph pa pr pf]) (fun r (u : (Nat → Nat) × (Nat → Nat → Int32)) => (∀ k, u.1 k ≤ pgW_lim k)) (fun u => vz_w [rdW g h va vi vr vf (ta 0) ph, tkW g ta tr tf, pgW g ph pa u.1 u.2]) := by
  refine vz_siQ (by decide) (Nat.le_of_ble_eq_true rfl) (fun p e s m args below meth c hx hb hr hml hts hown hlk hin hK hsz A hA H locs hP hD hS ls hl Q hQ => ?_)
  have hl : lv_has ls 4 [(0, .ref h), (1, .int n1), (2, .int n2)] := hl
  refine lv_aload_n hx hb dX3_newNode_0 rfl (lv_at hl 0 rfl) ?_
  refine va_get (D := D) (ci := 3) (v := .ref ph) (C := RX3) (T := TX3) (N := 12) hx hb hts inlX3 hown hK hP 0 rfl rfl 4 (by decide) (hts _ q97) (fun _ h => h) rfl dX3_newNode_1 ?_
  refine va_get (D := D) (ci := 2) (v := .ref (pa 2)) (C := RX2) (T := TX2) (N := 5) hx hb hts inlX2 hown hK hP 9 rfl rfl 1 (by decide) (hts _ q536) (fun _ h => h) rfl dX3_newNode_4 ?_
  refine vz_Vi2 (ws' := fun u : (Nat × (Nat → Int32)) => vz_w [rdW g h va vi vr vf (ta 0) ph, tkW g ta tr tf, pgW g ph pa (vz_un pr 1 u.1) (vz_uf pf 1 u.2)]) (As := []) (rest := []) hx hb hml hown hts hK hA hP hD hS (c_T_add l D g (pa 2) (pa 3) H.size 5 1000 (pr 1) 5000 (pf 1) ⟨rfl, by decide, by decide, by decide, by decide, hw_p 1⟩) kv_X3_110 ⟨Nat.le_of_ble_eq_true rfl, Nat.le_of_ble_eq_true rfl⟩ (q0 := 12) (ci := 6) rfl rfl rfl [12, 13] rfl (by decide) (fun _ => rfl) (fun _ => rfl) hl.1 (Nat.le_of_ble_eq_true rfl) dX3_newNode_7 ⟨Nat.le_refl _, Nat.le_refl _⟩ rfl (fun v3 ⟨u1R, u1f⟩ H locs ha2 _ hP hD hS => ?_)
  have hq : (pr 1) ≤ 1000 := hw_p 1
  replace ha2 : u1R ≤ 1000 := by rcases ha2 with ⟨z1, -, z2, -⟩ | ⟨z1, -, z2, -⟩ <;> (dsimp only at z2; omega)
  obtain ⟨pr_4, hw_pr_4, pf_5, hP, hD⟩ : ∃ pr_4 : Nat → Nat, (∀ k, pr_4 k ≤ pgW_lim k) ∧ ∃ pf_5 : Nat → Nat → Int32, va_P D vwCl (vz_w [rdW g h va vi vr vf (ta 0) ph, tkW g ta tr tf, pgW g ph pa pr_4 pf_5]) H ∧ va_D A (vz_w [rdW g h va vi vr vf (ta 0) ph, tkW g ta tr tf, pgW g ph pa pr_4 pf_5]) := ⟨(vz_un pr 1 u1R), (vz_wf hw_p (t := 1) (v := u1R) (ha2)), (vz_uf pf 1 u1f), hP, hD⟩
  refine lv_istore_n (lv' := [(3, .int v3), (0, .ref h), (1, .int n1), (2, .int n2)]) hx hb dX3_newNode_10 rfl hl (by decide) rfl (fun ls hl => ?_)
  refine lv_aload_n hx hb dX3_newNode_11 rfl (lv_at hl 1 rfl) ?_
  refine va_get (D := D) (ci := 3) (v := .ref ph) (C := RX3) (T := TX3) (N := 12) hx hb hts inlX3 hown hK hP 0 rfl rfl 4 (by decide) (hts _ q97) (fun _ h => h) rfl dX3_newNode_12 ?_
  refine va_get (D := D) (ci := 2) (v := .ref (pa 2)) (C := RX2) (T := TX2) (N := 5) hx hb hts inlX2 hown hK hP 9 rfl rfl 1 (by decide) (hts _ q536) (fun _ h => h) rfl dX3_newNode_15 ?_
  refine lv_iload_n hx hb dX3_newNode_18 rfl (lv_at hl 0 rfl) ?_
  refine lv_iconst (v := 0) hx hb dX3_newNode_19 (by decide) ?_
  refine lv_iload_n hx hb dX3_newNode_20 rfl (lv_at hl 2 rfl) ?_
  refine vz_Vv2 (ws' := fun u : (Nat → Int32) => vz_w [rdW g h va vi vr vf (ta 0) ph, tkW g ta tr tf, pgW g ph pa pr_4 (vz_uf pf_5 1 u)]) (As := [.int v3, .int 0, .int n1]) (rest := []) hx hb hml hown hts hK hA hP hD hS (c_T_set l D g (pa 2) (pa 3) H.size 5 1000 (pr_4 1) 5000 (pf_5 1) v3 0 n1 ⟨rfl, by decide, by decide, by decide, by decide, hw_pr_4 1⟩) kv_X3_60 ⟨Nat.le_of_ble_eq_true rfl, Nat.le_of_ble_eq_true rfl⟩ (q0 := 12) (ci := 6) rfl rfl rfl [12, 13] rfl (by decide) (fun _ => rfl) (fun _ => rfl) hl.1 (Nat.le_of_ble_eq_true rfl) dX3_newNode_21 ⟨Nat.le_refl _, Nat.le_refl _⟩ rfl (fun nf6 H locs _ _ hP hD hS => ?_)
  obtain ⟨pf_7, hP, hD⟩ : ∃ pf_7 : Nat → Nat → Int32, va_P D vwCl (vz_w [rdW g h va vi vr vf (ta 0) ph, tkW g ta tr tf, pgW g ph pa pr_4 pf_7]) H ∧ va_D A (vz_w [rdW g h va vi vr vf (ta 0) ph, tkW g ta tr tf, pgW g ph pa pr_4 pf_7]) := ⟨(vz_uf pf_5 1 nf6), hP, hD⟩
  refine lv_aload_n hx hb dX3_newNode_24 rfl (lv_at hl 1 rfl) ?_
  refine va_get (D := D) (ci := 3) (v := .ref ph) (C := RX3) (T := TX3) (N := 12) hx hb hts inlX3 hown hK hP 0 rfl rfl 4 (by decide) (hts _ q97) (fun _ h => h) rfl dX3_newNode_25 ?_
  refine va_get (D := D) (ci := 2) (v := .ref (pa 2)) (C := RX2) (T := TX2) (N := 5) hx hb hts inlX2 hown hK hP 9 rfl rfl 1 (by decide) (hts _ q536) (fun _ h => h) rfl dX3_newNode_28 ?_
  refine lv_iload_n hx hb dX3_newNode_31 rfl (lv_at hl 0 rfl) ?_
  refine lv_iconst (v := 1) hx hb dX3_newNode_32 (by decide) ?_
  refine lv_iload_n hx hb dX3_newNode_33 rfl (lv_at hl 3 rfl) ?_
  refine vz_Vv2 (ws' := fun u : (Nat → Int32) => vz_w [rdW g h va vi vr vf (ta 0) ph, tkW g ta tr tf, pgW g ph pa pr_4 (vz_uf pf_7 1 u)]) (As := [.int v3, .int 1, .int n2]) (rest := []) hx hb hml hown hts hK hA hP hD hS (c_T_set l D g (pa 2) (pa 3) H.size 5 1000 (pr_4 1) 5000 (pf_7 1) v3 1 n2 ⟨rfl, by decide, by decide, by decide, by decide, hw_pr_4 1⟩) kv_X3_60 ⟨Nat.le_of_ble_eq_true rfl, Nat.le_of_ble_eq_true rfl⟩ (q0 := 12) (ci := 6) rfl rfl rfl [12, 13] rfl (by decide) (fun _ => rfl) (fun _ => rfl) hl.1 (Nat.le_of_ble_eq_true rfl) dX3_newNode_34 ⟨Nat.le_refl _, Nat.le_refl _⟩ rfl (fun nf8 H locs _ _ hP hD hS => ?_)
  obtain ⟨pf_9, hP, hD⟩ : ∃ pf_9 : Nat → Nat → Int32, va_P D vwCl (vz_w [rdW g h va vi vr vf (ta 0) ph, tkW g ta tr tf, pgW g ph pa pr_4 pf_9]) H ∧ va_D A (vz_w [rdW g h va vi vr vf (ta 0) ph, tkW g ta tr tf, pgW g ph pa pr_4 pf_9]) := ⟨(vz_uf pf_7 1 nf8), hP, hD⟩
  refine lv_iload_n hx hb dX3_newNode_37 rfl (lv_at hl 0 rfl) ?_
  rw [hQ]
  exact vz_iret3 hx hb hr hlk hK hP hD hS (pr_4, pf_9) hw_pr_4 rfl (Nat.le_refl 0) (Nat.le_refl 0) dX3_newNode_38
theorem q471 : Cond.fieldLink RX3 101 "WaysAtlas$Program" "kinds" "LWaysAtlas$Table;" ∈ wsL_law := mT_1 (List.mem_of_getElem? (i := 98) rfl) rfl
theorem q472 : Cond.fieldLink RX3 104 "WaysAtlas$Table" "rows" "I" ∈ wsL_law := mT_1 (List.mem_of_getElem? (i := 45) rfl) rfl
theorem q485 : Cond.methodLink RX3 113 yX3_failLesser ∈ wsL_law := mT_3 (List.mem_of_getElem? (i := 158) rfl) rfl
theorem q486 : Cond.instanceMethod yX3_failLesser ∈ wsL_law := mT_3 (List.mem_of_getElem? (i := 160) rfl) rfl
theorem q487 : Cond.selects RX3 yX3_failLesser yX3_failLesser ∈ wsL_law := mS_1 (q := (yX3_failLesser, 12)) (List.mem_of_getElem? (i := 10) rfl) rfl
theorem q488 : Cond.code yX3_failLesser cX3_failLesser 2 none ∈ wsL_law := mT_3 (List.mem_of_getElem? (i := 161) rfl) rfl
theorem kv_X3_113 : vz_cv RX3 113 yX3_failLesser cX3_failLesser 2 none 1 := ⟨q485, q486, q487, q28, q488, by decide +kernel⟩
theorem q477 : Cond.methodLink RX3 64 yX3_expect ∈ wsL_law := mT_3 (List.mem_of_getElem? (i := 150) rfl) rfl
theorem q478 : Cond.instanceMethod yX3_expect ∈ wsL_law := mT_3 (List.mem_of_getElem? (i := 152) rfl) rfl
theorem q479 : Cond.selects RX3 yX3_expect yX3_expect ∈ wsL_law := mS_1 (q := (yX3_expect, 12)) (List.mem_of_getElem? (i := 8) rfl) rfl
theorem q480 : Cond.code yX3_expect cX3_expect 2 none ∈ wsL_law := mT_3 (List.mem_of_getElem? (i := 153) rfl) rfl
theorem kv_X3_64 : vz_cv RX3 64 yX3_expect cX3_expect 2 none 1 := ⟨q477, q478, q479, q28, q480, by decide +kernel⟩
theorem dX3_readKindName_0 : decode cX3_readKindName 0 = .ok (.aload_n 0, 1) := by decide +kernel
theorem dX3_readKindName_1 : decode cX3_readKindName 1 = .ok (.getfield 95, 3) := by decide +kernel
theorem dX3_readKindName_4 : decode cX3_readKindName 4 = .ok (.istore_n 1, 1) := by decide +kernel
theorem dX3_readKindName_5 : decode cX3_readKindName 5 = .ok (.aload_n 0, 1) := by decide +kernel
theorem dX3_readKindName_6 : decode cX3_readKindName 6 = .ok (.getfield 41, 3) := by decide +kernel
theorem dX3_readKindName_9 : decode cX3_readKindName 9 = .ok (.iconst 3, 1) := by decide +kernel
theorem dX3_readKindName_10 : decode cX3_readKindName 10 = .ok (.if_icmp .ne 25, 3) := by decide +kernel
theorem dX3_readKindName_13 : decode cX3_readKindName 13 = .ok (.iload_n 1, 1) := by decide +kernel
theorem dX3_readKindName_14 : decode cX3_readKindName 14 = .ok (.aload_n 0, 1) := by decide +kernel
theorem dX3_readKindName_15 : decode cX3_readKindName 15 = .ok (.getfield 15, 3) := by decide +kernel
theorem dX3_readKindName_18 : decode cX3_readKindName 18 = .ok (.getfield 101, 3) := by decide +kernel
theorem dX3_readKindName_21 : decode cX3_readKindName 21 = .ok (.getfield 104, 3) := by decide +kernel
theorem dX3_readKindName_24 : decode cX3_readKindName 24 = .ok (.if_icmp .lt 11, 3) := by decide +kernel
theorem dX3_readKindName_27 : decode cX3_readKindName 27 = .ok (.aload_n 0, 1) := by decide +kernel
theorem dX3_readKindName_28 : decode cX3_readKindName 28 = .ok (.aload_n 0, 1) := by decide +kernel
theorem dX3_readKindName_29 : decode cX3_readKindName 29 = .ok (.getfield 98, 3) := by decide +kernel
theorem dX3_readKindName_32 : decode cX3_readKindName 32 = .ok (.invokevirtual 113, 3) := by decide +kernel
theorem dX3_readKindName_35 : decode cX3_readKindName 35 = .ok (.aload_n 0, 1) := by decide +kernel
theorem dX3_readKindName_36 : decode cX3_readKindName 36 = .ok (.iconst 3, 1) := by decide +kernel
theorem dX3_readKindName_37 : decode cX3_readKindName 37 = .ok (.invokevirtual 64, 3) := by decide +kernel
theorem dX3_readKindName_40 : decode cX3_readKindName 40 = .ok (.iload_n 1, 1) := by decide +kernel
theorem dX3_readKindName_41 : decode cX3_readKindName 41 = .ok (.ireturn, 1) := by decide +kernel
set_option maxHeartbeats 8000000 in
set_option maxRecDepth 100000 in
theorem a_D_readKindName (l : Launch) (D : va_G) (g : Nat → ClassId)   (sz : Nat) (h : Nat) (va : Nat → Nat) (vi : Nat → Int32) (vr : Nat → Nat) (vf : Nat → Nat → Int32) (ta : Nat → Nat) (ph : Nat) (tr : Nat → Nat) (tf : Nat → Nat → Int32) (pa : Nat → Nat) (pr : Nat → Nat) (pf : Nat → Nat → Int32) (hw_v : ∀ k, vr k ≤ rdW_lim k) (hw_t : ∀ k, tr k ≤ tkW_lim k) (hw_p : ∀ k, pr k ≤ pgW_lim k) : vz_Mi l D (tyG g) yX3_readKindName cX3_readKindName 2 3 64 0 0 .int [.ref h] sz (vz_w [rdW g h va vi vr vf (ta 0) ph, tkW g ta tr tf, pgW g ph pa pr pf]) (fun r (u : (Nat → Int32)) => True) (fun u => vz_w [rdW g h va u vr vf (ta 0) ph, tkW g ta tr tf, pgW g ph pa pr pf]) := by
  refine vz_siQ (by decide) (Nat.le_of_ble_eq_true rfl) (fun p e s m args below meth c hx hb hr hml hts hown hlk hin hK hsz A hA H locs hP hD hS ls hl Q hQ => ?_)
  have hl : lv_has ls 2 [(0, .ref h)] := hl
  have J35 : ∀ (x1_35 : Int32), ∀ (vi_35 : Nat → Int32), ∀ (H : Heap) (locs : List Loc) (ls : Array Slot), va_P D vwCl (vz_w [rdW g h va vi_35 vr vf (ta 0) ph, tkW g ta tr tf, pgW g ph pa pr pf]) H → va_D A (vz_w [rdW g h va vi_35 vr vf (ta 0) ph, tkW g ta tr tf, pgW g ph pa pr pf]) → va_S A s.heap H locs → lv_has ls 2 [(0, .ref h), (1, .int x1_35)] → W p l e { frames := 3, cells := 0, slots := 0, locals := 64 } s m args below meth c H locs 0 0 Q (F0 m 35 ls []) := by
    intro x1_35 vi_35 H locs ls hP hD hS hl
    refine lv_aload_n hx hb dX3_readKindName_35 rfl (lv_at hl 0 rfl) ?_
    refine lv_iconst (v := 3) hx hb dX3_readKindName_36 (by decide) ?_
    refine vz_Vv3 (As := [.int 3]) (rest := []) hx hb hml hown hts hK hA hP hD hS (a_D_expect l D g H.size h va vi_35 vr vf ta ph tr tf pa pr pf 3 hw_v hw_t hw_p) kv_X3_64 ⟨Nat.le_of_ble_eq_true rfl, Nat.le_of_ble_eq_true rfl⟩ (q0 := 0) (ci := 3) rfl rfl rfl  hl.1 (Nat.le_of_ble_eq_true rfl) dX3_readKindName_37 ⟨Nat.le_refl _, Nat.le_refl _⟩ rfl (fun vi_1 H locs hp2 _ hP hD hS => ?_)
    try dsimp only at hp2
    replace hP : va_P D vwCl (vz_w [rdW g h va vi_1 vr vf (ta 0) ph, tkW g ta tr tf, pgW g ph pa pr pf]) H := hP
    replace hD : va_D A (vz_w [rdW g h va vi_1 vr vf (ta 0) ph, tkW g ta tr tf, pgW g ph pa pr pf]) := hD
    refine lv_iload_n hx hb dX3_readKindName_40 rfl (lv_at hl 1 rfl) ?_
    rw [hQ]
    exact vz_iret3 hx hb hr hlk hK hP hD hS vi_1 trivial rfl (Nat.le_refl 0) (Nat.le_refl 0) dX3_readKindName_41
  refine lv_aload_n hx hb dX3_readKindName_0 rfl (lv_at hl 0 rfl) ?_
  refine va_get (D := D) (ci := 3) (v := .int (vi 2)) (C := RX3) (T := TX3) (N := 12) hx hb hts inlX3 hown hK hP 0 rfl rfl 7 (by decide) (hts _ q464) (fun _ h => h) rfl dX3_readKindName_1 ?_
  refine lv_istore_n (lv' := [(1, .int (vi 2)), (0, .ref h)]) hx hb dX3_readKindName_4 rfl hl (by decide) rfl (fun ls hl => ?_)
  refine lv_aload_n hx hb dX3_readKindName_5 rfl (lv_at hl 1 rfl) ?_
  refine va_get (D := D) (ci := 3) (v := .int (vi 1)) (C := RX3) (T := TX3) (N := 12) hx hb hts inlX3 hown hK hP 0 rfl rfl 6 (by decide) (hts _ q443) (fun _ h => h) rfl dX3_readKindName_6 ?_
  refine lv_iconst (v := 3) hx hb dX3_readKindName_9 (by decide) ?_
  refine lv_icmp_ne (tgt := 35) hx hb dX3_readKindName_10 (by decide) (fun kc1 => ?_) (fun kc1 => ?_)
  · exact J35 (vi 2) vi H locs ls hP hD hS (lv_sub hl [1, 0] rfl)
  · refine lv_iload_n hx hb dX3_readKindName_13 rfl (lv_at hl 0 rfl) ?_
    refine lv_aload_n hx hb dX3_readKindName_14 rfl (lv_at hl 1 rfl) ?_
    refine va_get (D := D) (ci := 3) (v := .ref ph) (C := RX3) (T := TX3) (N := 12) hx hb hts inlX3 hown hK hP 0 rfl rfl 4 (by decide) (hts _ q97) (fun _ h => h) rfl dX3_readKindName_15 ?_
    refine va_get (D := D) (ci := 2) (v := .ref (pa 6)) (C := RX2) (T := TX2) (N := 5) hx hb hts inlX2 hown hK hP 9 rfl rfl 3 (by decide) (hts _ q471) (fun _ h => h) rfl dX3_readKindName_18 ?_
    refine va_get (D := D) (ci := 6) (v := .int (nI (pr 3))) (C := RX6) (T := TX6) (N := 4) hx hb hts inlX6 hown hK hP 16 rfl rfl 3 (by decide) (hts _ q472) (fun _ h => h) rfl dX3_readKindName_21 ?_
    refine lv_icmp_lt (tgt := 35) hx hb dX3_readKindName_24 (by decide) (fun kc2 => ?_) (fun kc2 => ?_)
    · exact J35 (vi 2) vi H locs ls hP hD hS (lv_sub hl [1, 0] rfl)
    · refine lv_aload_n hx hb dX3_readKindName_27 rfl (lv_at hl 1 rfl) ?_
      refine lv_aload_n hx hb dX3_readKindName_28 rfl (lv_at hl 1 rfl) ?_
      refine va_get (D := D) (ci := 3) (v := .int (vi 3)) (C := RX3) (T := TX3) (N := 12) hx hb hts inlX3 hown hK hP 0 rfl rfl 8 (by decide) (hts _ q465) (fun _ h => h) rfl dX3_readKindName_29 ?_
      refine vz_Vv3 (As := [.int (vi 3)]) (rest := []) hx hb hml hown hts hK hA hP hD hS (a_D_failLesser l D g H.size h va vi vr vf ta ph tr tf pa pr pf (vi 3) hw_v hw_t hw_p) kv_X3_113 ⟨Nat.le_of_ble_eq_true rfl, Nat.le_of_ble_eq_true rfl⟩ (q0 := 0) (ci := 3) rfl rfl rfl  hl.1 (Nat.le_of_ble_eq_true rfl) dX3_readKindName_32 ⟨Nat.le_refl _, Nat.le_refl _⟩ rfl (fun vi_3 H locs _ _ hP hD hS => ?_)
      replace hP : va_P D vwCl (vz_w [rdW g h va vi_3 vr vf (ta 0) ph, tkW g ta tr tf, pgW g ph pa pr pf]) H := hP
      replace hD : va_D A (vz_w [rdW g h va vi_3 vr vf (ta 0) ph, tkW g ta tr tf, pgW g ph pa pr pf]) := hD
      exact J35 (vi 2) vi_3 H locs ls hP hD hS (lv_sub hl [1, 0] rfl)
theorem q481 : Cond.methodLink RX3 107 yX3_readKindName ∈ wsL_law := mT_3 (List.mem_of_getElem? (i := 154) rfl) rfl
theorem q482 : Cond.instanceMethod yX3_readKindName ∈ wsL_law := mT_3 (List.mem_of_getElem? (i := 156) rfl) rfl
theorem q483 : Cond.selects RX3 yX3_readKindName yX3_readKindName ∈ wsL_law := mS_1 (q := (yX3_readKindName, 12)) (List.mem_of_getElem? (i := 9) rfl) rfl
theorem q484 : Cond.code yX3_readKindName cX3_readKindName 2 (some .int) ∈ wsL_law := mT_3 (List.mem_of_getElem? (i := 157) rfl) rfl
theorem kv_X3_107 : vz_cv RX3 107 yX3_readKindName cX3_readKindName 2 (some .int) 0 := ⟨q481, q482, q483, q28, q484, by decide +kernel⟩
theorem dX3_readKind_0 : decode cX3_readKind 0 = .ok (.aload_n 0, 1) := by decide +kernel
theorem dX3_readKind_1 : decode cX3_readKind 1 = .ok (.getfield 15, 3) := by decide +kernel
theorem dX3_readKind_4 : decode cX3_readKind 4 = .ok (.getfield 101, 3) := by decide +kernel
theorem dX3_readKind_7 : decode cX3_readKind 7 = .ok (.getfield 104, 3) := by decide +kernel
theorem dX3_readKind_10 : decode cX3_readKind 10 = .ok (.bipush 16, 2) := by decide +kernel
theorem dX3_readKind_12 : decode cX3_readKind 12 = .ok (.if_icmp .lt 9, 3) := by decide +kernel
theorem dX3_readKind_15 : decode cX3_readKind 15 = .ok (.aload_n 0, 1) := by decide +kernel
theorem dX3_readKind_16 : decode cX3_readKind 16 = .ok (.iconst 2, 1) := by decide +kernel
theorem dX3_readKind_17 : decode cX3_readKind 17 = .ok (.invokevirtual 68, 3) := by decide +kernel
theorem dX3_readKind_20 : decode cX3_readKind 20 = .ok (.return_, 1) := by decide +kernel
theorem dX3_readKind_21 : decode cX3_readKind 21 = .ok (.aload_n 0, 1) := by decide +kernel
theorem dX3_readKind_22 : decode cX3_readKind 22 = .ok (.invokevirtual 89, 3) := by decide +kernel
theorem dX3_readKind_25 : decode cX3_readKind 25 = .ok (.aload_n 0, 1) := by decide +kernel
theorem dX3_readKind_26 : decode cX3_readKind 26 = .ok (.sipush 129, 3) := by decide +kernel
theorem dX3_readKind_29 : decode cX3_readKind 29 = .ok (.invokevirtual 64, 3) := by decide +kernel
theorem dX3_readKind_32 : decode cX3_readKind 32 = .ok (.aload_n 0, 1) := by decide +kernel
theorem dX3_readKind_33 : decode cX3_readKind 33 = .ok (.invokevirtual 107, 3) := by decide +kernel
theorem dX3_readKind_36 : decode cX3_readKind 36 = .ok (.istore_n 1, 1) := by decide +kernel
theorem dX3_readKind_37 : decode cX3_readKind 37 = .ok (.aload_n 0, 1) := by decide +kernel
theorem dX3_readKind_38 : decode cX3_readKind 38 = .ok (.getfield 15, 3) := by decide +kernel
theorem dX3_readKind_41 : decode cX3_readKind 41 = .ok (.getfield 101, 3) := by decide +kernel
theorem dX3_readKind_44 : decode cX3_readKind 44 = .ok (.aload_n 0, 1) := by decide +kernel
theorem dX3_readKind_45 : decode cX3_readKind 45 = .ok (.getfield 15, 3) := by decide +kernel
theorem dX3_readKind_48 : decode cX3_readKind 48 = .ok (.getfield 101, 3) := by decide +kernel
theorem dX3_readKind_51 : decode cX3_readKind 51 = .ok (.invokevirtual 110, 3) := by decide +kernel
theorem dX3_readKind_54 : decode cX3_readKind 54 = .ok (.iconst 0, 1) := by decide +kernel
theorem dX3_readKind_55 : decode cX3_readKind 55 = .ok (.iload_n 1, 1) := by decide +kernel
theorem dX3_readKind_56 : decode cX3_readKind 56 = .ok (.invokevirtual 60, 3) := by decide +kernel
theorem dX3_readKind_59 : decode cX3_readKind 59 = .ok (.aload_n 0, 1) := by decide +kernel
theorem dX3_readKind_60 : decode cX3_readKind 60 = .ok (.bipush 59, 2) := by decide +kernel
theorem dX3_readKind_62 : decode cX3_readKind 62 = .ok (.invokevirtual 64, 3) := by decide +kernel
theorem dX3_readKind_65 : decode cX3_readKind 65 = .ok (.return_, 1) := by decide +kernel
set_option maxHeartbeats 8000000 in
set_option maxRecDepth 100000 in
theorem a_D_readKind (l : Launch) (D : va_G) (g : Nat → ClassId)   (sz : Nat) (h : Nat) (va : Nat → Nat) (vi : Nat → Int32) (vr : Nat → Nat) (vf : Nat → Nat → Int32) (ta : Nat → Nat) (ph : Nat) (tr : Nat → Nat) (tf : Nat → Nat → Int32) (pa : Nat → Nat) (pr : Nat → Nat) (pf : Nat → Nat → Int32) (hw_v : ∀ k, vr k ≤ rdW_lim k) (hw_t : ∀ k, tr k ≤ tkW_lim k) (hw_p : ∀ k, pr k ≤ pgW_lim k) : vz_Mv l D (tyG g) yX3_readKind cX3_readKind 2 4 85 0 0 [.ref h] sz (vz_w [rdW g h va vi vr vf (ta 0) ph, tkW g ta tr tf, pgW g ph pa pr pf]) (fun u : (Nat → Int32) × (Nat → Nat) × (Nat → Nat → Int32) => (∀ k, u.2.1 k ≤ pgW_lim k)) (fun u => vz_w [rdW g h va u.1 vr vf (ta 0) ph, tkW g ta tr tf, pgW g ph pa u.2.1 u.2.2]) := by
  refine vz_svQ (by decide) (Nat.le_of_ble_eq_true rfl) (fun p e s m args below meth c hx hb hr hml hts hown hlk hin hK hsz A hA H locs hP hD hS ls hl Q hQ => ?_)
  have hl : lv_has ls 2 [(0, .ref h)] := hl
  refine lv_aload_n hx hb dX3_readKind_0 rfl (lv_at hl 0 rfl) ?_
  refine va_get (D := D) (ci := 3) (v := .ref ph) (C := RX3) (T := TX3) (N := 12) hx hb hts inlX3 hown hK hP 0 rfl rfl 4 (by decide) (hts _ q97) (fun _ h => h) rfl dX3_readKind_1 ?_
  refine va_get (D := D) (ci := 2) (v := .ref (pa 6)) (C := RX2) (T := TX2) (N := 5) hx hb hts inlX2 hown hK hP 9 rfl rfl 3 (by decide) (hts _ q471) (fun _ h => h) rfl dX3_readKind_4 ?_
  refine va_get (D := D) (ci := 6) (v := .int (nI (pr 3))) (C := RX6) (T := TX6) (N := 4) hx hb hts inlX6 hown hK hP 16 rfl rfl 3 (by decide) (hts _ q472) (fun _ h => h) rfl dX3_readKind_7 ?_
  refine lv_bipush (v := 16) hx hb dX3_readKind_10 (by decide) ?_
  refine lv_icmp_lt (tgt := 21) hx hb dX3_readKind_12 (by decide) (fun kc1 => ?_) (fun kc1 => ?_)
  · refine lv_aload_n hx hb dX3_readKind_21 rfl (lv_at hl 0 rfl) ?_
    refine vz_Vv3 (As := []) (rest := []) hx hb hml hown hts hK hA hP hD hS (a_D_advance l D g H.size h va vi vr vf ta ph tr tf pa pr pf hw_v hw_t hw_p) kv_X3_89 ⟨Nat.le_of_ble_eq_true rfl, Nat.le_of_ble_eq_true rfl⟩ (q0 := 0) (ci := 3) rfl rfl rfl  hl.1 (Nat.le_of_ble_eq_true rfl) dX3_readKind_22 ⟨Nat.le_refl _, Nat.le_refl _⟩ rfl (fun vi_2 H locs _ _ hP hD hS => ?_)
    replace hP : va_P D vwCl (vz_w [rdW g h va vi_2 vr vf (ta 0) ph, tkW g ta tr tf, pgW g ph pa pr pf]) H := hP
    replace hD : va_D A (vz_w [rdW g h va vi_2 vr vf (ta 0) ph, tkW g ta tr tf, pgW g ph pa pr pf]) := hD
    refine lv_aload_n hx hb dX3_readKind_25 rfl (lv_at hl 0 rfl) ?_
    refine lv_sipush (v := 129) hx hb dX3_readKind_26 (by decide) ?_
    refine vz_Vv3 (As := [.int 129]) (rest := []) hx hb hml hown hts hK hA hP hD hS (a_D_expect l D g H.size h va vi_2 vr vf ta ph tr tf pa pr pf 129 hw_v hw_t hw_p) kv_X3_64 ⟨Nat.le_of_ble_eq_true rfl, Nat.le_of_ble_eq_true rfl⟩ (q0 := 0) (ci := 3) rfl rfl rfl  hl.1 (Nat.le_of_ble_eq_true rfl) dX3_readKind_29 ⟨Nat.le_refl _, Nat.le_refl _⟩ rfl (fun vi_3 H locs hp4 _ hP hD hS => ?_)
    try dsimp only at hp4
    replace hP : va_P D vwCl (vz_w [rdW g h va vi_3 vr vf (ta 0) ph, tkW g ta tr tf, pgW g ph pa pr pf]) H := hP
    replace hD : va_D A (vz_w [rdW g h va vi_3 vr vf (ta 0) ph, tkW g ta tr tf, pgW g ph pa pr pf]) := hD
    refine lv_aload_n hx hb dX3_readKind_32 rfl (lv_at hl 0 rfl) ?_
    refine vz_Vi3 (As := []) (rest := []) hx hb hml hown hts hK hA hP hD hS (a_D_readKindName l D g H.size h va vi_3 vr vf ta ph tr tf pa pr pf hw_v hw_t hw_p) kv_X3_107 ⟨Nat.le_of_ble_eq_true rfl, Nat.le_of_ble_eq_true rfl⟩ (q0 := 0) (ci := 3) rfl rfl rfl  hl.1 (Nat.le_of_ble_eq_true rfl) dX3_readKind_33 ⟨Nat.le_refl _, Nat.le_refl _⟩ rfl (fun v6 vi_5 H locs _ _ hP hD hS => ?_)
    replace hP : va_P D vwCl (vz_w [rdW g h va vi_5 vr vf (ta 0) ph, tkW g ta tr tf, pgW g ph pa pr pf]) H := hP
    replace hD : va_D A (vz_w [rdW g h va vi_5 vr vf (ta 0) ph, tkW g ta tr tf, pgW g ph pa pr pf]) := hD
    refine lv_istore_n (lv' := [(1, .int v6), (0, .ref h)]) hx hb dX3_readKind_36 rfl hl (by decide) rfl (fun ls hl => ?_)
    refine lv_aload_n hx hb dX3_readKind_37 rfl (lv_at hl 1 rfl) ?_
    refine va_get (D := D) (ci := 3) (v := .ref ph) (C := RX3) (T := TX3) (N := 12) hx hb hts inlX3 hown hK hP 0 rfl rfl 4 (by decide) (hts _ q97) (fun _ h => h) rfl dX3_readKind_38 ?_
    refine va_get (D := D) (ci := 2) (v := .ref (pa 6)) (C := RX2) (T := TX2) (N := 5) hx hb hts inlX2 hown hK hP 9 rfl rfl 3 (by decide) (hts _ q471) (fun _ h => h) rfl dX3_readKind_41 ?_
    refine lv_aload_n hx hb dX3_readKind_44 rfl (lv_at hl 1 rfl) ?_
    refine va_get (D := D) (ci := 3) (v := .ref ph) (C := RX3) (T := TX3) (N := 12) hx hb hts inlX3 hown hK hP 0 rfl rfl 4 (by decide) (hts _ q97) (fun _ h => h) rfl dX3_readKind_45 ?_
    refine va_get (D := D) (ci := 2) (v := .ref (pa 6)) (C := RX2) (T := TX2) (N := 5) hx hb hts inlX2 hown hK hP 9 rfl rfl 3 (by decide) (hts _ q471) (fun _ h => h) rfl dX3_readKind_48 ?_
    refine vz_Vi2 (ws' := fun u : (Nat × (Nat → Int32)) => vz_w [rdW g h va vi_5 vr vf (ta 0) ph, tkW g ta tr tf, pgW g ph pa (vz_un pr 3 u.1) (vz_uf pf 3 u.2)]) (As := []) (rest := [.ref (pa 6)]) hx hb hml hown hts hK hA hP hD hS (c_T_add l D g (pa 6) (pa 7) H.size 1 16 (pr 3) 16 (pf 3) ⟨rfl, by decide, by decide, by decide, by decide, hw_p 3⟩) kv_X3_110 ⟨Nat.le_of_ble_eq_true rfl, Nat.le_of_ble_eq_true rfl⟩ (q0 := 16) (ci := 6) rfl rfl rfl [16, 17] rfl (by decide) (fun _ => rfl) (fun _ => rfl) hl.1 (Nat.le_of_ble_eq_true rfl) dX3_readKind_51 ⟨Nat.le_refl _, Nat.le_refl _⟩ rfl (fun v9 ⟨u7R, u7f⟩ H locs ha8 _ hP hD hS => ?_)
    have hq : (pr 3) ≤ 16 := hw_p 3
    replace ha8 : u7R ≤ 16 := by rcases ha8 with ⟨z1, -, z2, -⟩ | ⟨z1, -, z2, -⟩ <;> (dsimp only at z2; omega)
    obtain ⟨pr_10, hw_pr_10, pf_11, hP, hD⟩ : ∃ pr_10 : Nat → Nat, (∀ k, pr_10 k ≤ pgW_lim k) ∧ ∃ pf_11 : Nat → Nat → Int32, va_P D vwCl (vz_w [rdW g h va vi_5 vr vf (ta 0) ph, tkW g ta tr tf, pgW g ph pa pr_10 pf_11]) H ∧ va_D A (vz_w [rdW g h va vi_5 vr vf (ta 0) ph, tkW g ta tr tf, pgW g ph pa pr_10 pf_11]) := ⟨(vz_un pr 3 u7R), (vz_wf hw_p (t := 3) (v := u7R) (ha8)), (vz_uf pf 3 u7f), hP, hD⟩
    refine lv_iconst (v := 0) hx hb dX3_readKind_54 (by decide) ?_
    refine lv_iload_n hx hb dX3_readKind_55 rfl (lv_at hl 0 rfl) ?_
    refine vz_Vv2 (ws' := fun u : (Nat → Int32) => vz_w [rdW g h va vi_5 vr vf (ta 0) ph, tkW g ta tr tf, pgW g ph pa pr_10 (vz_uf pf_11 3 u)]) (As := [.int v9, .int 0, .int v6]) (rest := []) hx hb hml hown hts hK hA hP hD hS (c_T_set l D g (pa 6) (pa 7) H.size 1 16 (pr_10 3) 16 (pf_11 3) v9 0 v6 ⟨rfl, by decide, by decide, by decide, by decide, hw_pr_10 3⟩) kv_X3_60 ⟨Nat.le_of_ble_eq_true rfl, Nat.le_of_ble_eq_true rfl⟩ (q0 := 16) (ci := 6) rfl rfl rfl [16, 17] rfl (by decide) (fun _ => rfl) (fun _ => rfl) hl.1 (Nat.le_of_ble_eq_true rfl) dX3_readKind_56 ⟨Nat.le_refl _, Nat.le_refl _⟩ rfl (fun nf12 H locs _ _ hP hD hS => ?_)
    obtain ⟨pf_13, hP, hD⟩ : ∃ pf_13 : Nat → Nat → Int32, va_P D vwCl (vz_w [rdW g h va vi_5 vr vf (ta 0) ph, tkW g ta tr tf, pgW g ph pa pr_10 pf_13]) H ∧ va_D A (vz_w [rdW g h va vi_5 vr vf (ta 0) ph, tkW g ta tr tf, pgW g ph pa pr_10 pf_13]) := ⟨(vz_uf pf_11 3 nf12), hP, hD⟩
    refine lv_aload_n hx hb dX3_readKind_59 rfl (lv_at hl 1 rfl) ?_
    refine lv_bipush (v := 59) hx hb dX3_readKind_60 (by decide) ?_
    refine vz_Vv3 (As := [.int 59]) (rest := []) hx hb hml hown hts hK hA hP hD hS (a_D_expect l D g H.size h va vi_5 vr vf ta ph tr tf pa pr_10 pf_13 59 hw_v hw_t hw_pr_10) kv_X3_64 ⟨Nat.le_of_ble_eq_true rfl, Nat.le_of_ble_eq_true rfl⟩ (q0 := 0) (ci := 3) rfl rfl rfl  hl.1 (Nat.le_of_ble_eq_true rfl) dX3_readKind_62 ⟨Nat.le_refl _, Nat.le_refl _⟩ rfl (fun vi_14 H locs hp15 _ hP hD hS => ?_)
    try dsimp only at hp15
    replace hP : va_P D vwCl (vz_w [rdW g h va vi_14 vr vf (ta 0) ph, tkW g ta tr tf, pgW g ph pa pr_10 pf_13]) H := hP
    replace hD : va_D A (vz_w [rdW g h va vi_14 vr vf (ta 0) ph, tkW g ta tr tf, pgW g ph pa pr_10 pf_13]) := hD
    rw [hQ]
    exact vz_vret3 hx hb hr hlk hK hP hD hS (vi_14, pr_10, pf_13) hw_pr_10 rfl (Nat.le_refl 0) (Nat.le_refl 0) dX3_readKind_65
  · refine lv_aload_n hx hb dX3_readKind_15 rfl (lv_at hl 0 rfl) ?_
    refine lv_iconst (v := 2) hx hb dX3_readKind_16 (by decide) ?_
    refine vz_Vv3 (As := [.int 2]) (rest := []) hx hb hml hown hts hK hA hP hD hS (a_D_fail l D g H.size h va vi vr vf ta ph tr tf pa pr pf 2 hw_v hw_t hw_p) kv_X3_68 ⟨Nat.le_of_ble_eq_true rfl, Nat.le_of_ble_eq_true rfl⟩ (q0 := 0) (ci := 3) rfl rfl rfl  hl.1 (Nat.le_of_ble_eq_true rfl) dX3_readKind_17 ⟨Nat.le_refl _, Nat.le_refl _⟩ rfl (fun vi_16 H locs hp17 _ hP hD hS => ?_)
    try dsimp only at hp17
    replace hP : va_P D vwCl (vz_w [rdW g h va vi_16 vr vf (ta 0) ph, tkW g ta tr tf, pgW g ph pa pr pf]) H := hP
    replace hD : va_D A (vz_w [rdW g h va vi_16 vr vf (ta 0) ph, tkW g ta tr tf, pgW g ph pa pr pf]) := hD
    rw [hQ]
    exact vz_vret3 hx hb hr hlk hK hP hD hS (vi_16, pr, pf) hw_p rfl (Nat.le_refl 0) (Nat.le_refl 0) dX3_readKind_20
theorem q444 : Cond.fieldLink RX3 51 "WaysAtlas$Program" "methods" "LWaysAtlas$Table;" ∈ wsL_law := mT_1 (List.mem_of_getElem? (i := 101) rfl) rfl
theorem q99 : Cond.fieldLink RX3 24 "WaysAtlas$Reader" "loops" "LWaysAtlas$Table;" ∈ wsL_law := mT_1 (List.mem_of_getElem? (i := 125) rfl) rfl
theorem q495 : Cond.methodLink RX3 116 yX6_reset ∈ wsL_law := mT_3 (List.mem_of_getElem? (i := 168) rfl) rfl
theorem kv_X3_116 : vz_cv RX3 116 yX6_reset cX6_reset 1 none 0 := ⟨q495, q290, q291, q15, q292, by decide +kernel⟩
theorem q100 : Cond.fieldLink RX3 27 "WaysAtlas$Reader" "caughtLevels" "LWaysAtlas$Table;" ∈ wsL_law := mT_1 (List.mem_of_getElem? (i := 126) rfl) rfl
theorem dX3_beginMethod_0 : decode cX3_beginMethod 0 = .ok (.aload_n 0, 1) := by decide +kernel
theorem dX3_beginMethod_1 : decode cX3_beginMethod 1 = .ok (.getfield 41, 3) := by decide +kernel
theorem dX3_beginMethod_4 : decode cX3_beginMethod 4 = .ok (.sipush 130, 3) := by decide +kernel
theorem dX3_beginMethod_7 : decode cX3_beginMethod 7 = .ok (.if_icmp .ne 23, 3) := by decide +kernel
theorem dX3_beginMethod_10 : decode cX3_beginMethod 10 = .ok (.aload_n 0, 1) := by decide +kernel
theorem dX3_beginMethod_11 : decode cX3_beginMethod 11 = .ok (.getfield 15, 3) := by decide +kernel
theorem dX3_beginMethod_14 : decode cX3_beginMethod 14 = .ok (.getfield 51, 3) := by decide +kernel
theorem dX3_beginMethod_17 : decode cX3_beginMethod 17 = .ok (.getfield 104, 3) := by decide +kernel
theorem dX3_beginMethod_20 : decode cX3_beginMethod 20 = .ok (.bipush 8, 2) := by decide +kernel
theorem dX3_beginMethod_22 : decode cX3_beginMethod 22 = .ok (.if_icmp .lt 8, 3) := by decide +kernel
theorem dX3_beginMethod_25 : decode cX3_beginMethod 25 = .ok (.aload_n 0, 1) := by decide +kernel
theorem dX3_beginMethod_26 : decode cX3_beginMethod 26 = .ok (.iconst 2, 1) := by decide +kernel
theorem dX3_beginMethod_27 : decode cX3_beginMethod 27 = .ok (.invokevirtual 68, 3) := by decide +kernel
theorem dX3_beginMethod_30 : decode cX3_beginMethod 30 = .ok (.aload_n 0, 1) := by decide +kernel
theorem dX3_beginMethod_31 : decode cX3_beginMethod 31 = .ok (.sipush 130, 3) := by decide +kernel
theorem dX3_beginMethod_34 : decode cX3_beginMethod 34 = .ok (.invokevirtual 64, 3) := by decide +kernel
theorem dX3_beginMethod_37 : decode cX3_beginMethod 37 = .ok (.aload_n 0, 1) := by decide +kernel
theorem dX3_beginMethod_38 : decode cX3_beginMethod 38 = .ok (.bipush 123, 2) := by decide +kernel
theorem dX3_beginMethod_40 : decode cX3_beginMethod 40 = .ok (.invokevirtual 64, 3) := by decide +kernel
theorem dX3_beginMethod_43 : decode cX3_beginMethod 43 = .ok (.aload_n 0, 1) := by decide +kernel
theorem dX3_beginMethod_44 : decode cX3_beginMethod 44 = .ok (.getfield 24, 3) := by decide +kernel
theorem dX3_beginMethod_47 : decode cX3_beginMethod 47 = .ok (.invokevirtual 116, 3) := by decide +kernel
theorem dX3_beginMethod_50 : decode cX3_beginMethod 50 = .ok (.aload_n 0, 1) := by decide +kernel
theorem dX3_beginMethod_51 : decode cX3_beginMethod 51 = .ok (.getfield 27, 3) := by decide +kernel
theorem dX3_beginMethod_54 : decode cX3_beginMethod 54 = .ok (.invokevirtual 116, 3) := by decide +kernel
theorem dX3_beginMethod_57 : decode cX3_beginMethod 57 = .ok (.aload_n 0, 1) := by decide +kernel
theorem dX3_beginMethod_58 : decode cX3_beginMethod 58 = .ok (.getfield 15, 3) := by decide +kernel
theorem dX3_beginMethod_61 : decode cX3_beginMethod 61 = .ok (.getfield 51, 3) := by decide +kernel
theorem dX3_beginMethod_64 : decode cX3_beginMethod 64 = .ok (.invokevirtual 110, 3) := by decide +kernel
theorem dX3_beginMethod_67 : decode cX3_beginMethod 67 = .ok (.ireturn, 1) := by decide +kernel
set_option maxHeartbeats 8000000 in
set_option maxRecDepth 100000 in
theorem a_D_beginMethod (l : Launch) (D : va_G) (g : Nat → ClassId)   (sz : Nat) (h : Nat) (va : Nat → Nat) (vi : Nat → Int32) (vr : Nat → Nat) (vf : Nat → Nat → Int32) (ta : Nat → Nat) (ph : Nat) (tr : Nat → Nat) (tf : Nat → Nat → Int32) (pa : Nat → Nat) (pr : Nat → Nat) (pf : Nat → Nat → Int32) (hw_v : ∀ k, vr k ≤ rdW_lim k) (hw_t : ∀ k, tr k ≤ tkW_lim k) (hw_p : ∀ k, pr k ≤ pgW_lim k) : vz_Mi l D (tyG g) yX3_beginMethod cX3_beginMethod 1 3 64 0 0 .int [.ref h] sz (vz_w [rdW g h va vi vr vf (ta 0) ph, tkW g ta tr tf, pgW g ph pa pr pf]) (fun r (u : (Nat → Int32) × (Nat → Nat) × (Nat → Nat) × (Nat → Nat → Int32)) => (∀ k, u.2.1 k ≤ rdW_lim k) ∧ (∀ k, u.2.2.1 k ≤ pgW_lim k)) (fun u => vz_w [rdW g h va u.1 u.2.1 vf (ta 0) ph, tkW g ta tr tf, pgW g ph pa u.2.2.1 u.2.2.2]) := by
  refine vz_siQ (by decide) (Nat.le_of_ble_eq_true rfl) (fun p e s m args below meth c hx hb hr hml hts hown hlk hin hK hsz A hA H locs hP hD hS ls hl Q hQ => ?_)
  have hl : lv_has ls 1 [(0, .ref h)] := hl
  have J30 : ∀ (vi_30 : Nat → Int32), ∀ (vr_30 : Nat → Nat), ∀ (pr_30 : Nat → Nat), ∀ (pf_30 : Nat → Nat → Int32), (∀ k, vr_30 k ≤ rdW_lim k) → (∀ k, pr_30 k ≤ pgW_lim k) → ∀ (H : Heap) (locs : List Loc) (ls : Array Slot), va_P D vwCl (vz_w [rdW g h va vi_30 vr_30 vf (ta 0) ph, tkW g ta tr tf, pgW g ph pa pr_30 pf_30]) H → va_D A (vz_w [rdW g h va vi_30 vr_30 vf (ta 0) ph, tkW g ta tr tf, pgW g ph pa pr_30 pf_30]) → va_S A s.heap H locs → lv_has ls 1 [(0, .ref h)] → W p l e { frames := 3, cells := 0, slots := 0, locals := 64 } s m args below meth c H locs 0 0 Q (F0 m 30 ls []) := by
    intro vi_30 vr_30 pr_30 pf_30 hw_v_30 hw_p_30 H locs ls hP hD hS hl
    refine lv_aload_n hx hb dX3_beginMethod_30 rfl (lv_at hl 0 rfl) ?_
    refine lv_sipush (v := 130) hx hb dX3_beginMethod_31 (by decide) ?_
    refine vz_Vv3 (As := [.int 130]) (rest := []) hx hb hml hown hts hK hA hP hD hS (a_D_expect l D g H.size h va vi_30 vr_30 vf ta ph tr tf pa pr_30 pf_30 130 hw_v_30 hw_t hw_p_30) kv_X3_64 ⟨Nat.le_of_ble_eq_true rfl, Nat.le_of_ble_eq_true rfl⟩ (q0 := 0) (ci := 3) rfl rfl rfl  hl.1 (Nat.le_of_ble_eq_true rfl) dX3_beginMethod_34 ⟨Nat.le_refl _, Nat.le_refl _⟩ rfl (fun vi_1 H locs hp2 _ hP hD hS => ?_)
    try dsimp only at hp2
    replace hP : va_P D vwCl (vz_w [rdW g h va vi_1 vr_30 vf (ta 0) ph, tkW g ta tr tf, pgW g ph pa pr_30 pf_30]) H := hP
    replace hD : va_D A (vz_w [rdW g h va vi_1 vr_30 vf (ta 0) ph, tkW g ta tr tf, pgW g ph pa pr_30 pf_30]) := hD
    refine lv_aload_n hx hb dX3_beginMethod_37 rfl (lv_at hl 0 rfl) ?_
    refine lv_bipush (v := 123) hx hb dX3_beginMethod_38 (by decide) ?_
    refine vz_Vv3 (As := [.int 123]) (rest := []) hx hb hml hown hts hK hA hP hD hS (a_D_expect l D g H.size h va vi_1 vr_30 vf ta ph tr tf pa pr_30 pf_30 123 hw_v_30 hw_t hw_p_30) kv_X3_64 ⟨Nat.le_of_ble_eq_true rfl, Nat.le_of_ble_eq_true rfl⟩ (q0 := 0) (ci := 3) rfl rfl rfl  hl.1 (Nat.le_of_ble_eq_true rfl) dX3_beginMethod_40 ⟨Nat.le_refl _, Nat.le_refl _⟩ rfl (fun vi_3 H locs hp4 _ hP hD hS => ?_)
    try dsimp only at hp4
    replace hP : va_P D vwCl (vz_w [rdW g h va vi_3 vr_30 vf (ta 0) ph, tkW g ta tr tf, pgW g ph pa pr_30 pf_30]) H := hP
    replace hD : va_D A (vz_w [rdW g h va vi_3 vr_30 vf (ta 0) ph, tkW g ta tr tf, pgW g ph pa pr_30 pf_30]) := hD
    refine lv_aload_n hx hb dX3_beginMethod_43 rfl (lv_at hl 0 rfl) ?_
    refine va_get (D := D) (ci := 3) (v := .ref (va 0)) (C := RX3) (T := TX3) (N := 12) hx hb hts inlX3 hown hK hP 0 rfl rfl 1 (by decide) (hts _ q99) (fun _ h => h) rfl dX3_beginMethod_44 ?_
    refine vz_Vv2 (ws' := fun u : Unit => vz_w [rdW g h va vi_3 (vz_un vr_30 0 0) vf (ta 0) ph, tkW g ta tr tf, pgW g ph pa pr_30 pf_30]) (As := []) (rest := []) hx hb hml hown hts hK hA hP hD hS (c_T_reset l D g (va 0) (va 1) H.size (nI 1) (nI 6) (nI (vr_30 0))) kv_X3_116 ⟨Nat.le_of_ble_eq_true rfl, Nat.le_of_ble_eq_true rfl⟩ (q0 := 1) (ci := 6) rfl rfl rfl [1] rfl (by decide) (fun _ => rfl) (fun _ => rfl) hl.1 (Nat.le_of_ble_eq_true rfl) dX3_beginMethod_47 ⟨Nat.le_refl _, Nat.le_refl _⟩ rfl (fun _ H locs _ _ hP hD hS => ?_)
    obtain ⟨vr_5, hw_vr_5, hP, hD⟩ : ∃ vr_5 : Nat → Nat, (∀ k, vr_5 k ≤ rdW_lim k) ∧ va_P D vwCl (vz_w [rdW g h va vi_3 vr_5 vf (ta 0) ph, tkW g ta tr tf, pgW g ph pa pr_30 pf_30]) H ∧ va_D A (vz_w [rdW g h va vi_3 vr_5 vf (ta 0) ph, tkW g ta tr tf, pgW g ph pa pr_30 pf_30]) := ⟨(vz_un vr_30 0 0), (vz_wf hw_v_30 (t := 0) (v := 0) (Nat.zero_le _)), hP, hD⟩
    refine lv_aload_n hx hb dX3_beginMethod_50 rfl (lv_at hl 0 rfl) ?_
    refine va_get (D := D) (ci := 3) (v := .ref (va 2)) (C := RX3) (T := TX3) (N := 12) hx hb hts inlX3 hown hK hP 0 rfl rfl 2 (by decide) (hts _ q100) (fun _ h => h) rfl dX3_beginMethod_51 ?_
    refine vz_Vv2 (ws' := fun u : Unit => vz_w [rdW g h va vi_3 (vz_un vr_5 1 0) vf (ta 0) ph, tkW g ta tr tf, pgW g ph pa pr_30 pf_30]) (As := []) (rest := []) hx hb hml hown hts hK hA hP hD hS (c_T_reset l D g (va 2) (va 3) H.size (nI 1) (nI 6) (nI (vr_5 1))) kv_X3_116 ⟨Nat.le_of_ble_eq_true rfl, Nat.le_of_ble_eq_true rfl⟩ (q0 := 3) (ci := 6) rfl rfl rfl [3] rfl (by decide) (fun _ => rfl) (fun _ => rfl) hl.1 (Nat.le_of_ble_eq_true rfl) dX3_beginMethod_54 ⟨Nat.le_refl _, Nat.le_refl _⟩ rfl (fun _ H locs _ _ hP hD hS => ?_)
    obtain ⟨vr_6, hw_vr_6, hP, hD⟩ : ∃ vr_6 : Nat → Nat, (∀ k, vr_6 k ≤ rdW_lim k) ∧ va_P D vwCl (vz_w [rdW g h va vi_3 vr_6 vf (ta 0) ph, tkW g ta tr tf, pgW g ph pa pr_30 pf_30]) H ∧ va_D A (vz_w [rdW g h va vi_3 vr_6 vf (ta 0) ph, tkW g ta tr tf, pgW g ph pa pr_30 pf_30]) := ⟨(vz_un vr_5 1 0), (vz_wf hw_vr_5 (t := 1) (v := 0) (Nat.zero_le _)), hP, hD⟩
    refine lv_aload_n hx hb dX3_beginMethod_57 rfl (lv_at hl 0 rfl) ?_
    refine va_get (D := D) (ci := 3) (v := .ref ph) (C := RX3) (T := TX3) (N := 12) hx hb hts inlX3 hown hK hP 0 rfl rfl 4 (by decide) (hts _ q97) (fun _ h => h) rfl dX3_beginMethod_58 ?_
    refine va_get (D := D) (ci := 2) (v := .ref (pa 8)) (C := RX2) (T := TX2) (N := 5) hx hb hts inlX2 hown hK hP 9 rfl rfl 4 (by decide) (hts _ q444) (fun _ h => h) rfl dX3_beginMethod_61 ?_
    refine vz_Vi2 (ws' := fun u : (Nat × (Nat → Int32)) => vz_w [rdW g h va vi_3 vr_6 vf (ta 0) ph, tkW g ta tr tf, pgW g ph pa (vz_un pr_30 4 u.1) (vz_uf pf_30 4 u.2)]) (As := []) (rest := []) hx hb hml hown hts hK hA hP hD hS (c_T_add l D g (pa 8) (pa 9) H.size 2 8 (pr_30 4) 16 (pf_30 4) ⟨rfl, by decide, by decide, by decide, by decide, hw_p_30 4⟩) kv_X3_110 ⟨Nat.le_of_ble_eq_true rfl, Nat.le_of_ble_eq_true rfl⟩ (q0 := 18) (ci := 6) rfl rfl rfl [18, 19] rfl (by decide) (fun _ => rfl) (fun _ => rfl) hl.1 (Nat.le_of_ble_eq_true rfl) dX3_beginMethod_64 ⟨Nat.le_refl _, Nat.le_refl _⟩ rfl (fun v9 ⟨u7R, u7f⟩ H locs ha8 _ hP hD hS => ?_)
    have hq : (pr_30 4) ≤ 8 := hw_p_30 4
    replace ha8 : u7R ≤ 8 := by rcases ha8 with ⟨z1, -, z2, -⟩ | ⟨z1, -, z2, -⟩ <;> (dsimp only at z2; omega)
    obtain ⟨pr_10, hw_pr_10, pf_11, hP, hD⟩ : ∃ pr_10 : Nat → Nat, (∀ k, pr_10 k ≤ pgW_lim k) ∧ ∃ pf_11 : Nat → Nat → Int32, va_P D vwCl (vz_w [rdW g h va vi_3 vr_6 vf (ta 0) ph, tkW g ta tr tf, pgW g ph pa pr_10 pf_11]) H ∧ va_D A (vz_w [rdW g h va vi_3 vr_6 vf (ta 0) ph, tkW g ta tr tf, pgW g ph pa pr_10 pf_11]) := ⟨(vz_un pr_30 4 u7R), (vz_wf hw_p_30 (t := 4) (v := u7R) (ha8)), (vz_uf pf_30 4 u7f), hP, hD⟩
    rw [hQ]
    exact vz_iret3 hx hb hr hlk hK hP hD hS (vi_3, vr_6, pr_10, pf_11) (⟨hw_vr_6, hw_pr_10⟩) rfl (Nat.le_refl 0) (Nat.le_refl 0) dX3_beginMethod_67
  refine lv_aload_n hx hb dX3_beginMethod_0 rfl (lv_at hl 0 rfl) ?_
  refine va_get (D := D) (ci := 3) (v := .int (vi 1)) (C := RX3) (T := TX3) (N := 12) hx hb hts inlX3 hown hK hP 0 rfl rfl 6 (by decide) (hts _ q443) (fun _ h => h) rfl dX3_beginMethod_1 ?_
  refine lv_sipush (v := 130) hx hb dX3_beginMethod_4 (by decide) ?_
  refine lv_icmp_ne (tgt := 30) hx hb dX3_beginMethod_7 (by decide) (fun kc1 => ?_) (fun kc1 => ?_)
  · exact J30 vi vr pr pf hw_v hw_p H locs ls hP hD hS (lv_sub hl [0] rfl)
  · refine lv_aload_n hx hb dX3_beginMethod_10 rfl (lv_at hl 0 rfl) ?_
    refine va_get (D := D) (ci := 3) (v := .ref ph) (C := RX3) (T := TX3) (N := 12) hx hb hts inlX3 hown hK hP 0 rfl rfl 4 (by decide) (hts _ q97) (fun _ h => h) rfl dX3_beginMethod_11 ?_
    refine va_get (D := D) (ci := 2) (v := .ref (pa 8)) (C := RX2) (T := TX2) (N := 5) hx hb hts inlX2 hown hK hP 9 rfl rfl 4 (by decide) (hts _ q444) (fun _ h => h) rfl dX3_beginMethod_14 ?_
    refine va_get (D := D) (ci := 6) (v := .int (nI (pr 4))) (C := RX6) (T := TX6) (N := 4) hx hb hts inlX6 hown hK hP 18 rfl rfl 3 (by decide) (hts _ q472) (fun _ h => h) rfl dX3_beginMethod_17 ?_
    refine lv_bipush (v := 8) hx hb dX3_beginMethod_20 (by decide) ?_
    refine lv_icmp_lt (tgt := 30) hx hb dX3_beginMethod_22 (by decide) (fun kc2 => ?_) (fun kc2 => ?_)
    · exact J30 vi vr pr pf hw_v hw_p H locs ls hP hD hS (lv_sub hl [0] rfl)
    · refine lv_aload_n hx hb dX3_beginMethod_25 rfl (lv_at hl 0 rfl) ?_
      refine lv_iconst (v := 2) hx hb dX3_beginMethod_26 (by decide) ?_
      refine vz_Vv3 (As := [.int 2]) (rest := []) hx hb hml hown hts hK hA hP hD hS (a_D_fail l D g H.size h va vi vr vf ta ph tr tf pa pr pf 2 hw_v hw_t hw_p) kv_X3_68 ⟨Nat.le_of_ble_eq_true rfl, Nat.le_of_ble_eq_true rfl⟩ (q0 := 0) (ci := 3) rfl rfl rfl  hl.1 (Nat.le_of_ble_eq_true rfl) dX3_beginMethod_27 ⟨Nat.le_refl _, Nat.le_refl _⟩ rfl (fun vi_3 H locs hp4 _ hP hD hS => ?_)
      try dsimp only at hp4
      replace hP : va_P D vwCl (vz_w [rdW g h va vi_3 vr vf (ta 0) ph, tkW g ta tr tf, pgW g ph pa pr pf]) H := hP
      replace hD : va_D A (vz_w [rdW g h va vi_3 vr vf (ta 0) ph, tkW g ta tr tf, pgW g ph pa pr pf]) := hD
      exact J30 vi_3 vr pr pf hw_v hw_p H locs ls hP hD hS (lv_sub hl [0] rfl)
theorem q553 : Cond.methodLink RX3 131 yX3_isNoRow ∈ wsL_law := mT_3 (List.mem_of_getElem? (i := 184) rfl) rfl
theorem q554 : Cond.instanceMethod yX3_isNoRow ∈ wsL_law := mT_3 (List.mem_of_getElem? (i := 186) rfl) rfl
theorem q555 : Cond.selects RX3 yX3_isNoRow yX3_isNoRow ∈ wsL_law := mS_1 (q := (yX3_isNoRow, 12)) (List.mem_of_getElem? (i := 15) rfl) rfl
theorem q556 : Cond.code yX3_isNoRow cX3_isNoRow 1 (some .boolean) ∈ wsL_law := mT_3 (List.mem_of_getElem? (i := 187) rfl) rfl
theorem kv_X3_131 : vz_cv RX3 131 yX3_isNoRow cX3_isNoRow 1 (some .boolean) 0 := ⟨q553, q554, q555, q28, q556, by decide +kernel⟩
theorem dX3_readRowName_0 : decode cX3_readRowName 0 = .ok (.aload_n 0, 1) := by decide +kernel
theorem dX3_readRowName_1 : decode cX3_readRowName 1 = .ok (.getfield 95, 3) := by decide +kernel
theorem dX3_readRowName_4 : decode cX3_readRowName 4 = .ok (.istore_n 1, 1) := by decide +kernel
theorem dX3_readRowName_5 : decode cX3_readRowName 5 = .ok (.aload_n 0, 1) := by decide +kernel
theorem dX3_readRowName_6 : decode cX3_readRowName 6 = .ok (.invokevirtual 131, 3) := by decide +kernel
theorem dX3_readRowName_9 : decode cX3_readRowName 9 = .ok (.ifCond .eq 11, 3) := by decide +kernel
theorem dX3_readRowName_12 : decode cX3_readRowName 12 = .ok (.aload_n 0, 1) := by decide +kernel
theorem dX3_readRowName_13 : decode cX3_readRowName 13 = .ok (.iconst 2, 1) := by decide +kernel
theorem dX3_readRowName_14 : decode cX3_readRowName 14 = .ok (.invokevirtual 68, 3) := by decide +kernel
theorem dX3_readRowName_17 : decode cX3_readRowName 17 = .ok (.goto 24, 3) := by decide +kernel
theorem dX3_readRowName_20 : decode cX3_readRowName 20 = .ok (.aload_n 0, 1) := by decide +kernel
theorem dX3_readRowName_21 : decode cX3_readRowName 21 = .ok (.getfield 41, 3) := by decide +kernel
theorem dX3_readRowName_24 : decode cX3_readRowName 24 = .ok (.bipush 6, 2) := by decide +kernel
theorem dX3_readRowName_26 : decode cX3_readRowName 26 = .ok (.if_icmp .eq 11, 3) := by decide +kernel
theorem dX3_readRowName_29 : decode cX3_readRowName 29 = .ok (.aload_n 0, 1) := by decide +kernel
theorem dX3_readRowName_30 : decode cX3_readRowName 30 = .ok (.iconst 1, 1) := by decide +kernel
theorem dX3_readRowName_31 : decode cX3_readRowName 31 = .ok (.invokevirtual 68, 3) := by decide +kernel
theorem dX3_readRowName_34 : decode cX3_readRowName 34 = .ok (.goto 7, 3) := by decide +kernel
theorem dX3_readRowName_37 : decode cX3_readRowName 37 = .ok (.aload_n 0, 1) := by decide +kernel
theorem dX3_readRowName_38 : decode cX3_readRowName 38 = .ok (.invokevirtual 89, 3) := by decide +kernel
theorem dX3_readRowName_41 : decode cX3_readRowName 41 = .ok (.iload_n 1, 1) := by decide +kernel
theorem dX3_readRowName_42 : decode cX3_readRowName 42 = .ok (.ireturn, 1) := by decide +kernel
set_option maxHeartbeats 8000000 in
set_option maxRecDepth 100000 in
theorem a_D_readRowName (l : Launch) (D : va_G) (g : Nat → ClassId)   (sz : Nat) (h : Nat) (va : Nat → Nat) (vi : Nat → Int32) (vr : Nat → Nat) (vf : Nat → Nat → Int32) (ta : Nat → Nat) (ph : Nat) (tr : Nat → Nat) (tf : Nat → Nat → Int32) (pa : Nat → Nat) (pr : Nat → Nat) (pf : Nat → Nat → Int32) (hw_v : ∀ k, vr k ≤ rdW_lim k) (hw_t : ∀ k, tr k ≤ tkW_lim k) (hw_p : ∀ k, pr k ≤ pgW_lim k) : vz_Mi l D (tyG g) yX3_readRowName cX3_readRowName 2 2 43 0 0 .int [.ref h] sz (vz_w [rdW g h va vi vr vf (ta 0) ph, tkW g ta tr tf, pgW g ph pa pr pf]) (fun r (u : (Nat → Int32)) => True) (fun u => vz_w [rdW g h va u vr vf (ta 0) ph, tkW g ta tr tf, pgW g ph pa pr pf]) := by
  refine vz_siQ (by decide) (Nat.le_of_ble_eq_true rfl) (fun p e s m args below meth c hx hb hr hml hts hown hlk hin hK hsz A hA H locs hP hD hS ls hl Q hQ => ?_)
  have hl : lv_has ls 2 [(0, .ref h)] := hl
  have J41 : ∀ (x1_41 : Int32), ∀ (vi_41 : Nat → Int32), ∀ (H : Heap) (locs : List Loc) (ls : Array Slot), va_P D vwCl (vz_w [rdW g h va vi_41 vr vf (ta 0) ph, tkW g ta tr tf, pgW g ph pa pr pf]) H → va_D A (vz_w [rdW g h va vi_41 vr vf (ta 0) ph, tkW g ta tr tf, pgW g ph pa pr pf]) → va_S A s.heap H locs → lv_has ls 2 [(0, .ref h), (1, .int x1_41)] → W p l e { frames := 2, cells := 0, slots := 0, locals := 43 } s m args below meth c H locs 0 0 Q (F0 m 41 ls []) := by
    intro x1_41 vi_41 H locs ls hP hD hS hl
    refine lv_iload_n hx hb dX3_readRowName_41 rfl (lv_at hl 1 rfl) ?_
    rw [hQ]
    exact vz_iret3 hx hb hr hlk hK hP hD hS vi_41 trivial rfl (Nat.le_refl 0) (Nat.le_refl 0) dX3_readRowName_42
  refine lv_aload_n hx hb dX3_readRowName_0 rfl (lv_at hl 0 rfl) ?_
  refine va_get (D := D) (ci := 3) (v := .int (vi 2)) (C := RX3) (T := TX3) (N := 12) hx hb hts inlX3 hown hK hP 0 rfl rfl 7 (by decide) (hts _ q464) (fun _ h => h) rfl dX3_readRowName_1 ?_
  refine lv_istore_n (lv' := [(1, .int (vi 2)), (0, .ref h)]) hx hb dX3_readRowName_4 rfl hl (by decide) rfl (fun ls hl => ?_)
  refine lv_aload_n hx hb dX3_readRowName_5 rfl (lv_at hl 1 rfl) ?_
  refine vz_Vi3 (As := []) (rest := []) hx hb hml hown hts hK hA hP hD hS (a_D_isNoRow l D g H.size h va vi vr vf ta ph tr tf pa pr pf hw_v hw_t hw_p) kv_X3_131 ⟨Nat.le_of_ble_eq_true rfl, Nat.le_of_ble_eq_true rfl⟩ (q0 := 0) (ci := 3) rfl rfl rfl  hl.1 (Nat.le_of_ble_eq_true rfl) dX3_readRowName_6 ⟨Nat.le_refl _, Nat.le_refl _⟩ rfl (fun v1 _ H locs hz2 _ hP hD hS => ?_)
  refine lv_if_eq (tgt := 20) hx hb dX3_readRowName_9 (by decide) (fun kc3 => ?_) (fun kc3 => ?_)
  · refine lv_aload_n hx hb dX3_readRowName_20 rfl (lv_at hl 1 rfl) ?_
    refine va_get (D := D) (ci := 3) (v := .int (vi 1)) (C := RX3) (T := TX3) (N := 12) hx hb hts inlX3 hown hK hP 0 rfl rfl 6 (by decide) (hts _ q443) (fun _ h => h) rfl dX3_readRowName_21 ?_
    refine lv_bipush (v := 6) hx hb dX3_readRowName_24 (by decide) ?_
    refine lv_icmp_eq (tgt := 37) hx hb dX3_readRowName_26 (by decide) (fun kc4 => ?_) (fun kc4 => ?_)
    · refine lv_aload_n hx hb dX3_readRowName_37 rfl (lv_at hl 1 rfl) ?_
      refine vz_Vv3 (As := []) (rest := []) hx hb hml hown hts hK hA hP hD hS (a_D_advance l D g H.size h va vi vr vf ta ph tr tf pa pr pf hw_v hw_t hw_p) kv_X3_89 ⟨Nat.le_of_ble_eq_true rfl, Nat.le_of_ble_eq_true rfl⟩ (q0 := 0) (ci := 3) rfl rfl rfl  hl.1 (Nat.le_of_ble_eq_true rfl) dX3_readRowName_38 ⟨Nat.le_refl _, Nat.le_refl _⟩ rfl (fun vi_5 H locs _ _ hP hD hS => ?_)
      replace hP : va_P D vwCl (vz_w [rdW g h va vi_5 vr vf (ta 0) ph, tkW g ta tr tf, pgW g ph pa pr pf]) H := hP
      replace hD : va_D A (vz_w [rdW g h va vi_5 vr vf (ta 0) ph, tkW g ta tr tf, pgW g ph pa pr pf]) := hD
      exact J41 (vi 2) vi_5 H locs ls hP hD hS (lv_sub hl [1, 0] rfl)
    · refine lv_aload_n hx hb dX3_readRowName_29 rfl (lv_at hl 1 rfl) ?_
      refine lv_iconst (v := 1) hx hb dX3_readRowName_30 (by decide) ?_
      refine vz_Vv3 (As := [.int 1]) (rest := []) hx hb hml hown hts hK hA hP hD hS (a_D_fail l D g H.size h va vi vr vf ta ph tr tf pa pr pf 1 hw_v hw_t hw_p) kv_X3_68 ⟨Nat.le_of_ble_eq_true rfl, Nat.le_of_ble_eq_true rfl⟩ (q0 := 0) (ci := 3) rfl rfl rfl  hl.1 (Nat.le_of_ble_eq_true rfl) dX3_readRowName_31 ⟨Nat.le_refl _, Nat.le_refl _⟩ rfl (fun vi_6 H locs hp7 _ hP hD hS => ?_)
      try dsimp only at hp7
      replace hP : va_P D vwCl (vz_w [rdW g h va vi_6 vr vf (ta 0) ph, tkW g ta tr tf, pgW g ph pa pr pf]) H := hP
      replace hD : va_D A (vz_w [rdW g h va vi_6 vr vf (ta 0) ph, tkW g ta tr tf, pgW g ph pa pr pf]) := hD
      refine lv_goto (tgt := 41) hx hb dX3_readRowName_34 (by decide) ?_
      exact J41 (vi 2) vi_6 H locs ls hP hD hS (lv_sub hl [1, 0] rfl)
  · refine lv_aload_n hx hb dX3_readRowName_12 rfl (lv_at hl 1 rfl) ?_
    refine lv_iconst (v := 2) hx hb dX3_readRowName_13 (by decide) ?_
    refine vz_Vv3 (As := [.int 2]) (rest := []) hx hb hml hown hts hK hA hP hD hS (a_D_fail l D g H.size h va vi vr vf ta ph tr tf pa pr pf 2 hw_v hw_t hw_p) kv_X3_68 ⟨Nat.le_of_ble_eq_true rfl, Nat.le_of_ble_eq_true rfl⟩ (q0 := 0) (ci := 3) rfl rfl rfl  hl.1 (Nat.le_of_ble_eq_true rfl) dX3_readRowName_14 ⟨Nat.le_refl _, Nat.le_refl _⟩ rfl (fun vi_8 H locs hp9 _ hP hD hS => ?_)
    try dsimp only at hp9
    replace hP : va_P D vwCl (vz_w [rdW g h va vi_8 vr vf (ta 0) ph, tkW g ta tr tf, pgW g ph pa pr pf]) H := hP
    replace hD : va_D A (vz_w [rdW g h va vi_8 vr vf (ta 0) ph, tkW g ta tr tf, pgW g ph pa pr pf]) := hD
    refine lv_goto (tgt := 41) hx hb dX3_readRowName_17 (by decide) ?_
    exact J41 (vi 2) vi_8 H locs ls hP hD hS (lv_sub hl [1, 0] rfl)
theorem q500 : Cond.fieldLink RX3 117 "WaysAtlas$Program" "statements" "LWaysAtlas$Table;" ∈ wsL_law := mT_1 (List.mem_of_getElem? (i := 85) rfl) rfl
theorem dX3_readMark_0 : decode cX3_readMark 0 = .ok (.aload_n 0, 1) := by decide +kernel
theorem dX3_readMark_1 : decode cX3_readMark 1 = .ok (.getfield 15, 3) := by decide +kernel
theorem dX3_readMark_4 : decode cX3_readMark 4 = .ok (.getfield 117, 3) := by decide +kernel
theorem dX3_readMark_7 : decode cX3_readMark 7 = .ok (.iload_n 1, 1) := by decide +kernel
theorem dX3_readMark_8 : decode cX3_readMark 8 = .ok (.iconst 0, 1) := by decide +kernel
theorem dX3_readMark_9 : decode cX3_readMark 9 = .ok (.iconst 0, 1) := by decide +kernel
theorem dX3_readMark_10 : decode cX3_readMark 10 = .ok (.invokevirtual 60, 3) := by decide +kernel
theorem dX3_readMark_13 : decode cX3_readMark 13 = .ok (.aload_n 0, 1) := by decide +kernel
theorem dX3_readMark_14 : decode cX3_readMark 14 = .ok (.invokevirtual 89, 3) := by decide +kernel
theorem dX3_readMark_17 : decode cX3_readMark 17 = .ok (.aload_n 0, 1) := by decide +kernel
theorem dX3_readMark_18 : decode cX3_readMark 18 = .ok (.getfield 15, 3) := by decide +kernel
theorem dX3_readMark_21 : decode cX3_readMark 21 = .ok (.getfield 117, 3) := by decide +kernel
theorem dX3_readMark_24 : decode cX3_readMark 24 = .ok (.iload_n 1, 1) := by decide +kernel
theorem dX3_readMark_25 : decode cX3_readMark 25 = .ok (.iconst 1, 1) := by decide +kernel
theorem dX3_readMark_26 : decode cX3_readMark 26 = .ok (.aload_n 0, 1) := by decide +kernel
theorem dX3_readMark_27 : decode cX3_readMark 27 = .ok (.getfield 95, 3) := by decide +kernel
theorem dX3_readMark_30 : decode cX3_readMark 30 = .ok (.invokevirtual 60, 3) := by decide +kernel
theorem dX3_readMark_33 : decode cX3_readMark 33 = .ok (.aload_n 0, 1) := by decide +kernel
theorem dX3_readMark_34 : decode cX3_readMark 34 = .ok (.iconst 2, 1) := by decide +kernel
theorem dX3_readMark_35 : decode cX3_readMark 35 = .ok (.invokevirtual 64, 3) := by decide +kernel
theorem dX3_readMark_38 : decode cX3_readMark 38 = .ok (.return_, 1) := by decide +kernel
set_option maxHeartbeats 8000000 in
set_option maxRecDepth 100000 in
theorem a_D_readMark (l : Launch) (D : va_G) (g : Nat → ClassId)   (sz : Nat) (h : Nat) (va : Nat → Nat) (vi : Nat → Int32) (vr : Nat → Nat) (vf : Nat → Nat → Int32) (ta : Nat → Nat) (ph : Nat) (tr : Nat → Nat) (tf : Nat → Nat → Int32) (pa : Nat → Nat) (pr : Nat → Nat) (pf : Nat → Nat → Int32) (n1 : Int32) (hw_v : ∀ k, vr k ≤ rdW_lim k) (hw_t : ∀ k, tr k ≤ tkW_lim k) (hw_p : ∀ k, pr k ≤ pgW_lim k) : vz_Mv l D (tyG g) yX3_readMark cX3_readMark 2 3 64 0 0 [.ref h, .int n1] sz (vz_w [rdW g h va vi vr vf (ta 0) ph, tkW g ta tr tf, pgW g ph pa pr pf]) (fun u : (Nat → Int32) × (Nat → Nat → Int32) => True) (fun u => vz_w [rdW g h va u.1 vr vf (ta 0) ph, tkW g ta tr tf, pgW g ph pa pr u.2]) := by
  refine vz_svQ (by decide) (Nat.le_of_ble_eq_true rfl) (fun p e s m args below meth c hx hb hr hml hts hown hlk hin hK hsz A hA H locs hP hD hS ls hl Q hQ => ?_)
  have hl : lv_has ls 2 [(0, .ref h), (1, .int n1)] := hl
  refine lv_aload_n hx hb dX3_readMark_0 rfl (lv_at hl 0 rfl) ?_
  refine va_get (D := D) (ci := 3) (v := .ref ph) (C := RX3) (T := TX3) (N := 12) hx hb hts inlX3 hown hK hP 0 rfl rfl 4 (by decide) (hts _ q97) (fun _ h => h) rfl dX3_readMark_1 ?_
  refine va_get (D := D) (ci := 2) (v := .ref (pa 0)) (C := RX2) (T := TX2) (N := 5) hx hb hts inlX2 hown hK hP 9 rfl rfl 0 (by decide) (hts _ q500) (fun _ h => h) rfl dX3_readMark_4 ?_
  refine lv_iload_n hx hb dX3_readMark_7 rfl (lv_at hl 1 rfl) ?_
  refine lv_iconst (v := 0) hx hb dX3_readMark_8 (by decide) ?_
  refine lv_iconst (v := 0) hx hb dX3_readMark_9 (by decide) ?_
  refine vz_Vv2 (ws' := fun u : (Nat → Int32) => vz_w [rdW g h va vi vr vf (ta 0) ph, tkW g ta tr tf, pgW g ph pa pr (vz_uf pf 0 u)]) (As := [.int n1, .int 0, .int 0]) (rest := []) hx hb hml hown hts hK hA hP hD hS (c_T_set l D g (pa 0) (pa 1) H.size 12 80 (pr 0) 960 (pf 0) n1 0 0 ⟨rfl, by decide, by decide, by decide, by decide, hw_p 0⟩) kv_X3_60 ⟨Nat.le_of_ble_eq_true rfl, Nat.le_of_ble_eq_true rfl⟩ (q0 := 10) (ci := 6) rfl rfl rfl [10, 11] rfl (by decide) (fun _ => rfl) (fun _ => rfl) hl.1 (Nat.le_of_ble_eq_true rfl) dX3_readMark_10 ⟨Nat.le_refl _, Nat.le_refl _⟩ rfl (fun nf1 H locs _ _ hP hD hS => ?_)
  obtain ⟨pf_2, hP, hD⟩ : ∃ pf_2 : Nat → Nat → Int32, va_P D vwCl (vz_w [rdW g h va vi vr vf (ta 0) ph, tkW g ta tr tf, pgW g ph pa pr pf_2]) H ∧ va_D A (vz_w [rdW g h va vi vr vf (ta 0) ph, tkW g ta tr tf, pgW g ph pa pr pf_2]) := ⟨(vz_uf pf 0 nf1), hP, hD⟩
  refine lv_aload_n hx hb dX3_readMark_13 rfl (lv_at hl 0 rfl) ?_
  refine vz_Vv3 (As := []) (rest := []) hx hb hml hown hts hK hA hP hD hS (a_D_advance l D g H.size h va vi vr vf ta ph tr tf pa pr pf_2 hw_v hw_t hw_p) kv_X3_89 ⟨Nat.le_of_ble_eq_true rfl, Nat.le_of_ble_eq_true rfl⟩ (q0 := 0) (ci := 3) rfl rfl rfl  hl.1 (Nat.le_of_ble_eq_true rfl) dX3_readMark_14 ⟨Nat.le_refl _, Nat.le_refl _⟩ rfl (fun vi_3 H locs _ _ hP hD hS => ?_)
  replace hP : va_P D vwCl (vz_w [rdW g h va vi_3 vr vf (ta 0) ph, tkW g ta tr tf, pgW g ph pa pr pf_2]) H := hP
  replace hD : va_D A (vz_w [rdW g h va vi_3 vr vf (ta 0) ph, tkW g ta tr tf, pgW g ph pa pr pf_2]) := hD
  refine lv_aload_n hx hb dX3_readMark_17 rfl (lv_at hl 0 rfl) ?_
  refine va_get (D := D) (ci := 3) (v := .ref ph) (C := RX3) (T := TX3) (N := 12) hx hb hts inlX3 hown hK hP 0 rfl rfl 4 (by decide) (hts _ q97) (fun _ h => h) rfl dX3_readMark_18 ?_
  refine va_get (D := D) (ci := 2) (v := .ref (pa 0)) (C := RX2) (T := TX2) (N := 5) hx hb hts inlX2 hown hK hP 9 rfl rfl 0 (by decide) (hts _ q500) (fun _ h => h) rfl dX3_readMark_21 ?_
  refine lv_iload_n hx hb dX3_readMark_24 rfl (lv_at hl 1 rfl) ?_
  refine lv_iconst (v := 1) hx hb dX3_readMark_25 (by decide) ?_
  refine lv_aload_n hx hb dX3_readMark_26 rfl (lv_at hl 0 rfl) ?_
  refine va_get (D := D) (ci := 3) (v := .int (vi_3 2)) (C := RX3) (T := TX3) (N := 12) hx hb hts inlX3 hown hK hP 0 rfl rfl 7 (by decide) (hts _ q464) (fun _ h => h) rfl dX3_readMark_27 ?_
  refine vz_Vv2 (ws' := fun u : (Nat → Int32) => vz_w [rdW g h va vi_3 vr vf (ta 0) ph, tkW g ta tr tf, pgW g ph pa pr (vz_uf pf_2 0 u)]) (As := [.int n1, .int 1, .int (vi_3 2)]) (rest := []) hx hb hml hown hts hK hA hP hD hS (c_T_set l D g (pa 0) (pa 1) H.size 12 80 (pr 0) 960 (pf_2 0) n1 1 (vi_3 2) ⟨rfl, by decide, by decide, by decide, by decide, hw_p 0⟩) kv_X3_60 ⟨Nat.le_of_ble_eq_true rfl, Nat.le_of_ble_eq_true rfl⟩ (q0 := 10) (ci := 6) rfl rfl rfl [10, 11] rfl (by decide) (fun _ => rfl) (fun _ => rfl) hl.1 (Nat.le_of_ble_eq_true rfl) dX3_readMark_30 ⟨Nat.le_refl _, Nat.le_refl _⟩ rfl (fun nf4 H locs _ _ hP hD hS => ?_)
  obtain ⟨pf_5, hP, hD⟩ : ∃ pf_5 : Nat → Nat → Int32, va_P D vwCl (vz_w [rdW g h va vi_3 vr vf (ta 0) ph, tkW g ta tr tf, pgW g ph pa pr pf_5]) H ∧ va_D A (vz_w [rdW g h va vi_3 vr vf (ta 0) ph, tkW g ta tr tf, pgW g ph pa pr pf_5]) := ⟨(vz_uf pf_2 0 nf4), hP, hD⟩
  refine lv_aload_n hx hb dX3_readMark_33 rfl (lv_at hl 0 rfl) ?_
  refine lv_iconst (v := 2) hx hb dX3_readMark_34 (by decide) ?_
  refine vz_Vv3 (As := [.int 2]) (rest := []) hx hb hml hown hts hK hA hP hD hS (a_D_expect l D g H.size h va vi_3 vr vf ta ph tr tf pa pr pf_5 2 hw_v hw_t hw_p) kv_X3_64 ⟨Nat.le_of_ble_eq_true rfl, Nat.le_of_ble_eq_true rfl⟩ (q0 := 0) (ci := 3) rfl rfl rfl  hl.1 (Nat.le_of_ble_eq_true rfl) dX3_readMark_35 ⟨Nat.le_refl _, Nat.le_refl _⟩ rfl (fun vi_6 H locs hp7 _ hP hD hS => ?_)
  try dsimp only at hp7
  replace hP : va_P D vwCl (vz_w [rdW g h va vi_6 vr vf (ta 0) ph, tkW g ta tr tf, pgW g ph pa pr pf_5]) H := hP
  replace hD : va_D A (vz_w [rdW g h va vi_6 vr vf (ta 0) ph, tkW g ta tr tf, pgW g ph pa pr pf_5]) := hD
  rw [hQ]
  exact vz_vret3 hx hb hr hlk hK hP hD hS (vi_6, pf_5) trivial rfl (Nat.le_refl 0) (Nat.le_refl 0) dX3_readMark_38
theorem dX3_readResources_0 : decode cX3_readResources 0 = .ok (.aload_n 0, 1) := by decide +kernel
theorem dX3_readResources_1 : decode cX3_readResources 1 = .ok (.getfield 95, 3) := by decide +kernel
theorem dX3_readResources_4 : decode cX3_readResources 4 = .ok (.istore_n 1, 1) := by decide +kernel
theorem dX3_readResources_5 : decode cX3_readResources 5 = .ok (.aload_n 0, 1) := by decide +kernel
theorem dX3_readResources_6 : decode cX3_readResources 6 = .ok (.getfield 41, 3) := by decide +kernel
theorem dX3_readResources_9 : decode cX3_readResources 9 = .ok (.iconst 2, 1) := by decide +kernel
theorem dX3_readResources_10 : decode cX3_readResources 10 = .ok (.if_icmp .ne 18, 3) := by decide +kernel
theorem dX3_readResources_13 : decode cX3_readResources 13 = .ok (.iload_n 1, 1) := by decide +kernel
theorem dX3_readResources_14 : decode cX3_readResources 14 = .ok (.iconst 1, 1) := by decide +kernel
theorem dX3_readResources_15 : decode cX3_readResources 15 = .ok (.if_icmp .lt 8, 3) := by decide +kernel
theorem dX3_readResources_18 : decode cX3_readResources 18 = .ok (.iload_n 1, 1) := by decide +kernel
theorem dX3_readResources_19 : decode cX3_readResources 19 = .ok (.iconst 3, 1) := by decide +kernel
theorem dX3_readResources_20 : decode cX3_readResources 20 = .ok (.if_icmp .le 8, 3) := by decide +kernel
theorem dX3_readResources_23 : decode cX3_readResources 23 = .ok (.aload_n 0, 1) := by decide +kernel
theorem dX3_readResources_24 : decode cX3_readResources 24 = .ok (.iconst 2, 1) := by decide +kernel
theorem dX3_readResources_25 : decode cX3_readResources 25 = .ok (.invokevirtual 68, 3) := by decide +kernel
theorem dX3_readResources_28 : decode cX3_readResources 28 = .ok (.aload_n 0, 1) := by decide +kernel
theorem dX3_readResources_29 : decode cX3_readResources 29 = .ok (.iconst 2, 1) := by decide +kernel
theorem dX3_readResources_30 : decode cX3_readResources 30 = .ok (.invokevirtual 64, 3) := by decide +kernel
theorem dX3_readResources_33 : decode cX3_readResources 33 = .ok (.iload_n 1, 1) := by decide +kernel
theorem dX3_readResources_34 : decode cX3_readResources 34 = .ok (.ireturn, 1) := by decide +kernel
set_option maxHeartbeats 8000000 in
set_option maxRecDepth 100000 in
theorem a_D_readResources (l : Launch) (D : va_G) (g : Nat → ClassId)   (sz : Nat) (h : Nat) (va : Nat → Nat) (vi : Nat → Int32) (vr : Nat → Nat) (vf : Nat → Nat → Int32) (ta : Nat → Nat) (ph : Nat) (tr : Nat → Nat) (tf : Nat → Nat → Int32) (pa : Nat → Nat) (pr : Nat → Nat) (pf : Nat → Nat → Int32) (hw_v : ∀ k, vr k ≤ rdW_lim k) (hw_t : ∀ k, tr k ≤ tkW_lim k) (hw_p : ∀ k, pr k ≤ pgW_lim k) : vz_Mi l D (tyG g) yX3_readResources cX3_readResources 2 3 64 0 0 .int [.ref h] sz (vz_w [rdW g h va vi vr vf (ta 0) ph, tkW g ta tr tf, pgW g ph pa pr pf]) (fun r (u : (Nat → Int32)) => True) (fun u => vz_w [rdW g h va u vr vf (ta 0) ph, tkW g ta tr tf, pgW g ph pa pr pf]) := by
  refine vz_siQ (by decide) (Nat.le_of_ble_eq_true rfl) (fun p e s m args below meth c hx hb hr hml hts hown hlk hin hK hsz A hA H locs hP hD hS ls hl Q hQ => ?_)
  have hl : lv_has ls 2 [(0, .ref h)] := hl
  have J28 : ∀ (x1_28 : Int32), ∀ (vi_28 : Nat → Int32), ∀ (H : Heap) (locs : List Loc) (ls : Array Slot), va_P D vwCl (vz_w [rdW g h va vi_28 vr vf (ta 0) ph, tkW g ta tr tf, pgW g ph pa pr pf]) H → va_D A (vz_w [rdW g h va vi_28 vr vf (ta 0) ph, tkW g ta tr tf, pgW g ph pa pr pf]) → va_S A s.heap H locs → lv_has ls 2 [(0, .ref h), (1, .int x1_28)] → W p l e { frames := 3, cells := 0, slots := 0, locals := 64 } s m args below meth c H locs 0 0 Q (F0 m 28 ls []) := by
    intro x1_28 vi_28 H locs ls hP hD hS hl
    refine lv_aload_n hx hb dX3_readResources_28 rfl (lv_at hl 0 rfl) ?_
    refine lv_iconst (v := 2) hx hb dX3_readResources_29 (by decide) ?_
    refine vz_Vv3 (As := [.int 2]) (rest := []) hx hb hml hown hts hK hA hP hD hS (a_D_expect l D g H.size h va vi_28 vr vf ta ph tr tf pa pr pf 2 hw_v hw_t hw_p) kv_X3_64 ⟨Nat.le_of_ble_eq_true rfl, Nat.le_of_ble_eq_true rfl⟩ (q0 := 0) (ci := 3) rfl rfl rfl  hl.1 (Nat.le_of_ble_eq_true rfl) dX3_readResources_30 ⟨Nat.le_refl _, Nat.le_refl _⟩ rfl (fun vi_1 H locs hp2 _ hP hD hS => ?_)
    try dsimp only at hp2
    replace hP : va_P D vwCl (vz_w [rdW g h va vi_1 vr vf (ta 0) ph, tkW g ta tr tf, pgW g ph pa pr pf]) H := hP
    replace hD : va_D A (vz_w [rdW g h va vi_1 vr vf (ta 0) ph, tkW g ta tr tf, pgW g ph pa pr pf]) := hD
    refine lv_iload_n hx hb dX3_readResources_33 rfl (lv_at hl 1 rfl) ?_
    rw [hQ]
    exact vz_iret3 hx hb hr hlk hK hP hD hS vi_1 trivial rfl (Nat.le_refl 0) (Nat.le_refl 0) dX3_readResources_34
  have J23 : ∀ (x1_23 : Int32), ∀ (vi_23 : Nat → Int32), ∀ (H : Heap) (locs : List Loc) (ls : Array Slot), va_P D vwCl (vz_w [rdW g h va vi_23 vr vf (ta 0) ph, tkW g ta tr tf, pgW g ph pa pr pf]) H → va_D A (vz_w [rdW g h va vi_23 vr vf (ta 0) ph, tkW g ta tr tf, pgW g ph pa pr pf]) → va_S A s.heap H locs → lv_has ls 2 [(0, .ref h), (1, .int x1_23)] → W p l e { frames := 3, cells := 0, slots := 0, locals := 64 } s m args below meth c H locs 0 0 Q (F0 m 23 ls []) := by
    intro x1_23 vi_23 H locs ls hP hD hS hl
    refine lv_aload_n hx hb dX3_readResources_23 rfl (lv_at hl 0 rfl) ?_
    refine lv_iconst (v := 2) hx hb dX3_readResources_24 (by decide) ?_
    refine vz_Vv3 (As := [.int 2]) (rest := []) hx hb hml hown hts hK hA hP hD hS (a_D_fail l D g H.size h va vi_23 vr vf ta ph tr tf pa pr pf 2 hw_v hw_t hw_p) kv_X3_68 ⟨Nat.le_of_ble_eq_true rfl, Nat.le_of_ble_eq_true rfl⟩ (q0 := 0) (ci := 3) rfl rfl rfl  hl.1 (Nat.le_of_ble_eq_true rfl) dX3_readResources_25 ⟨Nat.le_refl _, Nat.le_refl _⟩ rfl (fun vi_1 H locs hp2 _ hP hD hS => ?_)
    try dsimp only at hp2
    replace hP : va_P D vwCl (vz_w [rdW g h va vi_1 vr vf (ta 0) ph, tkW g ta tr tf, pgW g ph pa pr pf]) H := hP
    replace hD : va_D A (vz_w [rdW g h va vi_1 vr vf (ta 0) ph, tkW g ta tr tf, pgW g ph pa pr pf]) := hD
    exact J28 x1_23 vi_1 H locs ls hP hD hS (lv_sub hl [0, 1] rfl)
  refine lv_aload_n hx hb dX3_readResources_0 rfl (lv_at hl 0 rfl) ?_
  refine va_get (D := D) (ci := 3) (v := .int (vi 2)) (C := RX3) (T := TX3) (N := 12) hx hb hts inlX3 hown hK hP 0 rfl rfl 7 (by decide) (hts _ q464) (fun _ h => h) rfl dX3_readResources_1 ?_
  refine lv_istore_n (lv' := [(1, .int (vi 2)), (0, .ref h)]) hx hb dX3_readResources_4 rfl hl (by decide) rfl (fun ls hl => ?_)
  refine lv_aload_n hx hb dX3_readResources_5 rfl (lv_at hl 1 rfl) ?_
  refine va_get (D := D) (ci := 3) (v := .int (vi 1)) (C := RX3) (T := TX3) (N := 12) hx hb hts inlX3 hown hK hP 0 rfl rfl 6 (by decide) (hts _ q443) (fun _ h => h) rfl dX3_readResources_6 ?_
  refine lv_iconst (v := 2) hx hb dX3_readResources_9 (by decide) ?_
  refine lv_icmp_ne (tgt := 28) hx hb dX3_readResources_10 (by decide) (fun kc1 => ?_) (fun kc1 => ?_)
  · exact J28 (vi 2) vi H locs ls hP hD hS (lv_sub hl [1, 0] rfl)
  · refine lv_iload_n hx hb dX3_readResources_13 rfl (lv_at hl 0 rfl) ?_
    refine lv_iconst (v := 1) hx hb dX3_readResources_14 (by decide) ?_
    refine lv_icmp_lt (tgt := 23) hx hb dX3_readResources_15 (by decide) (fun kc2 => ?_) (fun kc2 => ?_)
    · exact J23 (vi 2) vi H locs ls hP hD hS (lv_sub hl [1, 0] rfl)
    · refine lv_iload_n hx hb dX3_readResources_18 rfl (lv_at hl 0 rfl) ?_
      refine lv_iconst (v := 3) hx hb dX3_readResources_19 (by decide) ?_
      refine lv_icmp_le (tgt := 28) hx hb dX3_readResources_20 (by decide) (fun kc3 => ?_) (fun kc3 => ?_)
      · exact J28 (vi 2) vi H locs ls hP hD hS (lv_sub hl [1, 0] rfl)
      · exact J23 (vi 2) vi H locs ls hP hD hS (lv_sub hl [1, 0] rfl)
theorem dX3_readThrow_0 : decode cX3_readThrow 0 = .ok (.iload_n 2, 1) := by decide +kernel
theorem dX3_readThrow_1 : decode cX3_readThrow 1 = .ok (.bipush 12, 2) := by decide +kernel
theorem dX3_readThrow_3 : decode cX3_readThrow 3 = .ok (.if_icmp .eq 21, 3) := by decide +kernel
theorem dX3_readThrow_6 : decode cX3_readThrow 6 = .ok (.aload_n 0, 1) := by decide +kernel
theorem dX3_readThrow_7 : decode cX3_readThrow 7 = .ok (.getfield 27, 3) := by decide +kernel
theorem dX3_readThrow_10 : decode cX3_readThrow 10 = .ok (.getfield 104, 3) := by decide +kernel
theorem dX3_readThrow_13 : decode cX3_readThrow 13 = .ok (.ifCond .ne 11, 3) := by decide +kernel
theorem dX3_readThrow_16 : decode cX3_readThrow 16 = .ok (.aload_n 0, 1) := by decide +kernel
theorem dX3_readThrow_17 : decode cX3_readThrow 17 = .ok (.aload_n 0, 1) := by decide +kernel
theorem dX3_readThrow_18 : decode cX3_readThrow 18 = .ok (.getfield 98, 3) := by decide +kernel
theorem dX3_readThrow_21 : decode cX3_readThrow 21 = .ok (.invokevirtual 113, 3) := by decide +kernel
theorem dX3_readThrow_24 : decode cX3_readThrow 24 = .ok (.aload_n 0, 1) := by decide +kernel
theorem dX3_readThrow_25 : decode cX3_readThrow 25 = .ok (.getfield 15, 3) := by decide +kernel
theorem dX3_readThrow_28 : decode cX3_readThrow 28 = .ok (.getfield 117, 3) := by decide +kernel
theorem dX3_readThrow_31 : decode cX3_readThrow 31 = .ok (.iload_n 1, 1) := by decide +kernel
theorem dX3_readThrow_32 : decode cX3_readThrow 32 = .ok (.iconst 0, 1) := by decide +kernel
theorem dX3_readThrow_33 : decode cX3_readThrow 33 = .ok (.iload_n 2, 1) := by decide +kernel
theorem dX3_readThrow_34 : decode cX3_readThrow 34 = .ok (.invokevirtual 60, 3) := by decide +kernel
theorem dX3_readThrow_37 : decode cX3_readThrow 37 = .ok (.aload_n 0, 1) := by decide +kernel
theorem dX3_readThrow_38 : decode cX3_readThrow 38 = .ok (.getfield 15, 3) := by decide +kernel
theorem dX3_readThrow_41 : decode cX3_readThrow 41 = .ok (.getfield 117, 3) := by decide +kernel
theorem dX3_readThrow_44 : decode cX3_readThrow 44 = .ok (.iload_n 1, 1) := by decide +kernel
theorem dX3_readThrow_45 : decode cX3_readThrow 45 = .ok (.iconst 2, 1) := by decide +kernel
theorem dX3_readThrow_46 : decode cX3_readThrow 46 = .ok (.aload_n 0, 1) := by decide +kernel
theorem dX3_readThrow_47 : decode cX3_readThrow 47 = .ok (.getfield 27, 3) := by decide +kernel
theorem dX3_readThrow_50 : decode cX3_readThrow 50 = .ok (.aload_n 0, 1) := by decide +kernel
theorem dX3_readThrow_51 : decode cX3_readThrow 51 = .ok (.getfield 27, 3) := by decide +kernel
theorem dX3_readThrow_54 : decode cX3_readThrow 54 = .ok (.getfield 104, 3) := by decide +kernel
theorem dX3_readThrow_57 : decode cX3_readThrow 57 = .ok (.iconst 1, 1) := by decide +kernel
theorem dX3_readThrow_58 : decode cX3_readThrow 58 = .ok (.isub, 1) := by decide +kernel
theorem dX3_readThrow_59 : decode cX3_readThrow 59 = .ok (.iconst 0, 1) := by decide +kernel
theorem dX3_readThrow_60 : decode cX3_readThrow 60 = .ok (.invokevirtual 92, 3) := by decide +kernel
theorem dX3_readThrow_63 : decode cX3_readThrow 63 = .ok (.invokevirtual 60, 3) := by decide +kernel
theorem dX3_readThrow_66 : decode cX3_readThrow 66 = .ok (.aload_n 0, 1) := by decide +kernel
theorem dX3_readThrow_67 : decode cX3_readThrow 67 = .ok (.invokevirtual 89, 3) := by decide +kernel
theorem dX3_readThrow_70 : decode cX3_readThrow 70 = .ok (.iload_n 2, 1) := by decide +kernel
theorem dX3_readThrow_71 : decode cX3_readThrow 71 = .ok (.bipush 14, 2) := by decide +kernel
theorem dX3_readThrow_73 : decode cX3_readThrow 73 = .ok (.if_icmp .eq 19, 3) := by decide +kernel
theorem dX3_readThrow_76 : decode cX3_readThrow 76 = .ok (.aload_n 0, 1) := by decide +kernel
theorem dX3_readThrow_77 : decode cX3_readThrow 77 = .ok (.getfield 15, 3) := by decide +kernel
theorem dX3_readThrow_80 : decode cX3_readThrow 80 = .ok (.getfield 117, 3) := by decide +kernel
theorem dX3_readThrow_83 : decode cX3_readThrow 83 = .ok (.iload_n 1, 1) := by decide +kernel
theorem dX3_readThrow_84 : decode cX3_readThrow 84 = .ok (.iconst 1, 1) := by decide +kernel
theorem dX3_readThrow_85 : decode cX3_readThrow 85 = .ok (.aload_n 0, 1) := by decide +kernel
theorem dX3_readThrow_86 : decode cX3_readThrow 86 = .ok (.invokevirtual 107, 3) := by decide +kernel
theorem dX3_readThrow_89 : decode cX3_readThrow 89 = .ok (.invokevirtual 60, 3) := by decide +kernel
theorem dX3_readThrow_92 : decode cX3_readThrow 92 = .ok (.return_, 1) := by decide +kernel
set_option maxHeartbeats 8000000 in
set_option maxRecDepth 100000 in
theorem a_D_readThrow (l : Launch) (D : va_G) (g : Nat → ClassId)   (sz : Nat) (h : Nat) (va : Nat → Nat) (vi : Nat → Int32) (vr : Nat → Nat) (vf : Nat → Nat → Int32) (ta : Nat → Nat) (ph : Nat) (tr : Nat → Nat) (tf : Nat → Nat → Int32) (pa : Nat → Nat) (pr : Nat → Nat) (pf : Nat → Nat → Int32) (n1 : Int32) (n2 : Int32) (hw_v : ∀ k, vr k ≤ rdW_lim k) (hw_t : ∀ k, tr k ≤ tkW_lim k) (hw_p : ∀ k, pr k ≤ pgW_lim k) : vz_Mv l D (tyG g) yX3_readThrow cX3_readThrow 3 4 85 0 0 [.ref h, .int n1, .int n2] sz (vz_w [rdW g h va vi vr vf (ta 0) ph, tkW g ta tr tf, pgW g ph pa pr pf]) (fun u : (Nat → Int32) × (Nat → Nat → Int32) => True) (fun u => vz_w [rdW g h va u.1 vr vf (ta 0) ph, tkW g ta tr tf, pgW g ph pa pr u.2]) := by
  refine vz_svQ (by decide) (Nat.le_of_ble_eq_true rfl) (fun p e s m args below meth c hx hb hr hml hts hown hlk hin hK hsz A hA H locs hP hD hS ls hl Q hQ => ?_)
  have hl : lv_has ls 3 [(0, .ref h), (1, .int n1), (2, .int n2)] := hl
  have J92 : ∀ (vi_92 : Nat → Int32), ∀ (pf_92 : Nat → Nat → Int32), ∀ (H : Heap) (locs : List Loc) (ls : Array Slot), va_P D vwCl (vz_w [rdW g h va vi_92 vr vf (ta 0) ph, tkW g ta tr tf, pgW g ph pa pr pf_92]) H → va_D A (vz_w [rdW g h va vi_92 vr vf (ta 0) ph, tkW g ta tr tf, pgW g ph pa pr pf_92]) → va_S A s.heap H locs → lv_has ls 3 [(0, .ref h), (1, .int n1), (2, .int n2)] → W p l e { frames := 4, cells := 0, slots := 0, locals := 85 } s m args below meth c H locs 0 0 Q (F0 m 92 ls []) := by
    intro vi_92 pf_92 H locs ls hP hD hS hl
    rw [hQ]
    exact vz_vret3 hx hb hr hlk hK hP hD hS (vi_92, pf_92) trivial rfl (Nat.le_refl 0) (Nat.le_refl 0) dX3_readThrow_92
  have J24 : ∀ (vi_24 : Nat → Int32), ∀ (pf_24 : Nat → Nat → Int32), ∀ (H : Heap) (locs : List Loc) (ls : Array Slot), va_P D vwCl (vz_w [rdW g h va vi_24 vr vf (ta 0) ph, tkW g ta tr tf, pgW g ph pa pr pf_24]) H → va_D A (vz_w [rdW g h va vi_24 vr vf (ta 0) ph, tkW g ta tr tf, pgW g ph pa pr pf_24]) → va_S A s.heap H locs → lv_has ls 3 [(0, .ref h), (1, .int n1), (2, .int n2)] → W p l e { frames := 4, cells := 0, slots := 0, locals := 85 } s m args below meth c H locs 0 0 Q (F0 m 24 ls []) := by
    intro vi_24 pf_24 H locs ls hP hD hS hl
    refine lv_aload_n hx hb dX3_readThrow_24 rfl (lv_at hl 0 rfl) ?_
    refine va_get (D := D) (ci := 3) (v := .ref ph) (C := RX3) (T := TX3) (N := 12) hx hb hts inlX3 hown hK hP 0 rfl rfl 4 (by decide) (hts _ q97) (fun _ h => h) rfl dX3_readThrow_25 ?_
    refine va_get (D := D) (ci := 2) (v := .ref (pa 0)) (C := RX2) (T := TX2) (N := 5) hx hb hts inlX2 hown hK hP 9 rfl rfl 0 (by decide) (hts _ q500) (fun _ h => h) rfl dX3_readThrow_28 ?_
    refine lv_iload_n hx hb dX3_readThrow_31 rfl (lv_at hl 1 rfl) ?_
    refine lv_iconst (v := 0) hx hb dX3_readThrow_32 (by decide) ?_
    refine lv_iload_n hx hb dX3_readThrow_33 rfl (lv_at hl 2 rfl) ?_
    refine vz_Vv2 (ws' := fun u : (Nat → Int32) => vz_w [rdW g h va vi_24 vr vf (ta 0) ph, tkW g ta tr tf, pgW g ph pa pr (vz_uf pf_24 0 u)]) (As := [.int n1, .int 0, .int n2]) (rest := []) hx hb hml hown hts hK hA hP hD hS (c_T_set l D g (pa 0) (pa 1) H.size 12 80 (pr 0) 960 (pf_24 0) n1 0 n2 ⟨rfl, by decide, by decide, by decide, by decide, hw_p 0⟩) kv_X3_60 ⟨Nat.le_of_ble_eq_true rfl, Nat.le_of_ble_eq_true rfl⟩ (q0 := 10) (ci := 6) rfl rfl rfl [10, 11] rfl (by decide) (fun _ => rfl) (fun _ => rfl) hl.1 (Nat.le_of_ble_eq_true rfl) dX3_readThrow_34 ⟨Nat.le_refl _, Nat.le_refl _⟩ rfl (fun nf1 H locs _ _ hP hD hS => ?_)
    obtain ⟨pf_2, hP, hD⟩ : ∃ pf_2 : Nat → Nat → Int32, va_P D vwCl (vz_w [rdW g h va vi_24 vr vf (ta 0) ph, tkW g ta tr tf, pgW g ph pa pr pf_2]) H ∧ va_D A (vz_w [rdW g h va vi_24 vr vf (ta 0) ph, tkW g ta tr tf, pgW g ph pa pr pf_2]) := ⟨(vz_uf pf_24 0 nf1), hP, hD⟩
    refine lv_aload_n hx hb dX3_readThrow_37 rfl (lv_at hl 0 rfl) ?_
    refine va_get (D := D) (ci := 3) (v := .ref ph) (C := RX3) (T := TX3) (N := 12) hx hb hts inlX3 hown hK hP 0 rfl rfl 4 (by decide) (hts _ q97) (fun _ h => h) rfl dX3_readThrow_38 ?_
    refine va_get (D := D) (ci := 2) (v := .ref (pa 0)) (C := RX2) (T := TX2) (N := 5) hx hb hts inlX2 hown hK hP 9 rfl rfl 0 (by decide) (hts _ q500) (fun _ h => h) rfl dX3_readThrow_41 ?_
    refine lv_iload_n hx hb dX3_readThrow_44 rfl (lv_at hl 1 rfl) ?_
    refine lv_iconst (v := 2) hx hb dX3_readThrow_45 (by decide) ?_
    refine lv_aload_n hx hb dX3_readThrow_46 rfl (lv_at hl 0 rfl) ?_
    refine va_get (D := D) (ci := 3) (v := .ref (va 2)) (C := RX3) (T := TX3) (N := 12) hx hb hts inlX3 hown hK hP 0 rfl rfl 2 (by decide) (hts _ q100) (fun _ h => h) rfl dX3_readThrow_47 ?_
    refine lv_aload_n hx hb dX3_readThrow_50 rfl (lv_at hl 0 rfl) ?_
    refine va_get (D := D) (ci := 3) (v := .ref (va 2)) (C := RX3) (T := TX3) (N := 12) hx hb hts inlX3 hown hK hP 0 rfl rfl 2 (by decide) (hts _ q100) (fun _ h => h) rfl dX3_readThrow_51 ?_
    refine va_get (D := D) (ci := 6) (v := .int (nI (vr 1))) (C := RX6) (T := TX6) (N := 4) hx hb hts inlX6 hown hK hP 3 rfl rfl 3 (by decide) (hts _ q472) (fun _ h => h) rfl dX3_readThrow_54 ?_
    refine lv_iconst (v := 1) hx hb dX3_readThrow_57 (by decide) ?_
    refine lv_isub hx hb dX3_readThrow_58 ?_
    refine lv_iconst (v := 0) hx hb dX3_readThrow_59 (by decide) ?_
    refine vz_Vi2 (ws' := fun u : Unit => vz_w [rdW g h va vi_24 vr vf (ta 0) ph, tkW g ta tr tf, pgW g ph pa pr pf_2]) (As := [.int ((nI (vr 1)) - 1), .int 0]) (rest := [.int 2, .int n1, .ref (pa 0)]) hx hb hml hown hts hK hA hP hD hS (c_T_get l D g (va 2) (va 3) H.size 1 6 (vr 1) 6 (vf 1) ((nI (vr 1)) - 1) 0 ⟨rfl, by decide, by decide, by decide, by decide, hw_v 1⟩) kv_X3_92 ⟨Nat.le_of_ble_eq_true rfl, Nat.le_of_ble_eq_true rfl⟩ (q0 := 3) (ci := 6) rfl rfl rfl [3, 4] rfl (by decide) (fun _ => rfl) (fun _ => rfl) hl.1 (Nat.le_of_ble_eq_true rfl) dX3_readThrow_60 ⟨Nat.le_refl _, Nat.le_refl _⟩ rfl (fun v3 _ H locs he4 _ hP hD hS => ?_)
    refine vz_Vv2 (ws' := fun u : (Nat → Int32) => vz_w [rdW g h va vi_24 vr vf (ta 0) ph, tkW g ta tr tf, pgW g ph pa pr (vz_uf pf_2 0 u)]) (As := [.int n1, .int 2, .int v3]) (rest := []) hx hb hml hown hts hK hA hP hD hS (c_T_set l D g (pa 0) (pa 1) H.size 12 80 (pr 0) 960 (pf_2 0) n1 2 v3 ⟨rfl, by decide, by decide, by decide, by decide, hw_p 0⟩) kv_X3_60 ⟨Nat.le_of_ble_eq_true rfl, Nat.le_of_ble_eq_true rfl⟩ (q0 := 10) (ci := 6) rfl rfl rfl [10, 11] rfl (by decide) (fun _ => rfl) (fun _ => rfl) hl.1 (Nat.le_of_ble_eq_true rfl) dX3_readThrow_63 ⟨Nat.le_refl _, Nat.le_refl _⟩ rfl (fun nf5 H locs _ _ hP hD hS => ?_)
    obtain ⟨pf_6, hP, hD⟩ : ∃ pf_6 : Nat → Nat → Int32, va_P D vwCl (vz_w [rdW g h va vi_24 vr vf (ta 0) ph, tkW g ta tr tf, pgW g ph pa pr pf_6]) H ∧ va_D A (vz_w [rdW g h va vi_24 vr vf (ta 0) ph, tkW g ta tr tf, pgW g ph pa pr pf_6]) := ⟨(vz_uf pf_2 0 nf5), hP, hD⟩
    refine lv_aload_n hx hb dX3_readThrow_66 rfl (lv_at hl 0 rfl) ?_
    refine vz_Vv3 (As := []) (rest := []) hx hb hml hown hts hK hA hP hD hS (a_D_advance l D g H.size h va vi_24 vr vf ta ph tr tf pa pr pf_6 hw_v hw_t hw_p) kv_X3_89 ⟨Nat.le_of_ble_eq_true rfl, Nat.le_of_ble_eq_true rfl⟩ (q0 := 0) (ci := 3) rfl rfl rfl  hl.1 (Nat.le_of_ble_eq_true rfl) dX3_readThrow_67 ⟨Nat.le_refl _, Nat.le_refl _⟩ rfl (fun vi_7 H locs _ _ hP hD hS => ?_)
    replace hP : va_P D vwCl (vz_w [rdW g h va vi_7 vr vf (ta 0) ph, tkW g ta tr tf, pgW g ph pa pr pf_6]) H := hP
    replace hD : va_D A (vz_w [rdW g h va vi_7 vr vf (ta 0) ph, tkW g ta tr tf, pgW g ph pa pr pf_6]) := hD
    refine lv_iload_n hx hb dX3_readThrow_70 rfl (lv_at hl 2 rfl) ?_
    refine lv_bipush (v := 14) hx hb dX3_readThrow_71 (by decide) ?_
    refine lv_icmp_eq (tgt := 92) hx hb dX3_readThrow_73 (by decide) (fun kc8 => ?_) (fun kc8 => ?_)
    · exact J92 vi_7 pf_6 H locs ls hP hD hS (lv_sub hl [0, 1, 2] rfl)
    · refine lv_aload_n hx hb dX3_readThrow_76 rfl (lv_at hl 0 rfl) ?_
      refine va_get (D := D) (ci := 3) (v := .ref ph) (C := RX3) (T := TX3) (N := 12) hx hb hts inlX3 hown hK hP 0 rfl rfl 4 (by decide) (hts _ q97) (fun _ h => h) rfl dX3_readThrow_77 ?_
      refine va_get (D := D) (ci := 2) (v := .ref (pa 0)) (C := RX2) (T := TX2) (N := 5) hx hb hts inlX2 hown hK hP 9 rfl rfl 0 (by decide) (hts _ q500) (fun _ h => h) rfl dX3_readThrow_80 ?_
      refine lv_iload_n hx hb dX3_readThrow_83 rfl (lv_at hl 1 rfl) ?_
      refine lv_iconst (v := 1) hx hb dX3_readThrow_84 (by decide) ?_
      refine lv_aload_n hx hb dX3_readThrow_85 rfl (lv_at hl 0 rfl) ?_
      refine vz_Vi3 (As := []) (rest := [.int 1, .int n1, .ref (pa 0)]) hx hb hml hown hts hK hA hP hD hS (a_D_readKindName l D g H.size h va vi_7 vr vf ta ph tr tf pa pr pf_6 hw_v hw_t hw_p) kv_X3_107 ⟨Nat.le_of_ble_eq_true rfl, Nat.le_of_ble_eq_true rfl⟩ (q0 := 0) (ci := 3) rfl rfl rfl  hl.1 (Nat.le_of_ble_eq_true rfl) dX3_readThrow_86 ⟨Nat.le_refl _, Nat.le_refl _⟩ rfl (fun v10 vi_9 H locs _ _ hP hD hS => ?_)
      replace hP : va_P D vwCl (vz_w [rdW g h va vi_9 vr vf (ta 0) ph, tkW g ta tr tf, pgW g ph pa pr pf_6]) H := hP
      replace hD : va_D A (vz_w [rdW g h va vi_9 vr vf (ta 0) ph, tkW g ta tr tf, pgW g ph pa pr pf_6]) := hD
      refine vz_Vv2 (ws' := fun u : (Nat → Int32) => vz_w [rdW g h va vi_9 vr vf (ta 0) ph, tkW g ta tr tf, pgW g ph pa pr (vz_uf pf_6 0 u)]) (As := [.int n1, .int 1, .int v10]) (rest := []) hx hb hml hown hts hK hA hP hD hS (c_T_set l D g (pa 0) (pa 1) H.size 12 80 (pr 0) 960 (pf_6 0) n1 1 v10 ⟨rfl, by decide, by decide, by decide, by decide, hw_p 0⟩) kv_X3_60 ⟨Nat.le_of_ble_eq_true rfl, Nat.le_of_ble_eq_true rfl⟩ (q0 := 10) (ci := 6) rfl rfl rfl [10, 11] rfl (by decide) (fun _ => rfl) (fun _ => rfl) hl.1 (Nat.le_of_ble_eq_true rfl) dX3_readThrow_89 ⟨Nat.le_refl _, Nat.le_refl _⟩ rfl (fun nf11 H locs _ _ hP hD hS => ?_)
      obtain ⟨pf_12, hP, hD⟩ : ∃ pf_12 : Nat → Nat → Int32, va_P D vwCl (vz_w [rdW g h va vi_9 vr vf (ta 0) ph, tkW g ta tr tf, pgW g ph pa pr pf_12]) H ∧ va_D A (vz_w [rdW g h va vi_9 vr vf (ta 0) ph, tkW g ta tr tf, pgW g ph pa pr pf_12]) := ⟨(vz_uf pf_6 0 nf11), hP, hD⟩
      exact J92 vi_9 pf_12 H locs ls hP hD hS (lv_sub hl [0, 1, 2] rfl)
  refine lv_iload_n hx hb dX3_readThrow_0 rfl (lv_at hl 2 rfl) ?_
  refine lv_bipush (v := 12) hx hb dX3_readThrow_1 (by decide) ?_
  refine lv_icmp_eq (tgt := 24) hx hb dX3_readThrow_3 (by decide) (fun kc1 => ?_) (fun kc1 => ?_)
  · exact J24 vi pf H locs ls hP hD hS (lv_sub hl [0, 1, 2] rfl)
  · refine lv_aload_n hx hb dX3_readThrow_6 rfl (lv_at hl 0 rfl) ?_
    refine va_get (D := D) (ci := 3) (v := .ref (va 2)) (C := RX3) (T := TX3) (N := 12) hx hb hts inlX3 hown hK hP 0 rfl rfl 2 (by decide) (hts _ q100) (fun _ h => h) rfl dX3_readThrow_7 ?_
    refine va_get (D := D) (ci := 6) (v := .int (nI (vr 1))) (C := RX6) (T := TX6) (N := 4) hx hb hts inlX6 hown hK hP 3 rfl rfl 3 (by decide) (hts _ q472) (fun _ h => h) rfl dX3_readThrow_10 ?_
    refine lv_if_ne (tgt := 24) hx hb dX3_readThrow_13 (by decide) (fun kc2 => ?_) (fun kc2 => ?_)
    · exact J24 vi pf H locs ls hP hD hS (lv_sub hl [0, 1, 2] rfl)
    · refine lv_aload_n hx hb dX3_readThrow_16 rfl (lv_at hl 0 rfl) ?_
      refine lv_aload_n hx hb dX3_readThrow_17 rfl (lv_at hl 0 rfl) ?_
      refine va_get (D := D) (ci := 3) (v := .int (vi 3)) (C := RX3) (T := TX3) (N := 12) hx hb hts inlX3 hown hK hP 0 rfl rfl 8 (by decide) (hts _ q465) (fun _ h => h) rfl dX3_readThrow_18 ?_
      refine vz_Vv3 (As := [.int (vi 3)]) (rest := []) hx hb hml hown hts hK hA hP hD hS (a_D_failLesser l D g H.size h va vi vr vf ta ph tr tf pa pr pf (vi 3) hw_v hw_t hw_p) kv_X3_113 ⟨Nat.le_of_ble_eq_true rfl, Nat.le_of_ble_eq_true rfl⟩ (q0 := 0) (ci := 3) rfl rfl rfl  hl.1 (Nat.le_of_ble_eq_true rfl) dX3_readThrow_21 ⟨Nat.le_refl _, Nat.le_refl _⟩ rfl (fun vi_3 H locs _ _ hP hD hS => ?_)
      replace hP : va_P D vwCl (vz_w [rdW g h va vi_3 vr vf (ta 0) ph, tkW g ta tr tf, pgW g ph pa pr pf]) H := hP
      replace hD : va_D A (vz_w [rdW g h va vi_3 vr vf (ta 0) ph, tkW g ta tr tf, pgW g ph pa pr pf]) := hD
      exact J24 vi_3 pf H locs ls hP hD hS (lv_sub hl [0, 1, 2] rfl)
theorem dX3_readJump_0 : decode cX3_readJump 0 = .ok (.aload_n 0, 1) := by decide +kernel
theorem dX3_readJump_1 : decode cX3_readJump 1 = .ok (.getfield 15, 3) := by decide +kernel
theorem dX3_readJump_4 : decode cX3_readJump 4 = .ok (.getfield 117, 3) := by decide +kernel
theorem dX3_readJump_7 : decode cX3_readJump 7 = .ok (.iload_n 1, 1) := by decide +kernel
theorem dX3_readJump_8 : decode cX3_readJump 8 = .ok (.iconst 0, 1) := by decide +kernel
theorem dX3_readJump_9 : decode cX3_readJump 9 = .ok (.iload_n 2, 1) := by decide +kernel
theorem dX3_readJump_10 : decode cX3_readJump 10 = .ok (.invokevirtual 60, 3) := by decide +kernel
theorem dX3_readJump_13 : decode cX3_readJump 13 = .ok (.aload_n 0, 1) := by decide +kernel
theorem dX3_readJump_14 : decode cX3_readJump 14 = .ok (.invokevirtual 89, 3) := by decide +kernel
theorem dX3_readJump_17 : decode cX3_readJump 17 = .ok (.aload_n 0, 1) := by decide +kernel
theorem dX3_readJump_18 : decode cX3_readJump 18 = .ok (.getfield 41, 3) := by decide +kernel
theorem dX3_readJump_21 : decode cX3_readJump 21 = .ok (.iconst 2, 1) := by decide +kernel
theorem dX3_readJump_22 : decode cX3_readJump 22 = .ok (.if_icmp .ne 33, 3) := by decide +kernel
theorem dX3_readJump_25 : decode cX3_readJump 25 = .ok (.aload_n 0, 1) := by decide +kernel
theorem dX3_readJump_26 : decode cX3_readJump 26 = .ok (.getfield 95, 3) := by decide +kernel
theorem dX3_readJump_29 : decode cX3_readJump 29 = .ok (.iconst 1, 1) := by decide +kernel
theorem dX3_readJump_30 : decode cX3_readJump 30 = .ok (.if_icmp .lt 17, 3) := by decide +kernel
theorem dX3_readJump_33 : decode cX3_readJump 33 = .ok (.aload_n 0, 1) := by decide +kernel
theorem dX3_readJump_34 : decode cX3_readJump 34 = .ok (.getfield 95, 3) := by decide +kernel
theorem dX3_readJump_37 : decode cX3_readJump 37 = .ok (.aload_n 0, 1) := by decide +kernel
theorem dX3_readJump_38 : decode cX3_readJump 38 = .ok (.getfield 24, 3) := by decide +kernel
theorem dX3_readJump_41 : decode cX3_readJump 41 = .ok (.getfield 104, 3) := by decide +kernel
theorem dX3_readJump_44 : decode cX3_readJump 44 = .ok (.if_icmp .le 11, 3) := by decide +kernel
theorem dX3_readJump_47 : decode cX3_readJump 47 = .ok (.aload_n 0, 1) := by decide +kernel
theorem dX3_readJump_48 : decode cX3_readJump 48 = .ok (.aload_n 0, 1) := by decide +kernel
theorem dX3_readJump_49 : decode cX3_readJump 49 = .ok (.getfield 98, 3) := by decide +kernel
theorem dX3_readJump_52 : decode cX3_readJump 52 = .ok (.invokevirtual 113, 3) := by decide +kernel
theorem dX3_readJump_55 : decode cX3_readJump 55 = .ok (.aload_n 0, 1) := by decide +kernel
theorem dX3_readJump_56 : decode cX3_readJump 56 = .ok (.getfield 15, 3) := by decide +kernel
theorem dX3_readJump_59 : decode cX3_readJump 59 = .ok (.getfield 117, 3) := by decide +kernel
theorem dX3_readJump_62 : decode cX3_readJump 62 = .ok (.iload_n 1, 1) := by decide +kernel
theorem dX3_readJump_63 : decode cX3_readJump 63 = .ok (.iconst 1, 1) := by decide +kernel
theorem dX3_readJump_64 : decode cX3_readJump 64 = .ok (.aload_n 0, 1) := by decide +kernel
theorem dX3_readJump_65 : decode cX3_readJump 65 = .ok (.getfield 24, 3) := by decide +kernel
theorem dX3_readJump_68 : decode cX3_readJump 68 = .ok (.aload_n 0, 1) := by decide +kernel
theorem dX3_readJump_69 : decode cX3_readJump 69 = .ok (.getfield 24, 3) := by decide +kernel
theorem dX3_readJump_72 : decode cX3_readJump 72 = .ok (.getfield 104, 3) := by decide +kernel
theorem dX3_readJump_75 : decode cX3_readJump 75 = .ok (.aload_n 0, 1) := by decide +kernel
theorem dX3_readJump_76 : decode cX3_readJump 76 = .ok (.getfield 95, 3) := by decide +kernel
theorem dX3_readJump_79 : decode cX3_readJump 79 = .ok (.isub, 1) := by decide +kernel
theorem dX3_readJump_80 : decode cX3_readJump 80 = .ok (.iconst 0, 1) := by decide +kernel
theorem dX3_readJump_81 : decode cX3_readJump 81 = .ok (.invokevirtual 92, 3) := by decide +kernel
theorem dX3_readJump_84 : decode cX3_readJump 84 = .ok (.invokevirtual 60, 3) := by decide +kernel
theorem dX3_readJump_87 : decode cX3_readJump 87 = .ok (.aload_n 0, 1) := by decide +kernel
theorem dX3_readJump_88 : decode cX3_readJump 88 = .ok (.iconst 2, 1) := by decide +kernel
theorem dX3_readJump_89 : decode cX3_readJump 89 = .ok (.invokevirtual 64, 3) := by decide +kernel
theorem dX3_readJump_92 : decode cX3_readJump 92 = .ok (.return_, 1) := by decide +kernel
set_option maxHeartbeats 8000000 in
set_option maxRecDepth 100000 in
theorem a_D_readJump (l : Launch) (D : va_G) (g : Nat → ClassId)   (sz : Nat) (h : Nat) (va : Nat → Nat) (vi : Nat → Int32) (vr : Nat → Nat) (vf : Nat → Nat → Int32) (ta : Nat → Nat) (ph : Nat) (tr : Nat → Nat) (tf : Nat → Nat → Int32) (pa : Nat → Nat) (pr : Nat → Nat) (pf : Nat → Nat → Int32) (n1 : Int32) (n2 : Int32) (hw_v : ∀ k, vr k ≤ rdW_lim k) (hw_t : ∀ k, tr k ≤ tkW_lim k) (hw_p : ∀ k, pr k ≤ pgW_lim k) : vz_Mv l D (tyG g) yX3_readJump cX3_readJump 3 3 64 0 0 [.ref h, .int n1, .int n2] sz (vz_w [rdW g h va vi vr vf (ta 0) ph, tkW g ta tr tf, pgW g ph pa pr pf]) (fun u : (Nat → Int32) × (Nat → Nat → Int32) => True) (fun u => vz_w [rdW g h va u.1 vr vf (ta 0) ph, tkW g ta tr tf, pgW g ph pa pr u.2]) := by
  refine vz_svQ (by decide) (Nat.le_of_ble_eq_true rfl) (fun p e s m args below meth c hx hb hr hml hts hown hlk hin hK hsz A hA H locs hP hD hS ls hl Q hQ => ?_)
  have hl : lv_has ls 3 [(0, .ref h), (1, .int n1), (2, .int n2)] := hl
  have J55 : ∀ (vi_55 : Nat → Int32), ∀ (pf_55 : Nat → Nat → Int32), ∀ (H : Heap) (locs : List Loc) (ls : Array Slot), va_P D vwCl (vz_w [rdW g h va vi_55 vr vf (ta 0) ph, tkW g ta tr tf, pgW g ph pa pr pf_55]) H → va_D A (vz_w [rdW g h va vi_55 vr vf (ta 0) ph, tkW g ta tr tf, pgW g ph pa pr pf_55]) → va_S A s.heap H locs → lv_has ls 3 [(0, .ref h), (1, .int n1), (2, .int n2)] → W p l e { frames := 3, cells := 0, slots := 0, locals := 64 } s m args below meth c H locs 0 0 Q (F0 m 55 ls []) := by
    intro vi_55 pf_55 H locs ls hP hD hS hl
    refine lv_aload_n hx hb dX3_readJump_55 rfl (lv_at hl 0 rfl) ?_
    refine va_get (D := D) (ci := 3) (v := .ref ph) (C := RX3) (T := TX3) (N := 12) hx hb hts inlX3 hown hK hP 0 rfl rfl 4 (by decide) (hts _ q97) (fun _ h => h) rfl dX3_readJump_56 ?_
    refine va_get (D := D) (ci := 2) (v := .ref (pa 0)) (C := RX2) (T := TX2) (N := 5) hx hb hts inlX2 hown hK hP 9 rfl rfl 0 (by decide) (hts _ q500) (fun _ h => h) rfl dX3_readJump_59 ?_
    refine lv_iload_n hx hb dX3_readJump_62 rfl (lv_at hl 1 rfl) ?_
    refine lv_iconst (v := 1) hx hb dX3_readJump_63 (by decide) ?_
    refine lv_aload_n hx hb dX3_readJump_64 rfl (lv_at hl 0 rfl) ?_
    refine va_get (D := D) (ci := 3) (v := .ref (va 0)) (C := RX3) (T := TX3) (N := 12) hx hb hts inlX3 hown hK hP 0 rfl rfl 1 (by decide) (hts _ q99) (fun _ h => h) rfl dX3_readJump_65 ?_
    refine lv_aload_n hx hb dX3_readJump_68 rfl (lv_at hl 0 rfl) ?_
    refine va_get (D := D) (ci := 3) (v := .ref (va 0)) (C := RX3) (T := TX3) (N := 12) hx hb hts inlX3 hown hK hP 0 rfl rfl 1 (by decide) (hts _ q99) (fun _ h => h) rfl dX3_readJump_69 ?_
    refine va_get (D := D) (ci := 6) (v := .int (nI (vr 0))) (C := RX6) (T := TX6) (N := 4) hx hb hts inlX6 hown hK hP 1 rfl rfl 3 (by decide) (hts _ q472) (fun _ h => h) rfl dX3_readJump_72 ?_
    refine lv_aload_n hx hb dX3_readJump_75 rfl (lv_at hl 0 rfl) ?_
    refine va_get (D := D) (ci := 3) (v := .int (vi_55 2)) (C := RX3) (T := TX3) (N := 12) hx hb hts inlX3 hown hK hP 0 rfl rfl 7 (by decide) (hts _ q464) (fun _ h => h) rfl dX3_readJump_76 ?_
    refine lv_isub hx hb dX3_readJump_79 ?_
    refine lv_iconst (v := 0) hx hb dX3_readJump_80 (by decide) ?_
    refine vz_Vi2 (ws' := fun u : Unit => vz_w [rdW g h va vi_55 vr vf (ta 0) ph, tkW g ta tr tf, pgW g ph pa pr pf_55]) (As := [.int ((nI (vr 0)) - (vi_55 2)), .int 0]) (rest := [.int 1, .int n1, .ref (pa 0)]) hx hb hml hown hts hK hA hP hD hS (c_T_get l D g (va 0) (va 1) H.size 1 6 (vr 0) 6 (vf 0) ((nI (vr 0)) - (vi_55 2)) 0 ⟨rfl, by decide, by decide, by decide, by decide, hw_v 0⟩) kv_X3_92 ⟨Nat.le_of_ble_eq_true rfl, Nat.le_of_ble_eq_true rfl⟩ (q0 := 1) (ci := 6) rfl rfl rfl [1, 2] rfl (by decide) (fun _ => rfl) (fun _ => rfl) hl.1 (Nat.le_of_ble_eq_true rfl) dX3_readJump_81 ⟨Nat.le_refl _, Nat.le_refl _⟩ rfl (fun v1 _ H locs he2 _ hP hD hS => ?_)
    refine vz_Vv2 (ws' := fun u : (Nat → Int32) => vz_w [rdW g h va vi_55 vr vf (ta 0) ph, tkW g ta tr tf, pgW g ph pa pr (vz_uf pf_55 0 u)]) (As := [.int n1, .int 1, .int v1]) (rest := []) hx hb hml hown hts hK hA hP hD hS (c_T_set l D g (pa 0) (pa 1) H.size 12 80 (pr 0) 960 (pf_55 0) n1 1 v1 ⟨rfl, by decide, by decide, by decide, by decide, hw_p 0⟩) kv_X3_60 ⟨Nat.le_of_ble_eq_true rfl, Nat.le_of_ble_eq_true rfl⟩ (q0 := 10) (ci := 6) rfl rfl rfl [10, 11] rfl (by decide) (fun _ => rfl) (fun _ => rfl) hl.1 (Nat.le_of_ble_eq_true rfl) dX3_readJump_84 ⟨Nat.le_refl _, Nat.le_refl _⟩ rfl (fun nf3 H locs _ _ hP hD hS => ?_)
    obtain ⟨pf_4, hP, hD⟩ : ∃ pf_4 : Nat → Nat → Int32, va_P D vwCl (vz_w [rdW g h va vi_55 vr vf (ta 0) ph, tkW g ta tr tf, pgW g ph pa pr pf_4]) H ∧ va_D A (vz_w [rdW g h va vi_55 vr vf (ta 0) ph, tkW g ta tr tf, pgW g ph pa pr pf_4]) := ⟨(vz_uf pf_55 0 nf3), hP, hD⟩
    refine lv_aload_n hx hb dX3_readJump_87 rfl (lv_at hl 0 rfl) ?_
    refine lv_iconst (v := 2) hx hb dX3_readJump_88 (by decide) ?_
    refine vz_Vv3 (As := [.int 2]) (rest := []) hx hb hml hown hts hK hA hP hD hS (a_D_expect l D g H.size h va vi_55 vr vf ta ph tr tf pa pr pf_4 2 hw_v hw_t hw_p) kv_X3_64 ⟨Nat.le_of_ble_eq_true rfl, Nat.le_of_ble_eq_true rfl⟩ (q0 := 0) (ci := 3) rfl rfl rfl  hl.1 (Nat.le_of_ble_eq_true rfl) dX3_readJump_89 ⟨Nat.le_refl _, Nat.le_refl _⟩ rfl (fun vi_5 H locs hp6 _ hP hD hS => ?_)
    try dsimp only at hp6
    replace hP : va_P D vwCl (vz_w [rdW g h va vi_5 vr vf (ta 0) ph, tkW g ta tr tf, pgW g ph pa pr pf_4]) H := hP
    replace hD : va_D A (vz_w [rdW g h va vi_5 vr vf (ta 0) ph, tkW g ta tr tf, pgW g ph pa pr pf_4]) := hD
    rw [hQ]
    exact vz_vret3 hx hb hr hlk hK hP hD hS (vi_5, pf_4) trivial rfl (Nat.le_refl 0) (Nat.le_refl 0) dX3_readJump_92
  have J47 : ∀ (vi_47 : Nat → Int32), ∀ (pf_47 : Nat → Nat → Int32), ∀ (H : Heap) (locs : List Loc) (ls : Array Slot), va_P D vwCl (vz_w [rdW g h va vi_47 vr vf (ta 0) ph, tkW g ta tr tf, pgW g ph pa pr pf_47]) H → va_D A (vz_w [rdW g h va vi_47 vr vf (ta 0) ph, tkW g ta tr tf, pgW g ph pa pr pf_47]) → va_S A s.heap H locs → lv_has ls 3 [(0, .ref h), (1, .int n1), (2, .int n2)] → W p l e { frames := 3, cells := 0, slots := 0, locals := 64 } s m args below meth c H locs 0 0 Q (F0 m 47 ls []) := by
    intro vi_47 pf_47 H locs ls hP hD hS hl
    refine lv_aload_n hx hb dX3_readJump_47 rfl (lv_at hl 0 rfl) ?_
    refine lv_aload_n hx hb dX3_readJump_48 rfl (lv_at hl 0 rfl) ?_
    refine va_get (D := D) (ci := 3) (v := .int (vi_47 3)) (C := RX3) (T := TX3) (N := 12) hx hb hts inlX3 hown hK hP 0 rfl rfl 8 (by decide) (hts _ q465) (fun _ h => h) rfl dX3_readJump_49 ?_
    refine vz_Vv3 (As := [.int (vi_47 3)]) (rest := []) hx hb hml hown hts hK hA hP hD hS (a_D_failLesser l D g H.size h va vi_47 vr vf ta ph tr tf pa pr pf_47 (vi_47 3) hw_v hw_t hw_p) kv_X3_113 ⟨Nat.le_of_ble_eq_true rfl, Nat.le_of_ble_eq_true rfl⟩ (q0 := 0) (ci := 3) rfl rfl rfl  hl.1 (Nat.le_of_ble_eq_true rfl) dX3_readJump_52 ⟨Nat.le_refl _, Nat.le_refl _⟩ rfl (fun vi_1 H locs _ _ hP hD hS => ?_)
    replace hP : va_P D vwCl (vz_w [rdW g h va vi_1 vr vf (ta 0) ph, tkW g ta tr tf, pgW g ph pa pr pf_47]) H := hP
    replace hD : va_D A (vz_w [rdW g h va vi_1 vr vf (ta 0) ph, tkW g ta tr tf, pgW g ph pa pr pf_47]) := hD
    exact J55 vi_1 pf_47 H locs ls hP hD hS (lv_sub hl [0, 1, 2] rfl)
  refine lv_aload_n hx hb dX3_readJump_0 rfl (lv_at hl 0 rfl) ?_
  refine va_get (D := D) (ci := 3) (v := .ref ph) (C := RX3) (T := TX3) (N := 12) hx hb hts inlX3 hown hK hP 0 rfl rfl 4 (by decide) (hts _ q97) (fun _ h => h) rfl dX3_readJump_1 ?_
  refine va_get (D := D) (ci := 2) (v := .ref (pa 0)) (C := RX2) (T := TX2) (N := 5) hx hb hts inlX2 hown hK hP 9 rfl rfl 0 (by decide) (hts _ q500) (fun _ h => h) rfl dX3_readJump_4 ?_
  refine lv_iload_n hx hb dX3_readJump_7 rfl (lv_at hl 1 rfl) ?_
  refine lv_iconst (v := 0) hx hb dX3_readJump_8 (by decide) ?_
  refine lv_iload_n hx hb dX3_readJump_9 rfl (lv_at hl 2 rfl) ?_
  refine vz_Vv2 (ws' := fun u : (Nat → Int32) => vz_w [rdW g h va vi vr vf (ta 0) ph, tkW g ta tr tf, pgW g ph pa pr (vz_uf pf 0 u)]) (As := [.int n1, .int 0, .int n2]) (rest := []) hx hb hml hown hts hK hA hP hD hS (c_T_set l D g (pa 0) (pa 1) H.size 12 80 (pr 0) 960 (pf 0) n1 0 n2 ⟨rfl, by decide, by decide, by decide, by decide, hw_p 0⟩) kv_X3_60 ⟨Nat.le_of_ble_eq_true rfl, Nat.le_of_ble_eq_true rfl⟩ (q0 := 10) (ci := 6) rfl rfl rfl [10, 11] rfl (by decide) (fun _ => rfl) (fun _ => rfl) hl.1 (Nat.le_of_ble_eq_true rfl) dX3_readJump_10 ⟨Nat.le_refl _, Nat.le_refl _⟩ rfl (fun nf1 H locs _ _ hP hD hS => ?_)
  obtain ⟨pf_2, hP, hD⟩ : ∃ pf_2 : Nat → Nat → Int32, va_P D vwCl (vz_w [rdW g h va vi vr vf (ta 0) ph, tkW g ta tr tf, pgW g ph pa pr pf_2]) H ∧ va_D A (vz_w [rdW g h va vi vr vf (ta 0) ph, tkW g ta tr tf, pgW g ph pa pr pf_2]) := ⟨(vz_uf pf 0 nf1), hP, hD⟩
  refine lv_aload_n hx hb dX3_readJump_13 rfl (lv_at hl 0 rfl) ?_
  refine vz_Vv3 (As := []) (rest := []) hx hb hml hown hts hK hA hP hD hS (a_D_advance l D g H.size h va vi vr vf ta ph tr tf pa pr pf_2 hw_v hw_t hw_p) kv_X3_89 ⟨Nat.le_of_ble_eq_true rfl, Nat.le_of_ble_eq_true rfl⟩ (q0 := 0) (ci := 3) rfl rfl rfl  hl.1 (Nat.le_of_ble_eq_true rfl) dX3_readJump_14 ⟨Nat.le_refl _, Nat.le_refl _⟩ rfl (fun vi_3 H locs _ _ hP hD hS => ?_)
  replace hP : va_P D vwCl (vz_w [rdW g h va vi_3 vr vf (ta 0) ph, tkW g ta tr tf, pgW g ph pa pr pf_2]) H := hP
  replace hD : va_D A (vz_w [rdW g h va vi_3 vr vf (ta 0) ph, tkW g ta tr tf, pgW g ph pa pr pf_2]) := hD
  refine lv_aload_n hx hb dX3_readJump_17 rfl (lv_at hl 0 rfl) ?_
  refine va_get (D := D) (ci := 3) (v := .int (vi_3 1)) (C := RX3) (T := TX3) (N := 12) hx hb hts inlX3 hown hK hP 0 rfl rfl 6 (by decide) (hts _ q443) (fun _ h => h) rfl dX3_readJump_18 ?_
  refine lv_iconst (v := 2) hx hb dX3_readJump_21 (by decide) ?_
  refine lv_icmp_ne (tgt := 55) hx hb dX3_readJump_22 (by decide) (fun kc4 => ?_) (fun kc4 => ?_)
  · exact J55 vi_3 pf_2 H locs ls hP hD hS (lv_sub hl [0, 1, 2] rfl)
  · refine lv_aload_n hx hb dX3_readJump_25 rfl (lv_at hl 0 rfl) ?_
    refine va_get (D := D) (ci := 3) (v := .int (vi_3 2)) (C := RX3) (T := TX3) (N := 12) hx hb hts inlX3 hown hK hP 0 rfl rfl 7 (by decide) (hts _ q464) (fun _ h => h) rfl dX3_readJump_26 ?_
    refine lv_iconst (v := 1) hx hb dX3_readJump_29 (by decide) ?_
    refine lv_icmp_lt (tgt := 47) hx hb dX3_readJump_30 (by decide) (fun kc5 => ?_) (fun kc5 => ?_)
    · exact J47 vi_3 pf_2 H locs ls hP hD hS (lv_sub hl [0, 1, 2] rfl)
    · refine lv_aload_n hx hb dX3_readJump_33 rfl (lv_at hl 0 rfl) ?_
      refine va_get (D := D) (ci := 3) (v := .int (vi_3 2)) (C := RX3) (T := TX3) (N := 12) hx hb hts inlX3 hown hK hP 0 rfl rfl 7 (by decide) (hts _ q464) (fun _ h => h) rfl dX3_readJump_34 ?_
      refine lv_aload_n hx hb dX3_readJump_37 rfl (lv_at hl 0 rfl) ?_
      refine va_get (D := D) (ci := 3) (v := .ref (va 0)) (C := RX3) (T := TX3) (N := 12) hx hb hts inlX3 hown hK hP 0 rfl rfl 1 (by decide) (hts _ q99) (fun _ h => h) rfl dX3_readJump_38 ?_
      refine va_get (D := D) (ci := 6) (v := .int (nI (vr 0))) (C := RX6) (T := TX6) (N := 4) hx hb hts inlX6 hown hK hP 1 rfl rfl 3 (by decide) (hts _ q472) (fun _ h => h) rfl dX3_readJump_41 ?_
      refine lv_icmp_le (tgt := 55) hx hb dX3_readJump_44 (by decide) (fun kc6 => ?_) (fun kc6 => ?_)
      · exact J55 vi_3 pf_2 H locs ls hP hD hS (lv_sub hl [0, 1, 2] rfl)
      · exact J47 vi_3 pf_2 H locs ls hP hD hS (lv_sub hl [0, 1, 2] rfl)
theorem q101 : Cond.fieldLink RX3 30 "WaysAtlas$Reader" "callPlaces" "LWaysAtlas$Table;" ∈ wsL_law := mT_1 (List.mem_of_getElem? (i := 127) rfl) rfl
theorem dX3_checkCalls_0 : decode cX3_checkCalls 0 = .ok (.iconst 0, 1) := by decide +kernel
theorem dX3_checkCalls_1 : decode cX3_checkCalls 1 = .ok (.istore_n 1, 1) := by decide +kernel
theorem dX3_checkCalls_2 : decode cX3_checkCalls 2 = .ok (.iload_n 1, 1) := by decide +kernel
theorem dX3_checkCalls_3 : decode cX3_checkCalls 3 = .ok (.aload_n 0, 1) := by decide +kernel
theorem dX3_checkCalls_4 : decode cX3_checkCalls 4 = .ok (.getfield 15, 3) := by decide +kernel
theorem dX3_checkCalls_7 : decode cX3_checkCalls 7 = .ok (.getfield 117, 3) := by decide +kernel
theorem dX3_checkCalls_10 : decode cX3_checkCalls 10 = .ok (.getfield 104, 3) := by decide +kernel
theorem dX3_checkCalls_13 : decode cX3_checkCalls 13 = .ok (.if_icmp .ge 63, 3) := by decide +kernel
theorem dX3_checkCalls_16 : decode cX3_checkCalls 16 = .ok (.aload_n 0, 1) := by decide +kernel
theorem dX3_checkCalls_17 : decode cX3_checkCalls 17 = .ok (.getfield 15, 3) := by decide +kernel
theorem dX3_checkCalls_20 : decode cX3_checkCalls 20 = .ok (.getfield 117, 3) := by decide +kernel
theorem dX3_checkCalls_23 : decode cX3_checkCalls 23 = .ok (.iload_n 1, 1) := by decide +kernel
theorem dX3_checkCalls_24 : decode cX3_checkCalls 24 = .ok (.iconst 0, 1) := by decide +kernel
theorem dX3_checkCalls_25 : decode cX3_checkCalls 25 = .ok (.invokevirtual 92, 3) := by decide +kernel
theorem dX3_checkCalls_28 : decode cX3_checkCalls 28 = .ok (.iconst 1, 1) := by decide +kernel
theorem dX3_checkCalls_29 : decode cX3_checkCalls 29 = .ok (.if_icmp .ne 41, 3) := by decide +kernel
theorem dX3_checkCalls_32 : decode cX3_checkCalls 32 = .ok (.aload_n 0, 1) := by decide +kernel
theorem dX3_checkCalls_33 : decode cX3_checkCalls 33 = .ok (.getfield 15, 3) := by decide +kernel
theorem dX3_checkCalls_36 : decode cX3_checkCalls 36 = .ok (.getfield 117, 3) := by decide +kernel
theorem dX3_checkCalls_39 : decode cX3_checkCalls 39 = .ok (.iload_n 1, 1) := by decide +kernel
theorem dX3_checkCalls_40 : decode cX3_checkCalls 40 = .ok (.iconst 1, 1) := by decide +kernel
theorem dX3_checkCalls_41 : decode cX3_checkCalls 41 = .ok (.invokevirtual 92, 3) := by decide +kernel
theorem dX3_checkCalls_44 : decode cX3_checkCalls 44 = .ok (.aload_n 0, 1) := by decide +kernel
theorem dX3_checkCalls_45 : decode cX3_checkCalls 45 = .ok (.getfield 15, 3) := by decide +kernel
theorem dX3_checkCalls_48 : decode cX3_checkCalls 48 = .ok (.getfield 51, 3) := by decide +kernel
theorem dX3_checkCalls_51 : decode cX3_checkCalls 51 = .ok (.getfield 104, 3) := by decide +kernel
theorem dX3_checkCalls_54 : decode cX3_checkCalls 54 = .ok (.if_icmp .lt 16, 3) := by decide +kernel
theorem dX3_checkCalls_57 : decode cX3_checkCalls 57 = .ok (.aload_n 0, 1) := by decide +kernel
theorem dX3_checkCalls_58 : decode cX3_checkCalls 58 = .ok (.aload_n 0, 1) := by decide +kernel
theorem dX3_checkCalls_59 : decode cX3_checkCalls 59 = .ok (.getfield 30, 3) := by decide +kernel
theorem dX3_checkCalls_62 : decode cX3_checkCalls 62 = .ok (.iload_n 1, 1) := by decide +kernel
theorem dX3_checkCalls_63 : decode cX3_checkCalls 63 = .ok (.iconst 0, 1) := by decide +kernel
theorem dX3_checkCalls_64 : decode cX3_checkCalls 64 = .ok (.invokevirtual 92, 3) := by decide +kernel
theorem dX3_checkCalls_67 : decode cX3_checkCalls 67 = .ok (.invokevirtual 113, 3) := by decide +kernel
theorem dX3_checkCalls_70 : decode cX3_checkCalls 70 = .ok (.iinc 1 1, 3) := by decide +kernel
theorem dX3_checkCalls_73 : decode cX3_checkCalls 73 = .ok (.goto (-71), 3) := by decide +kernel
theorem dX3_checkCalls_76 : decode cX3_checkCalls 76 = .ok (.return_, 1) := by decide +kernel
set_option maxHeartbeats 8000000 in
set_option maxRecDepth 100000 in
theorem a_D_checkCalls (l : Launch) (D : va_G) (g : Nat → ClassId)   (sz : Nat) (h : Nat) (va : Nat → Nat) (vi : Nat → Int32) (vr : Nat → Nat) (vf : Nat → Nat → Int32) (ta : Nat → Nat) (ph : Nat) (tr : Nat → Nat) (tf : Nat → Nat → Int32) (pa : Nat → Nat) (pr : Nat → Nat) (pf : Nat → Nat → Int32) (hw_v : ∀ k, vr k ≤ rdW_lim k) (hw_t : ∀ k, tr k ≤ tkW_lim k) (hw_p : ∀ k, pr k ≤ pgW_lim k) : vz_Mv l D (tyG g) yX3_checkCalls cX3_checkCalls 2 1 23 0 0 [.ref h] sz (vz_w [rdW g h va vi vr vf (ta 0) ph, tkW g ta tr tf, pgW g ph pa pr pf]) (fun u : (Nat → Int32) => True) (fun u => vz_w [rdW g h va u vr vf (ta 0) ph, tkW g ta tr tf, pgW g ph pa pr pf]) := by
  refine vz_svQ (by decide) (Nat.le_of_ble_eq_true rfl) (fun p e s m args below meth c hx hb hr hml hts hown hlk hin hK hsz A hA H locs hP hD hS ls hl Q hQ => ?_)
  have hl : lv_has ls 2 [(0, .ref h)] := hl
  have J2 : ∀ fu2 : Nat, ∀ (x1_2 : Int32), ∀ (vi_2 : Nat → Int32), ((nI (pr 0)).toInt - x1_2.toInt).toNat < fu2 → ∀ (H : Heap) (locs : List Loc) (ls : Array Slot), va_P D vwCl (vz_w [rdW g h va vi_2 vr vf (ta 0) ph, tkW g ta tr tf, pgW g ph pa pr pf]) H → va_D A (vz_w [rdW g h va vi_2 vr vf (ta 0) ph, tkW g ta tr tf, pgW g ph pa pr pf]) → va_S A s.heap H locs → lv_has ls 2 [(0, .ref h), (1, .int x1_2)] → W p l e { frames := 1, cells := 0, slots := 0, locals := 23 } s m args below meth c H locs 0 0 Q (F0 m 2 ls []) := by
    intro fu2
    induction fu2 with
    | zero => intro x1_2 vi_2 hf2 H locs ls hP hD hS hl; exact absurd hf2 (Nat.not_lt_zero _)
    | succ fu2 ih2 =>
      intro x1_2 vi_2 hf2 H locs ls hP hD hS hl
      have J70 : ((nI (pr 0)).toInt - (x1_2 + 1).toInt).toNat < fu2 → ∀ (vi_70 : Nat → Int32), ∀ (H : Heap) (locs : List Loc) (ls : Array Slot), va_P D vwCl (vz_w [rdW g h va vi_70 vr vf (ta 0) ph, tkW g ta tr tf, pgW g ph pa pr pf]) H → va_D A (vz_w [rdW g h va vi_70 vr vf (ta 0) ph, tkW g ta tr tf, pgW g ph pa pr pf]) → va_S A s.heap H locs → lv_has ls 2 [(0, .ref h), (1, .int x1_2)] → W p l e { frames := 1, cells := 0, slots := 0, locals := 23 } s m args below meth c H locs 0 0 Q (F0 m 70 ls []) := by
        intro hn2 vi_70 H locs ls hP hD hS hl
        refine lv_iinc (v := (x1_2 + 1)) (lv' := [(1, .int (x1_2 + 1)), (0, .ref h)]) hx hb dX3_checkCalls_70 hl (k := 1) rfl (rfl) (by decide) rfl (fun ls hl => ?_)
        refine lv_goto (tgt := 2) hx hb dX3_checkCalls_73 (by decide) ?_
        exact ih2 (x1_2 + 1) vi_70 hn2 H locs ls hP hD hS (lv_sub hl [1, 0] rfl)
      refine lv_iload_n hx hb dX3_checkCalls_2 rfl (lv_at hl 1 rfl) ?_
      refine lv_aload_n hx hb dX3_checkCalls_3 rfl (lv_at hl 0 rfl) ?_
      refine va_get (D := D) (ci := 3) (v := .ref ph) (C := RX3) (T := TX3) (N := 12) hx hb hts inlX3 hown hK hP 0 rfl rfl 4 (by decide) (hts _ q97) (fun _ h => h) rfl dX3_checkCalls_4 ?_
      refine va_get (D := D) (ci := 2) (v := .ref (pa 0)) (C := RX2) (T := TX2) (N := 5) hx hb hts inlX2 hown hK hP 9 rfl rfl 0 (by decide) (hts _ q500) (fun _ h => h) rfl dX3_checkCalls_7 ?_
      refine va_get (D := D) (ci := 6) (v := .int (nI (pr 0))) (C := RX6) (T := TX6) (N := 4) hx hb hts inlX6 hown hK hP 10 rfl rfl 3 (by decide) (hts _ q472) (fun _ h => h) rfl dX3_checkCalls_10 ?_
      refine lv_icmp_ge (tgt := 76) hx hb dX3_checkCalls_13 (by decide) (fun kc1 => ?_) (fun kc1 => ?_)
      · rw [hQ]
        exact vz_vret3 hx hb hr hlk hK hP hD hS vi_2 trivial rfl (Nat.le_refl 0) (Nat.le_refl 0) dX3_checkCalls_76
      · have hn2 : ((nI (pr 0)).toInt - (x1_2 + 1).toInt).toNat < fu2 := by have hq := vz_up kc1; omega
        refine lv_aload_n hx hb dX3_checkCalls_16 rfl (lv_at hl 0 rfl) ?_
        refine va_get (D := D) (ci := 3) (v := .ref ph) (C := RX3) (T := TX3) (N := 12) hx hb hts inlX3 hown hK hP 0 rfl rfl 4 (by decide) (hts _ q97) (fun _ h => h) rfl dX3_checkCalls_17 ?_
        refine va_get (D := D) (ci := 2) (v := .ref (pa 0)) (C := RX2) (T := TX2) (N := 5) hx hb hts inlX2 hown hK hP 9 rfl rfl 0 (by decide) (hts _ q500) (fun _ h => h) rfl dX3_checkCalls_20 ?_
        refine lv_iload_n hx hb dX3_checkCalls_23 rfl (lv_at hl 1 rfl) ?_
        refine lv_iconst (v := 0) hx hb dX3_checkCalls_24 (by decide) ?_
        refine vz_Vi2 (ws' := fun u : Unit => vz_w [rdW g h va vi_2 vr vf (ta 0) ph, tkW g ta tr tf, pgW g ph pa pr pf]) (As := [.int x1_2, .int 0]) (rest := []) hx hb hml hown hts hK hA hP hD hS (c_T_get l D g (pa 0) (pa 1) H.size 12 80 (pr 0) 960 (pf 0) x1_2 0 ⟨rfl, by decide, by decide, by decide, by decide, hw_p 0⟩) kv_X3_92 ⟨Nat.le_of_ble_eq_true rfl, Nat.le_of_ble_eq_true rfl⟩ (q0 := 10) (ci := 6) rfl rfl rfl [10, 11] rfl (by decide) (fun _ => rfl) (fun _ => rfl) hl.1 (Nat.le_of_ble_eq_true rfl) dX3_checkCalls_25 ⟨Nat.le_refl _, Nat.le_refl _⟩ rfl (fun v2 _ H locs he3 _ hP hD hS => ?_)
        refine lv_iconst (v := 1) hx hb dX3_checkCalls_28 (by decide) ?_
        refine lv_icmp_ne (tgt := 70) hx hb dX3_checkCalls_29 (by decide) (fun kc4 => ?_) (fun kc4 => ?_)
        · exact J70 hn2 vi_2 H locs ls hP hD hS (lv_sub hl [0, 1] rfl)
        · refine lv_aload_n hx hb dX3_checkCalls_32 rfl (lv_at hl 0 rfl) ?_
          refine va_get (D := D) (ci := 3) (v := .ref ph) (C := RX3) (T := TX3) (N := 12) hx hb hts inlX3 hown hK hP 0 rfl rfl 4 (by decide) (hts _ q97) (fun _ h => h) rfl dX3_checkCalls_33 ?_
          refine va_get (D := D) (ci := 2) (v := .ref (pa 0)) (C := RX2) (T := TX2) (N := 5) hx hb hts inlX2 hown hK hP 9 rfl rfl 0 (by decide) (hts _ q500) (fun _ h => h) rfl dX3_checkCalls_36 ?_
          refine lv_iload_n hx hb dX3_checkCalls_39 rfl (lv_at hl 1 rfl) ?_
          refine lv_iconst (v := 1) hx hb dX3_checkCalls_40 (by decide) ?_
          refine vz_Vi2 (ws' := fun u : Unit => vz_w [rdW g h va vi_2 vr vf (ta 0) ph, tkW g ta tr tf, pgW g ph pa pr pf]) (As := [.int x1_2, .int 1]) (rest := []) hx hb hml hown hts hK hA hP hD hS (c_T_get l D g (pa 0) (pa 1) H.size 12 80 (pr 0) 960 (pf 0) x1_2 1 ⟨rfl, by decide, by decide, by decide, by decide, hw_p 0⟩) kv_X3_92 ⟨Nat.le_of_ble_eq_true rfl, Nat.le_of_ble_eq_true rfl⟩ (q0 := 10) (ci := 6) rfl rfl rfl [10, 11] rfl (by decide) (fun _ => rfl) (fun _ => rfl) hl.1 (Nat.le_of_ble_eq_true rfl) dX3_checkCalls_41 ⟨Nat.le_refl _, Nat.le_refl _⟩ rfl (fun v5 _ H locs he6 _ hP hD hS => ?_)
          refine lv_aload_n hx hb dX3_checkCalls_44 rfl (lv_at hl 0 rfl) ?_
          refine va_get (D := D) (ci := 3) (v := .ref ph) (C := RX3) (T := TX3) (N := 12) hx hb hts inlX3 hown hK hP 0 rfl rfl 4 (by decide) (hts _ q97) (fun _ h => h) rfl dX3_checkCalls_45 ?_
          refine va_get (D := D) (ci := 2) (v := .ref (pa 8)) (C := RX2) (T := TX2) (N := 5) hx hb hts inlX2 hown hK hP 9 rfl rfl 4 (by decide) (hts _ q444) (fun _ h => h) rfl dX3_checkCalls_48 ?_
          refine va_get (D := D) (ci := 6) (v := .int (nI (pr 4))) (C := RX6) (T := TX6) (N := 4) hx hb hts inlX6 hown hK hP 18 rfl rfl 3 (by decide) (hts _ q472) (fun _ h => h) rfl dX3_checkCalls_51 ?_
          refine lv_icmp_lt (tgt := 70) hx hb dX3_checkCalls_54 (by decide) (fun kc7 => ?_) (fun kc7 => ?_)
          · exact J70 hn2 vi_2 H locs ls hP hD hS (lv_sub hl [0, 1] rfl)
          · refine lv_aload_n hx hb dX3_checkCalls_57 rfl (lv_at hl 0 rfl) ?_
            refine lv_aload_n hx hb dX3_checkCalls_58 rfl (lv_at hl 0 rfl) ?_
            refine va_get (D := D) (ci := 3) (v := .ref (va 4)) (C := RX3) (T := TX3) (N := 12) hx hb hts inlX3 hown hK hP 0 rfl rfl 3 (by decide) (hts _ q101) (fun _ h => h) rfl dX3_checkCalls_59 ?_
            refine lv_iload_n hx hb dX3_checkCalls_62 rfl (lv_at hl 1 rfl) ?_
            refine lv_iconst (v := 0) hx hb dX3_checkCalls_63 (by decide) ?_
            refine vz_Vi2 (ws' := fun u : Unit => vz_w [rdW g h va vi_2 vr vf (ta 0) ph, tkW g ta tr tf, pgW g ph pa pr pf]) (As := [.int x1_2, .int 0]) (rest := [.ref h]) hx hb hml hown hts hK hA hP hD hS (c_T_get l D g (va 4) (va 5) H.size 1 80 (vr 2) 80 (vf 2) x1_2 0 ⟨rfl, by decide, by decide, by decide, by decide, hw_v 2⟩) kv_X3_92 ⟨Nat.le_of_ble_eq_true rfl, Nat.le_of_ble_eq_true rfl⟩ (q0 := 5) (ci := 6) rfl rfl rfl [5, 6] rfl (by decide) (fun _ => rfl) (fun _ => rfl) hl.1 (Nat.le_of_ble_eq_true rfl) dX3_checkCalls_64 ⟨Nat.le_refl _, Nat.le_refl _⟩ rfl (fun v8 _ H locs he9 _ hP hD hS => ?_)
            refine vz_Vv3 (As := [.int v8]) (rest := []) hx hb hml hown hts hK hA hP hD hS (a_D_failLesser l D g H.size h va vi_2 vr vf ta ph tr tf pa pr pf v8 hw_v hw_t hw_p) kv_X3_113 ⟨Nat.le_of_ble_eq_true rfl, Nat.le_of_ble_eq_true rfl⟩ (q0 := 0) (ci := 3) rfl rfl rfl  hl.1 (Nat.le_of_ble_eq_true rfl) dX3_checkCalls_67 ⟨Nat.le_refl _, Nat.le_refl _⟩ rfl (fun vi_10 H locs _ _ hP hD hS => ?_)
            replace hP : va_P D vwCl (vz_w [rdW g h va vi_10 vr vf (ta 0) ph, tkW g ta tr tf, pgW g ph pa pr pf]) H := hP
            replace hD : va_D A (vz_w [rdW g h va vi_10 vr vf (ta 0) ph, tkW g ta tr tf, pgW g ph pa pr pf]) := hD
            exact J70 hn2 vi_10 H locs ls hP hD hS (lv_sub hl [0, 1] rfl)
  refine lv_iconst (v := 0) hx hb dX3_checkCalls_0 (by decide) ?_
  refine lv_istore_n (lv' := [(1, .int 0), (0, .ref h)]) hx hb dX3_checkCalls_1 rfl hl (by decide) rfl (fun ls hl => ?_)
  exact J2 (2 ^ 34) 0 vi (vz_mb _ _) H locs ls hP hD hS (lv_sub hl [1, 0] rfl)
theorem dX3_beginsStatement_0 : decode cX3_beginsStatement 0 = .ok (.iload_n 0, 1) := by decide +kernel
theorem dX3_beginsStatement_1 : decode cX3_beginsStatement 1 = .ok (.iconst 5, 1) := by decide +kernel
theorem dX3_beginsStatement_2 : decode cX3_beginsStatement 2 = .ok (.if_icmp .eq 65, 3) := by decide +kernel
theorem dX3_beginsStatement_5 : decode cX3_beginsStatement 5 = .ok (.iload_n 0, 1) := by decide +kernel
theorem dX3_beginsStatement_6 : decode cX3_beginsStatement 6 = .ok (.bipush 6, 2) := by decide +kernel
theorem dX3_beginsStatement_8 : decode cX3_beginsStatement 8 = .ok (.if_icmp .eq 59, 3) := by decide +kernel
theorem dX3_beginsStatement_11 : decode cX3_beginsStatement 11 = .ok (.iload_n 0, 1) := by decide +kernel
theorem dX3_beginsStatement_12 : decode cX3_beginsStatement 12 = .ok (.sipush 131, 3) := by decide +kernel
theorem dX3_beginsStatement_15 : decode cX3_beginsStatement 15 = .ok (.if_icmp .eq 52, 3) := by decide +kernel
theorem dX3_beginsStatement_18 : decode cX3_beginsStatement 18 = .ok (.iload_n 0, 1) := by decide +kernel
theorem dX3_beginsStatement_19 : decode cX3_beginsStatement 19 = .ok (.sipush 132, 3) := by decide +kernel
theorem dX3_beginsStatement_22 : decode cX3_beginsStatement 22 = .ok (.if_icmp .eq 45, 3) := by decide +kernel
theorem dX3_beginsStatement_25 : decode cX3_beginsStatement 25 = .ok (.iload_n 0, 1) := by decide +kernel
theorem dX3_beginsStatement_26 : decode cX3_beginsStatement 26 = .ok (.sipush 135, 3) := by decide +kernel
theorem dX3_beginsStatement_29 : decode cX3_beginsStatement 29 = .ok (.if_icmp .eq 38, 3) := by decide +kernel
theorem dX3_beginsStatement_32 : decode cX3_beginsStatement 32 = .ok (.iload_n 0, 1) := by decide +kernel
theorem dX3_beginsStatement_33 : decode cX3_beginsStatement 33 = .ok (.sipush 136, 3) := by decide +kernel
theorem dX3_beginsStatement_36 : decode cX3_beginsStatement 36 = .ok (.if_icmp .eq 31, 3) := by decide +kernel
theorem dX3_beginsStatement_39 : decode cX3_beginsStatement 39 = .ok (.iload_n 0, 1) := by decide +kernel
theorem dX3_beginsStatement_40 : decode cX3_beginsStatement 40 = .ok (.sipush 144, 3) := by decide +kernel
theorem dX3_beginsStatement_43 : decode cX3_beginsStatement 43 = .ok (.if_icmp .eq 24, 3) := by decide +kernel
theorem dX3_beginsStatement_46 : decode cX3_beginsStatement 46 = .ok (.iload_n 0, 1) := by decide +kernel
theorem dX3_beginsStatement_47 : decode cX3_beginsStatement 47 = .ok (.sipush 145, 3) := by decide +kernel
theorem dX3_beginsStatement_50 : decode cX3_beginsStatement 50 = .ok (.if_icmp .eq 17, 3) := by decide +kernel
theorem dX3_beginsStatement_53 : decode cX3_beginsStatement 53 = .ok (.iload_n 0, 1) := by decide +kernel
theorem dX3_beginsStatement_54 : decode cX3_beginsStatement 54 = .ok (.sipush 138, 3) := by decide +kernel
theorem dX3_beginsStatement_57 : decode cX3_beginsStatement 57 = .ok (.if_icmp .lt 14, 3) := by decide +kernel
theorem dX3_beginsStatement_60 : decode cX3_beginsStatement 60 = .ok (.iload_n 0, 1) := by decide +kernel
theorem dX3_beginsStatement_61 : decode cX3_beginsStatement 61 = .ok (.sipush 143, 3) := by decide +kernel
theorem dX3_beginsStatement_64 : decode cX3_beginsStatement 64 = .ok (.if_icmp .gt 7, 3) := by decide +kernel
theorem dX3_beginsStatement_67 : decode cX3_beginsStatement 67 = .ok (.iconst 1, 1) := by decide +kernel
theorem dX3_beginsStatement_68 : decode cX3_beginsStatement 68 = .ok (.goto 4, 3) := by decide +kernel
theorem dX3_beginsStatement_71 : decode cX3_beginsStatement 71 = .ok (.iconst 0, 1) := by decide +kernel
theorem dX3_beginsStatement_72 : decode cX3_beginsStatement 72 = .ok (.ireturn, 1) := by decide +kernel
set_option maxHeartbeats 8000000 in
set_option maxRecDepth 100000 in
theorem a_D_beginsStatement (l : Launch) (D : va_G) (g : Nat → ClassId)   (sz : Nat) (n1 : Int32) : vz_Mi l D (tyG g) yX3_beginsStatement cX3_beginsStatement 1 0 0 0 0 .boolean [.int n1] sz (vz_w []) (fun r (u : Unit) => (r = 0 ∨ r = 1)) (fun u => vz_w []) := by
  refine vz_siQ (by decide) (Nat.le_of_ble_eq_true rfl) (fun p e s m args below meth c hx hb hr hml hts hown hlk hin hK hsz A hA H locs hP hD hS ls hl Q hQ => ?_)
  have hl : lv_has ls 1 [(0, .int n1)] := hl
  have J72 : ∀ (y0_72 : Int32), (y0_72 = 0 ∨ y0_72 = 1) → ∀ (H : Heap) (locs : List Loc) (ls : Array Slot), va_P D vwCl (vz_w []) H → va_D A (vz_w []) → va_S A s.heap H locs → lv_has ls 1 [(0, .int n1)] → W p l e { frames := 0, cells := 0, slots := 0, locals := 0 } s m args below meth c H locs 0 0 Q (F0 m 72 ls [.int y0_72]) := by
    intro y0_72 hz_y0_72 H locs ls hP hD hS hl
    rw [hQ]
    exact vz_zret3 hx hb hr hlk hK hP hD hS () hz_y0_72 rfl (Nat.le_refl 0) (Nat.le_refl 0) (vz_nb hz_y0_72) dX3_beginsStatement_72
  have J71 : ∀ (H : Heap) (locs : List Loc) (ls : Array Slot), va_P D vwCl (vz_w []) H → va_D A (vz_w []) → va_S A s.heap H locs → lv_has ls 1 [(0, .int n1)] → W p l e { frames := 0, cells := 0, slots := 0, locals := 0 } s m args below meth c H locs 0 0 Q (F0 m 71 ls []) := by
    intro H locs ls hP hD hS hl
    refine lv_iconst (v := 0) hx hb dX3_beginsStatement_71 (by decide) ?_
    exact J72 0 (Or.inl rfl) H locs ls hP hD hS (lv_sub hl [0] rfl)
  have J67 : ∀ (H : Heap) (locs : List Loc) (ls : Array Slot), va_P D vwCl (vz_w []) H → va_D A (vz_w []) → va_S A s.heap H locs → lv_has ls 1 [(0, .int n1)] → W p l e { frames := 0, cells := 0, slots := 0, locals := 0 } s m args below meth c H locs 0 0 Q (F0 m 67 ls []) := by
    intro H locs ls hP hD hS hl
    refine lv_iconst (v := 1) hx hb dX3_beginsStatement_67 (by decide) ?_
    refine lv_goto (tgt := 72) hx hb dX3_beginsStatement_68 (by decide) ?_
    exact J72 1 (Or.inr rfl) H locs ls hP hD hS (lv_sub hl [0] rfl)
  refine lv_iload_n hx hb dX3_beginsStatement_0 rfl (lv_at hl 0 rfl) ?_
  refine lv_iconst (v := 5) hx hb dX3_beginsStatement_1 (by decide) ?_
  refine lv_icmp_eq (tgt := 67) hx hb dX3_beginsStatement_2 (by decide) (fun kc1 => ?_) (fun kc1 => ?_)
  · exact J67 H locs ls hP hD hS (lv_sub hl [0] rfl)
  · refine lv_iload_n hx hb dX3_beginsStatement_5 rfl (lv_at hl 0 rfl) ?_
    refine lv_bipush (v := 6) hx hb dX3_beginsStatement_6 (by decide) ?_
    refine lv_icmp_eq (tgt := 67) hx hb dX3_beginsStatement_8 (by decide) (fun kc2 => ?_) (fun kc2 => ?_)
    · exact J67 H locs ls hP hD hS (lv_sub hl [0] rfl)
    · refine lv_iload_n hx hb dX3_beginsStatement_11 rfl (lv_at hl 0 rfl) ?_
      refine lv_sipush (v := 131) hx hb dX3_beginsStatement_12 (by decide) ?_
      refine lv_icmp_eq (tgt := 67) hx hb dX3_beginsStatement_15 (by decide) (fun kc3 => ?_) (fun kc3 => ?_)
      · exact J67 H locs ls hP hD hS (lv_sub hl [0] rfl)
      · refine lv_iload_n hx hb dX3_beginsStatement_18 rfl (lv_at hl 0 rfl) ?_
        refine lv_sipush (v := 132) hx hb dX3_beginsStatement_19 (by decide) ?_
        refine lv_icmp_eq (tgt := 67) hx hb dX3_beginsStatement_22 (by decide) (fun kc4 => ?_) (fun kc4 => ?_)
        · exact J67 H locs ls hP hD hS (lv_sub hl [0] rfl)
        · refine lv_iload_n hx hb dX3_beginsStatement_25 rfl (lv_at hl 0 rfl) ?_
          refine lv_sipush (v := 135) hx hb dX3_beginsStatement_26 (by decide) ?_
          refine lv_icmp_eq (tgt := 67) hx hb dX3_beginsStatement_29 (by decide) (fun kc5 => ?_) (fun kc5 => ?_)
          · exact J67 H locs ls hP hD hS (lv_sub hl [0] rfl)
          · refine lv_iload_n hx hb dX3_beginsStatement_32 rfl (lv_at hl 0 rfl) ?_
            refine lv_sipush (v := 136) hx hb dX3_beginsStatement_33 (by decide) ?_
            refine lv_icmp_eq (tgt := 67) hx hb dX3_beginsStatement_36 (by decide) (fun kc6 => ?_) (fun kc6 => ?_)
            · exact J67 H locs ls hP hD hS (lv_sub hl [0] rfl)
            · refine lv_iload_n hx hb dX3_beginsStatement_39 rfl (lv_at hl 0 rfl) ?_
              refine lv_sipush (v := 144) hx hb dX3_beginsStatement_40 (by decide) ?_
              refine lv_icmp_eq (tgt := 67) hx hb dX3_beginsStatement_43 (by decide) (fun kc7 => ?_) (fun kc7 => ?_)
              · exact J67 H locs ls hP hD hS (lv_sub hl [0] rfl)
              · refine lv_iload_n hx hb dX3_beginsStatement_46 rfl (lv_at hl 0 rfl) ?_
                refine lv_sipush (v := 145) hx hb dX3_beginsStatement_47 (by decide) ?_
                refine lv_icmp_eq (tgt := 67) hx hb dX3_beginsStatement_50 (by decide) (fun kc8 => ?_) (fun kc8 => ?_)
                · exact J67 H locs ls hP hD hS (lv_sub hl [0] rfl)
                · refine lv_iload_n hx hb dX3_beginsStatement_53 rfl (lv_at hl 0 rfl) ?_
                  refine lv_sipush (v := 138) hx hb dX3_beginsStatement_54 (by decide) ?_
                  refine lv_icmp_lt (tgt := 71) hx hb dX3_beginsStatement_57 (by decide) (fun kc9 => ?_) (fun kc9 => ?_)
                  · exact J71 H locs ls hP hD hS (lv_sub hl [0] rfl)
                  · refine lv_iload_n hx hb dX3_beginsStatement_60 rfl (lv_at hl 0 rfl) ?_
                    refine lv_sipush (v := 143) hx hb dX3_beginsStatement_61 (by decide) ?_
                    refine lv_icmp_gt (tgt := 71) hx hb dX3_beginsStatement_64 (by decide) (fun kc10 => ?_) (fun kc10 => ?_)
                    · exact J71 H locs ls hP hD hS (lv_sub hl [0] rfl)
                    · exact J67 H locs ls hP hD hS (lv_sub hl [0] rfl)
theorem dX3_joins_0 : decode cX3_joins 0 = .ok (.iload_n 1, 1) := by decide +kernel
theorem dX3_joins_1 : decode cX3_joins 1 = .ok (.ifCond .eq 23, 3) := by decide +kernel
theorem dX3_joins_4 : decode cX3_joins 4 = .ok (.iload_n 0, 1) := by decide +kernel
theorem dX3_joins_5 : decode cX3_joins 5 = .ok (.bipush 43, 2) := by decide +kernel
theorem dX3_joins_7 : decode cX3_joins 7 = .ok (.if_icmp .eq 9, 3) := by decide +kernel
theorem dX3_joins_10 : decode cX3_joins 10 = .ok (.iload_n 0, 1) := by decide +kernel
theorem dX3_joins_11 : decode cX3_joins 11 = .ok (.bipush 45, 2) := by decide +kernel
theorem dX3_joins_13 : decode cX3_joins 13 = .ok (.if_icmp .ne 7, 3) := by decide +kernel
theorem dX3_joins_16 : decode cX3_joins 16 = .ok (.iconst 1, 1) := by decide +kernel
theorem dX3_joins_17 : decode cX3_joins 17 = .ok (.goto 30, 3) := by decide +kernel
theorem dX3_joins_20 : decode cX3_joins 20 = .ok (.iconst 0, 1) := by decide +kernel
theorem dX3_joins_21 : decode cX3_joins 21 = .ok (.goto 26, 3) := by decide +kernel
theorem dX3_joins_24 : decode cX3_joins 24 = .ok (.iload_n 0, 1) := by decide +kernel
theorem dX3_joins_25 : decode cX3_joins 25 = .ok (.bipush 42, 2) := by decide +kernel
theorem dX3_joins_27 : decode cX3_joins 27 = .ok (.if_icmp .eq 15, 3) := by decide +kernel
theorem dX3_joins_30 : decode cX3_joins 30 = .ok (.iload_n 0, 1) := by decide +kernel
theorem dX3_joins_31 : decode cX3_joins 31 = .ok (.bipush 47, 2) := by decide +kernel
theorem dX3_joins_33 : decode cX3_joins 33 = .ok (.if_icmp .eq 9, 3) := by decide +kernel
theorem dX3_joins_36 : decode cX3_joins 36 = .ok (.iload_n 0, 1) := by decide +kernel
theorem dX3_joins_37 : decode cX3_joins 37 = .ok (.bipush 37, 2) := by decide +kernel
theorem dX3_joins_39 : decode cX3_joins 39 = .ok (.if_icmp .ne 7, 3) := by decide +kernel
theorem dX3_joins_42 : decode cX3_joins 42 = .ok (.iconst 1, 1) := by decide +kernel
theorem dX3_joins_43 : decode cX3_joins 43 = .ok (.goto 4, 3) := by decide +kernel
theorem dX3_joins_46 : decode cX3_joins 46 = .ok (.iconst 0, 1) := by decide +kernel
theorem dX3_joins_47 : decode cX3_joins 47 = .ok (.ireturn, 1) := by decide +kernel
set_option maxHeartbeats 8000000 in
set_option maxRecDepth 100000 in
theorem a_D_joins (l : Launch) (D : va_G) (g : Nat → ClassId)   (sz : Nat) (n1 : Int32) (n2 : Int32) : vz_Mi l D (tyG g) yX3_joins cX3_joins 2 0 0 0 0 .boolean [.int n1, .int n2] sz (vz_w []) (fun r (u : Unit) => (r = 0 ∨ r = 1)) (fun u => vz_w []) := by
  refine vz_siQ (by decide) (Nat.le_of_ble_eq_true rfl) (fun p e s m args below meth c hx hb hr hml hts hown hlk hin hK hsz A hA H locs hP hD hS ls hl Q hQ => ?_)
  have hl : lv_has ls 2 [(0, .int n1), (1, .int n2)] := hl
  have J47 : ∀ (y0_47 : Int32), (y0_47 = 0 ∨ y0_47 = 1) → ∀ (H : Heap) (locs : List Loc) (ls : Array Slot), va_P D vwCl (vz_w []) H → va_D A (vz_w []) → va_S A s.heap H locs → lv_has ls 2 [(0, .int n1), (1, .int n2)] → W p l e { frames := 0, cells := 0, slots := 0, locals := 0 } s m args below meth c H locs 0 0 Q (F0 m 47 ls [.int y0_47]) := by
    intro y0_47 hz_y0_47 H locs ls hP hD hS hl
    rw [hQ]
    exact vz_zret3 hx hb hr hlk hK hP hD hS () hz_y0_47 rfl (Nat.le_refl 0) (Nat.le_refl 0) (vz_nb hz_y0_47) dX3_joins_47
  have J42 : ∀ (H : Heap) (locs : List Loc) (ls : Array Slot), va_P D vwCl (vz_w []) H → va_D A (vz_w []) → va_S A s.heap H locs → lv_has ls 2 [(0, .int n1), (1, .int n2)] → W p l e { frames := 0, cells := 0, slots := 0, locals := 0 } s m args below meth c H locs 0 0 Q (F0 m 42 ls []) := by
    intro H locs ls hP hD hS hl
    refine lv_iconst (v := 1) hx hb dX3_joins_42 (by decide) ?_
    refine lv_goto (tgt := 47) hx hb dX3_joins_43 (by decide) ?_
    exact J47 1 (Or.inr rfl) H locs ls hP hD hS (lv_sub hl [0, 1] rfl)
  have J16 : ∀ (H : Heap) (locs : List Loc) (ls : Array Slot), va_P D vwCl (vz_w []) H → va_D A (vz_w []) → va_S A s.heap H locs → lv_has ls 2 [(0, .int n1), (1, .int n2)] → W p l e { frames := 0, cells := 0, slots := 0, locals := 0 } s m args below meth c H locs 0 0 Q (F0 m 16 ls []) := by
    intro H locs ls hP hD hS hl
    refine lv_iconst (v := 1) hx hb dX3_joins_16 (by decide) ?_
    refine lv_goto (tgt := 47) hx hb dX3_joins_17 (by decide) ?_
    exact J47 1 (Or.inr rfl) H locs ls hP hD hS (lv_sub hl [0, 1] rfl)
  refine lv_iload_n hx hb dX3_joins_0 rfl (lv_at hl 1 rfl) ?_
  refine lv_if_eq (tgt := 24) hx hb dX3_joins_1 (by decide) (fun kc1 => ?_) (fun kc1 => ?_)
  · refine lv_iload_n hx hb dX3_joins_24 rfl (lv_at hl 0 rfl) ?_
    refine lv_bipush (v := 42) hx hb dX3_joins_25 (by decide) ?_
    refine lv_icmp_eq (tgt := 42) hx hb dX3_joins_27 (by decide) (fun kc2 => ?_) (fun kc2 => ?_)
    · exact J42 H locs ls hP hD hS (lv_sub hl [0, 1] rfl)
    · refine lv_iload_n hx hb dX3_joins_30 rfl (lv_at hl 0 rfl) ?_
      refine lv_bipush (v := 47) hx hb dX3_joins_31 (by decide) ?_
      refine lv_icmp_eq (tgt := 42) hx hb dX3_joins_33 (by decide) (fun kc3 => ?_) (fun kc3 => ?_)
      · exact J42 H locs ls hP hD hS (lv_sub hl [0, 1] rfl)
      · refine lv_iload_n hx hb dX3_joins_36 rfl (lv_at hl 0 rfl) ?_
        refine lv_bipush (v := 37) hx hb dX3_joins_37 (by decide) ?_
        refine lv_icmp_ne (tgt := 46) hx hb dX3_joins_39 (by decide) (fun kc4 => ?_) (fun kc4 => ?_)
        · refine lv_iconst (v := 0) hx hb dX3_joins_46 (by decide) ?_
          exact J47 0 (Or.inl rfl) H locs ls hP hD hS (lv_sub hl [0, 1] rfl)
        · exact J42 H locs ls hP hD hS (lv_sub hl [0, 1] rfl)
  · refine lv_iload_n hx hb dX3_joins_4 rfl (lv_at hl 0 rfl) ?_
    refine lv_bipush (v := 43) hx hb dX3_joins_5 (by decide) ?_
    refine lv_icmp_eq (tgt := 16) hx hb dX3_joins_7 (by decide) (fun kc5 => ?_) (fun kc5 => ?_)
    · exact J16 H locs ls hP hD hS (lv_sub hl [0, 1] rfl)
    · refine lv_iload_n hx hb dX3_joins_10 rfl (lv_at hl 0 rfl) ?_
      refine lv_bipush (v := 45) hx hb dX3_joins_11 (by decide) ?_
      refine lv_icmp_ne (tgt := 20) hx hb dX3_joins_13 (by decide) (fun kc6 => ?_) (fun kc6 => ?_)
      · refine lv_iconst (v := 0) hx hb dX3_joins_20 (by decide) ?_
        refine lv_goto (tgt := 47) hx hb dX3_joins_21 (by decide) ?_
        exact J47 0 (Or.inl rfl) H locs ls hP hD hS (lv_sub hl [0, 1] rfl)
      · exact J16 H locs ls hP hD hS (lv_sub hl [0, 1] rfl)
theorem q537 : Cond.methodLink RX3 190 yX3_readFactor ∈ wsL_law := mT_3 (List.mem_of_getElem? (i := 196) rfl) rfl
theorem q538 : Cond.instanceMethod yX3_readFactor ∈ wsL_law := mT_3 (List.mem_of_getElem? (i := 198) rfl) rfl
theorem q539 : Cond.selects RX3 yX3_readFactor yX3_readFactor ∈ wsL_law := mS_2 (q := (yX3_readFactor, 12)) (List.mem_of_getElem? (i := 2) rfl) rfl
theorem q548 : Cond.code yX3_readFactor cX3_readFactor 3 (some .int) ∈ wsL_law := mT_3 (List.mem_of_getElem? (i := 199) rfl) rfl
theorem kv_X3_190 : vz_cv RX3 190 yX3_readFactor cX3_readFactor 3 (some .int) 1 := ⟨q537, q538, q539, q28, q548, by decide +kernel⟩
theorem q540 : Cond.methodLink RX3 194 yX3_joins ∈ wsL_law := mT_3 (List.mem_of_getElem? (i := 212) rfl) rfl
theorem q541 : Cond.static yX3_joins ∈ wsL_law := mT_3 (List.mem_of_getElem? (i := 213) rfl) rfl
theorem q542 : Cond.code yX3_joins cX3_joins 2 (some .boolean) ∈ wsL_law := mT_3 (List.mem_of_getElem? (i := 214) rfl) rfl
theorem ks_X3_194 : vz_cs RX3 194 yX3_joins cX3_joins 2 (some .boolean) 2 := ⟨q540, q541, q28, q542, by decide +kernel⟩
theorem q543 : Cond.methodLink RX3 198 yX3_newNode ∈ wsL_law := mT_3 (List.mem_of_getElem? (i := 200) rfl) rfl
theorem q544 : Cond.instanceMethod yX3_newNode ∈ wsL_law := mT_3 (List.mem_of_getElem? (i := 202) rfl) rfl
theorem q545 : Cond.selects RX3 yX3_newNode yX3_newNode ∈ wsL_law := mS_2 (q := (yX3_newNode, 12)) (List.mem_of_getElem? (i := 3) rfl) rfl
theorem q546 : Cond.code yX3_newNode cX3_newNode 4 (some .int) ∈ wsL_law := mT_3 (List.mem_of_getElem? (i := 203) rfl) rfl
theorem kv_X3_198 : vz_cv RX3 198 yX3_newNode cX3_newNode 4 (some .int) 2 := ⟨q543, q544, q545, q28, q546, by decide +kernel⟩
theorem dX3_readList_0 : decode cX3_readList 0 = .ok (.iload_n 2, 1) := by decide +kernel
theorem dX3_readList_1 : decode cX3_readList 1 = .ok (.ifCond .eq 12, 3) := by decide +kernel
theorem dX3_readList_13 : decode cX3_readList 13 = .ok (.aload_n 0, 1) := by decide +kernel
theorem dX3_readList_14 : decode cX3_readList 14 = .ok (.iload_n 1, 1) := by decide +kernel
theorem dX3_readList_15 : decode cX3_readList 15 = .ok (.invokevirtual 190, 3) := by decide +kernel
theorem dX3_readList_18 : decode cX3_readList 18 = .ok (.istore_n 3, 1) := by decide +kernel
theorem dX3_readList_19 : decode cX3_readList 19 = .ok (.iload_n 3, 1) := by decide +kernel
theorem dX3_readList_20 : decode cX3_readList 20 = .ok (.istore 4, 2) := by decide +kernel
theorem dX3_readList_22 : decode cX3_readList 22 = .ok (.iload_n 3, 1) := by decide +kernel
theorem dX3_readList_23 : decode cX3_readList 23 = .ok (.istore 5, 2) := by decide +kernel
theorem dX3_readList_25 : decode cX3_readList 25 = .ok (.iconst 0, 1) := by decide +kernel
theorem dX3_readList_26 : decode cX3_readList 26 = .ok (.istore 6, 2) := by decide +kernel
theorem dX3_readList_28 : decode cX3_readList 28 = .ok (.iload 6, 2) := by decide +kernel
theorem dX3_readList_30 : decode cX3_readList 30 = .ok (.sipush 1000, 3) := by decide +kernel
theorem dX3_readList_33 : decode cX3_readList 33 = .ok (.if_icmp .ge 111, 3) := by decide +kernel
theorem dX3_readList_36 : decode cX3_readList 36 = .ok (.aload_n 0, 1) := by decide +kernel
theorem dX3_readList_37 : decode cX3_readList 37 = .ok (.getfield 41, 3) := by decide +kernel
theorem dX3_readList_40 : decode cX3_readList 40 = .ok (.iload_n 2, 1) := by decide +kernel
theorem dX3_readList_41 : decode cX3_readList 41 = .ok (.invokestatic 194, 3) := by decide +kernel
theorem dX3_readList_44 : decode cX3_readList 44 = .ok (.ifCond .eq 100, 3) := by decide +kernel
theorem dX3_readList_47 : decode cX3_readList 47 = .ok (.aload_n 0, 1) := by decide +kernel
theorem dX3_readList_48 : decode cX3_readList 48 = .ok (.getfield 41, 3) := by decide +kernel
theorem dX3_readList_51 : decode cX3_readList 51 = .ok (.istore 7, 2) := by decide +kernel
theorem dX3_readList_53 : decode cX3_readList 53 = .ok (.aload_n 0, 1) := by decide +kernel
theorem dX3_readList_54 : decode cX3_readList 54 = .ok (.invokevirtual 89, 3) := by decide +kernel
theorem dX3_readList_57 : decode cX3_readList 57 = .ok (.iload_n 2, 1) := by decide +kernel
theorem dX3_readList_58 : decode cX3_readList 58 = .ok (.ifCond .eq 12, 3) := by decide +kernel
theorem dX3_readList_70 : decode cX3_readList 70 = .ok (.aload_n 0, 1) := by decide +kernel
theorem dX3_readList_71 : decode cX3_readList 71 = .ok (.iload_n 1, 1) := by decide +kernel
theorem dX3_readList_72 : decode cX3_readList 72 = .ok (.invokevirtual 190, 3) := by decide +kernel
theorem dX3_readList_75 : decode cX3_readList 75 = .ok (.istore 8, 2) := by decide +kernel
theorem dX3_readList_77 : decode cX3_readList 77 = .ok (.iload 6, 2) := by decide +kernel
theorem dX3_readList_79 : decode cX3_readList 79 = .ok (.ifCond .ne 25, 3) := by decide +kernel
theorem dX3_readList_82 : decode cX3_readList 82 = .ok (.aload_n 0, 1) := by decide +kernel
theorem dX3_readList_83 : decode cX3_readList 83 = .ok (.iconst 5, 1) := by decide +kernel
theorem dX3_readList_84 : decode cX3_readList 84 = .ok (.iconst 0, 1) := by decide +kernel
theorem dX3_readList_85 : decode cX3_readList 85 = .ok (.invokevirtual 198, 3) := by decide +kernel
theorem dX3_readList_88 : decode cX3_readList 88 = .ok (.istore 4, 2) := by decide +kernel
theorem dX3_readList_90 : decode cX3_readList 90 = .ok (.aload_n 0, 1) := by decide +kernel
theorem dX3_readList_91 : decode cX3_readList 91 = .ok (.getfield 15, 3) := by decide +kernel
theorem dX3_readList_94 : decode cX3_readList 94 = .ok (.getfield 201, 3) := by decide +kernel
theorem dX3_readList_97 : decode cX3_readList 97 = .ok (.iload 4, 2) := by decide +kernel
theorem dX3_readList_99 : decode cX3_readList 99 = .ok (.iconst 2, 1) := by decide +kernel
theorem dX3_readList_100 : decode cX3_readList 100 = .ok (.iload_n 3, 1) := by decide +kernel
theorem dX3_readList_101 : decode cX3_readList 101 = .ok (.invokevirtual 60, 3) := by decide +kernel
theorem dX3_readList_104 : decode cX3_readList 104 = .ok (.aload_n 0, 1) := by decide +kernel
theorem dX3_readList_105 : decode cX3_readList 105 = .ok (.getfield 15, 3) := by decide +kernel
theorem dX3_readList_108 : decode cX3_readList 108 = .ok (.getfield 201, 3) := by decide +kernel
theorem dX3_readList_111 : decode cX3_readList 111 = .ok (.iload 8, 2) := by decide +kernel
theorem dX3_readList_113 : decode cX3_readList 113 = .ok (.iconst 4, 1) := by decide +kernel
theorem dX3_readList_114 : decode cX3_readList 114 = .ok (.iload 7, 2) := by decide +kernel
theorem dX3_readList_116 : decode cX3_readList 116 = .ok (.invokevirtual 60, 3) := by decide +kernel
theorem dX3_readList_119 : decode cX3_readList 119 = .ok (.aload_n 0, 1) := by decide +kernel
theorem dX3_readList_120 : decode cX3_readList 120 = .ok (.getfield 15, 3) := by decide +kernel
theorem dX3_readList_123 : decode cX3_readList 123 = .ok (.getfield 201, 3) := by decide +kernel
theorem dX3_readList_126 : decode cX3_readList 126 = .ok (.iload 5, 2) := by decide +kernel
theorem dX3_readList_128 : decode cX3_readList 128 = .ok (.iconst 3, 1) := by decide +kernel
theorem dX3_readList_129 : decode cX3_readList 129 = .ok (.iload 8, 2) := by decide +kernel
theorem dX3_readList_131 : decode cX3_readList 131 = .ok (.invokevirtual 60, 3) := by decide +kernel
theorem dX3_readList_134 : decode cX3_readList 134 = .ok (.iload 8, 2) := by decide +kernel
theorem dX3_readList_136 : decode cX3_readList 136 = .ok (.istore 5, 2) := by decide +kernel
theorem dX3_readList_138 : decode cX3_readList 138 = .ok (.iinc 6 1, 3) := by decide +kernel
theorem dX3_readList_141 : decode cX3_readList 141 = .ok (.goto (-113), 3) := by decide +kernel
theorem dX3_readList_144 : decode cX3_readList 144 = .ok (.iload 4, 2) := by decide +kernel
theorem dX3_readList_146 : decode cX3_readList 146 = .ok (.ireturn, 1) := by decide +kernel
set_option maxHeartbeats 8000000 in
set_option maxRecDepth 100000 in
theorem a_D_list0 (l : Launch) (D : va_G) (g : Nat → ClassId) (dn : Nat) (hB : ∀ (sz : Nat) (h : Nat) (va : Nat → Nat) (vi : Nat → Int32) (vr : Nat → Nat) (vf : Nat → Nat → Int32) (ta : Nat → Nat) (ph : Nat) (tr : Nat → Nat) (tf : Nat → Nat → Int32) (pa : Nat → Nat) (pr : Nat → Nat) (pf : Nat → Nat → Int32) (hw_v : ∀ k, vr k ≤ rdW_lim k) (hw_t : ∀ k, tr k ≤ tkW_lim k) (hw_p : ∀ k, pr k ≤ pgW_lim k), vz_Mi l D (tyG g) yX3_readFactor cX3_readFactor 3 (4 * (8 - dn) + 10) (100 * (8 - dn) + 300) 0 0 .int [.ref h, .int (nI dn)] sz (vz_w [rdW g h va vi vr vf (ta 0) ph, tkW g ta tr tf, pgW g ph pa pr pf]) (fun r (u : (Nat → Int32) × (Nat → Nat) × (Nat → Nat → Int32)) => (∀ k, u.2.1 k ≤ pgW_lim k)) (fun u => vz_w [rdW g h va u.1 vr vf (ta 0) ph, tkW g ta tr tf, pgW g ph pa u.2.1 u.2.2])) (sz : Nat) (h : Nat) (va : Nat → Nat) (vi : Nat → Int32) (vr : Nat → Nat) (vf : Nat → Nat → Int32) (ta : Nat → Nat) (ph : Nat) (tr : Nat → Nat) (tf : Nat → Nat → Int32) (pa : Nat → Nat) (pr : Nat → Nat) (pf : Nat → Nat → Int32) (hw_v : ∀ k, vr k ≤ rdW_lim k) (hw_t : ∀ k, tr k ≤ tkW_lim k) (hw_p : ∀ k, pr k ≤ pgW_lim k) : vz_Mi l D (tyG g) yX3_readList cX3_readList 9 (4 * (8 - dn) + 11) (100 * (8 - dn) + 322) 0 0 .int [.ref h, .int (nI dn), .int 0] sz (vz_w [rdW g h va vi vr vf (ta 0) ph, tkW g ta tr tf, pgW g ph pa pr pf]) (fun r (u : (Nat → Int32) × (Nat → Nat) × (Nat → Nat → Int32)) => (∀ k, u.2.1 k ≤ pgW_lim k)) (fun u => vz_w [rdW g h va u.1 vr vf (ta 0) ph, tkW g ta tr tf, pgW g ph pa u.2.1 u.2.2]) := by
  refine vz_siQ (by decide) (Nat.le_of_ble_eq_true rfl) (fun p e s m args below meth c hx hb hr hml hts hown hlk hin hK hsz A hA H locs hP hD hS ls hl Q hQ => ?_)
  have hl : lv_has ls 9 [(0, .ref h), (1, .int (nI dn)), (2, .int 0)] := hl
  have J144 : ∀ (x3_144 : Int32), ∀ (x4_144 : Int32), ∀ (x5_144 : Int32), ∀ (x6_144 : Int32), ∀ (vi_144 : Nat → Int32), ∀ (pr_144 : Nat → Nat), ∀ (pf_144 : Nat → Nat → Int32), (∀ k, pr_144 k ≤ pgW_lim k) → ∀ (H : Heap) (locs : List Loc) (ls : Array Slot), va_P D vwCl (vz_w [rdW g h va vi_144 vr vf (ta 0) ph, tkW g ta tr tf, pgW g ph pa pr_144 pf_144]) H → va_D A (vz_w [rdW g h va vi_144 vr vf (ta 0) ph, tkW g ta tr tf, pgW g ph pa pr_144 pf_144]) → va_S A s.heap H locs → lv_has ls 9 [(0, .ref h), (1, .int (nI dn)), (2, .int 0), (3, .int x3_144), (4, .int x4_144), (5, .int x5_144), (6, .int x6_144)] → W p l e { frames := (4 * (8 - dn) + 11), cells := 0, slots := 0, locals := (100 * (8 - dn) + 322) } s m args below meth c H locs 0 0 Q (F0 m 144 ls []) := by
    intro x3_144 x4_144 x5_144 x6_144 vi_144 pr_144 pf_144 hw_p_144 H locs ls hP hD hS hl
    refine lv_iload hx hb dX3_readList_144 (lv_at hl 4 rfl) ?_
    rw [hQ]
    exact vz_iret3 hx hb hr hlk hK hP hD hS (vi_144, pr_144, pf_144) hw_p_144 rfl (Nat.le_refl 0) (Nat.le_refl 0) dX3_readList_146
  have J28 : ∀ (fu28 n28 : Nat), 1000 - n28 < fu28 → n28 ≤ 1000 → ∀ (x3_28 : Int32), ∀ (x4_28 : Int32), ∀ (x5_28 : Int32), ∀ (vi_28 : Nat → Int32), ∀ (pr_28 : Nat → Nat), ∀ (pf_28 : Nat → Nat → Int32), (∀ k, pr_28 k ≤ pgW_lim k) → ∀ (H : Heap) (locs : List Loc) (ls : Array Slot), va_P D vwCl (vz_w [rdW g h va vi_28 vr vf (ta 0) ph, tkW g ta tr tf, pgW g ph pa pr_28 pf_28]) H → va_D A (vz_w [rdW g h va vi_28 vr vf (ta 0) ph, tkW g ta tr tf, pgW g ph pa pr_28 pf_28]) → va_S A s.heap H locs → lv_has ls 9 [(0, .ref h), (1, .int (nI dn)), (2, .int 0), (3, .int x3_28), (4, .int x4_28), (5, .int x5_28), (6, .int (nI n28))] → W p l e { frames := (4 * (8 - dn) + 11), cells := 0, slots := 0, locals := (100 * (8 - dn) + 322) } s m args below meth c H locs 0 0 Q (F0 m 28 ls []) := by
    intro fu28
    induction fu28 with
    | zero => intro n28 z; omega
    | succ fu28 ih28 =>
      intro n28 hf28 hb28 x3_28 x4_28 x5_28 vi_28 pr_28 pf_28 hw_p_28 H locs ls hP hD hS hl
      have J104 : n28 < 1000 → ∀ (x4_104 : Int32), ∀ (x7_104 : Int32), ∀ (x8_104 : Int32), ∀ (vi_104 : Nat → Int32), ∀ (pr_104 : Nat → Nat), ∀ (pf_104 : Nat → Nat → Int32), (∀ k, pr_104 k ≤ pgW_lim k) → ∀ (H : Heap) (locs : List Loc) (ls : Array Slot), va_P D vwCl (vz_w [rdW g h va vi_104 vr vf (ta 0) ph, tkW g ta tr tf, pgW g ph pa pr_104 pf_104]) H → va_D A (vz_w [rdW g h va vi_104 vr vf (ta 0) ph, tkW g ta tr tf, pgW g ph pa pr_104 pf_104]) → va_S A s.heap H locs → lv_has ls 9 [(0, .ref h), (1, .int (nI dn)), (2, .int 0), (3, .int x3_28), (4, .int x4_104), (5, .int x5_28), (6, .int (nI n28)), (7, .int x7_104), (8, .int x8_104)] → W p l e { frames := (4 * (8 - dn) + 11), cells := 0, slots := 0, locals := (100 * (8 - dn) + 322) } s m args below meth c H locs 0 0 Q (F0 m 104 ls []) := by
        intro hn28 x4_104 x7_104 x8_104 vi_104 pr_104 pf_104 hw_p_104 H locs ls hP hD hS hl
        refine lv_aload_n hx hb dX3_readList_104 rfl (lv_at hl 0 rfl) ?_
        refine va_get (D := D) (ci := 3) (v := .ref ph) (C := RX3) (T := TX3) (N := 12) hx hb hts inlX3 hown hK hP 0 rfl rfl 4 (by decide) (hts _ q97) (fun _ h => h) rfl dX3_readList_105 ?_
        refine va_get (D := D) (ci := 2) (v := .ref (pa 2)) (C := RX2) (T := TX2) (N := 5) hx hb hts inlX2 hown hK hP 9 rfl rfl 1 (by decide) (hts _ q536) (fun _ h => h) rfl dX3_readList_108 ?_
        refine lv_iload hx hb dX3_readList_111 (lv_at hl 8 rfl) ?_
        refine lv_iconst (v := 4) hx hb dX3_readList_113 (by decide) ?_
        refine lv_iload hx hb dX3_readList_114 (lv_at hl 7 rfl) ?_
        refine vz_Vv2 (ws' := fun u : (Nat → Int32) => vz_w [rdW g h va vi_104 vr vf (ta 0) ph, tkW g ta tr tf, pgW g ph pa pr_104 (vz_uf pf_104 1 u)]) (As := [.int x8_104, .int 4, .int x7_104]) (rest := []) hx hb hml hown hts hK hA hP hD hS (c_T_set l D g (pa 2) (pa 3) H.size 5 1000 (pr_104 1) 5000 (pf_104 1) x8_104 4 x7_104 ⟨rfl, by decide, by decide, by decide, by decide, hw_p_104 1⟩) kv_X3_60 ⟨by dsimp only; omega, by dsimp only; omega⟩ (q0 := 12) (ci := 6) rfl rfl rfl [12, 13] rfl (by decide) (fun _ => rfl) (fun _ => rfl) hl.1 (Nat.le_of_ble_eq_true rfl) dX3_readList_116 ⟨Nat.le_refl _, Nat.le_refl _⟩ rfl (fun nf1 H locs _ _ hP hD hS => ?_)
        obtain ⟨pf_2, hP, hD⟩ : ∃ pf_2 : Nat → Nat → Int32, va_P D vwCl (vz_w [rdW g h va vi_104 vr vf (ta 0) ph, tkW g ta tr tf, pgW g ph pa pr_104 pf_2]) H ∧ va_D A (vz_w [rdW g h va vi_104 vr vf (ta 0) ph, tkW g ta tr tf, pgW g ph pa pr_104 pf_2]) := ⟨(vz_uf pf_104 1 nf1), hP, hD⟩
        refine lv_aload_n hx hb dX3_readList_119 rfl (lv_at hl 0 rfl) ?_
        refine va_get (D := D) (ci := 3) (v := .ref ph) (C := RX3) (T := TX3) (N := 12) hx hb hts inlX3 hown hK hP 0 rfl rfl 4 (by decide) (hts _ q97) (fun _ h => h) rfl dX3_readList_120 ?_
        refine va_get (D := D) (ci := 2) (v := .ref (pa 2)) (C := RX2) (T := TX2) (N := 5) hx hb hts inlX2 hown hK hP 9 rfl rfl 1 (by decide) (hts _ q536) (fun _ h => h) rfl dX3_readList_123 ?_
        refine lv_iload hx hb dX3_readList_126 (lv_at hl 5 rfl) ?_
        refine lv_iconst (v := 3) hx hb dX3_readList_128 (by decide) ?_
        refine lv_iload hx hb dX3_readList_129 (lv_at hl 8 rfl) ?_
        refine vz_Vv2 (ws' := fun u : (Nat → Int32) => vz_w [rdW g h va vi_104 vr vf (ta 0) ph, tkW g ta tr tf, pgW g ph pa pr_104 (vz_uf pf_2 1 u)]) (As := [.int x5_28, .int 3, .int x8_104]) (rest := []) hx hb hml hown hts hK hA hP hD hS (c_T_set l D g (pa 2) (pa 3) H.size 5 1000 (pr_104 1) 5000 (pf_2 1) x5_28 3 x8_104 ⟨rfl, by decide, by decide, by decide, by decide, hw_p_104 1⟩) kv_X3_60 ⟨by dsimp only; omega, by dsimp only; omega⟩ (q0 := 12) (ci := 6) rfl rfl rfl [12, 13] rfl (by decide) (fun _ => rfl) (fun _ => rfl) hl.1 (Nat.le_of_ble_eq_true rfl) dX3_readList_131 ⟨Nat.le_refl _, Nat.le_refl _⟩ rfl (fun nf3 H locs _ _ hP hD hS => ?_)
        obtain ⟨pf_4, hP, hD⟩ : ∃ pf_4 : Nat → Nat → Int32, va_P D vwCl (vz_w [rdW g h va vi_104 vr vf (ta 0) ph, tkW g ta tr tf, pgW g ph pa pr_104 pf_4]) H ∧ va_D A (vz_w [rdW g h va vi_104 vr vf (ta 0) ph, tkW g ta tr tf, pgW g ph pa pr_104 pf_4]) := ⟨(vz_uf pf_2 1 nf3), hP, hD⟩
        refine lv_iload hx hb dX3_readList_134 (lv_at hl 8 rfl) ?_
        refine lv_istore (lv' := [(5, .int x8_104), (0, .ref h), (1, .int (nI dn)), (2, .int 0), (3, .int x3_28), (4, .int x4_104), (6, .int (nI n28)), (7, .int x7_104), (8, .int x8_104)]) hx hb dX3_readList_136 hl (by decide) rfl (fun ls hl => ?_)
        refine lv_iinc (v := (nI (n28 + 1))) (lv' := [(6, .int (nI (n28 + 1))), (5, .int x8_104), (0, .ref h), (1, .int (nI dn)), (2, .int 0), (3, .int x3_28), (4, .int x4_104), (7, .int x7_104), (8, .int x8_104)]) hx hb dX3_readList_138 hl (k := 6) rfl (nI_1 n28) (by decide) rfl (fun ls hl => ?_)
        refine lv_goto (tgt := 28) hx hb dX3_readList_141 (by decide) ?_
        exact ih28 (n28 + 1) (by omega) (by omega) x3_28 x4_104 x8_104 vi_104 pr_104 pf_4 hw_p_104 H locs ls hP hD hS (lv_sub hl [2, 3, 4, 5, 6, 1, 0] rfl)
      have J75 : n28 < 1000 → ∀ (x7_75 : Int32), ∀ (y0_75 : Int32), ∀ (vi_75 : Nat → Int32), ∀ (pr_75 : Nat → Nat), ∀ (pf_75 : Nat → Nat → Int32), (∀ k, pr_75 k ≤ pgW_lim k) → ∀ (H : Heap) (locs : List Loc) (ls : Array Slot), va_P D vwCl (vz_w [rdW g h va vi_75 vr vf (ta 0) ph, tkW g ta tr tf, pgW g ph pa pr_75 pf_75]) H → va_D A (vz_w [rdW g h va vi_75 vr vf (ta 0) ph, tkW g ta tr tf, pgW g ph pa pr_75 pf_75]) → va_S A s.heap H locs → lv_has ls 9 [(0, .ref h), (1, .int (nI dn)), (2, .int 0), (3, .int x3_28), (4, .int x4_28), (5, .int x5_28), (6, .int (nI n28)), (7, .int x7_75)] → W p l e { frames := (4 * (8 - dn) + 11), cells := 0, slots := 0, locals := (100 * (8 - dn) + 322) } s m args below meth c H locs 0 0 Q (F0 m 75 ls [.int y0_75]) := by
        intro hn28 x7_75 y0_75 vi_75 pr_75 pf_75 hw_p_75 H locs ls hP hD hS hl
        refine lv_istore (lv' := [(8, .int y0_75), (0, .ref h), (1, .int (nI dn)), (2, .int 0), (3, .int x3_28), (4, .int x4_28), (5, .int x5_28), (6, .int (nI n28)), (7, .int x7_75)]) hx hb dX3_readList_75 hl (by decide) rfl (fun ls hl => ?_)
        refine lv_iload hx hb dX3_readList_77 (lv_at hl 7 rfl) ?_
        refine lv_if_ne (tgt := 104) hx hb dX3_readList_79 (by decide) (fun kc1 => ?_) (fun kc1 => ?_)
        · exact J104 hn28 x4_28 x7_75 y0_75 vi_75 pr_75 pf_75 hw_p_75 H locs ls hP hD hS (lv_sub hl [1, 2, 3, 4, 5, 6, 7, 8, 0] rfl)
        · refine lv_aload_n hx hb dX3_readList_82 rfl (lv_at hl 1 rfl) ?_
          refine lv_iconst (v := 5) hx hb dX3_readList_83 (by decide) ?_
          refine lv_iconst (v := 0) hx hb dX3_readList_84 (by decide) ?_
          refine vz_Vi3 (As := [.int 5, .int 0]) (rest := []) hx hb hml hown hts hK hA hP hD hS (a_D_newNode l D g H.size h va vi_75 vr vf ta ph tr tf pa pr_75 pf_75 5 0 hw_v hw_t hw_p_75) kv_X3_198 ⟨by dsimp only; omega, by dsimp only; omega⟩ (q0 := 0) (ci := 3) rfl rfl rfl  hl.1 (Nat.le_of_ble_eq_true rfl) dX3_readList_85 ⟨Nat.le_refl _, Nat.le_refl _⟩ rfl (fun v5 ⟨pr_2, pf_3⟩ H locs hw_4 _ hP hD hS => ?_)
          try dsimp only at hw_4
          replace hP : va_P D vwCl (vz_w [rdW g h va vi_75 vr vf (ta 0) ph, tkW g ta tr tf, pgW g ph pa pr_2 pf_3]) H := hP
          replace hD : va_D A (vz_w [rdW g h va vi_75 vr vf (ta 0) ph, tkW g ta tr tf, pgW g ph pa pr_2 pf_3]) := hD
          refine lv_istore (lv' := [(4, .int v5), (8, .int y0_75), (0, .ref h), (1, .int (nI dn)), (2, .int 0), (3, .int x3_28), (5, .int x5_28), (6, .int (nI n28)), (7, .int x7_75)]) hx hb dX3_readList_88 hl (by decide) rfl (fun ls hl => ?_)
          refine lv_aload_n hx hb dX3_readList_90 rfl (lv_at hl 2 rfl) ?_
          refine va_get (D := D) (ci := 3) (v := .ref ph) (C := RX3) (T := TX3) (N := 12) hx hb hts inlX3 hown hK hP 0 rfl rfl 4 (by decide) (hts _ q97) (fun _ h => h) rfl dX3_readList_91 ?_
          refine va_get (D := D) (ci := 2) (v := .ref (pa 2)) (C := RX2) (T := TX2) (N := 5) hx hb hts inlX2 hown hK hP 9 rfl rfl 1 (by decide) (hts _ q536) (fun _ h => h) rfl dX3_readList_94 ?_
          refine lv_iload hx hb dX3_readList_97 (lv_at hl 0 rfl) ?_
          refine lv_iconst (v := 2) hx hb dX3_readList_99 (by decide) ?_
          refine lv_iload_n hx hb dX3_readList_100 rfl (lv_at hl 5 rfl) ?_
          refine vz_Vv2 (ws' := fun u : (Nat → Int32) => vz_w [rdW g h va vi_75 vr vf (ta 0) ph, tkW g ta tr tf, pgW g ph pa pr_2 (vz_uf pf_3 1 u)]) (As := [.int v5, .int 2, .int x3_28]) (rest := []) hx hb hml hown hts hK hA hP hD hS (c_T_set l D g (pa 2) (pa 3) H.size 5 1000 (pr_2 1) 5000 (pf_3 1) v5 2 x3_28 ⟨rfl, by decide, by decide, by decide, by decide, hw_4 1⟩) kv_X3_60 ⟨by dsimp only; omega, by dsimp only; omega⟩ (q0 := 12) (ci := 6) rfl rfl rfl [12, 13] rfl (by decide) (fun _ => rfl) (fun _ => rfl) hl.1 (Nat.le_of_ble_eq_true rfl) dX3_readList_101 ⟨Nat.le_refl _, Nat.le_refl _⟩ rfl (fun nf6 H locs _ _ hP hD hS => ?_)
          obtain ⟨pf_7, hP, hD⟩ : ∃ pf_7 : Nat → Nat → Int32, va_P D vwCl (vz_w [rdW g h va vi_75 vr vf (ta 0) ph, tkW g ta tr tf, pgW g ph pa pr_2 pf_7]) H ∧ va_D A (vz_w [rdW g h va vi_75 vr vf (ta 0) ph, tkW g ta tr tf, pgW g ph pa pr_2 pf_7]) := ⟨(vz_uf pf_3 1 nf6), hP, hD⟩
          exact J104 hn28 v5 x7_75 y0_75 vi_75 pr_2 pf_7 hw_4 H locs ls hP hD hS (lv_sub hl [2, 3, 4, 5, 0, 6, 7, 8, 1] rfl)
      refine lv_iload hx hb dX3_readList_28 (lv_at hl 6 rfl) ?_
      refine lv_sipush (v := 1000) hx hb dX3_readList_30 (by decide) ?_
      refine lv_icmp_ge (tgt := 144) hx hb dX3_readList_33 (by decide) (fun kc1 => ?_) (fun kc1 => ?_)
      · exact J144 x3_28 x4_28 x5_28 (nI n28) vi_28 pr_28 pf_28 hw_p_28 H locs ls hP hD hS (lv_sub hl [0, 1, 2, 3, 4, 5, 6] rfl)
      · have hn28 : n28 < 1000 := vz_ltge (B := 1000) (by omega) kc1
        refine lv_aload_n hx hb dX3_readList_36 rfl (lv_at hl 0 rfl) ?_
        refine va_get (D := D) (ci := 3) (v := .int (vi_28 1)) (C := RX3) (T := TX3) (N := 12) hx hb hts inlX3 hown hK hP 0 rfl rfl 6 (by decide) (hts _ q443) (fun _ h => h) rfl dX3_readList_37 ?_
        refine lv_iload_n hx hb dX3_readList_40 rfl (lv_at hl 2 rfl) ?_
        refine vz_Si4 (n9 := 3) (bs2 := fun u : Unit => [rdW g h va vi_28 vr vf (ta 0) ph, tkW g ta tr tf, pgW g ph pa pr_28 pf_28]) (br := [rdW g h va vi_28 vr vf (ta 0) ph, tkW g ta tr tf, pgW g ph pa pr_28 pf_28]) (As := [.int (vi_28 1), .int 0]) (rest := []) hx hb hml hown hts hK hA hP hD hS (a_D_joins l D g H.size (vi_28 1) 0) ks_X3_194 ⟨by dsimp only; omega, by dsimp only; omega⟩ [] [0, 1, 2] rfl (by decide) rfl (fun _ => rfl) (fun _ => rfl) hl.1 (Nat.le_of_ble_eq_true rfl) dX3_readList_41 ⟨Nat.le_refl _, Nat.le_refl _⟩ rfl (fun v2 _ H locs hz3 _ hP hD hS => ?_)
        refine lv_if_eq (tgt := 144) hx hb dX3_readList_44 (by decide) (fun kc4 => ?_) (fun kc4 => ?_)
        · exact J144 x3_28 x4_28 x5_28 (nI n28) vi_28 pr_28 pf_28 hw_p_28 H locs ls hP hD hS (lv_sub hl [0, 1, 2, 3, 4, 5, 6] rfl)
        · refine lv_aload_n hx hb dX3_readList_47 rfl (lv_at hl 0 rfl) ?_
          refine va_get (D := D) (ci := 3) (v := .int (vi_28 1)) (C := RX3) (T := TX3) (N := 12) hx hb hts inlX3 hown hK hP 0 rfl rfl 6 (by decide) (hts _ q443) (fun _ h => h) rfl dX3_readList_48 ?_
          refine lv_istore (lv' := [(7, .int (vi_28 1)), (0, .ref h), (1, .int (nI dn)), (2, .int 0), (3, .int x3_28), (4, .int x4_28), (5, .int x5_28), (6, .int (nI n28))]) hx hb dX3_readList_51 hl (by decide) rfl (fun ls hl => ?_)
          refine lv_aload_n hx hb dX3_readList_53 rfl (lv_at hl 1 rfl) ?_
          refine vz_Vv3 (As := []) (rest := []) hx hb hml hown hts hK hA hP hD hS (a_D_advance l D g H.size h va vi_28 vr vf ta ph tr tf pa pr_28 pf_28 hw_v hw_t hw_p_28) kv_X3_89 ⟨by dsimp only; omega, by dsimp only; omega⟩ (q0 := 0) (ci := 3) rfl rfl rfl  hl.1 (Nat.le_of_ble_eq_true rfl) dX3_readList_54 ⟨Nat.le_refl _, Nat.le_refl _⟩ rfl (fun vi_5 H locs _ _ hP hD hS => ?_)
          replace hP : va_P D vwCl (vz_w [rdW g h va vi_5 vr vf (ta 0) ph, tkW g ta tr tf, pgW g ph pa pr_28 pf_28]) H := hP
          replace hD : va_D A (vz_w [rdW g h va vi_5 vr vf (ta 0) ph, tkW g ta tr tf, pgW g ph pa pr_28 pf_28]) := hD
          refine lv_iload_n hx hb dX3_readList_57 rfl (lv_at hl 3 rfl) ?_
          refine lv_if_eq (tgt := 70) hx hb dX3_readList_58 (by decide) (fun _ => ?_) (fun h9 => absurd (by decide) h9)
          refine lv_aload_n hx hb dX3_readList_70 rfl (lv_at hl 1 rfl) ?_
          refine lv_iload_n hx hb dX3_readList_71 rfl (lv_at hl 2 rfl) ?_
          refine vz_Vi3 (As := [.int (nI dn)]) (rest := []) hx hb hml hown hts hK hA hP hD hS (hB H.size h va vi_5 vr vf ta ph tr tf pa pr_28 pf_28 hw_v hw_t hw_p_28) kv_X3_190 ⟨by dsimp only; omega, by dsimp only; omega⟩ (q0 := 0) (ci := 3) rfl rfl rfl  hl.1 (Nat.le_of_ble_eq_true rfl) dX3_readList_72 ⟨Nat.le_refl _, Nat.le_refl _⟩ rfl (fun v10 ⟨vi_6, pr_7, pf_8⟩ H locs hw_9 _ hP hD hS => ?_)
          try dsimp only at hw_9
          replace hP : va_P D vwCl (vz_w [rdW g h va vi_6 vr vf (ta 0) ph, tkW g ta tr tf, pgW g ph pa pr_7 pf_8]) H := hP
          replace hD : va_D A (vz_w [rdW g h va vi_6 vr vf (ta 0) ph, tkW g ta tr tf, pgW g ph pa pr_7 pf_8]) := hD
          exact J75 hn28 (vi_28 1) v10 vi_6 pr_7 pf_8 hw_9 H locs ls hP hD hS (lv_sub hl [1, 2, 3, 4, 5, 6, 7, 0] rfl)
  have J18 : ∀ (y0_18 : Int32), ∀ (vi_18 : Nat → Int32), ∀ (pr_18 : Nat → Nat), ∀ (pf_18 : Nat → Nat → Int32), (∀ k, pr_18 k ≤ pgW_lim k) → ∀ (H : Heap) (locs : List Loc) (ls : Array Slot), va_P D vwCl (vz_w [rdW g h va vi_18 vr vf (ta 0) ph, tkW g ta tr tf, pgW g ph pa pr_18 pf_18]) H → va_D A (vz_w [rdW g h va vi_18 vr vf (ta 0) ph, tkW g ta tr tf, pgW g ph pa pr_18 pf_18]) → va_S A s.heap H locs → lv_has ls 9 [(0, .ref h), (1, .int (nI dn)), (2, .int 0)] → W p l e { frames := (4 * (8 - dn) + 11), cells := 0, slots := 0, locals := (100 * (8 - dn) + 322) } s m args below meth c H locs 0 0 Q (F0 m 18 ls [.int y0_18]) := by
    intro y0_18 vi_18 pr_18 pf_18 hw_p_18 H locs ls hP hD hS hl
    refine lv_istore_n (lv' := [(3, .int y0_18), (0, .ref h), (1, .int (nI dn)), (2, .int 0)]) hx hb dX3_readList_18 rfl hl (by decide) rfl (fun ls hl => ?_)
    refine lv_iload_n hx hb dX3_readList_19 rfl (lv_at hl 0 rfl) ?_
    refine lv_istore (lv' := [(4, .int y0_18), (3, .int y0_18), (0, .ref h), (1, .int (nI dn)), (2, .int 0)]) hx hb dX3_readList_20 hl (by decide) rfl (fun ls hl => ?_)
    refine lv_iload_n hx hb dX3_readList_22 rfl (lv_at hl 1 rfl) ?_
    refine lv_istore (lv' := [(5, .int y0_18), (4, .int y0_18), (3, .int y0_18), (0, .ref h), (1, .int (nI dn)), (2, .int 0)]) hx hb dX3_readList_23 hl (by decide) rfl (fun ls hl => ?_)
    refine lv_iconst (v := 0) hx hb dX3_readList_25 (by decide) ?_
    refine lv_istore (lv' := [(6, .int 0), (5, .int y0_18), (4, .int y0_18), (3, .int y0_18), (0, .ref h), (1, .int (nI dn)), (2, .int 0)]) hx hb dX3_readList_26 hl (by decide) rfl (fun ls hl => ?_)
    exact J28 (1001) 0 (by omega) (by omega) y0_18 y0_18 y0_18 vi_18 pr_18 pf_18 hw_p_18 H locs ls hP hD hS (lv_sub hl [4, 5, 6, 3, 2, 1, 0] rfl)
  refine lv_iload_n hx hb dX3_readList_0 rfl (lv_at hl 2 rfl) ?_
  refine lv_if_eq (tgt := 13) hx hb dX3_readList_1 (by decide) (fun _ => ?_) (fun h9 => absurd (by decide) h9)
  refine lv_aload_n hx hb dX3_readList_13 rfl (lv_at hl 0 rfl) ?_
  refine lv_iload_n hx hb dX3_readList_14 rfl (lv_at hl 1 rfl) ?_
  refine vz_Vi3 (As := [.int (nI dn)]) (rest := []) hx hb hml hown hts hK hA hP hD hS (hB H.size h va vi vr vf ta ph tr tf pa pr pf hw_v hw_t hw_p) kv_X3_190 ⟨by dsimp only; omega, by dsimp only; omega⟩ (q0 := 0) (ci := 3) rfl rfl rfl  hl.1 (Nat.le_of_ble_eq_true rfl) dX3_readList_15 ⟨Nat.le_refl _, Nat.le_refl _⟩ rfl (fun v5 ⟨vi_1, pr_2, pf_3⟩ H locs hw_4 _ hP hD hS => ?_)
  try dsimp only at hw_4
  replace hP : va_P D vwCl (vz_w [rdW g h va vi_1 vr vf (ta 0) ph, tkW g ta tr tf, pgW g ph pa pr_2 pf_3]) H := hP
  replace hD : va_D A (vz_w [rdW g h va vi_1 vr vf (ta 0) ph, tkW g ta tr tf, pgW g ph pa pr_2 pf_3]) := hD
  exact J18 v5 vi_1 pr_2 pf_3 hw_4 H locs ls hP hD hS (lv_sub hl [0, 1, 2] rfl)
theorem q532 : Cond.methodLink RX3 164 yX3_readList ∈ wsL_law := mT_3 (List.mem_of_getElem? (i := 192) rfl) rfl
theorem q533 : Cond.instanceMethod yX3_readList ∈ wsL_law := mT_3 (List.mem_of_getElem? (i := 194) rfl) rfl
theorem q534 : Cond.selects RX3 yX3_readList yX3_readList ∈ wsL_law := mS_2 (q := (yX3_readList, 12)) (List.mem_of_getElem? (i := 1) rfl) rfl
theorem q535 : Cond.code yX3_readList cX3_readList 9 (some .int) ∈ wsL_law := mT_3 (List.mem_of_getElem? (i := 195) rfl) rfl
theorem kv_X3_164 : vz_cv RX3 164 yX3_readList cX3_readList 9 (some .int) 2 := ⟨q532, q533, q534, q28, q535, by decide +kernel⟩
theorem dX3_readList_4 : decode cX3_readList 4 = .ok (.aload_n 0, 1) := by decide +kernel
theorem dX3_readList_5 : decode cX3_readList 5 = .ok (.iload_n 1, 1) := by decide +kernel
theorem dX3_readList_6 : decode cX3_readList 6 = .ok (.iconst 0, 1) := by decide +kernel
theorem dX3_readList_7 : decode cX3_readList 7 = .ok (.invokevirtual 164, 3) := by decide +kernel
theorem dX3_readList_10 : decode cX3_readList 10 = .ok (.goto 8, 3) := by decide +kernel
theorem dX3_readList_61 : decode cX3_readList 61 = .ok (.aload_n 0, 1) := by decide +kernel
theorem dX3_readList_62 : decode cX3_readList 62 = .ok (.iload_n 1, 1) := by decide +kernel
theorem dX3_readList_63 : decode cX3_readList 63 = .ok (.iconst 0, 1) := by decide +kernel
theorem dX3_readList_64 : decode cX3_readList 64 = .ok (.invokevirtual 164, 3) := by decide +kernel
theorem dX3_readList_67 : decode cX3_readList 67 = .ok (.goto 8, 3) := by decide +kernel
set_option maxHeartbeats 8000000 in
set_option maxRecDepth 100000 in
theorem a_D_list1 (l : Launch) (D : va_G) (g : Nat → ClassId) (dn : Nat) (hB : ∀ (sz : Nat) (h : Nat) (va : Nat → Nat) (vi : Nat → Int32) (vr : Nat → Nat) (vf : Nat → Nat → Int32) (ta : Nat → Nat) (ph : Nat) (tr : Nat → Nat) (tf : Nat → Nat → Int32) (pa : Nat → Nat) (pr : Nat → Nat) (pf : Nat → Nat → Int32) (hw_v : ∀ k, vr k ≤ rdW_lim k) (hw_t : ∀ k, tr k ≤ tkW_lim k) (hw_p : ∀ k, pr k ≤ pgW_lim k), vz_Mi l D (tyG g) yX3_readFactor cX3_readFactor 3 (4 * (8 - dn) + 10) (100 * (8 - dn) + 300) 0 0 .int [.ref h, .int (nI dn)] sz (vz_w [rdW g h va vi vr vf (ta 0) ph, tkW g ta tr tf, pgW g ph pa pr pf]) (fun r (u : (Nat → Int32) × (Nat → Nat) × (Nat → Nat → Int32)) => (∀ k, u.2.1 k ≤ pgW_lim k)) (fun u => vz_w [rdW g h va u.1 vr vf (ta 0) ph, tkW g ta tr tf, pgW g ph pa u.2.1 u.2.2])) (sz : Nat) (h : Nat) (va : Nat → Nat) (vi : Nat → Int32) (vr : Nat → Nat) (vf : Nat → Nat → Int32) (ta : Nat → Nat) (ph : Nat) (tr : Nat → Nat) (tf : Nat → Nat → Int32) (pa : Nat → Nat) (pr : Nat → Nat) (pf : Nat → Nat → Int32) (hw_v : ∀ k, vr k ≤ rdW_lim k) (hw_t : ∀ k, tr k ≤ tkW_lim k) (hw_p : ∀ k, pr k ≤ pgW_lim k) : vz_Mi l D (tyG g) yX3_readList cX3_readList 9 (4 * (8 - dn) + 12) (100 * (8 - dn) + 350) 0 0 .int [.ref h, .int (nI dn), .int 1] sz (vz_w [rdW g h va vi vr vf (ta 0) ph, tkW g ta tr tf, pgW g ph pa pr pf]) (fun r (u : (Nat → Int32) × (Nat → Nat) × (Nat → Nat → Int32)) => (∀ k, u.2.1 k ≤ pgW_lim k)) (fun u => vz_w [rdW g h va u.1 vr vf (ta 0) ph, tkW g ta tr tf, pgW g ph pa u.2.1 u.2.2]) := by
  refine vz_siQ (by decide) (Nat.le_of_ble_eq_true rfl) (fun p e s m args below meth c hx hb hr hml hts hown hlk hin hK hsz A hA H locs hP hD hS ls hl Q hQ => ?_)
  have hl : lv_has ls 9 [(0, .ref h), (1, .int (nI dn)), (2, .int 1)] := hl
  have J144 : ∀ (x3_144 : Int32), ∀ (x4_144 : Int32), ∀ (x5_144 : Int32), ∀ (x6_144 : Int32), ∀ (vi_144 : Nat → Int32), ∀ (pr_144 : Nat → Nat), ∀ (pf_144 : Nat → Nat → Int32), (∀ k, pr_144 k ≤ pgW_lim k) → ∀ (H : Heap) (locs : List Loc) (ls : Array Slot), va_P D vwCl (vz_w [rdW g h va vi_144 vr vf (ta 0) ph, tkW g ta tr tf, pgW g ph pa pr_144 pf_144]) H → va_D A (vz_w [rdW g h va vi_144 vr vf (ta 0) ph, tkW g ta tr tf, pgW g ph pa pr_144 pf_144]) → va_S A s.heap H locs → lv_has ls 9 [(0, .ref h), (1, .int (nI dn)), (2, .int 1), (3, .int x3_144), (4, .int x4_144), (5, .int x5_144), (6, .int x6_144)] → W p l e { frames := (4 * (8 - dn) + 12), cells := 0, slots := 0, locals := (100 * (8 - dn) + 350) } s m args below meth c H locs 0 0 Q (F0 m 144 ls []) := by
    intro x3_144 x4_144 x5_144 x6_144 vi_144 pr_144 pf_144 hw_p_144 H locs ls hP hD hS hl
    refine lv_iload hx hb dX3_readList_144 (lv_at hl 4 rfl) ?_
    rw [hQ]
    exact vz_iret3 hx hb hr hlk hK hP hD hS (vi_144, pr_144, pf_144) hw_p_144 rfl (Nat.le_refl 0) (Nat.le_refl 0) dX3_readList_146
  have J28 : ∀ (fu28 n28 : Nat), 1000 - n28 < fu28 → n28 ≤ 1000 → ∀ (x3_28 : Int32), ∀ (x4_28 : Int32), ∀ (x5_28 : Int32), ∀ (vi_28 : Nat → Int32), ∀ (pr_28 : Nat → Nat), ∀ (pf_28 : Nat → Nat → Int32), (∀ k, pr_28 k ≤ pgW_lim k) → ∀ (H : Heap) (locs : List Loc) (ls : Array Slot), va_P D vwCl (vz_w [rdW g h va vi_28 vr vf (ta 0) ph, tkW g ta tr tf, pgW g ph pa pr_28 pf_28]) H → va_D A (vz_w [rdW g h va vi_28 vr vf (ta 0) ph, tkW g ta tr tf, pgW g ph pa pr_28 pf_28]) → va_S A s.heap H locs → lv_has ls 9 [(0, .ref h), (1, .int (nI dn)), (2, .int 1), (3, .int x3_28), (4, .int x4_28), (5, .int x5_28), (6, .int (nI n28))] → W p l e { frames := (4 * (8 - dn) + 12), cells := 0, slots := 0, locals := (100 * (8 - dn) + 350) } s m args below meth c H locs 0 0 Q (F0 m 28 ls []) := by
    intro fu28
    induction fu28 with
    | zero => intro n28 z; omega
    | succ fu28 ih28 =>
      intro n28 hf28 hb28 x3_28 x4_28 x5_28 vi_28 pr_28 pf_28 hw_p_28 H locs ls hP hD hS hl
      have J104 : n28 < 1000 → ∀ (x4_104 : Int32), ∀ (x7_104 : Int32), ∀ (x8_104 : Int32), ∀ (vi_104 : Nat → Int32), ∀ (pr_104 : Nat → Nat), ∀ (pf_104 : Nat → Nat → Int32), (∀ k, pr_104 k ≤ pgW_lim k) → ∀ (H : Heap) (locs : List Loc) (ls : Array Slot), va_P D vwCl (vz_w [rdW g h va vi_104 vr vf (ta 0) ph, tkW g ta tr tf, pgW g ph pa pr_104 pf_104]) H → va_D A (vz_w [rdW g h va vi_104 vr vf (ta 0) ph, tkW g ta tr tf, pgW g ph pa pr_104 pf_104]) → va_S A s.heap H locs → lv_has ls 9 [(0, .ref h), (1, .int (nI dn)), (2, .int 1), (3, .int x3_28), (4, .int x4_104), (5, .int x5_28), (6, .int (nI n28)), (7, .int x7_104), (8, .int x8_104)] → W p l e { frames := (4 * (8 - dn) + 12), cells := 0, slots := 0, locals := (100 * (8 - dn) + 350) } s m args below meth c H locs 0 0 Q (F0 m 104 ls []) := by
        intro hn28 x4_104 x7_104 x8_104 vi_104 pr_104 pf_104 hw_p_104 H locs ls hP hD hS hl
        refine lv_aload_n hx hb dX3_readList_104 rfl (lv_at hl 0 rfl) ?_
        refine va_get (D := D) (ci := 3) (v := .ref ph) (C := RX3) (T := TX3) (N := 12) hx hb hts inlX3 hown hK hP 0 rfl rfl 4 (by decide) (hts _ q97) (fun _ h => h) rfl dX3_readList_105 ?_
        refine va_get (D := D) (ci := 2) (v := .ref (pa 2)) (C := RX2) (T := TX2) (N := 5) hx hb hts inlX2 hown hK hP 9 rfl rfl 1 (by decide) (hts _ q536) (fun _ h => h) rfl dX3_readList_108 ?_
        refine lv_iload hx hb dX3_readList_111 (lv_at hl 8 rfl) ?_
        refine lv_iconst (v := 4) hx hb dX3_readList_113 (by decide) ?_
        refine lv_iload hx hb dX3_readList_114 (lv_at hl 7 rfl) ?_
        refine vz_Vv2 (ws' := fun u : (Nat → Int32) => vz_w [rdW g h va vi_104 vr vf (ta 0) ph, tkW g ta tr tf, pgW g ph pa pr_104 (vz_uf pf_104 1 u)]) (As := [.int x8_104, .int 4, .int x7_104]) (rest := []) hx hb hml hown hts hK hA hP hD hS (c_T_set l D g (pa 2) (pa 3) H.size 5 1000 (pr_104 1) 5000 (pf_104 1) x8_104 4 x7_104 ⟨rfl, by decide, by decide, by decide, by decide, hw_p_104 1⟩) kv_X3_60 ⟨by dsimp only; omega, by dsimp only; omega⟩ (q0 := 12) (ci := 6) rfl rfl rfl [12, 13] rfl (by decide) (fun _ => rfl) (fun _ => rfl) hl.1 (Nat.le_of_ble_eq_true rfl) dX3_readList_116 ⟨Nat.le_refl _, Nat.le_refl _⟩ rfl (fun nf1 H locs _ _ hP hD hS => ?_)
        obtain ⟨pf_2, hP, hD⟩ : ∃ pf_2 : Nat → Nat → Int32, va_P D vwCl (vz_w [rdW g h va vi_104 vr vf (ta 0) ph, tkW g ta tr tf, pgW g ph pa pr_104 pf_2]) H ∧ va_D A (vz_w [rdW g h va vi_104 vr vf (ta 0) ph, tkW g ta tr tf, pgW g ph pa pr_104 pf_2]) := ⟨(vz_uf pf_104 1 nf1), hP, hD⟩
        refine lv_aload_n hx hb dX3_readList_119 rfl (lv_at hl 0 rfl) ?_
        refine va_get (D := D) (ci := 3) (v := .ref ph) (C := RX3) (T := TX3) (N := 12) hx hb hts inlX3 hown hK hP 0 rfl rfl 4 (by decide) (hts _ q97) (fun _ h => h) rfl dX3_readList_120 ?_
        refine va_get (D := D) (ci := 2) (v := .ref (pa 2)) (C := RX2) (T := TX2) (N := 5) hx hb hts inlX2 hown hK hP 9 rfl rfl 1 (by decide) (hts _ q536) (fun _ h => h) rfl dX3_readList_123 ?_
        refine lv_iload hx hb dX3_readList_126 (lv_at hl 5 rfl) ?_
        refine lv_iconst (v := 3) hx hb dX3_readList_128 (by decide) ?_
        refine lv_iload hx hb dX3_readList_129 (lv_at hl 8 rfl) ?_
        refine vz_Vv2 (ws' := fun u : (Nat → Int32) => vz_w [rdW g h va vi_104 vr vf (ta 0) ph, tkW g ta tr tf, pgW g ph pa pr_104 (vz_uf pf_2 1 u)]) (As := [.int x5_28, .int 3, .int x8_104]) (rest := []) hx hb hml hown hts hK hA hP hD hS (c_T_set l D g (pa 2) (pa 3) H.size 5 1000 (pr_104 1) 5000 (pf_2 1) x5_28 3 x8_104 ⟨rfl, by decide, by decide, by decide, by decide, hw_p_104 1⟩) kv_X3_60 ⟨by dsimp only; omega, by dsimp only; omega⟩ (q0 := 12) (ci := 6) rfl rfl rfl [12, 13] rfl (by decide) (fun _ => rfl) (fun _ => rfl) hl.1 (Nat.le_of_ble_eq_true rfl) dX3_readList_131 ⟨Nat.le_refl _, Nat.le_refl _⟩ rfl (fun nf3 H locs _ _ hP hD hS => ?_)
        obtain ⟨pf_4, hP, hD⟩ : ∃ pf_4 : Nat → Nat → Int32, va_P D vwCl (vz_w [rdW g h va vi_104 vr vf (ta 0) ph, tkW g ta tr tf, pgW g ph pa pr_104 pf_4]) H ∧ va_D A (vz_w [rdW g h va vi_104 vr vf (ta 0) ph, tkW g ta tr tf, pgW g ph pa pr_104 pf_4]) := ⟨(vz_uf pf_2 1 nf3), hP, hD⟩
        refine lv_iload hx hb dX3_readList_134 (lv_at hl 8 rfl) ?_
        refine lv_istore (lv' := [(5, .int x8_104), (0, .ref h), (1, .int (nI dn)), (2, .int 1), (3, .int x3_28), (4, .int x4_104), (6, .int (nI n28)), (7, .int x7_104), (8, .int x8_104)]) hx hb dX3_readList_136 hl (by decide) rfl (fun ls hl => ?_)
        refine lv_iinc (v := (nI (n28 + 1))) (lv' := [(6, .int (nI (n28 + 1))), (5, .int x8_104), (0, .ref h), (1, .int (nI dn)), (2, .int 1), (3, .int x3_28), (4, .int x4_104), (7, .int x7_104), (8, .int x8_104)]) hx hb dX3_readList_138 hl (k := 6) rfl (nI_1 n28) (by decide) rfl (fun ls hl => ?_)
        refine lv_goto (tgt := 28) hx hb dX3_readList_141 (by decide) ?_
        exact ih28 (n28 + 1) (by omega) (by omega) x3_28 x4_104 x8_104 vi_104 pr_104 pf_4 hw_p_104 H locs ls hP hD hS (lv_sub hl [2, 3, 4, 5, 6, 1, 0] rfl)
      have J75 : n28 < 1000 → ∀ (x7_75 : Int32), ∀ (y0_75 : Int32), ∀ (vi_75 : Nat → Int32), ∀ (pr_75 : Nat → Nat), ∀ (pf_75 : Nat → Nat → Int32), (∀ k, pr_75 k ≤ pgW_lim k) → ∀ (H : Heap) (locs : List Loc) (ls : Array Slot), va_P D vwCl (vz_w [rdW g h va vi_75 vr vf (ta 0) ph, tkW g ta tr tf, pgW g ph pa pr_75 pf_75]) H → va_D A (vz_w [rdW g h va vi_75 vr vf (ta 0) ph, tkW g ta tr tf, pgW g ph pa pr_75 pf_75]) → va_S A s.heap H locs → lv_has ls 9 [(0, .ref h), (1, .int (nI dn)), (2, .int 1), (3, .int x3_28), (4, .int x4_28), (5, .int x5_28), (6, .int (nI n28)), (7, .int x7_75)] → W p l e { frames := (4 * (8 - dn) + 12), cells := 0, slots := 0, locals := (100 * (8 - dn) + 350) } s m args below meth c H locs 0 0 Q (F0 m 75 ls [.int y0_75]) := by
        intro hn28 x7_75 y0_75 vi_75 pr_75 pf_75 hw_p_75 H locs ls hP hD hS hl
        refine lv_istore (lv' := [(8, .int y0_75), (0, .ref h), (1, .int (nI dn)), (2, .int 1), (3, .int x3_28), (4, .int x4_28), (5, .int x5_28), (6, .int (nI n28)), (7, .int x7_75)]) hx hb dX3_readList_75 hl (by decide) rfl (fun ls hl => ?_)
        refine lv_iload hx hb dX3_readList_77 (lv_at hl 7 rfl) ?_
        refine lv_if_ne (tgt := 104) hx hb dX3_readList_79 (by decide) (fun kc1 => ?_) (fun kc1 => ?_)
        · exact J104 hn28 x4_28 x7_75 y0_75 vi_75 pr_75 pf_75 hw_p_75 H locs ls hP hD hS (lv_sub hl [1, 2, 3, 4, 5, 6, 7, 8, 0] rfl)
        · refine lv_aload_n hx hb dX3_readList_82 rfl (lv_at hl 1 rfl) ?_
          refine lv_iconst (v := 5) hx hb dX3_readList_83 (by decide) ?_
          refine lv_iconst (v := 0) hx hb dX3_readList_84 (by decide) ?_
          refine vz_Vi3 (As := [.int 5, .int 0]) (rest := []) hx hb hml hown hts hK hA hP hD hS (a_D_newNode l D g H.size h va vi_75 vr vf ta ph tr tf pa pr_75 pf_75 5 0 hw_v hw_t hw_p_75) kv_X3_198 ⟨by dsimp only; omega, by dsimp only; omega⟩ (q0 := 0) (ci := 3) rfl rfl rfl  hl.1 (Nat.le_of_ble_eq_true rfl) dX3_readList_85 ⟨Nat.le_refl _, Nat.le_refl _⟩ rfl (fun v5 ⟨pr_2, pf_3⟩ H locs hw_4 _ hP hD hS => ?_)
          try dsimp only at hw_4
          replace hP : va_P D vwCl (vz_w [rdW g h va vi_75 vr vf (ta 0) ph, tkW g ta tr tf, pgW g ph pa pr_2 pf_3]) H := hP
          replace hD : va_D A (vz_w [rdW g h va vi_75 vr vf (ta 0) ph, tkW g ta tr tf, pgW g ph pa pr_2 pf_3]) := hD
          refine lv_istore (lv' := [(4, .int v5), (8, .int y0_75), (0, .ref h), (1, .int (nI dn)), (2, .int 1), (3, .int x3_28), (5, .int x5_28), (6, .int (nI n28)), (7, .int x7_75)]) hx hb dX3_readList_88 hl (by decide) rfl (fun ls hl => ?_)
          refine lv_aload_n hx hb dX3_readList_90 rfl (lv_at hl 2 rfl) ?_
          refine va_get (D := D) (ci := 3) (v := .ref ph) (C := RX3) (T := TX3) (N := 12) hx hb hts inlX3 hown hK hP 0 rfl rfl 4 (by decide) (hts _ q97) (fun _ h => h) rfl dX3_readList_91 ?_
          refine va_get (D := D) (ci := 2) (v := .ref (pa 2)) (C := RX2) (T := TX2) (N := 5) hx hb hts inlX2 hown hK hP 9 rfl rfl 1 (by decide) (hts _ q536) (fun _ h => h) rfl dX3_readList_94 ?_
          refine lv_iload hx hb dX3_readList_97 (lv_at hl 0 rfl) ?_
          refine lv_iconst (v := 2) hx hb dX3_readList_99 (by decide) ?_
          refine lv_iload_n hx hb dX3_readList_100 rfl (lv_at hl 5 rfl) ?_
          refine vz_Vv2 (ws' := fun u : (Nat → Int32) => vz_w [rdW g h va vi_75 vr vf (ta 0) ph, tkW g ta tr tf, pgW g ph pa pr_2 (vz_uf pf_3 1 u)]) (As := [.int v5, .int 2, .int x3_28]) (rest := []) hx hb hml hown hts hK hA hP hD hS (c_T_set l D g (pa 2) (pa 3) H.size 5 1000 (pr_2 1) 5000 (pf_3 1) v5 2 x3_28 ⟨rfl, by decide, by decide, by decide, by decide, hw_4 1⟩) kv_X3_60 ⟨by dsimp only; omega, by dsimp only; omega⟩ (q0 := 12) (ci := 6) rfl rfl rfl [12, 13] rfl (by decide) (fun _ => rfl) (fun _ => rfl) hl.1 (Nat.le_of_ble_eq_true rfl) dX3_readList_101 ⟨Nat.le_refl _, Nat.le_refl _⟩ rfl (fun nf6 H locs _ _ hP hD hS => ?_)
          obtain ⟨pf_7, hP, hD⟩ : ∃ pf_7 : Nat → Nat → Int32, va_P D vwCl (vz_w [rdW g h va vi_75 vr vf (ta 0) ph, tkW g ta tr tf, pgW g ph pa pr_2 pf_7]) H ∧ va_D A (vz_w [rdW g h va vi_75 vr vf (ta 0) ph, tkW g ta tr tf, pgW g ph pa pr_2 pf_7]) := ⟨(vz_uf pf_3 1 nf6), hP, hD⟩
          exact J104 hn28 v5 x7_75 y0_75 vi_75 pr_2 pf_7 hw_4 H locs ls hP hD hS (lv_sub hl [2, 3, 4, 5, 0, 6, 7, 8, 1] rfl)
      refine lv_iload hx hb dX3_readList_28 (lv_at hl 6 rfl) ?_
      refine lv_sipush (v := 1000) hx hb dX3_readList_30 (by decide) ?_
      refine lv_icmp_ge (tgt := 144) hx hb dX3_readList_33 (by decide) (fun kc1 => ?_) (fun kc1 => ?_)
      · exact J144 x3_28 x4_28 x5_28 (nI n28) vi_28 pr_28 pf_28 hw_p_28 H locs ls hP hD hS (lv_sub hl [0, 1, 2, 3, 4, 5, 6] rfl)
      · have hn28 : n28 < 1000 := vz_ltge (B := 1000) (by omega) kc1
        refine lv_aload_n hx hb dX3_readList_36 rfl (lv_at hl 0 rfl) ?_
        refine va_get (D := D) (ci := 3) (v := .int (vi_28 1)) (C := RX3) (T := TX3) (N := 12) hx hb hts inlX3 hown hK hP 0 rfl rfl 6 (by decide) (hts _ q443) (fun _ h => h) rfl dX3_readList_37 ?_
        refine lv_iload_n hx hb dX3_readList_40 rfl (lv_at hl 2 rfl) ?_
        refine vz_Si4 (n9 := 3) (bs2 := fun u : Unit => [rdW g h va vi_28 vr vf (ta 0) ph, tkW g ta tr tf, pgW g ph pa pr_28 pf_28]) (br := [rdW g h va vi_28 vr vf (ta 0) ph, tkW g ta tr tf, pgW g ph pa pr_28 pf_28]) (As := [.int (vi_28 1), .int 1]) (rest := []) hx hb hml hown hts hK hA hP hD hS (a_D_joins l D g H.size (vi_28 1) 1) ks_X3_194 ⟨by dsimp only; omega, by dsimp only; omega⟩ [] [0, 1, 2] rfl (by decide) rfl (fun _ => rfl) (fun _ => rfl) hl.1 (Nat.le_of_ble_eq_true rfl) dX3_readList_41 ⟨Nat.le_refl _, Nat.le_refl _⟩ rfl (fun v2 _ H locs hz3 _ hP hD hS => ?_)
        refine lv_if_eq (tgt := 144) hx hb dX3_readList_44 (by decide) (fun kc4 => ?_) (fun kc4 => ?_)
        · exact J144 x3_28 x4_28 x5_28 (nI n28) vi_28 pr_28 pf_28 hw_p_28 H locs ls hP hD hS (lv_sub hl [0, 1, 2, 3, 4, 5, 6] rfl)
        · refine lv_aload_n hx hb dX3_readList_47 rfl (lv_at hl 0 rfl) ?_
          refine va_get (D := D) (ci := 3) (v := .int (vi_28 1)) (C := RX3) (T := TX3) (N := 12) hx hb hts inlX3 hown hK hP 0 rfl rfl 6 (by decide) (hts _ q443) (fun _ h => h) rfl dX3_readList_48 ?_
          refine lv_istore (lv' := [(7, .int (vi_28 1)), (0, .ref h), (1, .int (nI dn)), (2, .int 1), (3, .int x3_28), (4, .int x4_28), (5, .int x5_28), (6, .int (nI n28))]) hx hb dX3_readList_51 hl (by decide) rfl (fun ls hl => ?_)
          refine lv_aload_n hx hb dX3_readList_53 rfl (lv_at hl 1 rfl) ?_
          refine vz_Vv3 (As := []) (rest := []) hx hb hml hown hts hK hA hP hD hS (a_D_advance l D g H.size h va vi_28 vr vf ta ph tr tf pa pr_28 pf_28 hw_v hw_t hw_p_28) kv_X3_89 ⟨by dsimp only; omega, by dsimp only; omega⟩ (q0 := 0) (ci := 3) rfl rfl rfl  hl.1 (Nat.le_of_ble_eq_true rfl) dX3_readList_54 ⟨Nat.le_refl _, Nat.le_refl _⟩ rfl (fun vi_5 H locs _ _ hP hD hS => ?_)
          replace hP : va_P D vwCl (vz_w [rdW g h va vi_5 vr vf (ta 0) ph, tkW g ta tr tf, pgW g ph pa pr_28 pf_28]) H := hP
          replace hD : va_D A (vz_w [rdW g h va vi_5 vr vf (ta 0) ph, tkW g ta tr tf, pgW g ph pa pr_28 pf_28]) := hD
          refine lv_iload_n hx hb dX3_readList_57 rfl (lv_at hl 3 rfl) ?_
          refine lv_if_eq (tgt := 70) hx hb dX3_readList_58 (by decide) (fun h9 => absurd h9 (by decide)) (fun _ => ?_)
          refine lv_aload_n hx hb dX3_readList_61 rfl (lv_at hl 1 rfl) ?_
          refine lv_iload_n hx hb dX3_readList_62 rfl (lv_at hl 2 rfl) ?_
          refine lv_iconst (v := 0) hx hb dX3_readList_63 (by decide) ?_
          refine vz_Vi3 (As := [.int (nI dn), .int 0]) (rest := []) hx hb hml hown hts hK hA hP hD hS (a_D_list0 l D g dn hB H.size h va vi_5 vr vf ta ph tr tf pa pr_28 pf_28 hw_v hw_t hw_p_28) kv_X3_164 ⟨by dsimp only; omega, by dsimp only; omega⟩ (q0 := 0) (ci := 3) rfl rfl rfl  hl.1 (Nat.le_of_ble_eq_true rfl) dX3_readList_64 ⟨Nat.le_refl _, Nat.le_refl _⟩ rfl (fun v10 ⟨vi_6, pr_7, pf_8⟩ H locs hw_9 _ hP hD hS => ?_)
          try dsimp only at hw_9
          replace hP : va_P D vwCl (vz_w [rdW g h va vi_6 vr vf (ta 0) ph, tkW g ta tr tf, pgW g ph pa pr_7 pf_8]) H := hP
          replace hD : va_D A (vz_w [rdW g h va vi_6 vr vf (ta 0) ph, tkW g ta tr tf, pgW g ph pa pr_7 pf_8]) := hD
          refine lv_goto (tgt := 75) hx hb dX3_readList_67 (by decide) ?_
          exact J75 hn28 (vi_28 1) v10 vi_6 pr_7 pf_8 hw_9 H locs ls hP hD hS (lv_sub hl [1, 2, 3, 4, 5, 6, 7, 0] rfl)
  have J18 : ∀ (y0_18 : Int32), ∀ (vi_18 : Nat → Int32), ∀ (pr_18 : Nat → Nat), ∀ (pf_18 : Nat → Nat → Int32), (∀ k, pr_18 k ≤ pgW_lim k) → ∀ (H : Heap) (locs : List Loc) (ls : Array Slot), va_P D vwCl (vz_w [rdW g h va vi_18 vr vf (ta 0) ph, tkW g ta tr tf, pgW g ph pa pr_18 pf_18]) H → va_D A (vz_w [rdW g h va vi_18 vr vf (ta 0) ph, tkW g ta tr tf, pgW g ph pa pr_18 pf_18]) → va_S A s.heap H locs → lv_has ls 9 [(0, .ref h), (1, .int (nI dn)), (2, .int 1)] → W p l e { frames := (4 * (8 - dn) + 12), cells := 0, slots := 0, locals := (100 * (8 - dn) + 350) } s m args below meth c H locs 0 0 Q (F0 m 18 ls [.int y0_18]) := by
    intro y0_18 vi_18 pr_18 pf_18 hw_p_18 H locs ls hP hD hS hl
    refine lv_istore_n (lv' := [(3, .int y0_18), (0, .ref h), (1, .int (nI dn)), (2, .int 1)]) hx hb dX3_readList_18 rfl hl (by decide) rfl (fun ls hl => ?_)
    refine lv_iload_n hx hb dX3_readList_19 rfl (lv_at hl 0 rfl) ?_
    refine lv_istore (lv' := [(4, .int y0_18), (3, .int y0_18), (0, .ref h), (1, .int (nI dn)), (2, .int 1)]) hx hb dX3_readList_20 hl (by decide) rfl (fun ls hl => ?_)
    refine lv_iload_n hx hb dX3_readList_22 rfl (lv_at hl 1 rfl) ?_
    refine lv_istore (lv' := [(5, .int y0_18), (4, .int y0_18), (3, .int y0_18), (0, .ref h), (1, .int (nI dn)), (2, .int 1)]) hx hb dX3_readList_23 hl (by decide) rfl (fun ls hl => ?_)
    refine lv_iconst (v := 0) hx hb dX3_readList_25 (by decide) ?_
    refine lv_istore (lv' := [(6, .int 0), (5, .int y0_18), (4, .int y0_18), (3, .int y0_18), (0, .ref h), (1, .int (nI dn)), (2, .int 1)]) hx hb dX3_readList_26 hl (by decide) rfl (fun ls hl => ?_)
    exact J28 (1001) 0 (by omega) (by omega) y0_18 y0_18 y0_18 vi_18 pr_18 pf_18 hw_p_18 H locs ls hP hD hS (lv_sub hl [4, 5, 6, 3, 2, 1, 0] rfl)
  refine lv_iload_n hx hb dX3_readList_0 rfl (lv_at hl 2 rfl) ?_
  refine lv_if_eq (tgt := 13) hx hb dX3_readList_1 (by decide) (fun h9 => absurd h9 (by decide)) (fun _ => ?_)
  refine lv_aload_n hx hb dX3_readList_4 rfl (lv_at hl 0 rfl) ?_
  refine lv_iload_n hx hb dX3_readList_5 rfl (lv_at hl 1 rfl) ?_
  refine lv_iconst (v := 0) hx hb dX3_readList_6 (by decide) ?_
  refine vz_Vi3 (As := [.int (nI dn), .int 0]) (rest := []) hx hb hml hown hts hK hA hP hD hS (a_D_list0 l D g dn hB H.size h va vi vr vf ta ph tr tf pa pr pf hw_v hw_t hw_p) kv_X3_164 ⟨by dsimp only; omega, by dsimp only; omega⟩ (q0 := 0) (ci := 3) rfl rfl rfl  hl.1 (Nat.le_of_ble_eq_true rfl) dX3_readList_7 ⟨Nat.le_refl _, Nat.le_refl _⟩ rfl (fun v5 ⟨vi_1, pr_2, pf_3⟩ H locs hw_4 _ hP hD hS => ?_)
  try dsimp only at hw_4
  replace hP : va_P D vwCl (vz_w [rdW g h va vi_1 vr vf (ta 0) ph, tkW g ta tr tf, pgW g ph pa pr_2 pf_3]) H := hP
  replace hD : va_D A (vz_w [rdW g h va vi_1 vr vf (ta 0) ph, tkW g ta tr tf, pgW g ph pa pr_2 pf_3]) := hD
  refine lv_goto (tgt := 18) hx hb dX3_readList_10 (by decide) ?_
  exact J18 v5 vi_1 pr_2 pf_3 hw_4 H locs ls hP hD hS (lv_sub hl [0, 1, 2] rfl)
theorem dX3_readElement_0 : decode cX3_readElement 0 = .ok (.aload_n 0, 1) := by decide +kernel
theorem dX3_readElement_1 : decode cX3_readElement 1 = .ok (.iconst 2, 1) := by decide +kernel
theorem dX3_readElement_2 : decode cX3_readElement 2 = .ok (.aload_n 0, 1) := by decide +kernel
theorem dX3_readElement_3 : decode cX3_readElement 3 = .ok (.getfield 95, 3) := by decide +kernel
theorem dX3_readElement_6 : decode cX3_readElement 6 = .ok (.invokevirtual 198, 3) := by decide +kernel
theorem dX3_readElement_9 : decode cX3_readElement 9 = .ok (.istore_n 2, 1) := by decide +kernel
theorem dX3_readElement_10 : decode cX3_readElement 10 = .ok (.aload_n 0, 1) := by decide +kernel
theorem dX3_readElement_11 : decode cX3_readElement 11 = .ok (.invokevirtual 89, 3) := by decide +kernel
theorem dX3_readElement_14 : decode cX3_readElement 14 = .ok (.aload_n 0, 1) := by decide +kernel
theorem dX3_readElement_15 : decode cX3_readElement 15 = .ok (.getfield 41, 3) := by decide +kernel
theorem dX3_readElement_18 : decode cX3_readElement 18 = .ok (.bipush 91, 2) := by decide +kernel
theorem dX3_readElement_20 : decode cX3_readElement 20 = .ok (.if_icmp .ne 17, 3) := by decide +kernel
theorem dX3_readElement_23 : decode cX3_readElement 23 = .ok (.iload_n 1, 1) := by decide +kernel
theorem dX3_readElement_24 : decode cX3_readElement 24 = .ok (.bipush 8, 2) := by decide +kernel
theorem dX3_readElement_26 : decode cX3_readElement 26 = .ok (.if_icmp .lt 11, 3) := by decide +kernel
theorem dX3_readElement_29 : decode cX3_readElement 29 = .ok (.aload_n 0, 1) := by decide +kernel
theorem dX3_readElement_30 : decode cX3_readElement 30 = .ok (.iconst 2, 1) := by decide +kernel
theorem dX3_readElement_31 : decode cX3_readElement 31 = .ok (.invokevirtual 68, 3) := by decide +kernel
theorem dX3_readElement_34 : decode cX3_readElement 34 = .ok (.goto 47, 3) := by decide +kernel
theorem dX3_readElement_37 : decode cX3_readElement 37 = .ok (.aload_n 0, 1) := by decide +kernel
theorem dX3_readElement_38 : decode cX3_readElement 38 = .ok (.bipush 91, 2) := by decide +kernel
theorem dX3_readElement_40 : decode cX3_readElement 40 = .ok (.invokevirtual 64, 3) := by decide +kernel
theorem dX3_readElement_43 : decode cX3_readElement 43 = .ok (.aload_n 0, 1) := by decide +kernel
theorem dX3_readElement_44 : decode cX3_readElement 44 = .ok (.getfield 15, 3) := by decide +kernel
theorem dX3_readElement_47 : decode cX3_readElement 47 = .ok (.getfield 201, 3) := by decide +kernel
theorem dX3_readElement_50 : decode cX3_readElement 50 = .ok (.iload_n 2, 1) := by decide +kernel
theorem dX3_readElement_51 : decode cX3_readElement 51 = .ok (.iconst 2, 1) := by decide +kernel
theorem dX3_readElement_52 : decode cX3_readElement 52 = .ok (.aload_n 0, 1) := by decide +kernel
theorem dX3_readElement_53 : decode cX3_readElement 53 = .ok (.getfield 74, 3) := by decide +kernel
theorem dX3_readElement_56 : decode cX3_readElement 56 = .ok (.ifCond .ne 14, 3) := by decide +kernel
theorem dX3_readElement_59 : decode cX3_readElement 59 = .ok (.aload_n 0, 1) := by decide +kernel
theorem dX3_readElement_60 : decode cX3_readElement 60 = .ok (.iload_n 1, 1) := by decide +kernel
theorem dX3_readElement_61 : decode cX3_readElement 61 = .ok (.iconst 1, 1) := by decide +kernel
theorem dX3_readElement_62 : decode cX3_readElement 62 = .ok (.iadd, 1) := by decide +kernel
theorem dX3_readElement_63 : decode cX3_readElement 63 = .ok (.iconst 1, 1) := by decide +kernel
theorem dX3_readElement_64 : decode cX3_readElement 64 = .ok (.invokevirtual 164, 3) := by decide +kernel
theorem dX3_readElement_67 : decode cX3_readElement 67 = .ok (.goto 5, 3) := by decide +kernel
theorem dX3_readElement_70 : decode cX3_readElement 70 = .ok (.bipush (-9), 2) := by decide +kernel
theorem dX3_readElement_72 : decode cX3_readElement 72 = .ok (.invokevirtual 60, 3) := by decide +kernel
theorem dX3_readElement_75 : decode cX3_readElement 75 = .ok (.aload_n 0, 1) := by decide +kernel
theorem dX3_readElement_76 : decode cX3_readElement 76 = .ok (.bipush 93, 2) := by decide +kernel
theorem dX3_readElement_78 : decode cX3_readElement 78 = .ok (.invokevirtual 64, 3) := by decide +kernel
theorem dX3_readElement_81 : decode cX3_readElement 81 = .ok (.iload_n 2, 1) := by decide +kernel
theorem dX3_readElement_82 : decode cX3_readElement 82 = .ok (.ireturn, 1) := by decide +kernel
set_option maxHeartbeats 8000000 in
set_option maxRecDepth 100000 in
theorem a_D_element (l : Launch) (D : va_G) (g : Nat → ClassId) (dn : Nat) (hdn : dn ≤ 8) (hF : dn < 8 → ∀ (sz : Nat) (h : Nat) (va : Nat → Nat) (vi : Nat → Int32) (vr : Nat → Nat) (vf : Nat → Nat → Int32) (ta : Nat → Nat) (ph : Nat) (tr : Nat → Nat) (tf : Nat → Nat → Int32) (pa : Nat → Nat) (pr : Nat → Nat) (pf : Nat → Nat → Int32) (hw_v : ∀ k, vr k ≤ rdW_lim k) (hw_t : ∀ k, tr k ≤ tkW_lim k) (hw_p : ∀ k, pr k ≤ pgW_lim k), vz_Mi l D (tyG g) yX3_readFactor cX3_readFactor 3 (4 * (8 - (dn + 1)) + 10) (100 * (8 - (dn + 1)) + 300) 0 0 .int [.ref h, .int (nI (dn + 1))] sz (vz_w [rdW g h va vi vr vf (ta 0) ph, tkW g ta tr tf, pgW g ph pa pr pf]) (fun r (u : (Nat → Int32) × (Nat → Nat) × (Nat → Nat → Int32)) => (∀ k, u.2.1 k ≤ pgW_lim k)) (fun u => vz_w [rdW g h va u.1 vr vf (ta 0) ph, tkW g ta tr tf, pgW g ph pa u.2.1 u.2.2])) (sz : Nat) (h : Nat) (va : Nat → Nat) (vi : Nat → Int32) (vr : Nat → Nat) (vf : Nat → Nat → Int32) (ta : Nat → Nat) (ph : Nat) (tr : Nat → Nat) (tf : Nat → Nat → Int32) (pa : Nat → Nat) (pr : Nat → Nat) (pf : Nat → Nat → Int32) (hw_v : ∀ k, vr k ≤ rdW_lim k) (hw_t : ∀ k, tr k ≤ tkW_lim k) (hw_p : ∀ k, pr k ≤ pgW_lim k) : vz_Mi l D (tyG g) yX3_readElement cX3_readElement 3 (4 * (8 - dn) + 9) (100 * (8 - dn) + 278) 0 0 .int [.ref h, .int (nI dn)] sz (vz_w [rdW g h va vi vr vf (ta 0) ph, tkW g ta tr tf, pgW g ph pa pr pf]) (fun r (u : (Nat → Int32) × (Nat → Nat) × (Nat → Nat → Int32)) => (∀ k, u.2.1 k ≤ pgW_lim k)) (fun u => vz_w [rdW g h va u.1 vr vf (ta 0) ph, tkW g ta tr tf, pgW g ph pa u.2.1 u.2.2]) := by
  refine vz_siQ (by decide) (Nat.le_of_ble_eq_true rfl) (fun p e s m args below meth c hx hb hr hml hts hown hlk hin hK hsz A hA H locs hP hD hS ls hl Q hQ => ?_)
  have hl : lv_has ls 3 [(0, .ref h), (1, .int (nI dn))] := hl
  have J81 : ∀ (x2_81 : Int32), ∀ (vi_81 : Nat → Int32), ∀ (pr_81 : Nat → Nat), ∀ (pf_81 : Nat → Nat → Int32), (∀ k, pr_81 k ≤ pgW_lim k) → ∀ (H : Heap) (locs : List Loc) (ls : Array Slot), va_P D vwCl (vz_w [rdW g h va vi_81 vr vf (ta 0) ph, tkW g ta tr tf, pgW g ph pa pr_81 pf_81]) H → va_D A (vz_w [rdW g h va vi_81 vr vf (ta 0) ph, tkW g ta tr tf, pgW g ph pa pr_81 pf_81]) → va_S A s.heap H locs → lv_has ls 3 [(0, .ref h), (1, .int (nI dn)), (2, .int x2_81)] → W p l e { frames := (4 * (8 - dn) + 9), cells := 0, slots := 0, locals := (100 * (8 - dn) + 278) } s m args below meth c H locs 0 0 Q (F0 m 81 ls []) := by
    intro x2_81 vi_81 pr_81 pf_81 hw_p_81 H locs ls hP hD hS hl
    refine lv_iload_n hx hb dX3_readElement_81 rfl (lv_at hl 2 rfl) ?_
    rw [hQ]
    exact vz_iret3 hx hb hr hlk hK hP hD hS (vi_81, pr_81, pf_81) hw_p_81 rfl (Nat.le_refl 0) (Nat.le_refl 0) dX3_readElement_82
  have J72 : ∀ (x2_72 : Int32), ∀ (y0_72 : Int32), ∀ (y2_72 : Int32), ∀ (vi_72 : Nat → Int32), ∀ (pr_72 : Nat → Nat), ∀ (pf_72 : Nat → Nat → Int32), (∀ k, pr_72 k ≤ pgW_lim k) → ∀ (H : Heap) (locs : List Loc) (ls : Array Slot), va_P D vwCl (vz_w [rdW g h va vi_72 vr vf (ta 0) ph, tkW g ta tr tf, pgW g ph pa pr_72 pf_72]) H → va_D A (vz_w [rdW g h va vi_72 vr vf (ta 0) ph, tkW g ta tr tf, pgW g ph pa pr_72 pf_72]) → va_S A s.heap H locs → lv_has ls 3 [(0, .ref h), (1, .int (nI dn)), (2, .int x2_72)] → W p l e { frames := (4 * (8 - dn) + 9), cells := 0, slots := 0, locals := (100 * (8 - dn) + 278) } s m args below meth c H locs 0 0 Q (F0 m 72 ls [.int y0_72, .int 2, .int y2_72, .ref (pa 2)]) := by
    intro x2_72 y0_72 y2_72 vi_72 pr_72 pf_72 hw_p_72 H locs ls hP hD hS hl
    refine vz_Vv2 (ws' := fun u : (Nat → Int32) => vz_w [rdW g h va vi_72 vr vf (ta 0) ph, tkW g ta tr tf, pgW g ph pa pr_72 (vz_uf pf_72 1 u)]) (As := [.int y2_72, .int 2, .int y0_72]) (rest := []) hx hb hml hown hts hK hA hP hD hS (c_T_set l D g (pa 2) (pa 3) H.size 5 1000 (pr_72 1) 5000 (pf_72 1) y2_72 2 y0_72 ⟨rfl, by decide, by decide, by decide, by decide, hw_p_72 1⟩) kv_X3_60 ⟨by dsimp only; omega, by dsimp only; omega⟩ (q0 := 12) (ci := 6) rfl rfl rfl [12, 13] rfl (by decide) (fun _ => rfl) (fun _ => rfl) hl.1 (Nat.le_of_ble_eq_true rfl) dX3_readElement_72 ⟨Nat.le_refl _, Nat.le_refl _⟩ rfl (fun nf1 H locs _ _ hP hD hS => ?_)
    obtain ⟨pf_2, hP, hD⟩ : ∃ pf_2 : Nat → Nat → Int32, va_P D vwCl (vz_w [rdW g h va vi_72 vr vf (ta 0) ph, tkW g ta tr tf, pgW g ph pa pr_72 pf_2]) H ∧ va_D A (vz_w [rdW g h va vi_72 vr vf (ta 0) ph, tkW g ta tr tf, pgW g ph pa pr_72 pf_2]) := ⟨(vz_uf pf_72 1 nf1), hP, hD⟩
    refine lv_aload_n hx hb dX3_readElement_75 rfl (lv_at hl 0 rfl) ?_
    refine lv_bipush (v := 93) hx hb dX3_readElement_76 (by decide) ?_
    refine vz_Vv3 (As := [.int 93]) (rest := []) hx hb hml hown hts hK hA hP hD hS (a_D_expect l D g H.size h va vi_72 vr vf ta ph tr tf pa pr_72 pf_2 93 hw_v hw_t hw_p_72) kv_X3_64 ⟨by dsimp only; omega, by dsimp only; omega⟩ (q0 := 0) (ci := 3) rfl rfl rfl  hl.1 (Nat.le_of_ble_eq_true rfl) dX3_readElement_78 ⟨Nat.le_refl _, Nat.le_refl _⟩ rfl (fun vi_3 H locs hp4 _ hP hD hS => ?_)
    try dsimp only at hp4
    replace hP : va_P D vwCl (vz_w [rdW g h va vi_3 vr vf (ta 0) ph, tkW g ta tr tf, pgW g ph pa pr_72 pf_2]) H := hP
    replace hD : va_D A (vz_w [rdW g h va vi_3 vr vf (ta 0) ph, tkW g ta tr tf, pgW g ph pa pr_72 pf_2]) := hD
    exact J81 x2_72 vi_3 pr_72 pf_2 hw_p_72 H locs ls hP hD hS (lv_sub hl [0, 1, 2] rfl)
  have J37 : ∀ (x2_37 : Int32), ∀ (vi_37 : Nat → Int32), ∀ (pr_37 : Nat → Nat), ∀ (pf_37 : Nat → Nat → Int32), (∀ k, pr_37 k ≤ pgW_lim k) → (¬ vi_37 1 = 91 ∨ nI dn < 8) → ∀ (H : Heap) (locs : List Loc) (ls : Array Slot), va_P D vwCl (vz_w [rdW g h va vi_37 vr vf (ta 0) ph, tkW g ta tr tf, pgW g ph pa pr_37 pf_37]) H → va_D A (vz_w [rdW g h va vi_37 vr vf (ta 0) ph, tkW g ta tr tf, pgW g ph pa pr_37 pf_37]) → va_S A s.heap H locs → lv_has ls 3 [(0, .ref h), (1, .int (nI dn)), (2, .int x2_37)] → W p l e { frames := (4 * (8 - dn) + 9), cells := 0, slots := 0, locals := (100 * (8 - dn) + 278) } s m args below meth c H locs 0 0 Q (F0 m 37 ls []) := by
    intro x2_37 vi_37 pr_37 pf_37 hw_p_37 hj37_0 H locs ls hP hD hS hl
    refine lv_aload_n hx hb dX3_readElement_37 rfl (lv_at hl 0 rfl) ?_
    refine lv_bipush (v := 91) hx hb dX3_readElement_38 (by decide) ?_
    refine vz_Vv3 (As := [.int 91]) (rest := []) hx hb hml hown hts hK hA hP hD hS (a_D_expect l D g H.size h va vi_37 vr vf ta ph tr tf pa pr_37 pf_37 91 hw_v hw_t hw_p_37) kv_X3_64 ⟨by dsimp only; omega, by dsimp only; omega⟩ (q0 := 0) (ci := 3) rfl rfl rfl  hl.1 (Nat.le_of_ble_eq_true rfl) dX3_readElement_40 ⟨Nat.le_refl _, Nat.le_refl _⟩ rfl (fun vi_1 H locs hp2 _ hP hD hS => ?_)
    try dsimp only at hp2
    replace hP : va_P D vwCl (vz_w [rdW g h va vi_1 vr vf (ta 0) ph, tkW g ta tr tf, pgW g ph pa pr_37 pf_37]) H := hP
    replace hD : va_D A (vz_w [rdW g h va vi_1 vr vf (ta 0) ph, tkW g ta tr tf, pgW g ph pa pr_37 pf_37]) := hD
    refine lv_aload_n hx hb dX3_readElement_43 rfl (lv_at hl 0 rfl) ?_
    refine va_get (D := D) (ci := 3) (v := .ref ph) (C := RX3) (T := TX3) (N := 12) hx hb hts inlX3 hown hK hP 0 rfl rfl 4 (by decide) (hts _ q97) (fun _ h => h) rfl dX3_readElement_44 ?_
    refine va_get (D := D) (ci := 2) (v := .ref (pa 2)) (C := RX2) (T := TX2) (N := 5) hx hb hts inlX2 hown hK hP 9 rfl rfl 1 (by decide) (hts _ q536) (fun _ h => h) rfl dX3_readElement_47 ?_
    refine lv_iload_n hx hb dX3_readElement_50 rfl (lv_at hl 2 rfl) ?_
    refine lv_iconst (v := 2) hx hb dX3_readElement_51 (by decide) ?_
    refine lv_aload_n hx hb dX3_readElement_52 rfl (lv_at hl 0 rfl) ?_
    refine va_get (D := D) (ci := 3) (v := .int (vi_1 5)) (C := RX3) (T := TX3) (N := 12) hx hb hts inlX3 hown hK hP 0 rfl rfl 10 (by decide) (hts _ q445) (fun _ h => h) rfl dX3_readElement_53 ?_
    refine lv_if_ne (tgt := 70) hx hb dX3_readElement_56 (by decide) (fun kc3 => ?_) (fun kc3 => ?_)
    · refine lv_bipush (v := (-9)) hx hb dX3_readElement_70 (by decide) ?_
      exact J72 x2_37 (-9) x2_37 vi_1 pr_37 pf_37 hw_p_37 H locs ls hP hD hS (lv_sub hl [0, 1, 2] rfl)
    · refine lv_aload_n hx hb dX3_readElement_59 rfl (lv_at hl 0 rfl) ?_
      refine lv_iload_n hx hb dX3_readElement_60 rfl (lv_at hl 1 rfl) ?_
      refine lv_iconst (v := 1) hx hb dX3_readElement_61 (by decide) ?_
      refine lv_iadd hx hb dX3_readElement_62 ?_
      refine lv_topi (nm_r (e' := (nI (dn + 1))) (nI_1 dn) ?_)
      refine lv_iconst (v := 1) hx hb dX3_readElement_63 (by decide) ?_
      refine vz_Vi3 (As := [.int (nI (dn + 1)), .int 1]) (rest := [.int 2, .int x2_37, .ref (pa 2)]) hx hb hml hown hts hK hA hP hD hS (a_D_list1 l D g (dn + 1) (hF (vz_ltc (B := 8) (by decide) (by omega) (hp2.elim (fun h => hj37_0.elim (fun h2 => absurd h h2) (fun h2 => h2)) (fun h => absurd kc3 h)))) H.size h va vi_1 vr vf ta ph tr tf pa pr_37 pf_37 hw_v hw_t hw_p_37) kv_X3_164 ⟨by have hq := (vz_ltc (B := 8) (by decide) (by omega) (hp2.elim (fun h => hj37_0.elim (fun h2 => absurd h h2) (fun h2 => h2)) (fun h => absurd kc3 h))); dsimp only; omega, by have hq := (vz_ltc (B := 8) (by decide) (by omega) (hp2.elim (fun h => hj37_0.elim (fun h2 => absurd h h2) (fun h2 => h2)) (fun h => absurd kc3 h))); dsimp only; omega⟩ (q0 := 0) (ci := 3) rfl rfl rfl  hl.1 (Nat.le_of_ble_eq_true rfl) dX3_readElement_64 ⟨Nat.le_refl _, Nat.le_refl _⟩ rfl (fun v8 ⟨vi_4, pr_5, pf_6⟩ H locs hw_7 _ hP hD hS => ?_)
      try dsimp only at hw_7
      replace hP : va_P D vwCl (vz_w [rdW g h va vi_4 vr vf (ta 0) ph, tkW g ta tr tf, pgW g ph pa pr_5 pf_6]) H := hP
      replace hD : va_D A (vz_w [rdW g h va vi_4 vr vf (ta 0) ph, tkW g ta tr tf, pgW g ph pa pr_5 pf_6]) := hD
      refine lv_goto (tgt := 72) hx hb dX3_readElement_67 (by decide) ?_
      exact J72 x2_37 v8 x2_37 vi_4 pr_5 pf_6 hw_7 H locs ls hP hD hS (lv_sub hl [0, 1, 2] rfl)
  refine lv_aload_n hx hb dX3_readElement_0 rfl (lv_at hl 0 rfl) ?_
  refine lv_iconst (v := 2) hx hb dX3_readElement_1 (by decide) ?_
  refine lv_aload_n hx hb dX3_readElement_2 rfl (lv_at hl 0 rfl) ?_
  refine va_get (D := D) (ci := 3) (v := .int (vi 2)) (C := RX3) (T := TX3) (N := 12) hx hb hts inlX3 hown hK hP 0 rfl rfl 7 (by decide) (hts _ q464) (fun _ h => h) rfl dX3_readElement_3 ?_
  refine vz_Vi3 (As := [.int 2, .int (vi 2)]) (rest := []) hx hb hml hown hts hK hA hP hD hS (a_D_newNode l D g H.size h va vi vr vf ta ph tr tf pa pr pf 2 (vi 2) hw_v hw_t hw_p) kv_X3_198 ⟨by dsimp only; omega, by dsimp only; omega⟩ (q0 := 0) (ci := 3) rfl rfl rfl  hl.1 (Nat.le_of_ble_eq_true rfl) dX3_readElement_6 ⟨Nat.le_refl _, Nat.le_refl _⟩ rfl (fun v4 ⟨pr_1, pf_2⟩ H locs hw_3 _ hP hD hS => ?_)
  try dsimp only at hw_3
  replace hP : va_P D vwCl (vz_w [rdW g h va vi vr vf (ta 0) ph, tkW g ta tr tf, pgW g ph pa pr_1 pf_2]) H := hP
  replace hD : va_D A (vz_w [rdW g h va vi vr vf (ta 0) ph, tkW g ta tr tf, pgW g ph pa pr_1 pf_2]) := hD
  refine lv_istore_n (lv' := [(2, .int v4), (0, .ref h), (1, .int (nI dn))]) hx hb dX3_readElement_9 rfl hl (by decide) rfl (fun ls hl => ?_)
  refine lv_aload_n hx hb dX3_readElement_10 rfl (lv_at hl 1 rfl) ?_
  refine vz_Vv3 (As := []) (rest := []) hx hb hml hown hts hK hA hP hD hS (a_D_advance l D g H.size h va vi vr vf ta ph tr tf pa pr_1 pf_2 hw_v hw_t hw_3) kv_X3_89 ⟨by dsimp only; omega, by dsimp only; omega⟩ (q0 := 0) (ci := 3) rfl rfl rfl  hl.1 (Nat.le_of_ble_eq_true rfl) dX3_readElement_11 ⟨Nat.le_refl _, Nat.le_refl _⟩ rfl (fun vi_5 H locs _ _ hP hD hS => ?_)
  replace hP : va_P D vwCl (vz_w [rdW g h va vi_5 vr vf (ta 0) ph, tkW g ta tr tf, pgW g ph pa pr_1 pf_2]) H := hP
  replace hD : va_D A (vz_w [rdW g h va vi_5 vr vf (ta 0) ph, tkW g ta tr tf, pgW g ph pa pr_1 pf_2]) := hD
  refine lv_aload_n hx hb dX3_readElement_14 rfl (lv_at hl 1 rfl) ?_
  refine va_get (D := D) (ci := 3) (v := .int (vi_5 1)) (C := RX3) (T := TX3) (N := 12) hx hb hts inlX3 hown hK hP 0 rfl rfl 6 (by decide) (hts _ q443) (fun _ h => h) rfl dX3_readElement_15 ?_
  refine lv_bipush (v := 91) hx hb dX3_readElement_18 (by decide) ?_
  refine lv_icmp_ne (tgt := 37) hx hb dX3_readElement_20 (by decide) (fun kc6 => ?_) (fun kc6 => ?_)
  · exact J37 v4 vi_5 pr_1 pf_2 hw_3 (Or.inl kc6) H locs ls hP hD hS (lv_sub hl [1, 2, 0] rfl)
  · refine lv_iload_n hx hb dX3_readElement_23 rfl (lv_at hl 2 rfl) ?_
    refine lv_bipush (v := 8) hx hb dX3_readElement_24 (by decide) ?_
    refine lv_icmp_lt (tgt := 37) hx hb dX3_readElement_26 (by decide) (fun kc7 => ?_) (fun kc7 => ?_)
    · exact J37 v4 vi_5 pr_1 pf_2 hw_3 (Or.inr kc7) H locs ls hP hD hS (lv_sub hl [1, 2, 0] rfl)
    · refine lv_aload_n hx hb dX3_readElement_29 rfl (lv_at hl 1 rfl) ?_
      refine lv_iconst (v := 2) hx hb dX3_readElement_30 (by decide) ?_
      refine vz_Vv3 (As := [.int 2]) (rest := []) hx hb hml hown hts hK hA hP hD hS (a_D_fail l D g H.size h va vi_5 vr vf ta ph tr tf pa pr_1 pf_2 2 hw_v hw_t hw_3) kv_X3_68 ⟨by dsimp only; omega, by dsimp only; omega⟩ (q0 := 0) (ci := 3) rfl rfl rfl  hl.1 (Nat.le_of_ble_eq_true rfl) dX3_readElement_31 ⟨Nat.le_refl _, Nat.le_refl _⟩ rfl (fun vi_8 H locs hp9 _ hP hD hS => ?_)
      try dsimp only at hp9
      replace hP : va_P D vwCl (vz_w [rdW g h va vi_8 vr vf (ta 0) ph, tkW g ta tr tf, pgW g ph pa pr_1 pf_2]) H := hP
      replace hD : va_D A (vz_w [rdW g h va vi_8 vr vf (ta 0) ph, tkW g ta tr tf, pgW g ph pa pr_1 pf_2]) := hD
      refine lv_goto (tgt := 81) hx hb dX3_readElement_34 (by decide) ?_
      exact J81 v4 vi_8 pr_1 pf_2 hw_3 H locs ls hP hD hS (lv_sub hl [1, 2, 0] rfl)
theorem q549 : Cond.methodLink RX3 127 yX3_isNoVariable ∈ wsL_law := mT_3 (List.mem_of_getElem? (i := 180) rfl) rfl
theorem q550 : Cond.instanceMethod yX3_isNoVariable ∈ wsL_law := mT_3 (List.mem_of_getElem? (i := 182) rfl) rfl
theorem q551 : Cond.selects RX3 yX3_isNoVariable yX3_isNoVariable ∈ wsL_law := mS_1 (q := (yX3_isNoVariable, 12)) (List.mem_of_getElem? (i := 14) rfl) rfl
theorem q552 : Cond.code yX3_isNoVariable cX3_isNoVariable 1 (some .boolean) ∈ wsL_law := mT_3 (List.mem_of_getElem? (i := 183) rfl) rfl
theorem kv_X3_127 : vz_cv RX3 127 yX3_isNoVariable cX3_isNoVariable 1 (some .boolean) 0 := ⟨q549, q550, q551, q28, q552, by decide +kernel⟩
theorem q561 : Cond.methodLink RX3 204 yX3_readElement ∈ wsL_law := mT_3 (List.mem_of_getElem? (i := 208) rfl) rfl
theorem q562 : Cond.instanceMethod yX3_readElement ∈ wsL_law := mT_3 (List.mem_of_getElem? (i := 210) rfl) rfl
theorem q563 : Cond.selects RX3 yX3_readElement yX3_readElement ∈ wsL_law := mS_2 (q := (yX3_readElement, 12)) (List.mem_of_getElem? (i := 5) rfl) rfl
theorem q547 : Cond.code yX3_readElement cX3_readElement 3 (some .int) ∈ wsL_law := mT_3 (List.mem_of_getElem? (i := 211) rfl) rfl
theorem kv_X3_204 : vz_cv RX3 204 yX3_readElement cX3_readElement 3 (some .int) 1 := ⟨q561, q562, q563, q28, q547, by decide +kernel⟩
theorem q557 : Cond.methodLink RX3 187 yX3_readRowName ∈ wsL_law := mT_3 (List.mem_of_getElem? (i := 204) rfl) rfl
theorem q558 : Cond.instanceMethod yX3_readRowName ∈ wsL_law := mT_3 (List.mem_of_getElem? (i := 206) rfl) rfl
theorem q559 : Cond.selects RX3 yX3_readRowName yX3_readRowName ∈ wsL_law := mS_2 (q := (yX3_readRowName, 12)) (List.mem_of_getElem? (i := 4) rfl) rfl
theorem q560 : Cond.code yX3_readRowName cX3_readRowName 2 (some .int) ∈ wsL_law := mT_3 (List.mem_of_getElem? (i := 207) rfl) rfl
theorem kv_X3_187 : vz_cv RX3 187 yX3_readRowName cX3_readRowName 2 (some .int) 0 := ⟨q557, q558, q559, q28, q560, by decide +kernel⟩
theorem dX3_readFactor_0 : decode cX3_readFactor 0 = .ok (.aload_n 0, 1) := by decide +kernel
theorem dX3_readFactor_1 : decode cX3_readFactor 1 = .ok (.invokevirtual 127, 3) := by decide +kernel
theorem dX3_readFactor_4 : decode cX3_readFactor 4 = .ok (.ifCond .ne 44, 3) := by decide +kernel
theorem dX3_readFactor_7 : decode cX3_readFactor 7 = .ok (.aload_n 0, 1) := by decide +kernel
theorem dX3_readFactor_8 : decode cX3_readFactor 8 = .ok (.invokevirtual 131, 3) := by decide +kernel
theorem dX3_readFactor_11 : decode cX3_readFactor 11 = .ok (.ifCond .ne 37, 3) := by decide +kernel
theorem dX3_readFactor_14 : decode cX3_readFactor 14 = .ok (.iload_n 1, 1) := by decide +kernel
theorem dX3_readFactor_15 : decode cX3_readFactor 15 = .ok (.bipush 8, 2) := by decide +kernel
theorem dX3_readFactor_17 : decode cX3_readFactor 17 = .ok (.if_icmp .lt 39, 3) := by decide +kernel
theorem dX3_readFactor_20 : decode cX3_readFactor 20 = .ok (.aload_n 0, 1) := by decide +kernel
theorem dX3_readFactor_21 : decode cX3_readFactor 21 = .ok (.getfield 41, 3) := by decide +kernel
theorem dX3_readFactor_24 : decode cX3_readFactor 24 = .ok (.bipush 45, 2) := by decide +kernel
theorem dX3_readFactor_26 : decode cX3_readFactor 26 = .ok (.if_icmp .eq 22, 3) := by decide +kernel
theorem dX3_readFactor_29 : decode cX3_readFactor 29 = .ok (.aload_n 0, 1) := by decide +kernel
theorem dX3_readFactor_30 : decode cX3_readFactor 30 = .ok (.getfield 41, 3) := by decide +kernel
theorem dX3_readFactor_33 : decode cX3_readFactor 33 = .ok (.bipush 40, 2) := by decide +kernel
theorem dX3_readFactor_35 : decode cX3_readFactor 35 = .ok (.if_icmp .eq 13, 3) := by decide +kernel
theorem dX3_readFactor_38 : decode cX3_readFactor 38 = .ok (.aload_n 0, 1) := by decide +kernel
theorem dX3_readFactor_39 : decode cX3_readFactor 39 = .ok (.getfield 41, 3) := by decide +kernel
theorem dX3_readFactor_42 : decode cX3_readFactor 42 = .ok (.sipush 148, 3) := by decide +kernel
theorem dX3_readFactor_45 : decode cX3_readFactor 45 = .ok (.if_icmp .ne 11, 3) := by decide +kernel
theorem dX3_readFactor_48 : decode cX3_readFactor 48 = .ok (.aload_n 0, 1) := by decide +kernel
theorem dX3_readFactor_49 : decode cX3_readFactor 49 = .ok (.iconst 2, 1) := by decide +kernel
theorem dX3_readFactor_50 : decode cX3_readFactor 50 = .ok (.invokevirtual 68, 3) := by decide +kernel
theorem dX3_readFactor_53 : decode cX3_readFactor 53 = .ok (.bipush (-9), 2) := by decide +kernel
theorem dX3_readFactor_55 : decode cX3_readFactor 55 = .ok (.ireturn, 1) := by decide +kernel
theorem dX3_readFactor_56 : decode cX3_readFactor 56 = .ok (.bipush (-9), 2) := by decide +kernel
theorem dX3_readFactor_58 : decode cX3_readFactor 58 = .ok (.istore_n 2, 1) := by decide +kernel
theorem dX3_readFactor_59 : decode cX3_readFactor 59 = .ok (.aload_n 0, 1) := by decide +kernel
theorem dX3_readFactor_60 : decode cX3_readFactor 60 = .ok (.getfield 41, 3) := by decide +kernel
theorem dX3_readFactor_63 : decode cX3_readFactor 63 = .ok (.lookupswitch 172 #[(2, 57), (5, 74), (6, 163), (40, 124), (45, 91), (148, 146)], 57) := by decide +kernel
theorem dX3_readFactor_120 : decode cX3_readFactor 120 = .ok (.aload_n 0, 1) := by decide +kernel
theorem dX3_readFactor_121 : decode cX3_readFactor 121 = .ok (.iconst 0, 1) := by decide +kernel
theorem dX3_readFactor_122 : decode cX3_readFactor 122 = .ok (.aload_n 0, 1) := by decide +kernel
theorem dX3_readFactor_123 : decode cX3_readFactor 123 = .ok (.getfield 95, 3) := by decide +kernel
theorem dX3_readFactor_126 : decode cX3_readFactor 126 = .ok (.invokevirtual 198, 3) := by decide +kernel
theorem dX3_readFactor_129 : decode cX3_readFactor 129 = .ok (.istore_n 2, 1) := by decide +kernel
theorem dX3_readFactor_130 : decode cX3_readFactor 130 = .ok (.aload_n 0, 1) := by decide +kernel
theorem dX3_readFactor_131 : decode cX3_readFactor 131 = .ok (.invokevirtual 89, 3) := by decide +kernel
theorem dX3_readFactor_134 : decode cX3_readFactor 134 = .ok (.goto 106, 3) := by decide +kernel
theorem dX3_readFactor_137 : decode cX3_readFactor 137 = .ok (.aload_n 0, 1) := by decide +kernel
theorem dX3_readFactor_138 : decode cX3_readFactor 138 = .ok (.iconst 1, 1) := by decide +kernel
theorem dX3_readFactor_139 : decode cX3_readFactor 139 = .ok (.aload_n 0, 1) := by decide +kernel
theorem dX3_readFactor_140 : decode cX3_readFactor 140 = .ok (.getfield 95, 3) := by decide +kernel
theorem dX3_readFactor_143 : decode cX3_readFactor 143 = .ok (.invokevirtual 198, 3) := by decide +kernel
theorem dX3_readFactor_146 : decode cX3_readFactor 146 = .ok (.istore_n 2, 1) := by decide +kernel
theorem dX3_readFactor_147 : decode cX3_readFactor 147 = .ok (.aload_n 0, 1) := by decide +kernel
theorem dX3_readFactor_148 : decode cX3_readFactor 148 = .ok (.invokevirtual 89, 3) := by decide +kernel
theorem dX3_readFactor_151 : decode cX3_readFactor 151 = .ok (.goto 89, 3) := by decide +kernel
theorem dX3_readFactor_154 : decode cX3_readFactor 154 = .ok (.aload_n 0, 1) := by decide +kernel
theorem dX3_readFactor_155 : decode cX3_readFactor 155 = .ok (.invokevirtual 89, 3) := by decide +kernel
theorem dX3_readFactor_158 : decode cX3_readFactor 158 = .ok (.aload_n 0, 1) := by decide +kernel
theorem dX3_readFactor_159 : decode cX3_readFactor 159 = .ok (.iconst 4, 1) := by decide +kernel
theorem dX3_readFactor_160 : decode cX3_readFactor 160 = .ok (.iconst 0, 1) := by decide +kernel
theorem dX3_readFactor_161 : decode cX3_readFactor 161 = .ok (.invokevirtual 198, 3) := by decide +kernel
theorem dX3_readFactor_164 : decode cX3_readFactor 164 = .ok (.istore_n 2, 1) := by decide +kernel
theorem dX3_readFactor_165 : decode cX3_readFactor 165 = .ok (.aload_n 0, 1) := by decide +kernel
theorem dX3_readFactor_166 : decode cX3_readFactor 166 = .ok (.getfield 15, 3) := by decide +kernel
theorem dX3_readFactor_169 : decode cX3_readFactor 169 = .ok (.getfield 201, 3) := by decide +kernel
theorem dX3_readFactor_172 : decode cX3_readFactor 172 = .ok (.iload_n 2, 1) := by decide +kernel
theorem dX3_readFactor_173 : decode cX3_readFactor 173 = .ok (.iconst 2, 1) := by decide +kernel
theorem dX3_readFactor_174 : decode cX3_readFactor 174 = .ok (.aload_n 0, 1) := by decide +kernel
theorem dX3_readFactor_175 : decode cX3_readFactor 175 = .ok (.iload_n 1, 1) := by decide +kernel
theorem dX3_readFactor_176 : decode cX3_readFactor 176 = .ok (.iconst 1, 1) := by decide +kernel
theorem dX3_readFactor_177 : decode cX3_readFactor 177 = .ok (.iadd, 1) := by decide +kernel
theorem dX3_readFactor_178 : decode cX3_readFactor 178 = .ok (.invokevirtual 190, 3) := by decide +kernel
theorem dX3_readFactor_181 : decode cX3_readFactor 181 = .ok (.invokevirtual 60, 3) := by decide +kernel
theorem dX3_readFactor_184 : decode cX3_readFactor 184 = .ok (.goto 56, 3) := by decide +kernel
theorem dX3_readFactor_187 : decode cX3_readFactor 187 = .ok (.aload_n 0, 1) := by decide +kernel
theorem dX3_readFactor_188 : decode cX3_readFactor 188 = .ok (.invokevirtual 89, 3) := by decide +kernel
theorem dX3_readFactor_191 : decode cX3_readFactor 191 = .ok (.aload_n 0, 1) := by decide +kernel
theorem dX3_readFactor_192 : decode cX3_readFactor 192 = .ok (.iload_n 1, 1) := by decide +kernel
theorem dX3_readFactor_193 : decode cX3_readFactor 193 = .ok (.iconst 1, 1) := by decide +kernel
theorem dX3_readFactor_194 : decode cX3_readFactor 194 = .ok (.iadd, 1) := by decide +kernel
theorem dX3_readFactor_195 : decode cX3_readFactor 195 = .ok (.iconst 1, 1) := by decide +kernel
theorem dX3_readFactor_196 : decode cX3_readFactor 196 = .ok (.invokevirtual 164, 3) := by decide +kernel
theorem dX3_readFactor_199 : decode cX3_readFactor 199 = .ok (.istore_n 2, 1) := by decide +kernel
theorem dX3_readFactor_200 : decode cX3_readFactor 200 = .ok (.aload_n 0, 1) := by decide +kernel
theorem dX3_readFactor_201 : decode cX3_readFactor 201 = .ok (.bipush 41, 2) := by decide +kernel
theorem dX3_readFactor_203 : decode cX3_readFactor 203 = .ok (.invokevirtual 64, 3) := by decide +kernel
theorem dX3_readFactor_206 : decode cX3_readFactor 206 = .ok (.goto 34, 3) := by decide +kernel
theorem dX3_readFactor_209 : decode cX3_readFactor 209 = .ok (.aload_n 0, 1) := by decide +kernel
theorem dX3_readFactor_210 : decode cX3_readFactor 210 = .ok (.invokevirtual 89, 3) := by decide +kernel
theorem dX3_readFactor_213 : decode cX3_readFactor 213 = .ok (.aload_n 0, 1) := by decide +kernel
theorem dX3_readFactor_214 : decode cX3_readFactor 214 = .ok (.iconst 3, 1) := by decide +kernel
theorem dX3_readFactor_215 : decode cX3_readFactor 215 = .ok (.aload_n 0, 1) := by decide +kernel
theorem dX3_readFactor_216 : decode cX3_readFactor 216 = .ok (.invokevirtual 187, 3) := by decide +kernel
theorem dX3_readFactor_219 : decode cX3_readFactor 219 = .ok (.invokevirtual 198, 3) := by decide +kernel
theorem dX3_readFactor_222 : decode cX3_readFactor 222 = .ok (.istore_n 2, 1) := by decide +kernel
theorem dX3_readFactor_223 : decode cX3_readFactor 223 = .ok (.goto 17, 3) := by decide +kernel
theorem dX3_readFactor_226 : decode cX3_readFactor 226 = .ok (.aload_n 0, 1) := by decide +kernel
theorem dX3_readFactor_227 : decode cX3_readFactor 227 = .ok (.iload_n 1, 1) := by decide +kernel
theorem dX3_readFactor_228 : decode cX3_readFactor 228 = .ok (.invokevirtual 204, 3) := by decide +kernel
theorem dX3_readFactor_231 : decode cX3_readFactor 231 = .ok (.istore_n 2, 1) := by decide +kernel
theorem dX3_readFactor_232 : decode cX3_readFactor 232 = .ok (.goto 8, 3) := by decide +kernel
theorem dX3_readFactor_235 : decode cX3_readFactor 235 = .ok (.aload_n 0, 1) := by decide +kernel
theorem dX3_readFactor_236 : decode cX3_readFactor 236 = .ok (.iconst 1, 1) := by decide +kernel
theorem dX3_readFactor_237 : decode cX3_readFactor 237 = .ok (.invokevirtual 68, 3) := by decide +kernel
theorem dX3_readFactor_240 : decode cX3_readFactor 240 = .ok (.iload_n 2, 1) := by decide +kernel
theorem dX3_readFactor_241 : decode cX3_readFactor 241 = .ok (.ireturn, 1) := by decide +kernel
set_option maxHeartbeats 8000000 in
set_option maxRecDepth 100000 in
theorem a_D_factor (l : Launch) (D : va_G) (g : Nat → ClassId) (dn : Nat) (hdn : dn ≤ 8) (hF : dn < 8 → ∀ (sz : Nat) (h : Nat) (va : Nat → Nat) (vi : Nat → Int32) (vr : Nat → Nat) (vf : Nat → Nat → Int32) (ta : Nat → Nat) (ph : Nat) (tr : Nat → Nat) (tf : Nat → Nat → Int32) (pa : Nat → Nat) (pr : Nat → Nat) (pf : Nat → Nat → Int32) (hw_v : ∀ k, vr k ≤ rdW_lim k) (hw_t : ∀ k, tr k ≤ tkW_lim k) (hw_p : ∀ k, pr k ≤ pgW_lim k), vz_Mi l D (tyG g) yX3_readFactor cX3_readFactor 3 (4 * (8 - (dn + 1)) + 10) (100 * (8 - (dn + 1)) + 300) 0 0 .int [.ref h, .int (nI (dn + 1))] sz (vz_w [rdW g h va vi vr vf (ta 0) ph, tkW g ta tr tf, pgW g ph pa pr pf]) (fun r (u : (Nat → Int32) × (Nat → Nat) × (Nat → Nat → Int32)) => (∀ k, u.2.1 k ≤ pgW_lim k)) (fun u => vz_w [rdW g h va u.1 vr vf (ta 0) ph, tkW g ta tr tf, pgW g ph pa u.2.1 u.2.2])) (sz : Nat) (h : Nat) (va : Nat → Nat) (vi : Nat → Int32) (vr : Nat → Nat) (vf : Nat → Nat → Int32) (ta : Nat → Nat) (ph : Nat) (tr : Nat → Nat) (tf : Nat → Nat → Int32) (pa : Nat → Nat) (pr : Nat → Nat) (pf : Nat → Nat → Int32) (hw_v : ∀ k, vr k ≤ rdW_lim k) (hw_t : ∀ k, tr k ≤ tkW_lim k) (hw_p : ∀ k, pr k ≤ pgW_lim k) : vz_Mi l D (tyG g) yX3_readFactor cX3_readFactor 3 (4 * (8 - dn) + 10) (100 * (8 - dn) + 300) 0 0 .int [.ref h, .int (nI dn)] sz (vz_w [rdW g h va vi vr vf (ta 0) ph, tkW g ta tr tf, pgW g ph pa pr pf]) (fun r (u : (Nat → Int32) × (Nat → Nat) × (Nat → Nat → Int32)) => (∀ k, u.2.1 k ≤ pgW_lim k)) (fun u => vz_w [rdW g h va u.1 vr vf (ta 0) ph, tkW g ta tr tf, pgW g ph pa u.2.1 u.2.2]) := by
  refine vz_siQ (by decide) (Nat.le_of_ble_eq_true rfl) (fun p e s m args below meth c hx hb hr hml hts hown hlk hin hK hsz A hA H locs hP hD hS ls hl Q hQ => ?_)
  have hl : lv_has ls 3 [(0, .ref h), (1, .int (nI dn))] := hl
  have J240 : ∀ (x2_240 : Int32), ∀ (vi_240 : Nat → Int32), ∀ (pr_240 : Nat → Nat), ∀ (pf_240 : Nat → Nat → Int32), (∀ k, pr_240 k ≤ pgW_lim k) → ∀ (H : Heap) (locs : List Loc) (ls : Array Slot), va_P D vwCl (vz_w [rdW g h va vi_240 vr vf (ta 0) ph, tkW g ta tr tf, pgW g ph pa pr_240 pf_240]) H → va_D A (vz_w [rdW g h va vi_240 vr vf (ta 0) ph, tkW g ta tr tf, pgW g ph pa pr_240 pf_240]) → va_S A s.heap H locs → lv_has ls 3 [(0, .ref h), (1, .int (nI dn)), (2, .int x2_240)] → W p l e { frames := (4 * (8 - dn) + 10), cells := 0, slots := 0, locals := (100 * (8 - dn) + 300) } s m args below meth c H locs 0 0 Q (F0 m 240 ls []) := by
    intro x2_240 vi_240 pr_240 pf_240 hw_p_240 H locs ls hP hD hS hl
    refine lv_iload_n hx hb dX3_readFactor_240 rfl (lv_at hl 2 rfl) ?_
    rw [hQ]
    exact vz_iret3 hx hb hr hlk hK hP hD hS (vi_240, pr_240, pf_240) hw_p_240 rfl (Nat.le_refl 0) (Nat.le_refl 0) dX3_readFactor_241
  have J56 : ∀ (vi_56 : Nat → Int32), ∀ (pr_56 : Nat → Nat), ∀ (pf_56 : Nat → Nat → Int32), (∀ k, pr_56 k ≤ pgW_lim k) → (nI dn < 8 ∨ (¬ vi_56 1 = 45 ∧ ¬ vi_56 1 = 40 ∧ ¬ vi_56 1 = 148)) → ∀ (H : Heap) (locs : List Loc) (ls : Array Slot), va_P D vwCl (vz_w [rdW g h va vi_56 vr vf (ta 0) ph, tkW g ta tr tf, pgW g ph pa pr_56 pf_56]) H → va_D A (vz_w [rdW g h va vi_56 vr vf (ta 0) ph, tkW g ta tr tf, pgW g ph pa pr_56 pf_56]) → va_S A s.heap H locs → lv_has ls 3 [(0, .ref h), (1, .int (nI dn))] → W p l e { frames := (4 * (8 - dn) + 10), cells := 0, slots := 0, locals := (100 * (8 - dn) + 300) } s m args below meth c H locs 0 0 Q (F0 m 56 ls []) := by
    intro vi_56 pr_56 pf_56 hw_p_56 hj56_0 H locs ls hP hD hS hl
    refine lv_bipush (v := (-9)) hx hb dX3_readFactor_56 (by decide) ?_
    refine lv_istore_n (lv' := [(2, .int (-9)), (0, .ref h), (1, .int (nI dn))]) hx hb dX3_readFactor_58 rfl hl (by decide) rfl (fun ls hl => ?_)
    refine lv_aload_n hx hb dX3_readFactor_59 rfl (lv_at hl 1 rfl) ?_
    refine va_get (D := D) (ci := 3) (v := .int (vi_56 1)) (C := RX3) (T := TX3) (N := 12) hx hb hts inlX3 hown hK hP 0 rfl rfl 6 (by decide) (hts _ q443) (fun _ h => h) rfl dX3_readFactor_60 ?_
    have S63_120 : W p l e { frames := (4 * (8 - dn) + 10), cells := 0, slots := 0, locals := (100 * (8 - dn) + 300) } s m args below meth c H locs 0 0 Q (F0 m 120 ls []) := by
      refine lv_aload_n hx hb dX3_readFactor_120 rfl (lv_at hl 1 rfl) ?_
      refine lv_iconst (v := 0) hx hb dX3_readFactor_121 (by decide) ?_
      refine lv_aload_n hx hb dX3_readFactor_122 rfl (lv_at hl 1 rfl) ?_
      refine va_get (D := D) (ci := 3) (v := .int (vi_56 2)) (C := RX3) (T := TX3) (N := 12) hx hb hts inlX3 hown hK hP 0 rfl rfl 7 (by decide) (hts _ q464) (fun _ h => h) rfl dX3_readFactor_123 ?_
      refine vz_Vi3 (As := [.int 0, .int (vi_56 2)]) (rest := []) hx hb hml hown hts hK hA hP hD hS (a_D_newNode l D g H.size h va vi_56 vr vf ta ph tr tf pa pr_56 pf_56 0 (vi_56 2) hw_v hw_t hw_p_56) kv_X3_198 ⟨by dsimp only; omega, by dsimp only; omega⟩ (q0 := 0) (ci := 3) rfl rfl rfl  hl.1 (Nat.le_of_ble_eq_true rfl) dX3_readFactor_126 ⟨Nat.le_refl _, Nat.le_refl _⟩ rfl (fun v4 ⟨pr_1, pf_2⟩ H locs hw_3 _ hP hD hS => ?_)
      try dsimp only at hw_3
      replace hP : va_P D vwCl (vz_w [rdW g h va vi_56 vr vf (ta 0) ph, tkW g ta tr tf, pgW g ph pa pr_1 pf_2]) H := hP
      replace hD : va_D A (vz_w [rdW g h va vi_56 vr vf (ta 0) ph, tkW g ta tr tf, pgW g ph pa pr_1 pf_2]) := hD
      refine lv_istore_n (lv' := [(2, .int v4), (0, .ref h), (1, .int (nI dn))]) hx hb dX3_readFactor_129 rfl hl (by decide) rfl (fun ls hl => ?_)
      refine lv_aload_n hx hb dX3_readFactor_130 rfl (lv_at hl 1 rfl) ?_
      refine vz_Vv3 (As := []) (rest := []) hx hb hml hown hts hK hA hP hD hS (a_D_advance l D g H.size h va vi_56 vr vf ta ph tr tf pa pr_1 pf_2 hw_v hw_t hw_3) kv_X3_89 ⟨by dsimp only; omega, by dsimp only; omega⟩ (q0 := 0) (ci := 3) rfl rfl rfl  hl.1 (Nat.le_of_ble_eq_true rfl) dX3_readFactor_131 ⟨Nat.le_refl _, Nat.le_refl _⟩ rfl (fun vi_5 H locs _ _ hP hD hS => ?_)
      replace hP : va_P D vwCl (vz_w [rdW g h va vi_5 vr vf (ta 0) ph, tkW g ta tr tf, pgW g ph pa pr_1 pf_2]) H := hP
      replace hD : va_D A (vz_w [rdW g h va vi_5 vr vf (ta 0) ph, tkW g ta tr tf, pgW g ph pa pr_1 pf_2]) := hD
      refine lv_goto (tgt := 240) hx hb dX3_readFactor_134 (by decide) ?_
      exact J240 v4 vi_5 pr_1 pf_2 hw_3 H locs ls hP hD hS (lv_sub hl [1, 2, 0] rfl)
    have S63_137 : W p l e { frames := (4 * (8 - dn) + 10), cells := 0, slots := 0, locals := (100 * (8 - dn) + 300) } s m args below meth c H locs 0 0 Q (F0 m 137 ls []) := by
      refine lv_aload_n hx hb dX3_readFactor_137 rfl (lv_at hl 1 rfl) ?_
      refine lv_iconst (v := 1) hx hb dX3_readFactor_138 (by decide) ?_
      refine lv_aload_n hx hb dX3_readFactor_139 rfl (lv_at hl 1 rfl) ?_
      refine va_get (D := D) (ci := 3) (v := .int (vi_56 2)) (C := RX3) (T := TX3) (N := 12) hx hb hts inlX3 hown hK hP 0 rfl rfl 7 (by decide) (hts _ q464) (fun _ h => h) rfl dX3_readFactor_140 ?_
      refine vz_Vi3 (As := [.int 1, .int (vi_56 2)]) (rest := []) hx hb hml hown hts hK hA hP hD hS (a_D_newNode l D g H.size h va vi_56 vr vf ta ph tr tf pa pr_56 pf_56 1 (vi_56 2) hw_v hw_t hw_p_56) kv_X3_198 ⟨by dsimp only; omega, by dsimp only; omega⟩ (q0 := 0) (ci := 3) rfl rfl rfl  hl.1 (Nat.le_of_ble_eq_true rfl) dX3_readFactor_143 ⟨Nat.le_refl _, Nat.le_refl _⟩ rfl (fun v9 ⟨pr_6, pf_7⟩ H locs hw_8 _ hP hD hS => ?_)
      try dsimp only at hw_8
      replace hP : va_P D vwCl (vz_w [rdW g h va vi_56 vr vf (ta 0) ph, tkW g ta tr tf, pgW g ph pa pr_6 pf_7]) H := hP
      replace hD : va_D A (vz_w [rdW g h va vi_56 vr vf (ta 0) ph, tkW g ta tr tf, pgW g ph pa pr_6 pf_7]) := hD
      refine lv_istore_n (lv' := [(2, .int v9), (0, .ref h), (1, .int (nI dn))]) hx hb dX3_readFactor_146 rfl hl (by decide) rfl (fun ls hl => ?_)
      refine lv_aload_n hx hb dX3_readFactor_147 rfl (lv_at hl 1 rfl) ?_
      refine vz_Vv3 (As := []) (rest := []) hx hb hml hown hts hK hA hP hD hS (a_D_advance l D g H.size h va vi_56 vr vf ta ph tr tf pa pr_6 pf_7 hw_v hw_t hw_8) kv_X3_89 ⟨by dsimp only; omega, by dsimp only; omega⟩ (q0 := 0) (ci := 3) rfl rfl rfl  hl.1 (Nat.le_of_ble_eq_true rfl) dX3_readFactor_148 ⟨Nat.le_refl _, Nat.le_refl _⟩ rfl (fun vi_10 H locs _ _ hP hD hS => ?_)
      replace hP : va_P D vwCl (vz_w [rdW g h va vi_10 vr vf (ta 0) ph, tkW g ta tr tf, pgW g ph pa pr_6 pf_7]) H := hP
      replace hD : va_D A (vz_w [rdW g h va vi_10 vr vf (ta 0) ph, tkW g ta tr tf, pgW g ph pa pr_6 pf_7]) := hD
      refine lv_goto (tgt := 240) hx hb dX3_readFactor_151 (by decide) ?_
      exact J240 v9 vi_10 pr_6 pf_7 hw_8 H locs ls hP hD hS (lv_sub hl [1, 2, 0] rfl)
    have S63_154 : ((vi_56 1) = 45) → W p l e { frames := (4 * (8 - dn) + 10), cells := 0, slots := 0, locals := (100 * (8 - dn) + 300) } s m args below meth c H locs 0 0 Q (F0 m 154 ls []) := by
      intro hsw
      refine lv_aload_n hx hb dX3_readFactor_154 rfl (lv_at hl 1 rfl) ?_
      refine vz_Vv3 (As := []) (rest := []) hx hb hml hown hts hK hA hP hD hS (a_D_advance l D g H.size h va vi_56 vr vf ta ph tr tf pa pr_56 pf_56 hw_v hw_t hw_p_56) kv_X3_89 ⟨by dsimp only; omega, by dsimp only; omega⟩ (q0 := 0) (ci := 3) rfl rfl rfl  hl.1 (Nat.le_of_ble_eq_true rfl) dX3_readFactor_155 ⟨Nat.le_refl _, Nat.le_refl _⟩ rfl (fun vi_11 H locs _ _ hP hD hS => ?_)
      replace hP : va_P D vwCl (vz_w [rdW g h va vi_11 vr vf (ta 0) ph, tkW g ta tr tf, pgW g ph pa pr_56 pf_56]) H := hP
      replace hD : va_D A (vz_w [rdW g h va vi_11 vr vf (ta 0) ph, tkW g ta tr tf, pgW g ph pa pr_56 pf_56]) := hD
      refine lv_aload_n hx hb dX3_readFactor_158 rfl (lv_at hl 1 rfl) ?_
      refine lv_iconst (v := 4) hx hb dX3_readFactor_159 (by decide) ?_
      refine lv_iconst (v := 0) hx hb dX3_readFactor_160 (by decide) ?_
      refine vz_Vi3 (As := [.int 4, .int 0]) (rest := []) hx hb hml hown hts hK hA hP hD hS (a_D_newNode l D g H.size h va vi_11 vr vf ta ph tr tf pa pr_56 pf_56 4 0 hw_v hw_t hw_p_56) kv_X3_198 ⟨by dsimp only; omega, by dsimp only; omega⟩ (q0 := 0) (ci := 3) rfl rfl rfl  hl.1 (Nat.le_of_ble_eq_true rfl) dX3_readFactor_161 ⟨Nat.le_refl _, Nat.le_refl _⟩ rfl (fun v15 ⟨pr_12, pf_13⟩ H locs hw_14 _ hP hD hS => ?_)
      try dsimp only at hw_14
      replace hP : va_P D vwCl (vz_w [rdW g h va vi_11 vr vf (ta 0) ph, tkW g ta tr tf, pgW g ph pa pr_12 pf_13]) H := hP
      replace hD : va_D A (vz_w [rdW g h va vi_11 vr vf (ta 0) ph, tkW g ta tr tf, pgW g ph pa pr_12 pf_13]) := hD
      refine lv_istore_n (lv' := [(2, .int v15), (0, .ref h), (1, .int (nI dn))]) hx hb dX3_readFactor_164 rfl hl (by decide) rfl (fun ls hl => ?_)
      refine lv_aload_n hx hb dX3_readFactor_165 rfl (lv_at hl 1 rfl) ?_
      refine va_get (D := D) (ci := 3) (v := .ref ph) (C := RX3) (T := TX3) (N := 12) hx hb hts inlX3 hown hK hP 0 rfl rfl 4 (by decide) (hts _ q97) (fun _ h => h) rfl dX3_readFactor_166 ?_
      refine va_get (D := D) (ci := 2) (v := .ref (pa 2)) (C := RX2) (T := TX2) (N := 5) hx hb hts inlX2 hown hK hP 9 rfl rfl 1 (by decide) (hts _ q536) (fun _ h => h) rfl dX3_readFactor_169 ?_
      refine lv_iload_n hx hb dX3_readFactor_172 rfl (lv_at hl 0 rfl) ?_
      refine lv_iconst (v := 2) hx hb dX3_readFactor_173 (by decide) ?_
      refine lv_aload_n hx hb dX3_readFactor_174 rfl (lv_at hl 1 rfl) ?_
      refine lv_iload_n hx hb dX3_readFactor_175 rfl (lv_at hl 2 rfl) ?_
      refine lv_iconst (v := 1) hx hb dX3_readFactor_176 (by decide) ?_
      refine lv_iadd hx hb dX3_readFactor_177 ?_
      refine lv_topi (nm_r (e' := (nI (dn + 1))) (nI_1 dn) ?_)
      refine vz_Vi3 (As := [.int (nI (dn + 1))]) (rest := [.int 2, .int v15, .ref (pa 2)]) hx hb hml hown hts hK hA hP hD hS (hF (vz_ltc (B := 8) (by decide) (by omega) (hj56_0.elim (fun h => h) (fun h => absurd hsw h.1))) H.size h va vi_11 vr vf ta ph tr tf pa pr_12 pf_13 hw_v hw_t hw_14) kv_X3_190 ⟨by have hq := (vz_ltc (B := 8) (by decide) (by omega) (hj56_0.elim (fun h => h) (fun h => absurd hsw h.1))); dsimp only; omega, by have hq := (vz_ltc (B := 8) (by decide) (by omega) (hj56_0.elim (fun h => h) (fun h => absurd hsw h.1))); dsimp only; omega⟩ (q0 := 0) (ci := 3) rfl rfl rfl  hl.1 (Nat.le_of_ble_eq_true rfl) dX3_readFactor_178 ⟨Nat.le_refl _, Nat.le_refl _⟩ rfl (fun v20 ⟨vi_16, pr_17, pf_18⟩ H locs hw_19 _ hP hD hS => ?_)
      try dsimp only at hw_19
      replace hP : va_P D vwCl (vz_w [rdW g h va vi_16 vr vf (ta 0) ph, tkW g ta tr tf, pgW g ph pa pr_17 pf_18]) H := hP
      replace hD : va_D A (vz_w [rdW g h va vi_16 vr vf (ta 0) ph, tkW g ta tr tf, pgW g ph pa pr_17 pf_18]) := hD
      refine vz_Vv2 (ws' := fun u : (Nat → Int32) => vz_w [rdW g h va vi_16 vr vf (ta 0) ph, tkW g ta tr tf, pgW g ph pa pr_17 (vz_uf pf_18 1 u)]) (As := [.int v15, .int 2, .int v20]) (rest := []) hx hb hml hown hts hK hA hP hD hS (c_T_set l D g (pa 2) (pa 3) H.size 5 1000 (pr_17 1) 5000 (pf_18 1) v15 2 v20 ⟨rfl, by decide, by decide, by decide, by decide, hw_19 1⟩) kv_X3_60 ⟨by dsimp only; omega, by dsimp only; omega⟩ (q0 := 12) (ci := 6) rfl rfl rfl [12, 13] rfl (by decide) (fun _ => rfl) (fun _ => rfl) hl.1 (Nat.le_of_ble_eq_true rfl) dX3_readFactor_181 ⟨Nat.le_refl _, Nat.le_refl _⟩ rfl (fun nf21 H locs _ _ hP hD hS => ?_)
      obtain ⟨pf_22, hP, hD⟩ : ∃ pf_22 : Nat → Nat → Int32, va_P D vwCl (vz_w [rdW g h va vi_16 vr vf (ta 0) ph, tkW g ta tr tf, pgW g ph pa pr_17 pf_22]) H ∧ va_D A (vz_w [rdW g h va vi_16 vr vf (ta 0) ph, tkW g ta tr tf, pgW g ph pa pr_17 pf_22]) := ⟨(vz_uf pf_18 1 nf21), hP, hD⟩
      refine lv_goto (tgt := 240) hx hb dX3_readFactor_184 (by decide) ?_
      exact J240 v15 vi_16 pr_17 pf_22 hw_19 H locs ls hP hD hS (lv_sub hl [1, 2, 0] rfl)
    have S63_187 : ((vi_56 1) = 40) → W p l e { frames := (4 * (8 - dn) + 10), cells := 0, slots := 0, locals := (100 * (8 - dn) + 300) } s m args below meth c H locs 0 0 Q (F0 m 187 ls []) := by
      intro hsw
      refine lv_aload_n hx hb dX3_readFactor_187 rfl (lv_at hl 1 rfl) ?_
      refine vz_Vv3 (As := []) (rest := []) hx hb hml hown hts hK hA hP hD hS (a_D_advance l D g H.size h va vi_56 vr vf ta ph tr tf pa pr_56 pf_56 hw_v hw_t hw_p_56) kv_X3_89 ⟨by dsimp only; omega, by dsimp only; omega⟩ (q0 := 0) (ci := 3) rfl rfl rfl  hl.1 (Nat.le_of_ble_eq_true rfl) dX3_readFactor_188 ⟨Nat.le_refl _, Nat.le_refl _⟩ rfl (fun vi_23 H locs _ _ hP hD hS => ?_)
      replace hP : va_P D vwCl (vz_w [rdW g h va vi_23 vr vf (ta 0) ph, tkW g ta tr tf, pgW g ph pa pr_56 pf_56]) H := hP
      replace hD : va_D A (vz_w [rdW g h va vi_23 vr vf (ta 0) ph, tkW g ta tr tf, pgW g ph pa pr_56 pf_56]) := hD
      refine lv_aload_n hx hb dX3_readFactor_191 rfl (lv_at hl 1 rfl) ?_
      refine lv_iload_n hx hb dX3_readFactor_192 rfl (lv_at hl 2 rfl) ?_
      refine lv_iconst (v := 1) hx hb dX3_readFactor_193 (by decide) ?_
      refine lv_iadd hx hb dX3_readFactor_194 ?_
      refine lv_topi (nm_r (e' := (nI (dn + 1))) (nI_1 dn) ?_)
      refine lv_iconst (v := 1) hx hb dX3_readFactor_195 (by decide) ?_
      refine vz_Vi3 (As := [.int (nI (dn + 1)), .int 1]) (rest := []) hx hb hml hown hts hK hA hP hD hS (a_D_list1 l D g (dn + 1) (hF (vz_ltc (B := 8) (by decide) (by omega) (hj56_0.elim (fun h => h) (fun h => absurd hsw h.2.1)))) H.size h va vi_23 vr vf ta ph tr tf pa pr_56 pf_56 hw_v hw_t hw_p_56) kv_X3_164 ⟨by have hq := (vz_ltc (B := 8) (by decide) (by omega) (hj56_0.elim (fun h => h) (fun h => absurd hsw h.2.1))); dsimp only; omega, by have hq := (vz_ltc (B := 8) (by decide) (by omega) (hj56_0.elim (fun h => h) (fun h => absurd hsw h.2.1))); dsimp only; omega⟩ (q0 := 0) (ci := 3) rfl rfl rfl  hl.1 (Nat.le_of_ble_eq_true rfl) dX3_readFactor_196 ⟨Nat.le_refl _, Nat.le_refl _⟩ rfl (fun v28 ⟨vi_24, pr_25, pf_26⟩ H locs hw_27 _ hP hD hS => ?_)
      try dsimp only at hw_27
      replace hP : va_P D vwCl (vz_w [rdW g h va vi_24 vr vf (ta 0) ph, tkW g ta tr tf, pgW g ph pa pr_25 pf_26]) H := hP
      replace hD : va_D A (vz_w [rdW g h va vi_24 vr vf (ta 0) ph, tkW g ta tr tf, pgW g ph pa pr_25 pf_26]) := hD
      refine lv_istore_n (lv' := [(2, .int v28), (0, .ref h), (1, .int (nI dn))]) hx hb dX3_readFactor_199 rfl hl (by decide) rfl (fun ls hl => ?_)
      refine lv_aload_n hx hb dX3_readFactor_200 rfl (lv_at hl 1 rfl) ?_
      refine lv_bipush (v := 41) hx hb dX3_readFactor_201 (by decide) ?_
      refine vz_Vv3 (As := [.int 41]) (rest := []) hx hb hml hown hts hK hA hP hD hS (a_D_expect l D g H.size h va vi_24 vr vf ta ph tr tf pa pr_25 pf_26 41 hw_v hw_t hw_27) kv_X3_64 ⟨by dsimp only; omega, by dsimp only; omega⟩ (q0 := 0) (ci := 3) rfl rfl rfl  hl.1 (Nat.le_of_ble_eq_true rfl) dX3_readFactor_203 ⟨Nat.le_refl _, Nat.le_refl _⟩ rfl (fun vi_29 H locs hp30 _ hP hD hS => ?_)
      try dsimp only at hp30
      replace hP : va_P D vwCl (vz_w [rdW g h va vi_29 vr vf (ta 0) ph, tkW g ta tr tf, pgW g ph pa pr_25 pf_26]) H := hP
      replace hD : va_D A (vz_w [rdW g h va vi_29 vr vf (ta 0) ph, tkW g ta tr tf, pgW g ph pa pr_25 pf_26]) := hD
      refine lv_goto (tgt := 240) hx hb dX3_readFactor_206 (by decide) ?_
      exact J240 v28 vi_29 pr_25 pf_26 hw_27 H locs ls hP hD hS (lv_sub hl [1, 2, 0] rfl)
    have S63_209 : W p l e { frames := (4 * (8 - dn) + 10), cells := 0, slots := 0, locals := (100 * (8 - dn) + 300) } s m args below meth c H locs 0 0 Q (F0 m 209 ls []) := by
      refine lv_aload_n hx hb dX3_readFactor_209 rfl (lv_at hl 1 rfl) ?_
      refine vz_Vv3 (As := []) (rest := []) hx hb hml hown hts hK hA hP hD hS (a_D_advance l D g H.size h va vi_56 vr vf ta ph tr tf pa pr_56 pf_56 hw_v hw_t hw_p_56) kv_X3_89 ⟨by dsimp only; omega, by dsimp only; omega⟩ (q0 := 0) (ci := 3) rfl rfl rfl  hl.1 (Nat.le_of_ble_eq_true rfl) dX3_readFactor_210 ⟨Nat.le_refl _, Nat.le_refl _⟩ rfl (fun vi_31 H locs _ _ hP hD hS => ?_)
      replace hP : va_P D vwCl (vz_w [rdW g h va vi_31 vr vf (ta 0) ph, tkW g ta tr tf, pgW g ph pa pr_56 pf_56]) H := hP
      replace hD : va_D A (vz_w [rdW g h va vi_31 vr vf (ta 0) ph, tkW g ta tr tf, pgW g ph pa pr_56 pf_56]) := hD
      refine lv_aload_n hx hb dX3_readFactor_213 rfl (lv_at hl 1 rfl) ?_
      refine lv_iconst (v := 3) hx hb dX3_readFactor_214 (by decide) ?_
      refine lv_aload_n hx hb dX3_readFactor_215 rfl (lv_at hl 1 rfl) ?_
      refine vz_Vi3 (As := []) (rest := [.int 3, .ref h]) hx hb hml hown hts hK hA hP hD hS (a_D_readRowName l D g H.size h va vi_31 vr vf ta ph tr tf pa pr_56 pf_56 hw_v hw_t hw_p_56) kv_X3_187 ⟨by dsimp only; omega, by dsimp only; omega⟩ (q0 := 0) (ci := 3) rfl rfl rfl  hl.1 (Nat.le_of_ble_eq_true rfl) dX3_readFactor_216 ⟨Nat.le_refl _, Nat.le_refl _⟩ rfl (fun v33 vi_32 H locs _ _ hP hD hS => ?_)
      replace hP : va_P D vwCl (vz_w [rdW g h va vi_32 vr vf (ta 0) ph, tkW g ta tr tf, pgW g ph pa pr_56 pf_56]) H := hP
      replace hD : va_D A (vz_w [rdW g h va vi_32 vr vf (ta 0) ph, tkW g ta tr tf, pgW g ph pa pr_56 pf_56]) := hD
      refine vz_Vi3 (As := [.int 3, .int v33]) (rest := []) hx hb hml hown hts hK hA hP hD hS (a_D_newNode l D g H.size h va vi_32 vr vf ta ph tr tf pa pr_56 pf_56 3 v33 hw_v hw_t hw_p_56) kv_X3_198 ⟨by dsimp only; omega, by dsimp only; omega⟩ (q0 := 0) (ci := 3) rfl rfl rfl  hl.1 (Nat.le_of_ble_eq_true rfl) dX3_readFactor_219 ⟨Nat.le_refl _, Nat.le_refl _⟩ rfl (fun v37 ⟨pr_34, pf_35⟩ H locs hw_36 _ hP hD hS => ?_)
      try dsimp only at hw_36
      replace hP : va_P D vwCl (vz_w [rdW g h va vi_32 vr vf (ta 0) ph, tkW g ta tr tf, pgW g ph pa pr_34 pf_35]) H := hP
      replace hD : va_D A (vz_w [rdW g h va vi_32 vr vf (ta 0) ph, tkW g ta tr tf, pgW g ph pa pr_34 pf_35]) := hD
      refine lv_istore_n (lv' := [(2, .int v37), (0, .ref h), (1, .int (nI dn))]) hx hb dX3_readFactor_222 rfl hl (by decide) rfl (fun ls hl => ?_)
      refine lv_goto (tgt := 240) hx hb dX3_readFactor_223 (by decide) ?_
      exact J240 v37 vi_32 pr_34 pf_35 hw_36 H locs ls hP hD hS (lv_sub hl [1, 2, 0] rfl)
    have S63_226 : W p l e { frames := (4 * (8 - dn) + 10), cells := 0, slots := 0, locals := (100 * (8 - dn) + 300) } s m args below meth c H locs 0 0 Q (F0 m 226 ls []) := by
      refine lv_aload_n hx hb dX3_readFactor_226 rfl (lv_at hl 1 rfl) ?_
      refine lv_iload_n hx hb dX3_readFactor_227 rfl (lv_at hl 2 rfl) ?_
      refine vz_Vi3 (As := [.int (nI dn)]) (rest := []) hx hb hml hown hts hK hA hP hD hS (a_D_element l D g dn hdn hF H.size h va vi_56 vr vf ta ph tr tf pa pr_56 pf_56 hw_v hw_t hw_p_56) kv_X3_204 ⟨by dsimp only; omega, by dsimp only; omega⟩ (q0 := 0) (ci := 3) rfl rfl rfl  hl.1 (Nat.le_of_ble_eq_true rfl) dX3_readFactor_228 ⟨Nat.le_refl _, Nat.le_refl _⟩ rfl (fun v42 ⟨vi_38, pr_39, pf_40⟩ H locs hw_41 _ hP hD hS => ?_)
      try dsimp only at hw_41
      replace hP : va_P D vwCl (vz_w [rdW g h va vi_38 vr vf (ta 0) ph, tkW g ta tr tf, pgW g ph pa pr_39 pf_40]) H := hP
      replace hD : va_D A (vz_w [rdW g h va vi_38 vr vf (ta 0) ph, tkW g ta tr tf, pgW g ph pa pr_39 pf_40]) := hD
      refine lv_istore_n (lv' := [(2, .int v42), (0, .ref h), (1, .int (nI dn))]) hx hb dX3_readFactor_231 rfl hl (by decide) rfl (fun ls hl => ?_)
      refine lv_goto (tgt := 240) hx hb dX3_readFactor_232 (by decide) ?_
      exact J240 v42 vi_38 pr_39 pf_40 hw_41 H locs ls hP hD hS (lv_sub hl [1, 2, 0] rfl)
    have S63_235 : W p l e { frames := (4 * (8 - dn) + 10), cells := 0, slots := 0, locals := (100 * (8 - dn) + 300) } s m args below meth c H locs 0 0 Q (F0 m 235 ls []) := by
      refine lv_aload_n hx hb dX3_readFactor_235 rfl (lv_at hl 1 rfl) ?_
      refine lv_iconst (v := 1) hx hb dX3_readFactor_236 (by decide) ?_
      refine vz_Vv3 (As := [.int 1]) (rest := []) hx hb hml hown hts hK hA hP hD hS (a_D_fail l D g H.size h va vi_56 vr vf ta ph tr tf pa pr_56 pf_56 1 hw_v hw_t hw_p_56) kv_X3_68 ⟨by dsimp only; omega, by dsimp only; omega⟩ (q0 := 0) (ci := 3) rfl rfl rfl  hl.1 (Nat.le_of_ble_eq_true rfl) dX3_readFactor_237 ⟨Nat.le_refl _, Nat.le_refl _⟩ rfl (fun vi_43 H locs hp44 _ hP hD hS => ?_)
      try dsimp only at hp44
      replace hP : va_P D vwCl (vz_w [rdW g h va vi_43 vr vf (ta 0) ph, tkW g ta tr tf, pgW g ph pa pr_56 pf_56]) H := hP
      replace hD : va_D A (vz_w [rdW g h va vi_43 vr vf (ta 0) ph, tkW g ta tr tf, pgW g ph pa pr_56 pf_56]) := hD
      exact J240 (-9) vi_43 pr_56 pf_56 hw_p_56 H locs ls hP hD hS (lv_sub hl [1, 2, 0] rfl)
    refine vz_lsw (td := 235) hx hb dX3_readFactor_63 (by decide) (by decide) [(2, 120), (5, 137), (6, 226), (40, 187), (45, 154), (148, 209)] (by decide) (fun hv => ?_) (fun k t hk hv => ?_)
    · exact S63_235
    · have hm := List.mem_of_getElem? hk
      simp only [List.mem_cons, List.not_mem_nil, or_false] at hm
      rcases hm with rfl | rfl | rfl | rfl | rfl | rfl
      · exact S63_120
      · exact S63_137
      · exact S63_226
      · exact S63_187 (vz_ti 40 hv rfl)
      · exact S63_154 (vz_ti 45 hv rfl)
      · exact S63_209
  have J48 : ∀ (vi_48 : Nat → Int32), ∀ (pr_48 : Nat → Nat), ∀ (pf_48 : Nat → Nat → Int32), (∀ k, pr_48 k ≤ pgW_lim k) → ∀ (H : Heap) (locs : List Loc) (ls : Array Slot), va_P D vwCl (vz_w [rdW g h va vi_48 vr vf (ta 0) ph, tkW g ta tr tf, pgW g ph pa pr_48 pf_48]) H → va_D A (vz_w [rdW g h va vi_48 vr vf (ta 0) ph, tkW g ta tr tf, pgW g ph pa pr_48 pf_48]) → va_S A s.heap H locs → lv_has ls 3 [(0, .ref h), (1, .int (nI dn))] → W p l e { frames := (4 * (8 - dn) + 10), cells := 0, slots := 0, locals := (100 * (8 - dn) + 300) } s m args below meth c H locs 0 0 Q (F0 m 48 ls []) := by
    intro vi_48 pr_48 pf_48 hw_p_48 H locs ls hP hD hS hl
    refine lv_aload_n hx hb dX3_readFactor_48 rfl (lv_at hl 0 rfl) ?_
    refine lv_iconst (v := 2) hx hb dX3_readFactor_49 (by decide) ?_
    refine vz_Vv3 (As := [.int 2]) (rest := []) hx hb hml hown hts hK hA hP hD hS (a_D_fail l D g H.size h va vi_48 vr vf ta ph tr tf pa pr_48 pf_48 2 hw_v hw_t hw_p_48) kv_X3_68 ⟨by dsimp only; omega, by dsimp only; omega⟩ (q0 := 0) (ci := 3) rfl rfl rfl  hl.1 (Nat.le_of_ble_eq_true rfl) dX3_readFactor_50 ⟨Nat.le_refl _, Nat.le_refl _⟩ rfl (fun vi_1 H locs hp2 _ hP hD hS => ?_)
    try dsimp only at hp2
    replace hP : va_P D vwCl (vz_w [rdW g h va vi_1 vr vf (ta 0) ph, tkW g ta tr tf, pgW g ph pa pr_48 pf_48]) H := hP
    replace hD : va_D A (vz_w [rdW g h va vi_1 vr vf (ta 0) ph, tkW g ta tr tf, pgW g ph pa pr_48 pf_48]) := hD
    refine lv_bipush (v := (-9)) hx hb dX3_readFactor_53 (by decide) ?_
    rw [hQ]
    exact vz_iret3 hx hb hr hlk hK hP hD hS (vi_1, pr_48, pf_48) hw_p_48 rfl (Nat.le_refl 0) (Nat.le_refl 0) dX3_readFactor_55
  refine lv_aload_n hx hb dX3_readFactor_0 rfl (lv_at hl 0 rfl) ?_
  refine vz_Vi3 (As := []) (rest := []) hx hb hml hown hts hK hA hP hD hS (a_D_isNoVariable l D g H.size h va vi vr vf ta ph tr tf pa pr pf hw_v hw_t hw_p) kv_X3_127 ⟨by dsimp only; omega, by dsimp only; omega⟩ (q0 := 0) (ci := 3) rfl rfl rfl  hl.1 (Nat.le_of_ble_eq_true rfl) dX3_readFactor_1 ⟨Nat.le_refl _, Nat.le_refl _⟩ rfl (fun v1 _ H locs hz2 _ hP hD hS => ?_)
  refine lv_if_ne (tgt := 48) hx hb dX3_readFactor_4 (by decide) (fun kc3 => ?_) (fun kc3 => ?_)
  · exact J48 vi pr pf hw_p H locs ls hP hD hS (lv_sub hl [0, 1] rfl)
  · refine lv_aload_n hx hb dX3_readFactor_7 rfl (lv_at hl 0 rfl) ?_
    refine vz_Vi3 (As := []) (rest := []) hx hb hml hown hts hK hA hP hD hS (a_D_isNoRow l D g H.size h va vi vr vf ta ph tr tf pa pr pf hw_v hw_t hw_p) kv_X3_131 ⟨by dsimp only; omega, by dsimp only; omega⟩ (q0 := 0) (ci := 3) rfl rfl rfl  hl.1 (Nat.le_of_ble_eq_true rfl) dX3_readFactor_8 ⟨Nat.le_refl _, Nat.le_refl _⟩ rfl (fun v4 _ H locs hz5 _ hP hD hS => ?_)
    refine lv_if_ne (tgt := 48) hx hb dX3_readFactor_11 (by decide) (fun kc6 => ?_) (fun kc6 => ?_)
    · exact J48 vi pr pf hw_p H locs ls hP hD hS (lv_sub hl [0, 1] rfl)
    · refine lv_iload_n hx hb dX3_readFactor_14 rfl (lv_at hl 1 rfl) ?_
      refine lv_bipush (v := 8) hx hb dX3_readFactor_15 (by decide) ?_
      refine lv_icmp_lt (tgt := 56) hx hb dX3_readFactor_17 (by decide) (fun kc7 => ?_) (fun kc7 => ?_)
      · exact J56 vi pr pf hw_p (Or.inl kc7) H locs ls hP hD hS (lv_sub hl [0, 1] rfl)
      · refine lv_aload_n hx hb dX3_readFactor_20 rfl (lv_at hl 0 rfl) ?_
        refine va_get (D := D) (ci := 3) (v := .int (vi 1)) (C := RX3) (T := TX3) (N := 12) hx hb hts inlX3 hown hK hP 0 rfl rfl 6 (by decide) (hts _ q443) (fun _ h => h) rfl dX3_readFactor_21 ?_
        refine lv_bipush (v := 45) hx hb dX3_readFactor_24 (by decide) ?_
        refine lv_icmp_eq (tgt := 48) hx hb dX3_readFactor_26 (by decide) (fun kc8 => ?_) (fun kc8 => ?_)
        · exact J48 vi pr pf hw_p H locs ls hP hD hS (lv_sub hl [0, 1] rfl)
        · refine lv_aload_n hx hb dX3_readFactor_29 rfl (lv_at hl 0 rfl) ?_
          refine va_get (D := D) (ci := 3) (v := .int (vi 1)) (C := RX3) (T := TX3) (N := 12) hx hb hts inlX3 hown hK hP 0 rfl rfl 6 (by decide) (hts _ q443) (fun _ h => h) rfl dX3_readFactor_30 ?_
          refine lv_bipush (v := 40) hx hb dX3_readFactor_33 (by decide) ?_
          refine lv_icmp_eq (tgt := 48) hx hb dX3_readFactor_35 (by decide) (fun kc9 => ?_) (fun kc9 => ?_)
          · exact J48 vi pr pf hw_p H locs ls hP hD hS (lv_sub hl [0, 1] rfl)
          · refine lv_aload_n hx hb dX3_readFactor_38 rfl (lv_at hl 0 rfl) ?_
            refine va_get (D := D) (ci := 3) (v := .int (vi 1)) (C := RX3) (T := TX3) (N := 12) hx hb hts inlX3 hown hK hP 0 rfl rfl 6 (by decide) (hts _ q443) (fun _ h => h) rfl dX3_readFactor_39 ?_
            refine lv_sipush (v := 148) hx hb dX3_readFactor_42 (by decide) ?_
            refine lv_icmp_ne (tgt := 56) hx hb dX3_readFactor_45 (by decide) (fun kc10 => ?_) (fun kc10 => ?_)
            · exact J56 vi pr pf hw_p (Or.inr ⟨kc8, kc9, kc10⟩) H locs ls hP hD hS (lv_sub hl [0, 1] rfl)
            · exact J48 vi pr pf hw_p H locs ls hP hD hS (lv_sub hl [0, 1] rfl)
theorem a_D_factor9 (l : Launch) (D : va_G) (g : Nat → ClassId) : ∀ (k dn : Nat), dn + k = 8 → ∀ (sz : Nat) (h : Nat) (va : Nat → Nat) (vi : Nat → Int32) (vr : Nat → Nat) (vf : Nat → Nat → Int32) (ta : Nat → Nat) (ph : Nat) (tr : Nat → Nat) (tf : Nat → Nat → Int32) (pa : Nat → Nat) (pr : Nat → Nat) (pf : Nat → Nat → Int32) (hw_v : ∀ k, vr k ≤ rdW_lim k) (hw_t : ∀ k, tr k ≤ tkW_lim k) (hw_p : ∀ k, pr k ≤ pgW_lim k), vz_Mi l D (tyG g) yX3_readFactor cX3_readFactor 3 (4 * (8 - dn) + 10) (100 * (8 - dn) + 300) 0 0 .int [.ref h, .int (nI dn)] sz (vz_w [rdW g h va vi vr vf (ta 0) ph, tkW g ta tr tf, pgW g ph pa pr pf]) (fun r (u : (Nat → Int32) × (Nat → Nat) × (Nat → Nat → Int32)) => (∀ k, u.2.1 k ≤ pgW_lim k)) (fun u => vz_w [rdW g h va u.1 vr vf (ta 0) ph, tkW g ta tr tf, pgW g ph pa u.2.1 u.2.2]) := by
  intro k
  induction k with
  | zero => intro dn hk; exact a_D_factor l D g dn (by omega) (fun h => absurd h (by omega))
  | succ k ih => intro dn hk; exact a_D_factor l D g dn (by omega) (fun _ => ih (dn + 1) (by omega))
theorem a_D_list9 (l : Launch) (D : va_G) (g : Nat → ClassId) : ∀ (k dn : Nat), dn + k = 8 → ∀ (sz : Nat) (h : Nat) (va : Nat → Nat) (vi : Nat → Int32) (vr : Nat → Nat) (vf : Nat → Nat → Int32) (ta : Nat → Nat) (ph : Nat) (tr : Nat → Nat) (tf : Nat → Nat → Int32) (pa : Nat → Nat) (pr : Nat → Nat) (pf : Nat → Nat → Int32) (hw_v : ∀ k, vr k ≤ rdW_lim k) (hw_t : ∀ k, tr k ≤ tkW_lim k) (hw_p : ∀ k, pr k ≤ pgW_lim k), vz_Mi l D (tyG g) yX3_readList cX3_readList 9 (4 * (8 - dn) + 12) (100 * (8 - dn) + 350) 0 0 .int [.ref h, .int (nI dn), .int 1] sz (vz_w [rdW g h va vi vr vf (ta 0) ph, tkW g ta tr tf, pgW g ph pa pr pf]) (fun r (u : (Nat → Int32) × (Nat → Nat) × (Nat → Nat → Int32)) => (∀ k, u.2.1 k ≤ pgW_lim k)) (fun u => vz_w [rdW g h va u.1 vr vf (ta 0) ph, tkW g ta tr tf, pgW g ph pa u.2.1 u.2.2]) := fun k dn hk => a_D_list1 l D g dn (a_D_factor9 l D g k dn hk)
theorem dX3_readReturn_0 : decode cX3_readReturn 0 = .ok (.aload_n 0, 1) := by decide +kernel
theorem dX3_readReturn_1 : decode cX3_readReturn 1 = .ok (.getfield 15, 3) := by decide +kernel
theorem dX3_readReturn_4 : decode cX3_readReturn 4 = .ok (.getfield 117, 3) := by decide +kernel
theorem dX3_readReturn_7 : decode cX3_readReturn 7 = .ok (.iload_n 1, 1) := by decide +kernel
theorem dX3_readReturn_8 : decode cX3_readReturn 8 = .ok (.iconst 0, 1) := by decide +kernel
theorem dX3_readReturn_9 : decode cX3_readReturn 9 = .ok (.bipush 7, 2) := by decide +kernel
theorem dX3_readReturn_11 : decode cX3_readReturn 11 = .ok (.invokevirtual 60, 3) := by decide +kernel
theorem dX3_readReturn_14 : decode cX3_readReturn 14 = .ok (.aload_n 0, 1) := by decide +kernel
theorem dX3_readReturn_15 : decode cX3_readReturn 15 = .ok (.invokevirtual 89, 3) := by decide +kernel
theorem dX3_readReturn_18 : decode cX3_readReturn 18 = .ok (.aload_n 0, 1) := by decide +kernel
theorem dX3_readReturn_19 : decode cX3_readReturn 19 = .ok (.getfield 15, 3) := by decide +kernel
theorem dX3_readReturn_22 : decode cX3_readReturn 22 = .ok (.getfield 117, 3) := by decide +kernel
theorem dX3_readReturn_25 : decode cX3_readReturn 25 = .ok (.iload_n 1, 1) := by decide +kernel
theorem dX3_readReturn_26 : decode cX3_readReturn 26 = .ok (.iconst 3, 1) := by decide +kernel
theorem dX3_readReturn_27 : decode cX3_readReturn 27 = .ok (.aload_n 0, 1) := by decide +kernel
theorem dX3_readReturn_28 : decode cX3_readReturn 28 = .ok (.iconst 0, 1) := by decide +kernel
theorem dX3_readReturn_29 : decode cX3_readReturn 29 = .ok (.iconst 1, 1) := by decide +kernel
theorem dX3_readReturn_30 : decode cX3_readReturn 30 = .ok (.invokevirtual 164, 3) := by decide +kernel
theorem dX3_readReturn_33 : decode cX3_readReturn 33 = .ok (.invokevirtual 60, 3) := by decide +kernel
theorem dX3_readReturn_36 : decode cX3_readReturn 36 = .ok (.return_, 1) := by decide +kernel
set_option maxHeartbeats 8000000 in
set_option maxRecDepth 100000 in
theorem a_D_readReturn (l : Launch) (D : va_G) (g : Nat → ClassId)   (sz : Nat) (h : Nat) (va : Nat → Nat) (vi : Nat → Int32) (vr : Nat → Nat) (vf : Nat → Nat → Int32) (ta : Nat → Nat) (ph : Nat) (tr : Nat → Nat) (tf : Nat → Nat → Int32) (pa : Nat → Nat) (pr : Nat → Nat) (pf : Nat → Nat → Int32) (n1 : Int32) (hw_v : ∀ k, vr k ≤ rdW_lim k) (hw_t : ∀ k, tr k ≤ tkW_lim k) (hw_p : ∀ k, pr k ≤ pgW_lim k) : vz_Mv l D (tyG g) yX3_readReturn cX3_readReturn 2 45 1178 0 0 [.ref h, .int n1] sz (vz_w [rdW g h va vi vr vf (ta 0) ph, tkW g ta tr tf, pgW g ph pa pr pf]) (fun u : (Nat → Int32) × (Nat → Nat) × (Nat → Nat → Int32) => (∀ k, u.2.1 k ≤ pgW_lim k)) (fun u => vz_w [rdW g h va u.1 vr vf (ta 0) ph, tkW g ta tr tf, pgW g ph pa u.2.1 u.2.2]) := by
  refine vz_svQ (by decide) (Nat.le_of_ble_eq_true rfl) (fun p e s m args below meth c hx hb hr hml hts hown hlk hin hK hsz A hA H locs hP hD hS ls hl Q hQ => ?_)
  have hl : lv_has ls 2 [(0, .ref h), (1, .int n1)] := hl
  refine lv_aload_n hx hb dX3_readReturn_0 rfl (lv_at hl 0 rfl) ?_
  refine va_get (D := D) (ci := 3) (v := .ref ph) (C := RX3) (T := TX3) (N := 12) hx hb hts inlX3 hown hK hP 0 rfl rfl 4 (by decide) (hts _ q97) (fun _ h => h) rfl dX3_readReturn_1 ?_
  refine va_get (D := D) (ci := 2) (v := .ref (pa 0)) (C := RX2) (T := TX2) (N := 5) hx hb hts inlX2 hown hK hP 9 rfl rfl 0 (by decide) (hts _ q500) (fun _ h => h) rfl dX3_readReturn_4 ?_
  refine lv_iload_n hx hb dX3_readReturn_7 rfl (lv_at hl 1 rfl) ?_
  refine lv_iconst (v := 0) hx hb dX3_readReturn_8 (by decide) ?_
  refine lv_bipush (v := 7) hx hb dX3_readReturn_9 (by decide) ?_
  refine vz_Vv2 (ws' := fun u : (Nat → Int32) => vz_w [rdW g h va vi vr vf (ta 0) ph, tkW g ta tr tf, pgW g ph pa pr (vz_uf pf 0 u)]) (As := [.int n1, .int 0, .int 7]) (rest := []) hx hb hml hown hts hK hA hP hD hS (c_T_set l D g (pa 0) (pa 1) H.size 12 80 (pr 0) 960 (pf 0) n1 0 7 ⟨rfl, by decide, by decide, by decide, by decide, hw_p 0⟩) kv_X3_60 ⟨Nat.le_of_ble_eq_true rfl, Nat.le_of_ble_eq_true rfl⟩ (q0 := 10) (ci := 6) rfl rfl rfl [10, 11] rfl (by decide) (fun _ => rfl) (fun _ => rfl) hl.1 (Nat.le_of_ble_eq_true rfl) dX3_readReturn_11 ⟨Nat.le_refl _, Nat.le_refl _⟩ rfl (fun nf1 H locs _ _ hP hD hS => ?_)
  obtain ⟨pf_2, hP, hD⟩ : ∃ pf_2 : Nat → Nat → Int32, va_P D vwCl (vz_w [rdW g h va vi vr vf (ta 0) ph, tkW g ta tr tf, pgW g ph pa pr pf_2]) H ∧ va_D A (vz_w [rdW g h va vi vr vf (ta 0) ph, tkW g ta tr tf, pgW g ph pa pr pf_2]) := ⟨(vz_uf pf 0 nf1), hP, hD⟩
  refine lv_aload_n hx hb dX3_readReturn_14 rfl (lv_at hl 0 rfl) ?_
  refine vz_Vv3 (As := []) (rest := []) hx hb hml hown hts hK hA hP hD hS (a_D_advance l D g H.size h va vi vr vf ta ph tr tf pa pr pf_2 hw_v hw_t hw_p) kv_X3_89 ⟨Nat.le_of_ble_eq_true rfl, Nat.le_of_ble_eq_true rfl⟩ (q0 := 0) (ci := 3) rfl rfl rfl  hl.1 (Nat.le_of_ble_eq_true rfl) dX3_readReturn_15 ⟨Nat.le_refl _, Nat.le_refl _⟩ rfl (fun vi_3 H locs _ _ hP hD hS => ?_)
  replace hP : va_P D vwCl (vz_w [rdW g h va vi_3 vr vf (ta 0) ph, tkW g ta tr tf, pgW g ph pa pr pf_2]) H := hP
  replace hD : va_D A (vz_w [rdW g h va vi_3 vr vf (ta 0) ph, tkW g ta tr tf, pgW g ph pa pr pf_2]) := hD
  refine lv_aload_n hx hb dX3_readReturn_18 rfl (lv_at hl 0 rfl) ?_
  refine va_get (D := D) (ci := 3) (v := .ref ph) (C := RX3) (T := TX3) (N := 12) hx hb hts inlX3 hown hK hP 0 rfl rfl 4 (by decide) (hts _ q97) (fun _ h => h) rfl dX3_readReturn_19 ?_
  refine va_get (D := D) (ci := 2) (v := .ref (pa 0)) (C := RX2) (T := TX2) (N := 5) hx hb hts inlX2 hown hK hP 9 rfl rfl 0 (by decide) (hts _ q500) (fun _ h => h) rfl dX3_readReturn_22 ?_
  refine lv_iload_n hx hb dX3_readReturn_25 rfl (lv_at hl 1 rfl) ?_
  refine lv_iconst (v := 3) hx hb dX3_readReturn_26 (by decide) ?_
  refine lv_aload_n hx hb dX3_readReturn_27 rfl (lv_at hl 0 rfl) ?_
  refine lv_iconst (v := 0) hx hb dX3_readReturn_28 (by decide) ?_
  refine lv_iconst (v := 1) hx hb dX3_readReturn_29 (by decide) ?_
  refine vz_Vi3 (As := [.int 0, .int 1]) (rest := [.int 3, .int n1, .ref (pa 0)]) hx hb hml hown hts hK hA hP hD hS (a_D_list9 l D g 8 0 (by decide) H.size h va vi_3 vr vf ta ph tr tf pa pr pf_2 hw_v hw_t hw_p) kv_X3_164 ⟨Nat.le_of_ble_eq_true rfl, Nat.le_of_ble_eq_true rfl⟩ (q0 := 0) (ci := 3) rfl rfl rfl  hl.1 (Nat.le_of_ble_eq_true rfl) dX3_readReturn_30 ⟨Nat.le_refl _, Nat.le_refl _⟩ rfl (fun v8 ⟨vi_4, pr_5, pf_6⟩ H locs hw_7 _ hP hD hS => ?_)
  try dsimp only at hw_7
  replace hP : va_P D vwCl (vz_w [rdW g h va vi_4 vr vf (ta 0) ph, tkW g ta tr tf, pgW g ph pa pr_5 pf_6]) H := hP
  replace hD : va_D A (vz_w [rdW g h va vi_4 vr vf (ta 0) ph, tkW g ta tr tf, pgW g ph pa pr_5 pf_6]) := hD
  refine vz_Vv2 (ws' := fun u : (Nat → Int32) => vz_w [rdW g h va vi_4 vr vf (ta 0) ph, tkW g ta tr tf, pgW g ph pa pr_5 (vz_uf pf_6 0 u)]) (As := [.int n1, .int 3, .int v8]) (rest := []) hx hb hml hown hts hK hA hP hD hS (c_T_set l D g (pa 0) (pa 1) H.size 12 80 (pr_5 0) 960 (pf_6 0) n1 3 v8 ⟨rfl, by decide, by decide, by decide, by decide, hw_7 0⟩) kv_X3_60 ⟨Nat.le_of_ble_eq_true rfl, Nat.le_of_ble_eq_true rfl⟩ (q0 := 10) (ci := 6) rfl rfl rfl [10, 11] rfl (by decide) (fun _ => rfl) (fun _ => rfl) hl.1 (Nat.le_of_ble_eq_true rfl) dX3_readReturn_33 ⟨Nat.le_refl _, Nat.le_refl _⟩ rfl (fun nf9 H locs _ _ hP hD hS => ?_)
  obtain ⟨pf_10, hP, hD⟩ : ∃ pf_10 : Nat → Nat → Int32, va_P D vwCl (vz_w [rdW g h va vi_4 vr vf (ta 0) ph, tkW g ta tr tf, pgW g ph pa pr_5 pf_10]) H ∧ va_D A (vz_w [rdW g h va vi_4 vr vf (ta 0) ph, tkW g ta tr tf, pgW g ph pa pr_5 pf_10]) := ⟨(vz_uf pf_6 0 nf9), hP, hD⟩
  rw [hQ]
  exact vz_vret3 hx hb hr hlk hK hP hD hS (vi_4, pr_5, pf_10) hw_7 rfl (Nat.le_refl 0) (Nat.le_refl 0) dX3_readReturn_36
theorem dX3_readCall_0 : decode cX3_readCall 0 = .ok (.aload_n 0, 1) := by decide +kernel
theorem dX3_readCall_1 : decode cX3_readCall 1 = .ok (.getfield 15, 3) := by decide +kernel
theorem dX3_readCall_4 : decode cX3_readCall 4 = .ok (.getfield 117, 3) := by decide +kernel
theorem dX3_readCall_7 : decode cX3_readCall 7 = .ok (.iload_n 1, 1) := by decide +kernel
theorem dX3_readCall_8 : decode cX3_readCall 8 = .ok (.iconst 0, 1) := by decide +kernel
theorem dX3_readCall_9 : decode cX3_readCall 9 = .ok (.iconst 1, 1) := by decide +kernel
theorem dX3_readCall_10 : decode cX3_readCall 10 = .ok (.invokevirtual 60, 3) := by decide +kernel
theorem dX3_readCall_13 : decode cX3_readCall 13 = .ok (.aload_n 0, 1) := by decide +kernel
theorem dX3_readCall_14 : decode cX3_readCall 14 = .ok (.getfield 15, 3) := by decide +kernel
theorem dX3_readCall_17 : decode cX3_readCall 17 = .ok (.getfield 117, 3) := by decide +kernel
theorem dX3_readCall_20 : decode cX3_readCall 20 = .ok (.iload_n 1, 1) := by decide +kernel
theorem dX3_readCall_21 : decode cX3_readCall 21 = .ok (.iconst 2, 1) := by decide +kernel
theorem dX3_readCall_22 : decode cX3_readCall 22 = .ok (.iload_n 2, 1) := by decide +kernel
theorem dX3_readCall_23 : decode cX3_readCall 23 = .ok (.invokevirtual 60, 3) := by decide +kernel
theorem dX3_readCall_26 : decode cX3_readCall 26 = .ok (.aload_n 0, 1) := by decide +kernel
theorem dX3_readCall_27 : decode cX3_readCall 27 = .ok (.invokevirtual 89, 3) := by decide +kernel
theorem dX3_readCall_30 : decode cX3_readCall 30 = .ok (.aload_n 0, 1) := by decide +kernel
theorem dX3_readCall_31 : decode cX3_readCall 31 = .ok (.getfield 15, 3) := by decide +kernel
theorem dX3_readCall_34 : decode cX3_readCall 34 = .ok (.getfield 117, 3) := by decide +kernel
theorem dX3_readCall_37 : decode cX3_readCall 37 = .ok (.iload_n 1, 1) := by decide +kernel
theorem dX3_readCall_38 : decode cX3_readCall 38 = .ok (.iconst 1, 1) := by decide +kernel
theorem dX3_readCall_39 : decode cX3_readCall 39 = .ok (.aload_n 0, 1) := by decide +kernel
theorem dX3_readCall_40 : decode cX3_readCall 40 = .ok (.getfield 95, 3) := by decide +kernel
theorem dX3_readCall_43 : decode cX3_readCall 43 = .ok (.invokevirtual 60, 3) := by decide +kernel
theorem dX3_readCall_46 : decode cX3_readCall 46 = .ok (.aload_n 0, 1) := by decide +kernel
theorem dX3_readCall_47 : decode cX3_readCall 47 = .ok (.getfield 30, 3) := by decide +kernel
theorem dX3_readCall_50 : decode cX3_readCall 50 = .ok (.iload_n 1, 1) := by decide +kernel
theorem dX3_readCall_51 : decode cX3_readCall 51 = .ok (.iconst 0, 1) := by decide +kernel
theorem dX3_readCall_52 : decode cX3_readCall 52 = .ok (.aload_n 0, 1) := by decide +kernel
theorem dX3_readCall_53 : decode cX3_readCall 53 = .ok (.getfield 98, 3) := by decide +kernel
theorem dX3_readCall_56 : decode cX3_readCall 56 = .ok (.invokevirtual 60, 3) := by decide +kernel
theorem dX3_readCall_59 : decode cX3_readCall 59 = .ok (.aload_n 0, 1) := by decide +kernel
theorem dX3_readCall_60 : decode cX3_readCall 60 = .ok (.iconst 4, 1) := by decide +kernel
theorem dX3_readCall_61 : decode cX3_readCall 61 = .ok (.invokevirtual 64, 3) := by decide +kernel
theorem dX3_readCall_64 : decode cX3_readCall 64 = .ok (.aload_n 0, 1) := by decide +kernel
theorem dX3_readCall_65 : decode cX3_readCall 65 = .ok (.bipush 40, 2) := by decide +kernel
theorem dX3_readCall_67 : decode cX3_readCall 67 = .ok (.invokevirtual 64, 3) := by decide +kernel
theorem dX3_readCall_70 : decode cX3_readCall 70 = .ok (.aload_n 0, 1) := by decide +kernel
theorem dX3_readCall_71 : decode cX3_readCall 71 = .ok (.getfield 15, 3) := by decide +kernel
theorem dX3_readCall_74 : decode cX3_readCall 74 = .ok (.getfield 117, 3) := by decide +kernel
theorem dX3_readCall_77 : decode cX3_readCall 77 = .ok (.iload_n 1, 1) := by decide +kernel
theorem dX3_readCall_78 : decode cX3_readCall 78 = .ok (.iconst 3, 1) := by decide +kernel
theorem dX3_readCall_79 : decode cX3_readCall 79 = .ok (.aload_n 0, 1) := by decide +kernel
theorem dX3_readCall_80 : decode cX3_readCall 80 = .ok (.iconst 0, 1) := by decide +kernel
theorem dX3_readCall_81 : decode cX3_readCall 81 = .ok (.iconst 1, 1) := by decide +kernel
theorem dX3_readCall_82 : decode cX3_readCall 82 = .ok (.invokevirtual 164, 3) := by decide +kernel
theorem dX3_readCall_85 : decode cX3_readCall 85 = .ok (.invokevirtual 60, 3) := by decide +kernel
theorem dX3_readCall_88 : decode cX3_readCall 88 = .ok (.aload_n 0, 1) := by decide +kernel
theorem dX3_readCall_89 : decode cX3_readCall 89 = .ok (.bipush 44, 2) := by decide +kernel
theorem dX3_readCall_91 : decode cX3_readCall 91 = .ok (.invokevirtual 64, 3) := by decide +kernel
theorem dX3_readCall_94 : decode cX3_readCall 94 = .ok (.aload_n 0, 1) := by decide +kernel
theorem dX3_readCall_95 : decode cX3_readCall 95 = .ok (.getfield 15, 3) := by decide +kernel
theorem dX3_readCall_98 : decode cX3_readCall 98 = .ok (.getfield 117, 3) := by decide +kernel
theorem dX3_readCall_101 : decode cX3_readCall 101 = .ok (.iload_n 1, 1) := by decide +kernel
theorem dX3_readCall_102 : decode cX3_readCall 102 = .ok (.iconst 4, 1) := by decide +kernel
theorem dX3_readCall_103 : decode cX3_readCall 103 = .ok (.aload_n 0, 1) := by decide +kernel
theorem dX3_readCall_104 : decode cX3_readCall 104 = .ok (.iconst 0, 1) := by decide +kernel
theorem dX3_readCall_105 : decode cX3_readCall 105 = .ok (.iconst 1, 1) := by decide +kernel
theorem dX3_readCall_106 : decode cX3_readCall 106 = .ok (.invokevirtual 164, 3) := by decide +kernel
theorem dX3_readCall_109 : decode cX3_readCall 109 = .ok (.invokevirtual 60, 3) := by decide +kernel
theorem dX3_readCall_112 : decode cX3_readCall 112 = .ok (.aload_n 0, 1) := by decide +kernel
theorem dX3_readCall_113 : decode cX3_readCall 113 = .ok (.bipush 41, 2) := by decide +kernel
theorem dX3_readCall_115 : decode cX3_readCall 115 = .ok (.invokevirtual 64, 3) := by decide +kernel
theorem dX3_readCall_118 : decode cX3_readCall 118 = .ok (.return_, 1) := by decide +kernel
set_option maxHeartbeats 8000000 in
set_option maxRecDepth 100000 in
theorem a_D_readCall (l : Launch) (D : va_G) (g : Nat → ClassId)   (sz : Nat) (h : Nat) (va : Nat → Nat) (vi : Nat → Int32) (vr : Nat → Nat) (vf : Nat → Nat → Int32) (ta : Nat → Nat) (ph : Nat) (tr : Nat → Nat) (tf : Nat → Nat → Int32) (pa : Nat → Nat) (pr : Nat → Nat) (pf : Nat → Nat → Int32) (n1 : Int32) (n2 : Int32) (hw_v : ∀ k, vr k ≤ rdW_lim k) (hw_t : ∀ k, tr k ≤ tkW_lim k) (hw_p : ∀ k, pr k ≤ pgW_lim k) : vz_Mv l D (tyG g) yX3_readCall cX3_readCall 3 45 1178 0 0 [.ref h, .int n1, .int n2] sz (vz_w [rdW g h va vi vr vf (ta 0) ph, tkW g ta tr tf, pgW g ph pa pr pf]) (fun u : (Nat → Int32) × (Nat → Nat → Int32) × (Nat → Nat) × (Nat → Nat → Int32) => (∀ k, u.2.2.1 k ≤ pgW_lim k)) (fun u => vz_w [rdW g h va u.1 vr u.2.1 (ta 0) ph, tkW g ta tr tf, pgW g ph pa u.2.2.1 u.2.2.2]) := by
  refine vz_svQ (by decide) (Nat.le_of_ble_eq_true rfl) (fun p e s m args below meth c hx hb hr hml hts hown hlk hin hK hsz A hA H locs hP hD hS ls hl Q hQ => ?_)
  have hl : lv_has ls 3 [(0, .ref h), (1, .int n1), (2, .int n2)] := hl
  refine lv_aload_n hx hb dX3_readCall_0 rfl (lv_at hl 0 rfl) ?_
  refine va_get (D := D) (ci := 3) (v := .ref ph) (C := RX3) (T := TX3) (N := 12) hx hb hts inlX3 hown hK hP 0 rfl rfl 4 (by decide) (hts _ q97) (fun _ h => h) rfl dX3_readCall_1 ?_
  refine va_get (D := D) (ci := 2) (v := .ref (pa 0)) (C := RX2) (T := TX2) (N := 5) hx hb hts inlX2 hown hK hP 9 rfl rfl 0 (by decide) (hts _ q500) (fun _ h => h) rfl dX3_readCall_4 ?_
  refine lv_iload_n hx hb dX3_readCall_7 rfl (lv_at hl 1 rfl) ?_
  refine lv_iconst (v := 0) hx hb dX3_readCall_8 (by decide) ?_
  refine lv_iconst (v := 1) hx hb dX3_readCall_9 (by decide) ?_
  refine vz_Vv2 (ws' := fun u : (Nat → Int32) => vz_w [rdW g h va vi vr vf (ta 0) ph, tkW g ta tr tf, pgW g ph pa pr (vz_uf pf 0 u)]) (As := [.int n1, .int 0, .int 1]) (rest := []) hx hb hml hown hts hK hA hP hD hS (c_T_set l D g (pa 0) (pa 1) H.size 12 80 (pr 0) 960 (pf 0) n1 0 1 ⟨rfl, by decide, by decide, by decide, by decide, hw_p 0⟩) kv_X3_60 ⟨Nat.le_of_ble_eq_true rfl, Nat.le_of_ble_eq_true rfl⟩ (q0 := 10) (ci := 6) rfl rfl rfl [10, 11] rfl (by decide) (fun _ => rfl) (fun _ => rfl) hl.1 (Nat.le_of_ble_eq_true rfl) dX3_readCall_10 ⟨Nat.le_refl _, Nat.le_refl _⟩ rfl (fun nf1 H locs _ _ hP hD hS => ?_)
  obtain ⟨pf_2, hP, hD⟩ : ∃ pf_2 : Nat → Nat → Int32, va_P D vwCl (vz_w [rdW g h va vi vr vf (ta 0) ph, tkW g ta tr tf, pgW g ph pa pr pf_2]) H ∧ va_D A (vz_w [rdW g h va vi vr vf (ta 0) ph, tkW g ta tr tf, pgW g ph pa pr pf_2]) := ⟨(vz_uf pf 0 nf1), hP, hD⟩
  refine lv_aload_n hx hb dX3_readCall_13 rfl (lv_at hl 0 rfl) ?_
  refine va_get (D := D) (ci := 3) (v := .ref ph) (C := RX3) (T := TX3) (N := 12) hx hb hts inlX3 hown hK hP 0 rfl rfl 4 (by decide) (hts _ q97) (fun _ h => h) rfl dX3_readCall_14 ?_
  refine va_get (D := D) (ci := 2) (v := .ref (pa 0)) (C := RX2) (T := TX2) (N := 5) hx hb hts inlX2 hown hK hP 9 rfl rfl 0 (by decide) (hts _ q500) (fun _ h => h) rfl dX3_readCall_17 ?_
  refine lv_iload_n hx hb dX3_readCall_20 rfl (lv_at hl 1 rfl) ?_
  refine lv_iconst (v := 2) hx hb dX3_readCall_21 (by decide) ?_
  refine lv_iload_n hx hb dX3_readCall_22 rfl (lv_at hl 2 rfl) ?_
  refine vz_Vv2 (ws' := fun u : (Nat → Int32) => vz_w [rdW g h va vi vr vf (ta 0) ph, tkW g ta tr tf, pgW g ph pa pr (vz_uf pf_2 0 u)]) (As := [.int n1, .int 2, .int n2]) (rest := []) hx hb hml hown hts hK hA hP hD hS (c_T_set l D g (pa 0) (pa 1) H.size 12 80 (pr 0) 960 (pf_2 0) n1 2 n2 ⟨rfl, by decide, by decide, by decide, by decide, hw_p 0⟩) kv_X3_60 ⟨Nat.le_of_ble_eq_true rfl, Nat.le_of_ble_eq_true rfl⟩ (q0 := 10) (ci := 6) rfl rfl rfl [10, 11] rfl (by decide) (fun _ => rfl) (fun _ => rfl) hl.1 (Nat.le_of_ble_eq_true rfl) dX3_readCall_23 ⟨Nat.le_refl _, Nat.le_refl _⟩ rfl (fun nf3 H locs _ _ hP hD hS => ?_)
  obtain ⟨pf_4, hP, hD⟩ : ∃ pf_4 : Nat → Nat → Int32, va_P D vwCl (vz_w [rdW g h va vi vr vf (ta 0) ph, tkW g ta tr tf, pgW g ph pa pr pf_4]) H ∧ va_D A (vz_w [rdW g h va vi vr vf (ta 0) ph, tkW g ta tr tf, pgW g ph pa pr pf_4]) := ⟨(vz_uf pf_2 0 nf3), hP, hD⟩
  refine lv_aload_n hx hb dX3_readCall_26 rfl (lv_at hl 0 rfl) ?_
  refine vz_Vv3 (As := []) (rest := []) hx hb hml hown hts hK hA hP hD hS (a_D_advance l D g H.size h va vi vr vf ta ph tr tf pa pr pf_4 hw_v hw_t hw_p) kv_X3_89 ⟨Nat.le_of_ble_eq_true rfl, Nat.le_of_ble_eq_true rfl⟩ (q0 := 0) (ci := 3) rfl rfl rfl  hl.1 (Nat.le_of_ble_eq_true rfl) dX3_readCall_27 ⟨Nat.le_refl _, Nat.le_refl _⟩ rfl (fun vi_5 H locs _ _ hP hD hS => ?_)
  replace hP : va_P D vwCl (vz_w [rdW g h va vi_5 vr vf (ta 0) ph, tkW g ta tr tf, pgW g ph pa pr pf_4]) H := hP
  replace hD : va_D A (vz_w [rdW g h va vi_5 vr vf (ta 0) ph, tkW g ta tr tf, pgW g ph pa pr pf_4]) := hD
  refine lv_aload_n hx hb dX3_readCall_30 rfl (lv_at hl 0 rfl) ?_
  refine va_get (D := D) (ci := 3) (v := .ref ph) (C := RX3) (T := TX3) (N := 12) hx hb hts inlX3 hown hK hP 0 rfl rfl 4 (by decide) (hts _ q97) (fun _ h => h) rfl dX3_readCall_31 ?_
  refine va_get (D := D) (ci := 2) (v := .ref (pa 0)) (C := RX2) (T := TX2) (N := 5) hx hb hts inlX2 hown hK hP 9 rfl rfl 0 (by decide) (hts _ q500) (fun _ h => h) rfl dX3_readCall_34 ?_
  refine lv_iload_n hx hb dX3_readCall_37 rfl (lv_at hl 1 rfl) ?_
  refine lv_iconst (v := 1) hx hb dX3_readCall_38 (by decide) ?_
  refine lv_aload_n hx hb dX3_readCall_39 rfl (lv_at hl 0 rfl) ?_
  refine va_get (D := D) (ci := 3) (v := .int (vi_5 2)) (C := RX3) (T := TX3) (N := 12) hx hb hts inlX3 hown hK hP 0 rfl rfl 7 (by decide) (hts _ q464) (fun _ h => h) rfl dX3_readCall_40 ?_
  refine vz_Vv2 (ws' := fun u : (Nat → Int32) => vz_w [rdW g h va vi_5 vr vf (ta 0) ph, tkW g ta tr tf, pgW g ph pa pr (vz_uf pf_4 0 u)]) (As := [.int n1, .int 1, .int (vi_5 2)]) (rest := []) hx hb hml hown hts hK hA hP hD hS (c_T_set l D g (pa 0) (pa 1) H.size 12 80 (pr 0) 960 (pf_4 0) n1 1 (vi_5 2) ⟨rfl, by decide, by decide, by decide, by decide, hw_p 0⟩) kv_X3_60 ⟨Nat.le_of_ble_eq_true rfl, Nat.le_of_ble_eq_true rfl⟩ (q0 := 10) (ci := 6) rfl rfl rfl [10, 11] rfl (by decide) (fun _ => rfl) (fun _ => rfl) hl.1 (Nat.le_of_ble_eq_true rfl) dX3_readCall_43 ⟨Nat.le_refl _, Nat.le_refl _⟩ rfl (fun nf6 H locs _ _ hP hD hS => ?_)
  obtain ⟨pf_7, hP, hD⟩ : ∃ pf_7 : Nat → Nat → Int32, va_P D vwCl (vz_w [rdW g h va vi_5 vr vf (ta 0) ph, tkW g ta tr tf, pgW g ph pa pr pf_7]) H ∧ va_D A (vz_w [rdW g h va vi_5 vr vf (ta 0) ph, tkW g ta tr tf, pgW g ph pa pr pf_7]) := ⟨(vz_uf pf_4 0 nf6), hP, hD⟩
  refine lv_aload_n hx hb dX3_readCall_46 rfl (lv_at hl 0 rfl) ?_
  refine va_get (D := D) (ci := 3) (v := .ref (va 4)) (C := RX3) (T := TX3) (N := 12) hx hb hts inlX3 hown hK hP 0 rfl rfl 3 (by decide) (hts _ q101) (fun _ h => h) rfl dX3_readCall_47 ?_
  refine lv_iload_n hx hb dX3_readCall_50 rfl (lv_at hl 1 rfl) ?_
  refine lv_iconst (v := 0) hx hb dX3_readCall_51 (by decide) ?_
  refine lv_aload_n hx hb dX3_readCall_52 rfl (lv_at hl 0 rfl) ?_
  refine va_get (D := D) (ci := 3) (v := .int (vi_5 3)) (C := RX3) (T := TX3) (N := 12) hx hb hts inlX3 hown hK hP 0 rfl rfl 8 (by decide) (hts _ q465) (fun _ h => h) rfl dX3_readCall_53 ?_
  refine vz_Vv2 (ws' := fun u : (Nat → Int32) => vz_w [rdW g h va vi_5 vr (vz_uf vf 2 u) (ta 0) ph, tkW g ta tr tf, pgW g ph pa pr pf_7]) (As := [.int n1, .int 0, .int (vi_5 3)]) (rest := []) hx hb hml hown hts hK hA hP hD hS (c_T_set l D g (va 4) (va 5) H.size 1 80 (vr 2) 80 (vf 2) n1 0 (vi_5 3) ⟨rfl, by decide, by decide, by decide, by decide, hw_v 2⟩) kv_X3_60 ⟨Nat.le_of_ble_eq_true rfl, Nat.le_of_ble_eq_true rfl⟩ (q0 := 5) (ci := 6) rfl rfl rfl [5, 6] rfl (by decide) (fun _ => rfl) (fun _ => rfl) hl.1 (Nat.le_of_ble_eq_true rfl) dX3_readCall_56 ⟨Nat.le_refl _, Nat.le_refl _⟩ rfl (fun nf8 H locs _ _ hP hD hS => ?_)
  obtain ⟨vf_9, hP, hD⟩ : ∃ vf_9 : Nat → Nat → Int32, va_P D vwCl (vz_w [rdW g h va vi_5 vr vf_9 (ta 0) ph, tkW g ta tr tf, pgW g ph pa pr pf_7]) H ∧ va_D A (vz_w [rdW g h va vi_5 vr vf_9 (ta 0) ph, tkW g ta tr tf, pgW g ph pa pr pf_7]) := ⟨(vz_uf vf 2 nf8), hP, hD⟩
  refine lv_aload_n hx hb dX3_readCall_59 rfl (lv_at hl 0 rfl) ?_
  refine lv_iconst (v := 4) hx hb dX3_readCall_60 (by decide) ?_
  refine vz_Vv3 (As := [.int 4]) (rest := []) hx hb hml hown hts hK hA hP hD hS (a_D_expect l D g H.size h va vi_5 vr vf_9 ta ph tr tf pa pr pf_7 4 hw_v hw_t hw_p) kv_X3_64 ⟨Nat.le_of_ble_eq_true rfl, Nat.le_of_ble_eq_true rfl⟩ (q0 := 0) (ci := 3) rfl rfl rfl  hl.1 (Nat.le_of_ble_eq_true rfl) dX3_readCall_61 ⟨Nat.le_refl _, Nat.le_refl _⟩ rfl (fun vi_10 H locs hp11 _ hP hD hS => ?_)
  try dsimp only at hp11
  replace hP : va_P D vwCl (vz_w [rdW g h va vi_10 vr vf_9 (ta 0) ph, tkW g ta tr tf, pgW g ph pa pr pf_7]) H := hP
  replace hD : va_D A (vz_w [rdW g h va vi_10 vr vf_9 (ta 0) ph, tkW g ta tr tf, pgW g ph pa pr pf_7]) := hD
  refine lv_aload_n hx hb dX3_readCall_64 rfl (lv_at hl 0 rfl) ?_
  refine lv_bipush (v := 40) hx hb dX3_readCall_65 (by decide) ?_
  refine vz_Vv3 (As := [.int 40]) (rest := []) hx hb hml hown hts hK hA hP hD hS (a_D_expect l D g H.size h va vi_10 vr vf_9 ta ph tr tf pa pr pf_7 40 hw_v hw_t hw_p) kv_X3_64 ⟨Nat.le_of_ble_eq_true rfl, Nat.le_of_ble_eq_true rfl⟩ (q0 := 0) (ci := 3) rfl rfl rfl  hl.1 (Nat.le_of_ble_eq_true rfl) dX3_readCall_67 ⟨Nat.le_refl _, Nat.le_refl _⟩ rfl (fun vi_12 H locs hp13 _ hP hD hS => ?_)
  try dsimp only at hp13
  replace hP : va_P D vwCl (vz_w [rdW g h va vi_12 vr vf_9 (ta 0) ph, tkW g ta tr tf, pgW g ph pa pr pf_7]) H := hP
  replace hD : va_D A (vz_w [rdW g h va vi_12 vr vf_9 (ta 0) ph, tkW g ta tr tf, pgW g ph pa pr pf_7]) := hD
  refine lv_aload_n hx hb dX3_readCall_70 rfl (lv_at hl 0 rfl) ?_
  refine va_get (D := D) (ci := 3) (v := .ref ph) (C := RX3) (T := TX3) (N := 12) hx hb hts inlX3 hown hK hP 0 rfl rfl 4 (by decide) (hts _ q97) (fun _ h => h) rfl dX3_readCall_71 ?_
  refine va_get (D := D) (ci := 2) (v := .ref (pa 0)) (C := RX2) (T := TX2) (N := 5) hx hb hts inlX2 hown hK hP 9 rfl rfl 0 (by decide) (hts _ q500) (fun _ h => h) rfl dX3_readCall_74 ?_
  refine lv_iload_n hx hb dX3_readCall_77 rfl (lv_at hl 1 rfl) ?_
  refine lv_iconst (v := 3) hx hb dX3_readCall_78 (by decide) ?_
  refine lv_aload_n hx hb dX3_readCall_79 rfl (lv_at hl 0 rfl) ?_
  refine lv_iconst (v := 0) hx hb dX3_readCall_80 (by decide) ?_
  refine lv_iconst (v := 1) hx hb dX3_readCall_81 (by decide) ?_
  refine vz_Vi3 (As := [.int 0, .int 1]) (rest := [.int 3, .int n1, .ref (pa 0)]) hx hb hml hown hts hK hA hP hD hS (a_D_list9 l D g 8 0 (by decide) H.size h va vi_12 vr vf_9 ta ph tr tf pa pr pf_7 hw_v hw_t hw_p) kv_X3_164 ⟨Nat.le_of_ble_eq_true rfl, Nat.le_of_ble_eq_true rfl⟩ (q0 := 0) (ci := 3) rfl rfl rfl  hl.1 (Nat.le_of_ble_eq_true rfl) dX3_readCall_82 ⟨Nat.le_refl _, Nat.le_refl _⟩ rfl (fun v18 ⟨vi_14, pr_15, pf_16⟩ H locs hw_17 _ hP hD hS => ?_)
  try dsimp only at hw_17
  replace hP : va_P D vwCl (vz_w [rdW g h va vi_14 vr vf_9 (ta 0) ph, tkW g ta tr tf, pgW g ph pa pr_15 pf_16]) H := hP
  replace hD : va_D A (vz_w [rdW g h va vi_14 vr vf_9 (ta 0) ph, tkW g ta tr tf, pgW g ph pa pr_15 pf_16]) := hD
  refine vz_Vv2 (ws' := fun u : (Nat → Int32) => vz_w [rdW g h va vi_14 vr vf_9 (ta 0) ph, tkW g ta tr tf, pgW g ph pa pr_15 (vz_uf pf_16 0 u)]) (As := [.int n1, .int 3, .int v18]) (rest := []) hx hb hml hown hts hK hA hP hD hS (c_T_set l D g (pa 0) (pa 1) H.size 12 80 (pr_15 0) 960 (pf_16 0) n1 3 v18 ⟨rfl, by decide, by decide, by decide, by decide, hw_17 0⟩) kv_X3_60 ⟨Nat.le_of_ble_eq_true rfl, Nat.le_of_ble_eq_true rfl⟩ (q0 := 10) (ci := 6) rfl rfl rfl [10, 11] rfl (by decide) (fun _ => rfl) (fun _ => rfl) hl.1 (Nat.le_of_ble_eq_true rfl) dX3_readCall_85 ⟨Nat.le_refl _, Nat.le_refl _⟩ rfl (fun nf19 H locs _ _ hP hD hS => ?_)
  obtain ⟨pf_20, hP, hD⟩ : ∃ pf_20 : Nat → Nat → Int32, va_P D vwCl (vz_w [rdW g h va vi_14 vr vf_9 (ta 0) ph, tkW g ta tr tf, pgW g ph pa pr_15 pf_20]) H ∧ va_D A (vz_w [rdW g h va vi_14 vr vf_9 (ta 0) ph, tkW g ta tr tf, pgW g ph pa pr_15 pf_20]) := ⟨(vz_uf pf_16 0 nf19), hP, hD⟩
  refine lv_aload_n hx hb dX3_readCall_88 rfl (lv_at hl 0 rfl) ?_
  refine lv_bipush (v := 44) hx hb dX3_readCall_89 (by decide) ?_
  refine vz_Vv3 (As := [.int 44]) (rest := []) hx hb hml hown hts hK hA hP hD hS (a_D_expect l D g H.size h va vi_14 vr vf_9 ta ph tr tf pa pr_15 pf_20 44 hw_v hw_t hw_17) kv_X3_64 ⟨Nat.le_of_ble_eq_true rfl, Nat.le_of_ble_eq_true rfl⟩ (q0 := 0) (ci := 3) rfl rfl rfl  hl.1 (Nat.le_of_ble_eq_true rfl) dX3_readCall_91 ⟨Nat.le_refl _, Nat.le_refl _⟩ rfl (fun vi_21 H locs hp22 _ hP hD hS => ?_)
  try dsimp only at hp22
  replace hP : va_P D vwCl (vz_w [rdW g h va vi_21 vr vf_9 (ta 0) ph, tkW g ta tr tf, pgW g ph pa pr_15 pf_20]) H := hP
  replace hD : va_D A (vz_w [rdW g h va vi_21 vr vf_9 (ta 0) ph, tkW g ta tr tf, pgW g ph pa pr_15 pf_20]) := hD
  refine lv_aload_n hx hb dX3_readCall_94 rfl (lv_at hl 0 rfl) ?_
  refine va_get (D := D) (ci := 3) (v := .ref ph) (C := RX3) (T := TX3) (N := 12) hx hb hts inlX3 hown hK hP 0 rfl rfl 4 (by decide) (hts _ q97) (fun _ h => h) rfl dX3_readCall_95 ?_
  refine va_get (D := D) (ci := 2) (v := .ref (pa 0)) (C := RX2) (T := TX2) (N := 5) hx hb hts inlX2 hown hK hP 9 rfl rfl 0 (by decide) (hts _ q500) (fun _ h => h) rfl dX3_readCall_98 ?_
  refine lv_iload_n hx hb dX3_readCall_101 rfl (lv_at hl 1 rfl) ?_
  refine lv_iconst (v := 4) hx hb dX3_readCall_102 (by decide) ?_
  refine lv_aload_n hx hb dX3_readCall_103 rfl (lv_at hl 0 rfl) ?_
  refine lv_iconst (v := 0) hx hb dX3_readCall_104 (by decide) ?_
  refine lv_iconst (v := 1) hx hb dX3_readCall_105 (by decide) ?_
  refine vz_Vi3 (As := [.int 0, .int 1]) (rest := [.int 4, .int n1, .ref (pa 0)]) hx hb hml hown hts hK hA hP hD hS (a_D_list9 l D g 8 0 (by decide) H.size h va vi_21 vr vf_9 ta ph tr tf pa pr_15 pf_20 hw_v hw_t hw_17) kv_X3_164 ⟨Nat.le_of_ble_eq_true rfl, Nat.le_of_ble_eq_true rfl⟩ (q0 := 0) (ci := 3) rfl rfl rfl  hl.1 (Nat.le_of_ble_eq_true rfl) dX3_readCall_106 ⟨Nat.le_refl _, Nat.le_refl _⟩ rfl (fun v27 ⟨vi_23, pr_24, pf_25⟩ H locs hw_26 _ hP hD hS => ?_)
  try dsimp only at hw_26
  replace hP : va_P D vwCl (vz_w [rdW g h va vi_23 vr vf_9 (ta 0) ph, tkW g ta tr tf, pgW g ph pa pr_24 pf_25]) H := hP
  replace hD : va_D A (vz_w [rdW g h va vi_23 vr vf_9 (ta 0) ph, tkW g ta tr tf, pgW g ph pa pr_24 pf_25]) := hD
  refine vz_Vv2 (ws' := fun u : (Nat → Int32) => vz_w [rdW g h va vi_23 vr vf_9 (ta 0) ph, tkW g ta tr tf, pgW g ph pa pr_24 (vz_uf pf_25 0 u)]) (As := [.int n1, .int 4, .int v27]) (rest := []) hx hb hml hown hts hK hA hP hD hS (c_T_set l D g (pa 0) (pa 1) H.size 12 80 (pr_24 0) 960 (pf_25 0) n1 4 v27 ⟨rfl, by decide, by decide, by decide, by decide, hw_26 0⟩) kv_X3_60 ⟨Nat.le_of_ble_eq_true rfl, Nat.le_of_ble_eq_true rfl⟩ (q0 := 10) (ci := 6) rfl rfl rfl [10, 11] rfl (by decide) (fun _ => rfl) (fun _ => rfl) hl.1 (Nat.le_of_ble_eq_true rfl) dX3_readCall_109 ⟨Nat.le_refl _, Nat.le_refl _⟩ rfl (fun nf28 H locs _ _ hP hD hS => ?_)
  obtain ⟨pf_29, hP, hD⟩ : ∃ pf_29 : Nat → Nat → Int32, va_P D vwCl (vz_w [rdW g h va vi_23 vr vf_9 (ta 0) ph, tkW g ta tr tf, pgW g ph pa pr_24 pf_29]) H ∧ va_D A (vz_w [rdW g h va vi_23 vr vf_9 (ta 0) ph, tkW g ta tr tf, pgW g ph pa pr_24 pf_29]) := ⟨(vz_uf pf_25 0 nf28), hP, hD⟩
  refine lv_aload_n hx hb dX3_readCall_112 rfl (lv_at hl 0 rfl) ?_
  refine lv_bipush (v := 41) hx hb dX3_readCall_113 (by decide) ?_
  refine vz_Vv3 (As := [.int 41]) (rest := []) hx hb hml hown hts hK hA hP hD hS (a_D_expect l D g H.size h va vi_23 vr vf_9 ta ph tr tf pa pr_24 pf_29 41 hw_v hw_t hw_26) kv_X3_64 ⟨Nat.le_of_ble_eq_true rfl, Nat.le_of_ble_eq_true rfl⟩ (q0 := 0) (ci := 3) rfl rfl rfl  hl.1 (Nat.le_of_ble_eq_true rfl) dX3_readCall_115 ⟨Nat.le_refl _, Nat.le_refl _⟩ rfl (fun vi_30 H locs hp31 _ hP hD hS => ?_)
  try dsimp only at hp31
  replace hP : va_P D vwCl (vz_w [rdW g h va vi_30 vr vf_9 (ta 0) ph, tkW g ta tr tf, pgW g ph pa pr_24 pf_29]) H := hP
  replace hD : va_D A (vz_w [rdW g h va vi_30 vr vf_9 (ta 0) ph, tkW g ta tr tf, pgW g ph pa pr_24 pf_29]) := hD
  rw [hQ]
  exact vz_vret3 hx hb hr hlk hK hP hD hS (vi_30, vf_9, pr_24, pf_29) hw_26 rfl (Nat.le_refl 0) (Nat.le_refl 0) dX3_readCall_118
theorem dX3_readSet_0 : decode cX3_readSet 0 = .ok (.aload_n 0, 1) := by decide +kernel
theorem dX3_readSet_1 : decode cX3_readSet 1 = .ok (.getfield 15, 3) := by decide +kernel
theorem dX3_readSet_4 : decode cX3_readSet 4 = .ok (.getfield 117, 3) := by decide +kernel
theorem dX3_readSet_7 : decode cX3_readSet 7 = .ok (.iload_n 1, 1) := by decide +kernel
theorem dX3_readSet_8 : decode cX3_readSet 8 = .ok (.iconst 0, 1) := by decide +kernel
theorem dX3_readSet_9 : decode cX3_readSet 9 = .ok (.iconst 2, 1) := by decide +kernel
theorem dX3_readSet_10 : decode cX3_readSet 10 = .ok (.invokevirtual 60, 3) := by decide +kernel
theorem dX3_readSet_13 : decode cX3_readSet 13 = .ok (.aload_n 0, 1) := by decide +kernel
theorem dX3_readSet_14 : decode cX3_readSet 14 = .ok (.getfield 15, 3) := by decide +kernel
theorem dX3_readSet_17 : decode cX3_readSet 17 = .ok (.getfield 117, 3) := by decide +kernel
theorem dX3_readSet_20 : decode cX3_readSet 20 = .ok (.iload_n 1, 1) := by decide +kernel
theorem dX3_readSet_21 : decode cX3_readSet 21 = .ok (.iconst 1, 1) := by decide +kernel
theorem dX3_readSet_22 : decode cX3_readSet 22 = .ok (.iload_n 2, 1) := by decide +kernel
theorem dX3_readSet_23 : decode cX3_readSet 23 = .ok (.invokevirtual 60, 3) := by decide +kernel
theorem dX3_readSet_26 : decode cX3_readSet 26 = .ok (.aload_n 0, 1) := by decide +kernel
theorem dX3_readSet_27 : decode cX3_readSet 27 = .ok (.getfield 15, 3) := by decide +kernel
theorem dX3_readSet_30 : decode cX3_readSet 30 = .ok (.getfield 117, 3) := by decide +kernel
theorem dX3_readSet_33 : decode cX3_readSet 33 = .ok (.iload_n 1, 1) := by decide +kernel
theorem dX3_readSet_34 : decode cX3_readSet 34 = .ok (.iconst 3, 1) := by decide +kernel
theorem dX3_readSet_35 : decode cX3_readSet 35 = .ok (.aload_n 0, 1) := by decide +kernel
theorem dX3_readSet_36 : decode cX3_readSet 36 = .ok (.iconst 0, 1) := by decide +kernel
theorem dX3_readSet_37 : decode cX3_readSet 37 = .ok (.iconst 1, 1) := by decide +kernel
theorem dX3_readSet_38 : decode cX3_readSet 38 = .ok (.invokevirtual 164, 3) := by decide +kernel
theorem dX3_readSet_41 : decode cX3_readSet 41 = .ok (.invokevirtual 60, 3) := by decide +kernel
theorem dX3_readSet_44 : decode cX3_readSet 44 = .ok (.return_, 1) := by decide +kernel
set_option maxHeartbeats 8000000 in
set_option maxRecDepth 100000 in
theorem a_D_readSet (l : Launch) (D : va_G) (g : Nat → ClassId)   (sz : Nat) (h : Nat) (va : Nat → Nat) (vi : Nat → Int32) (vr : Nat → Nat) (vf : Nat → Nat → Int32) (ta : Nat → Nat) (ph : Nat) (tr : Nat → Nat) (tf : Nat → Nat → Int32) (pa : Nat → Nat) (pr : Nat → Nat) (pf : Nat → Nat → Int32) (n1 : Int32) (n2 : Int32) (hw_v : ∀ k, vr k ≤ rdW_lim k) (hw_t : ∀ k, tr k ≤ tkW_lim k) (hw_p : ∀ k, pr k ≤ pgW_lim k) : vz_Mv l D (tyG g) yX3_readSet cX3_readSet 3 45 1178 0 0 [.ref h, .int n1, .int n2] sz (vz_w [rdW g h va vi vr vf (ta 0) ph, tkW g ta tr tf, pgW g ph pa pr pf]) (fun u : (Nat → Int32) × (Nat → Nat) × (Nat → Nat → Int32) => (∀ k, u.2.1 k ≤ pgW_lim k)) (fun u => vz_w [rdW g h va u.1 vr vf (ta 0) ph, tkW g ta tr tf, pgW g ph pa u.2.1 u.2.2]) := by
  refine vz_svQ (by decide) (Nat.le_of_ble_eq_true rfl) (fun p e s m args below meth c hx hb hr hml hts hown hlk hin hK hsz A hA H locs hP hD hS ls hl Q hQ => ?_)
  have hl : lv_has ls 3 [(0, .ref h), (1, .int n1), (2, .int n2)] := hl
  refine lv_aload_n hx hb dX3_readSet_0 rfl (lv_at hl 0 rfl) ?_
  refine va_get (D := D) (ci := 3) (v := .ref ph) (C := RX3) (T := TX3) (N := 12) hx hb hts inlX3 hown hK hP 0 rfl rfl 4 (by decide) (hts _ q97) (fun _ h => h) rfl dX3_readSet_1 ?_
  refine va_get (D := D) (ci := 2) (v := .ref (pa 0)) (C := RX2) (T := TX2) (N := 5) hx hb hts inlX2 hown hK hP 9 rfl rfl 0 (by decide) (hts _ q500) (fun _ h => h) rfl dX3_readSet_4 ?_
  refine lv_iload_n hx hb dX3_readSet_7 rfl (lv_at hl 1 rfl) ?_
  refine lv_iconst (v := 0) hx hb dX3_readSet_8 (by decide) ?_
  refine lv_iconst (v := 2) hx hb dX3_readSet_9 (by decide) ?_
  refine vz_Vv2 (ws' := fun u : (Nat → Int32) => vz_w [rdW g h va vi vr vf (ta 0) ph, tkW g ta tr tf, pgW g ph pa pr (vz_uf pf 0 u)]) (As := [.int n1, .int 0, .int 2]) (rest := []) hx hb hml hown hts hK hA hP hD hS (c_T_set l D g (pa 0) (pa 1) H.size 12 80 (pr 0) 960 (pf 0) n1 0 2 ⟨rfl, by decide, by decide, by decide, by decide, hw_p 0⟩) kv_X3_60 ⟨Nat.le_of_ble_eq_true rfl, Nat.le_of_ble_eq_true rfl⟩ (q0 := 10) (ci := 6) rfl rfl rfl [10, 11] rfl (by decide) (fun _ => rfl) (fun _ => rfl) hl.1 (Nat.le_of_ble_eq_true rfl) dX3_readSet_10 ⟨Nat.le_refl _, Nat.le_refl _⟩ rfl (fun nf1 H locs _ _ hP hD hS => ?_)
  obtain ⟨pf_2, hP, hD⟩ : ∃ pf_2 : Nat → Nat → Int32, va_P D vwCl (vz_w [rdW g h va vi vr vf (ta 0) ph, tkW g ta tr tf, pgW g ph pa pr pf_2]) H ∧ va_D A (vz_w [rdW g h va vi vr vf (ta 0) ph, tkW g ta tr tf, pgW g ph pa pr pf_2]) := ⟨(vz_uf pf 0 nf1), hP, hD⟩
  refine lv_aload_n hx hb dX3_readSet_13 rfl (lv_at hl 0 rfl) ?_
  refine va_get (D := D) (ci := 3) (v := .ref ph) (C := RX3) (T := TX3) (N := 12) hx hb hts inlX3 hown hK hP 0 rfl rfl 4 (by decide) (hts _ q97) (fun _ h => h) rfl dX3_readSet_14 ?_
  refine va_get (D := D) (ci := 2) (v := .ref (pa 0)) (C := RX2) (T := TX2) (N := 5) hx hb hts inlX2 hown hK hP 9 rfl rfl 0 (by decide) (hts _ q500) (fun _ h => h) rfl dX3_readSet_17 ?_
  refine lv_iload_n hx hb dX3_readSet_20 rfl (lv_at hl 1 rfl) ?_
  refine lv_iconst (v := 1) hx hb dX3_readSet_21 (by decide) ?_
  refine lv_iload_n hx hb dX3_readSet_22 rfl (lv_at hl 2 rfl) ?_
  refine vz_Vv2 (ws' := fun u : (Nat → Int32) => vz_w [rdW g h va vi vr vf (ta 0) ph, tkW g ta tr tf, pgW g ph pa pr (vz_uf pf_2 0 u)]) (As := [.int n1, .int 1, .int n2]) (rest := []) hx hb hml hown hts hK hA hP hD hS (c_T_set l D g (pa 0) (pa 1) H.size 12 80 (pr 0) 960 (pf_2 0) n1 1 n2 ⟨rfl, by decide, by decide, by decide, by decide, hw_p 0⟩) kv_X3_60 ⟨Nat.le_of_ble_eq_true rfl, Nat.le_of_ble_eq_true rfl⟩ (q0 := 10) (ci := 6) rfl rfl rfl [10, 11] rfl (by decide) (fun _ => rfl) (fun _ => rfl) hl.1 (Nat.le_of_ble_eq_true rfl) dX3_readSet_23 ⟨Nat.le_refl _, Nat.le_refl _⟩ rfl (fun nf3 H locs _ _ hP hD hS => ?_)
  obtain ⟨pf_4, hP, hD⟩ : ∃ pf_4 : Nat → Nat → Int32, va_P D vwCl (vz_w [rdW g h va vi vr vf (ta 0) ph, tkW g ta tr tf, pgW g ph pa pr pf_4]) H ∧ va_D A (vz_w [rdW g h va vi vr vf (ta 0) ph, tkW g ta tr tf, pgW g ph pa pr pf_4]) := ⟨(vz_uf pf_2 0 nf3), hP, hD⟩
  refine lv_aload_n hx hb dX3_readSet_26 rfl (lv_at hl 0 rfl) ?_
  refine va_get (D := D) (ci := 3) (v := .ref ph) (C := RX3) (T := TX3) (N := 12) hx hb hts inlX3 hown hK hP 0 rfl rfl 4 (by decide) (hts _ q97) (fun _ h => h) rfl dX3_readSet_27 ?_
  refine va_get (D := D) (ci := 2) (v := .ref (pa 0)) (C := RX2) (T := TX2) (N := 5) hx hb hts inlX2 hown hK hP 9 rfl rfl 0 (by decide) (hts _ q500) (fun _ h => h) rfl dX3_readSet_30 ?_
  refine lv_iload_n hx hb dX3_readSet_33 rfl (lv_at hl 1 rfl) ?_
  refine lv_iconst (v := 3) hx hb dX3_readSet_34 (by decide) ?_
  refine lv_aload_n hx hb dX3_readSet_35 rfl (lv_at hl 0 rfl) ?_
  refine lv_iconst (v := 0) hx hb dX3_readSet_36 (by decide) ?_
  refine lv_iconst (v := 1) hx hb dX3_readSet_37 (by decide) ?_
  refine vz_Vi3 (As := [.int 0, .int 1]) (rest := [.int 3, .int n1, .ref (pa 0)]) hx hb hml hown hts hK hA hP hD hS (a_D_list9 l D g 8 0 (by decide) H.size h va vi vr vf ta ph tr tf pa pr pf_4 hw_v hw_t hw_p) kv_X3_164 ⟨Nat.le_of_ble_eq_true rfl, Nat.le_of_ble_eq_true rfl⟩ (q0 := 0) (ci := 3) rfl rfl rfl  hl.1 (Nat.le_of_ble_eq_true rfl) dX3_readSet_38 ⟨Nat.le_refl _, Nat.le_refl _⟩ rfl (fun v9 ⟨vi_5, pr_6, pf_7⟩ H locs hw_8 _ hP hD hS => ?_)
  try dsimp only at hw_8
  replace hP : va_P D vwCl (vz_w [rdW g h va vi_5 vr vf (ta 0) ph, tkW g ta tr tf, pgW g ph pa pr_6 pf_7]) H := hP
  replace hD : va_D A (vz_w [rdW g h va vi_5 vr vf (ta 0) ph, tkW g ta tr tf, pgW g ph pa pr_6 pf_7]) := hD
  refine vz_Vv2 (ws' := fun u : (Nat → Int32) => vz_w [rdW g h va vi_5 vr vf (ta 0) ph, tkW g ta tr tf, pgW g ph pa pr_6 (vz_uf pf_7 0 u)]) (As := [.int n1, .int 3, .int v9]) (rest := []) hx hb hml hown hts hK hA hP hD hS (c_T_set l D g (pa 0) (pa 1) H.size 12 80 (pr_6 0) 960 (pf_7 0) n1 3 v9 ⟨rfl, by decide, by decide, by decide, by decide, hw_8 0⟩) kv_X3_60 ⟨Nat.le_of_ble_eq_true rfl, Nat.le_of_ble_eq_true rfl⟩ (q0 := 10) (ci := 6) rfl rfl rfl [10, 11] rfl (by decide) (fun _ => rfl) (fun _ => rfl) hl.1 (Nat.le_of_ble_eq_true rfl) dX3_readSet_41 ⟨Nat.le_refl _, Nat.le_refl _⟩ rfl (fun nf10 H locs _ _ hP hD hS => ?_)
  obtain ⟨pf_11, hP, hD⟩ : ∃ pf_11 : Nat → Nat → Int32, va_P D vwCl (vz_w [rdW g h va vi_5 vr vf (ta 0) ph, tkW g ta tr tf, pgW g ph pa pr_6 pf_11]) H ∧ va_D A (vz_w [rdW g h va vi_5 vr vf (ta 0) ph, tkW g ta tr tf, pgW g ph pa pr_6 pf_11]) := ⟨(vz_uf pf_7 0 nf10), hP, hD⟩
  rw [hQ]
  exact vz_vret3 hx hb hr hlk hK hP hD hS (vi_5, pr_6, pf_11) hw_8 rfl (Nat.le_refl 0) (Nat.le_refl 0) dX3_readSet_44
theorem dX3_readRow_0 : decode cX3_readRow 0 = .ok (.aload_n 0, 1) := by decide +kernel
theorem dX3_readRow_1 : decode cX3_readRow 1 = .ok (.getfield 15, 3) := by decide +kernel
theorem dX3_readRow_4 : decode cX3_readRow 4 = .ok (.getfield 117, 3) := by decide +kernel
theorem dX3_readRow_7 : decode cX3_readRow 7 = .ok (.astore_n 2, 1) := by decide +kernel
theorem dX3_readRow_8 : decode cX3_readRow 8 = .ok (.aload_n 2, 1) := by decide +kernel
theorem dX3_readRow_9 : decode cX3_readRow 9 = .ok (.iload_n 1, 1) := by decide +kernel
theorem dX3_readRow_10 : decode cX3_readRow 10 = .ok (.iconst 1, 1) := by decide +kernel
theorem dX3_readRow_11 : decode cX3_readRow 11 = .ok (.aload_n 0, 1) := by decide +kernel
theorem dX3_readRow_12 : decode cX3_readRow 12 = .ok (.getfield 95, 3) := by decide +kernel
theorem dX3_readRow_15 : decode cX3_readRow 15 = .ok (.invokevirtual 60, 3) := by decide +kernel
theorem dX3_readRow_18 : decode cX3_readRow 18 = .ok (.aload_n 0, 1) := by decide +kernel
theorem dX3_readRow_19 : decode cX3_readRow 19 = .ok (.invokevirtual 89, 3) := by decide +kernel
theorem dX3_readRow_22 : decode cX3_readRow 22 = .ok (.aload_n 0, 1) := by decide +kernel
theorem dX3_readRow_23 : decode cX3_readRow 23 = .ok (.getfield 41, 3) := by decide +kernel
theorem dX3_readRow_26 : decode cX3_readRow 26 = .ok (.bipush 91, 2) := by decide +kernel
theorem dX3_readRow_28 : decode cX3_readRow 28 = .ok (.if_icmp .ne 52, 3) := by decide +kernel
theorem dX3_readRow_31 : decode cX3_readRow 31 = .ok (.aload_n 2, 1) := by decide +kernel
theorem dX3_readRow_32 : decode cX3_readRow 32 = .ok (.iload_n 1, 1) := by decide +kernel
theorem dX3_readRow_33 : decode cX3_readRow 33 = .ok (.iconst 0, 1) := by decide +kernel
theorem dX3_readRow_34 : decode cX3_readRow 34 = .ok (.bipush 6, 2) := by decide +kernel
theorem dX3_readRow_36 : decode cX3_readRow 36 = .ok (.invokevirtual 60, 3) := by decide +kernel
theorem dX3_readRow_39 : decode cX3_readRow 39 = .ok (.aload_n 0, 1) := by decide +kernel
theorem dX3_readRow_40 : decode cX3_readRow 40 = .ok (.invokevirtual 89, 3) := by decide +kernel
theorem dX3_readRow_43 : decode cX3_readRow 43 = .ok (.aload_n 2, 1) := by decide +kernel
theorem dX3_readRow_44 : decode cX3_readRow 44 = .ok (.iload_n 1, 1) := by decide +kernel
theorem dX3_readRow_45 : decode cX3_readRow 45 = .ok (.iconst 3, 1) := by decide +kernel
theorem dX3_readRow_46 : decode cX3_readRow 46 = .ok (.aload_n 0, 1) := by decide +kernel
theorem dX3_readRow_47 : decode cX3_readRow 47 = .ok (.iconst 0, 1) := by decide +kernel
theorem dX3_readRow_48 : decode cX3_readRow 48 = .ok (.iconst 1, 1) := by decide +kernel
theorem dX3_readRow_49 : decode cX3_readRow 49 = .ok (.invokevirtual 164, 3) := by decide +kernel
theorem dX3_readRow_52 : decode cX3_readRow 52 = .ok (.invokevirtual 60, 3) := by decide +kernel
theorem dX3_readRow_55 : decode cX3_readRow 55 = .ok (.aload_n 0, 1) := by decide +kernel
theorem dX3_readRow_56 : decode cX3_readRow 56 = .ok (.bipush 93, 2) := by decide +kernel
theorem dX3_readRow_58 : decode cX3_readRow 58 = .ok (.invokevirtual 64, 3) := by decide +kernel
theorem dX3_readRow_61 : decode cX3_readRow 61 = .ok (.aload_n 0, 1) := by decide +kernel
theorem dX3_readRow_62 : decode cX3_readRow 62 = .ok (.bipush 61, 2) := by decide +kernel
theorem dX3_readRow_64 : decode cX3_readRow 64 = .ok (.invokevirtual 64, 3) := by decide +kernel
theorem dX3_readRow_67 : decode cX3_readRow 67 = .ok (.aload_n 2, 1) := by decide +kernel
theorem dX3_readRow_68 : decode cX3_readRow 68 = .ok (.iload_n 1, 1) := by decide +kernel
theorem dX3_readRow_69 : decode cX3_readRow 69 = .ok (.iconst 4, 1) := by decide +kernel
theorem dX3_readRow_70 : decode cX3_readRow 70 = .ok (.aload_n 0, 1) := by decide +kernel
theorem dX3_readRow_71 : decode cX3_readRow 71 = .ok (.iconst 0, 1) := by decide +kernel
theorem dX3_readRow_72 : decode cX3_readRow 72 = .ok (.iconst 1, 1) := by decide +kernel
theorem dX3_readRow_73 : decode cX3_readRow 73 = .ok (.invokevirtual 164, 3) := by decide +kernel
theorem dX3_readRow_76 : decode cX3_readRow 76 = .ok (.invokevirtual 60, 3) := by decide +kernel
theorem dX3_readRow_79 : decode cX3_readRow 79 = .ok (.return_, 1) := by decide +kernel
theorem dX3_readRow_80 : decode cX3_readRow 80 = .ok (.aload_n 0, 1) := by decide +kernel
theorem dX3_readRow_81 : decode cX3_readRow 81 = .ok (.bipush 61, 2) := by decide +kernel
theorem dX3_readRow_83 : decode cX3_readRow 83 = .ok (.invokevirtual 64, 3) := by decide +kernel
theorem dX3_readRow_86 : decode cX3_readRow 86 = .ok (.aload_n 0, 1) := by decide +kernel
theorem dX3_readRow_87 : decode cX3_readRow 87 = .ok (.getfield 41, 3) := by decide +kernel
theorem dX3_readRow_90 : decode cX3_readRow 90 = .ok (.sipush 133, 3) := by decide +kernel
theorem dX3_readRow_93 : decode cX3_readRow 93 = .ok (.if_icmp .ne 29, 3) := by decide +kernel
theorem dX3_readRow_96 : decode cX3_readRow 96 = .ok (.aload_n 2, 1) := by decide +kernel
theorem dX3_readRow_97 : decode cX3_readRow 97 = .ok (.iload_n 1, 1) := by decide +kernel
theorem dX3_readRow_98 : decode cX3_readRow 98 = .ok (.iconst 0, 1) := by decide +kernel
theorem dX3_readRow_99 : decode cX3_readRow 99 = .ok (.iconst 3, 1) := by decide +kernel
theorem dX3_readRow_100 : decode cX3_readRow 100 = .ok (.invokevirtual 60, 3) := by decide +kernel
theorem dX3_readRow_103 : decode cX3_readRow 103 = .ok (.aload_n 0, 1) := by decide +kernel
theorem dX3_readRow_104 : decode cX3_readRow 104 = .ok (.invokevirtual 89, 3) := by decide +kernel
theorem dX3_readRow_107 : decode cX3_readRow 107 = .ok (.aload_n 2, 1) := by decide +kernel
theorem dX3_readRow_108 : decode cX3_readRow 108 = .ok (.iload_n 1, 1) := by decide +kernel
theorem dX3_readRow_109 : decode cX3_readRow 109 = .ok (.iconst 3, 1) := by decide +kernel
theorem dX3_readRow_110 : decode cX3_readRow 110 = .ok (.aload_n 0, 1) := by decide +kernel
theorem dX3_readRow_111 : decode cX3_readRow 111 = .ok (.iconst 0, 1) := by decide +kernel
theorem dX3_readRow_112 : decode cX3_readRow 112 = .ok (.iconst 1, 1) := by decide +kernel
theorem dX3_readRow_113 : decode cX3_readRow 113 = .ok (.invokevirtual 164, 3) := by decide +kernel
theorem dX3_readRow_116 : decode cX3_readRow 116 = .ok (.invokevirtual 60, 3) := by decide +kernel
theorem dX3_readRow_119 : decode cX3_readRow 119 = .ok (.goto 44, 3) := by decide +kernel
theorem dX3_readRow_122 : decode cX3_readRow 122 = .ok (.aload_n 0, 1) := by decide +kernel
theorem dX3_readRow_123 : decode cX3_readRow 123 = .ok (.getfield 41, 3) := by decide +kernel
theorem dX3_readRow_126 : decode cX3_readRow 126 = .ok (.sipush 134, 3) := by decide +kernel
theorem dX3_readRow_129 : decode cX3_readRow 129 = .ok (.if_icmp .ne 17, 3) := by decide +kernel
theorem dX3_readRow_132 : decode cX3_readRow 132 = .ok (.aload_n 2, 1) := by decide +kernel
theorem dX3_readRow_133 : decode cX3_readRow 133 = .ok (.iload_n 1, 1) := by decide +kernel
theorem dX3_readRow_134 : decode cX3_readRow 134 = .ok (.iconst 0, 1) := by decide +kernel
theorem dX3_readRow_135 : decode cX3_readRow 135 = .ok (.iconst 4, 1) := by decide +kernel
theorem dX3_readRow_136 : decode cX3_readRow 136 = .ok (.invokevirtual 60, 3) := by decide +kernel
theorem dX3_readRow_139 : decode cX3_readRow 139 = .ok (.aload_n 0, 1) := by decide +kernel
theorem dX3_readRow_140 : decode cX3_readRow 140 = .ok (.invokevirtual 89, 3) := by decide +kernel
theorem dX3_readRow_143 : decode cX3_readRow 143 = .ok (.goto 20, 3) := by decide +kernel
theorem dX3_readRow_146 : decode cX3_readRow 146 = .ok (.aload_n 2, 1) := by decide +kernel
theorem dX3_readRow_147 : decode cX3_readRow 147 = .ok (.iload_n 1, 1) := by decide +kernel
theorem dX3_readRow_148 : decode cX3_readRow 148 = .ok (.iconst 0, 1) := by decide +kernel
theorem dX3_readRow_149 : decode cX3_readRow 149 = .ok (.iconst 5, 1) := by decide +kernel
theorem dX3_readRow_150 : decode cX3_readRow 150 = .ok (.invokevirtual 60, 3) := by decide +kernel
theorem dX3_readRow_153 : decode cX3_readRow 153 = .ok (.aload_n 2, 1) := by decide +kernel
theorem dX3_readRow_154 : decode cX3_readRow 154 = .ok (.iload_n 1, 1) := by decide +kernel
theorem dX3_readRow_155 : decode cX3_readRow 155 = .ok (.iconst 2, 1) := by decide +kernel
theorem dX3_readRow_156 : decode cX3_readRow 156 = .ok (.aload_n 0, 1) := by decide +kernel
theorem dX3_readRow_157 : decode cX3_readRow 157 = .ok (.invokevirtual 187, 3) := by decide +kernel
theorem dX3_readRow_160 : decode cX3_readRow 160 = .ok (.invokevirtual 60, 3) := by decide +kernel
theorem dX3_readRow_163 : decode cX3_readRow 163 = .ok (.return_, 1) := by decide +kernel
set_option maxHeartbeats 8000000 in
set_option maxRecDepth 100000 in
theorem a_D_readRow (l : Launch) (D : va_G) (g : Nat → ClassId)   (sz : Nat) (h : Nat) (va : Nat → Nat) (vi : Nat → Int32) (vr : Nat → Nat) (vf : Nat → Nat → Int32) (ta : Nat → Nat) (ph : Nat) (tr : Nat → Nat) (tf : Nat → Nat → Int32) (pa : Nat → Nat) (pr : Nat → Nat) (pf : Nat → Nat → Int32) (n1 : Int32) (hw_v : ∀ k, vr k ≤ rdW_lim k) (hw_t : ∀ k, tr k ≤ tkW_lim k) (hw_p : ∀ k, pr k ≤ pgW_lim k) : vz_Mv l D (tyG g) yX3_readRow cX3_readRow 3 45 1178 0 0 [.ref h, .int n1] sz (vz_w [rdW g h va vi vr vf (ta 0) ph, tkW g ta tr tf, pgW g ph pa pr pf]) (fun u : (Nat → Int32) × (Nat → Nat) × (Nat → Nat → Int32) => (∀ k, u.2.1 k ≤ pgW_lim k)) (fun u => vz_w [rdW g h va u.1 vr vf (ta 0) ph, tkW g ta tr tf, pgW g ph pa u.2.1 u.2.2]) := by
  refine vz_svQ (by decide) (Nat.le_of_ble_eq_true rfl) (fun p e s m args below meth c hx hb hr hml hts hown hlk hin hK hsz A hA H locs hP hD hS ls hl Q hQ => ?_)
  have hl : lv_has ls 3 [(0, .ref h), (1, .int n1)] := hl
  have J163 : ∀ (vi_163 : Nat → Int32), ∀ (pr_163 : Nat → Nat), ∀ (pf_163 : Nat → Nat → Int32), (∀ k, pr_163 k ≤ pgW_lim k) → ∀ (H : Heap) (locs : List Loc) (ls : Array Slot), va_P D vwCl (vz_w [rdW g h va vi_163 vr vf (ta 0) ph, tkW g ta tr tf, pgW g ph pa pr_163 pf_163]) H → va_D A (vz_w [rdW g h va vi_163 vr vf (ta 0) ph, tkW g ta tr tf, pgW g ph pa pr_163 pf_163]) → va_S A s.heap H locs → lv_has ls 3 [(0, .ref h), (1, .int n1), (2, .ref (pa 0))] → W p l e { frames := 45, cells := 0, slots := 0, locals := 1178 } s m args below meth c H locs 0 0 Q (F0 m 163 ls []) := by
    intro vi_163 pr_163 pf_163 hw_p_163 H locs ls hP hD hS hl
    rw [hQ]
    exact vz_vret3 hx hb hr hlk hK hP hD hS (vi_163, pr_163, pf_163) hw_p_163 rfl (Nat.le_refl 0) (Nat.le_refl 0) dX3_readRow_163
  refine lv_aload_n hx hb dX3_readRow_0 rfl (lv_at hl 0 rfl) ?_
  refine va_get (D := D) (ci := 3) (v := .ref ph) (C := RX3) (T := TX3) (N := 12) hx hb hts inlX3 hown hK hP 0 rfl rfl 4 (by decide) (hts _ q97) (fun _ h => h) rfl dX3_readRow_1 ?_
  refine va_get (D := D) (ci := 2) (v := .ref (pa 0)) (C := RX2) (T := TX2) (N := 5) hx hb hts inlX2 hown hK hP 9 rfl rfl 0 (by decide) (hts _ q500) (fun _ h => h) rfl dX3_readRow_4 ?_
  refine lv_astore_n (lv' := [(2, .ref (pa 0)), (0, .ref h), (1, .int n1)]) hx hb dX3_readRow_7 rfl hl (by decide) rfl (fun ls hl => ?_)
  refine lv_aload_n hx hb dX3_readRow_8 rfl (lv_at hl 0 rfl) ?_
  refine lv_iload_n hx hb dX3_readRow_9 rfl (lv_at hl 2 rfl) ?_
  refine lv_iconst (v := 1) hx hb dX3_readRow_10 (by decide) ?_
  refine lv_aload_n hx hb dX3_readRow_11 rfl (lv_at hl 1 rfl) ?_
  refine va_get (D := D) (ci := 3) (v := .int (vi 2)) (C := RX3) (T := TX3) (N := 12) hx hb hts inlX3 hown hK hP 0 rfl rfl 7 (by decide) (hts _ q464) (fun _ h => h) rfl dX3_readRow_12 ?_
  refine vz_Vv2 (ws' := fun u : (Nat → Int32) => vz_w [rdW g h va vi vr vf (ta 0) ph, tkW g ta tr tf, pgW g ph pa pr (vz_uf pf 0 u)]) (As := [.int n1, .int 1, .int (vi 2)]) (rest := []) hx hb hml hown hts hK hA hP hD hS (c_T_set l D g (pa 0) (pa 1) H.size 12 80 (pr 0) 960 (pf 0) n1 1 (vi 2) ⟨rfl, by decide, by decide, by decide, by decide, hw_p 0⟩) kv_X3_60 ⟨Nat.le_of_ble_eq_true rfl, Nat.le_of_ble_eq_true rfl⟩ (q0 := 10) (ci := 6) rfl rfl rfl [10, 11] rfl (by decide) (fun _ => rfl) (fun _ => rfl) hl.1 (Nat.le_of_ble_eq_true rfl) dX3_readRow_15 ⟨Nat.le_refl _, Nat.le_refl _⟩ rfl (fun nf1 H locs _ _ hP hD hS => ?_)
  obtain ⟨pf_2, hP, hD⟩ : ∃ pf_2 : Nat → Nat → Int32, va_P D vwCl (vz_w [rdW g h va vi vr vf (ta 0) ph, tkW g ta tr tf, pgW g ph pa pr pf_2]) H ∧ va_D A (vz_w [rdW g h va vi vr vf (ta 0) ph, tkW g ta tr tf, pgW g ph pa pr pf_2]) := ⟨(vz_uf pf 0 nf1), hP, hD⟩
  refine lv_aload_n hx hb dX3_readRow_18 rfl (lv_at hl 1 rfl) ?_
  refine vz_Vv3 (As := []) (rest := []) hx hb hml hown hts hK hA hP hD hS (a_D_advance l D g H.size h va vi vr vf ta ph tr tf pa pr pf_2 hw_v hw_t hw_p) kv_X3_89 ⟨Nat.le_of_ble_eq_true rfl, Nat.le_of_ble_eq_true rfl⟩ (q0 := 0) (ci := 3) rfl rfl rfl  hl.1 (Nat.le_of_ble_eq_true rfl) dX3_readRow_19 ⟨Nat.le_refl _, Nat.le_refl _⟩ rfl (fun vi_3 H locs _ _ hP hD hS => ?_)
  replace hP : va_P D vwCl (vz_w [rdW g h va vi_3 vr vf (ta 0) ph, tkW g ta tr tf, pgW g ph pa pr pf_2]) H := hP
  replace hD : va_D A (vz_w [rdW g h va vi_3 vr vf (ta 0) ph, tkW g ta tr tf, pgW g ph pa pr pf_2]) := hD
  refine lv_aload_n hx hb dX3_readRow_22 rfl (lv_at hl 1 rfl) ?_
  refine va_get (D := D) (ci := 3) (v := .int (vi_3 1)) (C := RX3) (T := TX3) (N := 12) hx hb hts inlX3 hown hK hP 0 rfl rfl 6 (by decide) (hts _ q443) (fun _ h => h) rfl dX3_readRow_23 ?_
  refine lv_bipush (v := 91) hx hb dX3_readRow_26 (by decide) ?_
  refine lv_icmp_ne (tgt := 80) hx hb dX3_readRow_28 (by decide) (fun kc4 => ?_) (fun kc4 => ?_)
  · refine lv_aload_n hx hb dX3_readRow_80 rfl (lv_at hl 1 rfl) ?_
    refine lv_bipush (v := 61) hx hb dX3_readRow_81 (by decide) ?_
    refine vz_Vv3 (As := [.int 61]) (rest := []) hx hb hml hown hts hK hA hP hD hS (a_D_expect l D g H.size h va vi_3 vr vf ta ph tr tf pa pr pf_2 61 hw_v hw_t hw_p) kv_X3_64 ⟨Nat.le_of_ble_eq_true rfl, Nat.le_of_ble_eq_true rfl⟩ (q0 := 0) (ci := 3) rfl rfl rfl  hl.1 (Nat.le_of_ble_eq_true rfl) dX3_readRow_83 ⟨Nat.le_refl _, Nat.le_refl _⟩ rfl (fun vi_5 H locs hp6 _ hP hD hS => ?_)
    try dsimp only at hp6
    replace hP : va_P D vwCl (vz_w [rdW g h va vi_5 vr vf (ta 0) ph, tkW g ta tr tf, pgW g ph pa pr pf_2]) H := hP
    replace hD : va_D A (vz_w [rdW g h va vi_5 vr vf (ta 0) ph, tkW g ta tr tf, pgW g ph pa pr pf_2]) := hD
    refine lv_aload_n hx hb dX3_readRow_86 rfl (lv_at hl 1 rfl) ?_
    refine va_get (D := D) (ci := 3) (v := .int (vi_5 1)) (C := RX3) (T := TX3) (N := 12) hx hb hts inlX3 hown hK hP 0 rfl rfl 6 (by decide) (hts _ q443) (fun _ h => h) rfl dX3_readRow_87 ?_
    refine lv_sipush (v := 133) hx hb dX3_readRow_90 (by decide) ?_
    refine lv_icmp_ne (tgt := 122) hx hb dX3_readRow_93 (by decide) (fun kc7 => ?_) (fun kc7 => ?_)
    · refine lv_aload_n hx hb dX3_readRow_122 rfl (lv_at hl 1 rfl) ?_
      refine va_get (D := D) (ci := 3) (v := .int (vi_5 1)) (C := RX3) (T := TX3) (N := 12) hx hb hts inlX3 hown hK hP 0 rfl rfl 6 (by decide) (hts _ q443) (fun _ h => h) rfl dX3_readRow_123 ?_
      refine lv_sipush (v := 134) hx hb dX3_readRow_126 (by decide) ?_
      refine lv_icmp_ne (tgt := 146) hx hb dX3_readRow_129 (by decide) (fun kc8 => ?_) (fun kc8 => ?_)
      · refine lv_aload_n hx hb dX3_readRow_146 rfl (lv_at hl 0 rfl) ?_
        refine lv_iload_n hx hb dX3_readRow_147 rfl (lv_at hl 2 rfl) ?_
        refine lv_iconst (v := 0) hx hb dX3_readRow_148 (by decide) ?_
        refine lv_iconst (v := 5) hx hb dX3_readRow_149 (by decide) ?_
        refine vz_Vv2 (ws' := fun u : (Nat → Int32) => vz_w [rdW g h va vi_5 vr vf (ta 0) ph, tkW g ta tr tf, pgW g ph pa pr (vz_uf pf_2 0 u)]) (As := [.int n1, .int 0, .int 5]) (rest := []) hx hb hml hown hts hK hA hP hD hS (c_T_set l D g (pa 0) (pa 1) H.size 12 80 (pr 0) 960 (pf_2 0) n1 0 5 ⟨rfl, by decide, by decide, by decide, by decide, hw_p 0⟩) kv_X3_60 ⟨Nat.le_of_ble_eq_true rfl, Nat.le_of_ble_eq_true rfl⟩ (q0 := 10) (ci := 6) rfl rfl rfl [10, 11] rfl (by decide) (fun _ => rfl) (fun _ => rfl) hl.1 (Nat.le_of_ble_eq_true rfl) dX3_readRow_150 ⟨Nat.le_refl _, Nat.le_refl _⟩ rfl (fun nf9 H locs _ _ hP hD hS => ?_)
        obtain ⟨pf_10, hP, hD⟩ : ∃ pf_10 : Nat → Nat → Int32, va_P D vwCl (vz_w [rdW g h va vi_5 vr vf (ta 0) ph, tkW g ta tr tf, pgW g ph pa pr pf_10]) H ∧ va_D A (vz_w [rdW g h va vi_5 vr vf (ta 0) ph, tkW g ta tr tf, pgW g ph pa pr pf_10]) := ⟨(vz_uf pf_2 0 nf9), hP, hD⟩
        refine lv_aload_n hx hb dX3_readRow_153 rfl (lv_at hl 0 rfl) ?_
        refine lv_iload_n hx hb dX3_readRow_154 rfl (lv_at hl 2 rfl) ?_
        refine lv_iconst (v := 2) hx hb dX3_readRow_155 (by decide) ?_
        refine lv_aload_n hx hb dX3_readRow_156 rfl (lv_at hl 1 rfl) ?_
        refine vz_Vi3 (As := []) (rest := [.int 2, .int n1, .ref (pa 0)]) hx hb hml hown hts hK hA hP hD hS (a_D_readRowName l D g H.size h va vi_5 vr vf ta ph tr tf pa pr pf_10 hw_v hw_t hw_p) kv_X3_187 ⟨Nat.le_of_ble_eq_true rfl, Nat.le_of_ble_eq_true rfl⟩ (q0 := 0) (ci := 3) rfl rfl rfl  hl.1 (Nat.le_of_ble_eq_true rfl) dX3_readRow_157 ⟨Nat.le_refl _, Nat.le_refl _⟩ rfl (fun v12 vi_11 H locs _ _ hP hD hS => ?_)
        replace hP : va_P D vwCl (vz_w [rdW g h va vi_11 vr vf (ta 0) ph, tkW g ta tr tf, pgW g ph pa pr pf_10]) H := hP
        replace hD : va_D A (vz_w [rdW g h va vi_11 vr vf (ta 0) ph, tkW g ta tr tf, pgW g ph pa pr pf_10]) := hD
        refine vz_Vv2 (ws' := fun u : (Nat → Int32) => vz_w [rdW g h va vi_11 vr vf (ta 0) ph, tkW g ta tr tf, pgW g ph pa pr (vz_uf pf_10 0 u)]) (As := [.int n1, .int 2, .int v12]) (rest := []) hx hb hml hown hts hK hA hP hD hS (c_T_set l D g (pa 0) (pa 1) H.size 12 80 (pr 0) 960 (pf_10 0) n1 2 v12 ⟨rfl, by decide, by decide, by decide, by decide, hw_p 0⟩) kv_X3_60 ⟨Nat.le_of_ble_eq_true rfl, Nat.le_of_ble_eq_true rfl⟩ (q0 := 10) (ci := 6) rfl rfl rfl [10, 11] rfl (by decide) (fun _ => rfl) (fun _ => rfl) hl.1 (Nat.le_of_ble_eq_true rfl) dX3_readRow_160 ⟨Nat.le_refl _, Nat.le_refl _⟩ rfl (fun nf13 H locs _ _ hP hD hS => ?_)
        obtain ⟨pf_14, hP, hD⟩ : ∃ pf_14 : Nat → Nat → Int32, va_P D vwCl (vz_w [rdW g h va vi_11 vr vf (ta 0) ph, tkW g ta tr tf, pgW g ph pa pr pf_14]) H ∧ va_D A (vz_w [rdW g h va vi_11 vr vf (ta 0) ph, tkW g ta tr tf, pgW g ph pa pr pf_14]) := ⟨(vz_uf pf_10 0 nf13), hP, hD⟩
        exact J163 vi_11 pr pf_14 hw_p H locs ls hP hD hS (lv_sub hl [1, 2, 0] rfl)
      · refine lv_aload_n hx hb dX3_readRow_132 rfl (lv_at hl 0 rfl) ?_
        refine lv_iload_n hx hb dX3_readRow_133 rfl (lv_at hl 2 rfl) ?_
        refine lv_iconst (v := 0) hx hb dX3_readRow_134 (by decide) ?_
        refine lv_iconst (v := 4) hx hb dX3_readRow_135 (by decide) ?_
        refine vz_Vv2 (ws' := fun u : (Nat → Int32) => vz_w [rdW g h va vi_5 vr vf (ta 0) ph, tkW g ta tr tf, pgW g ph pa pr (vz_uf pf_2 0 u)]) (As := [.int n1, .int 0, .int 4]) (rest := []) hx hb hml hown hts hK hA hP hD hS (c_T_set l D g (pa 0) (pa 1) H.size 12 80 (pr 0) 960 (pf_2 0) n1 0 4 ⟨rfl, by decide, by decide, by decide, by decide, hw_p 0⟩) kv_X3_60 ⟨Nat.le_of_ble_eq_true rfl, Nat.le_of_ble_eq_true rfl⟩ (q0 := 10) (ci := 6) rfl rfl rfl [10, 11] rfl (by decide) (fun _ => rfl) (fun _ => rfl) hl.1 (Nat.le_of_ble_eq_true rfl) dX3_readRow_136 ⟨Nat.le_refl _, Nat.le_refl _⟩ rfl (fun nf15 H locs _ _ hP hD hS => ?_)
        obtain ⟨pf_16, hP, hD⟩ : ∃ pf_16 : Nat → Nat → Int32, va_P D vwCl (vz_w [rdW g h va vi_5 vr vf (ta 0) ph, tkW g ta tr tf, pgW g ph pa pr pf_16]) H ∧ va_D A (vz_w [rdW g h va vi_5 vr vf (ta 0) ph, tkW g ta tr tf, pgW g ph pa pr pf_16]) := ⟨(vz_uf pf_2 0 nf15), hP, hD⟩
        refine lv_aload_n hx hb dX3_readRow_139 rfl (lv_at hl 1 rfl) ?_
        refine vz_Vv3 (As := []) (rest := []) hx hb hml hown hts hK hA hP hD hS (a_D_advance l D g H.size h va vi_5 vr vf ta ph tr tf pa pr pf_16 hw_v hw_t hw_p) kv_X3_89 ⟨Nat.le_of_ble_eq_true rfl, Nat.le_of_ble_eq_true rfl⟩ (q0 := 0) (ci := 3) rfl rfl rfl  hl.1 (Nat.le_of_ble_eq_true rfl) dX3_readRow_140 ⟨Nat.le_refl _, Nat.le_refl _⟩ rfl (fun vi_17 H locs _ _ hP hD hS => ?_)
        replace hP : va_P D vwCl (vz_w [rdW g h va vi_17 vr vf (ta 0) ph, tkW g ta tr tf, pgW g ph pa pr pf_16]) H := hP
        replace hD : va_D A (vz_w [rdW g h va vi_17 vr vf (ta 0) ph, tkW g ta tr tf, pgW g ph pa pr pf_16]) := hD
        refine lv_goto (tgt := 163) hx hb dX3_readRow_143 (by decide) ?_
        exact J163 vi_17 pr pf_16 hw_p H locs ls hP hD hS (lv_sub hl [1, 2, 0] rfl)
    · refine lv_aload_n hx hb dX3_readRow_96 rfl (lv_at hl 0 rfl) ?_
      refine lv_iload_n hx hb dX3_readRow_97 rfl (lv_at hl 2 rfl) ?_
      refine lv_iconst (v := 0) hx hb dX3_readRow_98 (by decide) ?_
      refine lv_iconst (v := 3) hx hb dX3_readRow_99 (by decide) ?_
      refine vz_Vv2 (ws' := fun u : (Nat → Int32) => vz_w [rdW g h va vi_5 vr vf (ta 0) ph, tkW g ta tr tf, pgW g ph pa pr (vz_uf pf_2 0 u)]) (As := [.int n1, .int 0, .int 3]) (rest := []) hx hb hml hown hts hK hA hP hD hS (c_T_set l D g (pa 0) (pa 1) H.size 12 80 (pr 0) 960 (pf_2 0) n1 0 3 ⟨rfl, by decide, by decide, by decide, by decide, hw_p 0⟩) kv_X3_60 ⟨Nat.le_of_ble_eq_true rfl, Nat.le_of_ble_eq_true rfl⟩ (q0 := 10) (ci := 6) rfl rfl rfl [10, 11] rfl (by decide) (fun _ => rfl) (fun _ => rfl) hl.1 (Nat.le_of_ble_eq_true rfl) dX3_readRow_100 ⟨Nat.le_refl _, Nat.le_refl _⟩ rfl (fun nf18 H locs _ _ hP hD hS => ?_)
      obtain ⟨pf_19, hP, hD⟩ : ∃ pf_19 : Nat → Nat → Int32, va_P D vwCl (vz_w [rdW g h va vi_5 vr vf (ta 0) ph, tkW g ta tr tf, pgW g ph pa pr pf_19]) H ∧ va_D A (vz_w [rdW g h va vi_5 vr vf (ta 0) ph, tkW g ta tr tf, pgW g ph pa pr pf_19]) := ⟨(vz_uf pf_2 0 nf18), hP, hD⟩
      refine lv_aload_n hx hb dX3_readRow_103 rfl (lv_at hl 1 rfl) ?_
      refine vz_Vv3 (As := []) (rest := []) hx hb hml hown hts hK hA hP hD hS (a_D_advance l D g H.size h va vi_5 vr vf ta ph tr tf pa pr pf_19 hw_v hw_t hw_p) kv_X3_89 ⟨Nat.le_of_ble_eq_true rfl, Nat.le_of_ble_eq_true rfl⟩ (q0 := 0) (ci := 3) rfl rfl rfl  hl.1 (Nat.le_of_ble_eq_true rfl) dX3_readRow_104 ⟨Nat.le_refl _, Nat.le_refl _⟩ rfl (fun vi_20 H locs _ _ hP hD hS => ?_)
      replace hP : va_P D vwCl (vz_w [rdW g h va vi_20 vr vf (ta 0) ph, tkW g ta tr tf, pgW g ph pa pr pf_19]) H := hP
      replace hD : va_D A (vz_w [rdW g h va vi_20 vr vf (ta 0) ph, tkW g ta tr tf, pgW g ph pa pr pf_19]) := hD
      refine lv_aload_n hx hb dX3_readRow_107 rfl (lv_at hl 0 rfl) ?_
      refine lv_iload_n hx hb dX3_readRow_108 rfl (lv_at hl 2 rfl) ?_
      refine lv_iconst (v := 3) hx hb dX3_readRow_109 (by decide) ?_
      refine lv_aload_n hx hb dX3_readRow_110 rfl (lv_at hl 1 rfl) ?_
      refine lv_iconst (v := 0) hx hb dX3_readRow_111 (by decide) ?_
      refine lv_iconst (v := 1) hx hb dX3_readRow_112 (by decide) ?_
      refine vz_Vi3 (As := [.int 0, .int 1]) (rest := [.int 3, .int n1, .ref (pa 0)]) hx hb hml hown hts hK hA hP hD hS (a_D_list9 l D g 8 0 (by decide) H.size h va vi_20 vr vf ta ph tr tf pa pr pf_19 hw_v hw_t hw_p) kv_X3_164 ⟨Nat.le_of_ble_eq_true rfl, Nat.le_of_ble_eq_true rfl⟩ (q0 := 0) (ci := 3) rfl rfl rfl  hl.1 (Nat.le_of_ble_eq_true rfl) dX3_readRow_113 ⟨Nat.le_refl _, Nat.le_refl _⟩ rfl (fun v25 ⟨vi_21, pr_22, pf_23⟩ H locs hw_24 _ hP hD hS => ?_)
      try dsimp only at hw_24
      replace hP : va_P D vwCl (vz_w [rdW g h va vi_21 vr vf (ta 0) ph, tkW g ta tr tf, pgW g ph pa pr_22 pf_23]) H := hP
      replace hD : va_D A (vz_w [rdW g h va vi_21 vr vf (ta 0) ph, tkW g ta tr tf, pgW g ph pa pr_22 pf_23]) := hD
      refine vz_Vv2 (ws' := fun u : (Nat → Int32) => vz_w [rdW g h va vi_21 vr vf (ta 0) ph, tkW g ta tr tf, pgW g ph pa pr_22 (vz_uf pf_23 0 u)]) (As := [.int n1, .int 3, .int v25]) (rest := []) hx hb hml hown hts hK hA hP hD hS (c_T_set l D g (pa 0) (pa 1) H.size 12 80 (pr_22 0) 960 (pf_23 0) n1 3 v25 ⟨rfl, by decide, by decide, by decide, by decide, hw_24 0⟩) kv_X3_60 ⟨Nat.le_of_ble_eq_true rfl, Nat.le_of_ble_eq_true rfl⟩ (q0 := 10) (ci := 6) rfl rfl rfl [10, 11] rfl (by decide) (fun _ => rfl) (fun _ => rfl) hl.1 (Nat.le_of_ble_eq_true rfl) dX3_readRow_116 ⟨Nat.le_refl _, Nat.le_refl _⟩ rfl (fun nf26 H locs _ _ hP hD hS => ?_)
      obtain ⟨pf_27, hP, hD⟩ : ∃ pf_27 : Nat → Nat → Int32, va_P D vwCl (vz_w [rdW g h va vi_21 vr vf (ta 0) ph, tkW g ta tr tf, pgW g ph pa pr_22 pf_27]) H ∧ va_D A (vz_w [rdW g h va vi_21 vr vf (ta 0) ph, tkW g ta tr tf, pgW g ph pa pr_22 pf_27]) := ⟨(vz_uf pf_23 0 nf26), hP, hD⟩
      refine lv_goto (tgt := 163) hx hb dX3_readRow_119 (by decide) ?_
      exact J163 vi_21 pr_22 pf_27 hw_24 H locs ls hP hD hS (lv_sub hl [1, 2, 0] rfl)
  · refine lv_aload_n hx hb dX3_readRow_31 rfl (lv_at hl 0 rfl) ?_
    refine lv_iload_n hx hb dX3_readRow_32 rfl (lv_at hl 2 rfl) ?_
    refine lv_iconst (v := 0) hx hb dX3_readRow_33 (by decide) ?_
    refine lv_bipush (v := 6) hx hb dX3_readRow_34 (by decide) ?_
    refine vz_Vv2 (ws' := fun u : (Nat → Int32) => vz_w [rdW g h va vi_3 vr vf (ta 0) ph, tkW g ta tr tf, pgW g ph pa pr (vz_uf pf_2 0 u)]) (As := [.int n1, .int 0, .int 6]) (rest := []) hx hb hml hown hts hK hA hP hD hS (c_T_set l D g (pa 0) (pa 1) H.size 12 80 (pr 0) 960 (pf_2 0) n1 0 6 ⟨rfl, by decide, by decide, by decide, by decide, hw_p 0⟩) kv_X3_60 ⟨Nat.le_of_ble_eq_true rfl, Nat.le_of_ble_eq_true rfl⟩ (q0 := 10) (ci := 6) rfl rfl rfl [10, 11] rfl (by decide) (fun _ => rfl) (fun _ => rfl) hl.1 (Nat.le_of_ble_eq_true rfl) dX3_readRow_36 ⟨Nat.le_refl _, Nat.le_refl _⟩ rfl (fun nf28 H locs _ _ hP hD hS => ?_)
    obtain ⟨pf_29, hP, hD⟩ : ∃ pf_29 : Nat → Nat → Int32, va_P D vwCl (vz_w [rdW g h va vi_3 vr vf (ta 0) ph, tkW g ta tr tf, pgW g ph pa pr pf_29]) H ∧ va_D A (vz_w [rdW g h va vi_3 vr vf (ta 0) ph, tkW g ta tr tf, pgW g ph pa pr pf_29]) := ⟨(vz_uf pf_2 0 nf28), hP, hD⟩
    refine lv_aload_n hx hb dX3_readRow_39 rfl (lv_at hl 1 rfl) ?_
    refine vz_Vv3 (As := []) (rest := []) hx hb hml hown hts hK hA hP hD hS (a_D_advance l D g H.size h va vi_3 vr vf ta ph tr tf pa pr pf_29 hw_v hw_t hw_p) kv_X3_89 ⟨Nat.le_of_ble_eq_true rfl, Nat.le_of_ble_eq_true rfl⟩ (q0 := 0) (ci := 3) rfl rfl rfl  hl.1 (Nat.le_of_ble_eq_true rfl) dX3_readRow_40 ⟨Nat.le_refl _, Nat.le_refl _⟩ rfl (fun vi_30 H locs _ _ hP hD hS => ?_)
    replace hP : va_P D vwCl (vz_w [rdW g h va vi_30 vr vf (ta 0) ph, tkW g ta tr tf, pgW g ph pa pr pf_29]) H := hP
    replace hD : va_D A (vz_w [rdW g h va vi_30 vr vf (ta 0) ph, tkW g ta tr tf, pgW g ph pa pr pf_29]) := hD
    refine lv_aload_n hx hb dX3_readRow_43 rfl (lv_at hl 0 rfl) ?_
    refine lv_iload_n hx hb dX3_readRow_44 rfl (lv_at hl 2 rfl) ?_
    refine lv_iconst (v := 3) hx hb dX3_readRow_45 (by decide) ?_
    refine lv_aload_n hx hb dX3_readRow_46 rfl (lv_at hl 1 rfl) ?_
    refine lv_iconst (v := 0) hx hb dX3_readRow_47 (by decide) ?_
    refine lv_iconst (v := 1) hx hb dX3_readRow_48 (by decide) ?_
    refine vz_Vi3 (As := [.int 0, .int 1]) (rest := [.int 3, .int n1, .ref (pa 0)]) hx hb hml hown hts hK hA hP hD hS (a_D_list9 l D g 8 0 (by decide) H.size h va vi_30 vr vf ta ph tr tf pa pr pf_29 hw_v hw_t hw_p) kv_X3_164 ⟨Nat.le_of_ble_eq_true rfl, Nat.le_of_ble_eq_true rfl⟩ (q0 := 0) (ci := 3) rfl rfl rfl  hl.1 (Nat.le_of_ble_eq_true rfl) dX3_readRow_49 ⟨Nat.le_refl _, Nat.le_refl _⟩ rfl (fun v35 ⟨vi_31, pr_32, pf_33⟩ H locs hw_34 _ hP hD hS => ?_)
    try dsimp only at hw_34
    replace hP : va_P D vwCl (vz_w [rdW g h va vi_31 vr vf (ta 0) ph, tkW g ta tr tf, pgW g ph pa pr_32 pf_33]) H := hP
    replace hD : va_D A (vz_w [rdW g h va vi_31 vr vf (ta 0) ph, tkW g ta tr tf, pgW g ph pa pr_32 pf_33]) := hD
    refine vz_Vv2 (ws' := fun u : (Nat → Int32) => vz_w [rdW g h va vi_31 vr vf (ta 0) ph, tkW g ta tr tf, pgW g ph pa pr_32 (vz_uf pf_33 0 u)]) (As := [.int n1, .int 3, .int v35]) (rest := []) hx hb hml hown hts hK hA hP hD hS (c_T_set l D g (pa 0) (pa 1) H.size 12 80 (pr_32 0) 960 (pf_33 0) n1 3 v35 ⟨rfl, by decide, by decide, by decide, by decide, hw_34 0⟩) kv_X3_60 ⟨Nat.le_of_ble_eq_true rfl, Nat.le_of_ble_eq_true rfl⟩ (q0 := 10) (ci := 6) rfl rfl rfl [10, 11] rfl (by decide) (fun _ => rfl) (fun _ => rfl) hl.1 (Nat.le_of_ble_eq_true rfl) dX3_readRow_52 ⟨Nat.le_refl _, Nat.le_refl _⟩ rfl (fun nf36 H locs _ _ hP hD hS => ?_)
    obtain ⟨pf_37, hP, hD⟩ : ∃ pf_37 : Nat → Nat → Int32, va_P D vwCl (vz_w [rdW g h va vi_31 vr vf (ta 0) ph, tkW g ta tr tf, pgW g ph pa pr_32 pf_37]) H ∧ va_D A (vz_w [rdW g h va vi_31 vr vf (ta 0) ph, tkW g ta tr tf, pgW g ph pa pr_32 pf_37]) := ⟨(vz_uf pf_33 0 nf36), hP, hD⟩
    refine lv_aload_n hx hb dX3_readRow_55 rfl (lv_at hl 1 rfl) ?_
    refine lv_bipush (v := 93) hx hb dX3_readRow_56 (by decide) ?_
    refine vz_Vv3 (As := [.int 93]) (rest := []) hx hb hml hown hts hK hA hP hD hS (a_D_expect l D g H.size h va vi_31 vr vf ta ph tr tf pa pr_32 pf_37 93 hw_v hw_t hw_34) kv_X3_64 ⟨Nat.le_of_ble_eq_true rfl, Nat.le_of_ble_eq_true rfl⟩ (q0 := 0) (ci := 3) rfl rfl rfl  hl.1 (Nat.le_of_ble_eq_true rfl) dX3_readRow_58 ⟨Nat.le_refl _, Nat.le_refl _⟩ rfl (fun vi_38 H locs hp39 _ hP hD hS => ?_)
    try dsimp only at hp39
    replace hP : va_P D vwCl (vz_w [rdW g h va vi_38 vr vf (ta 0) ph, tkW g ta tr tf, pgW g ph pa pr_32 pf_37]) H := hP
    replace hD : va_D A (vz_w [rdW g h va vi_38 vr vf (ta 0) ph, tkW g ta tr tf, pgW g ph pa pr_32 pf_37]) := hD
    refine lv_aload_n hx hb dX3_readRow_61 rfl (lv_at hl 1 rfl) ?_
    refine lv_bipush (v := 61) hx hb dX3_readRow_62 (by decide) ?_
    refine vz_Vv3 (As := [.int 61]) (rest := []) hx hb hml hown hts hK hA hP hD hS (a_D_expect l D g H.size h va vi_38 vr vf ta ph tr tf pa pr_32 pf_37 61 hw_v hw_t hw_34) kv_X3_64 ⟨Nat.le_of_ble_eq_true rfl, Nat.le_of_ble_eq_true rfl⟩ (q0 := 0) (ci := 3) rfl rfl rfl  hl.1 (Nat.le_of_ble_eq_true rfl) dX3_readRow_64 ⟨Nat.le_refl _, Nat.le_refl _⟩ rfl (fun vi_40 H locs hp41 _ hP hD hS => ?_)
    try dsimp only at hp41
    replace hP : va_P D vwCl (vz_w [rdW g h va vi_40 vr vf (ta 0) ph, tkW g ta tr tf, pgW g ph pa pr_32 pf_37]) H := hP
    replace hD : va_D A (vz_w [rdW g h va vi_40 vr vf (ta 0) ph, tkW g ta tr tf, pgW g ph pa pr_32 pf_37]) := hD
    refine lv_aload_n hx hb dX3_readRow_67 rfl (lv_at hl 0 rfl) ?_
    refine lv_iload_n hx hb dX3_readRow_68 rfl (lv_at hl 2 rfl) ?_
    refine lv_iconst (v := 4) hx hb dX3_readRow_69 (by decide) ?_
    refine lv_aload_n hx hb dX3_readRow_70 rfl (lv_at hl 1 rfl) ?_
    refine lv_iconst (v := 0) hx hb dX3_readRow_71 (by decide) ?_
    refine lv_iconst (v := 1) hx hb dX3_readRow_72 (by decide) ?_
    refine vz_Vi3 (As := [.int 0, .int 1]) (rest := [.int 4, .int n1, .ref (pa 0)]) hx hb hml hown hts hK hA hP hD hS (a_D_list9 l D g 8 0 (by decide) H.size h va vi_40 vr vf ta ph tr tf pa pr_32 pf_37 hw_v hw_t hw_34) kv_X3_164 ⟨Nat.le_of_ble_eq_true rfl, Nat.le_of_ble_eq_true rfl⟩ (q0 := 0) (ci := 3) rfl rfl rfl  hl.1 (Nat.le_of_ble_eq_true rfl) dX3_readRow_73 ⟨Nat.le_refl _, Nat.le_refl _⟩ rfl (fun v46 ⟨vi_42, pr_43, pf_44⟩ H locs hw_45 _ hP hD hS => ?_)
    try dsimp only at hw_45
    replace hP : va_P D vwCl (vz_w [rdW g h va vi_42 vr vf (ta 0) ph, tkW g ta tr tf, pgW g ph pa pr_43 pf_44]) H := hP
    replace hD : va_D A (vz_w [rdW g h va vi_42 vr vf (ta 0) ph, tkW g ta tr tf, pgW g ph pa pr_43 pf_44]) := hD
    refine vz_Vv2 (ws' := fun u : (Nat → Int32) => vz_w [rdW g h va vi_42 vr vf (ta 0) ph, tkW g ta tr tf, pgW g ph pa pr_43 (vz_uf pf_44 0 u)]) (As := [.int n1, .int 4, .int v46]) (rest := []) hx hb hml hown hts hK hA hP hD hS (c_T_set l D g (pa 0) (pa 1) H.size 12 80 (pr_43 0) 960 (pf_44 0) n1 4 v46 ⟨rfl, by decide, by decide, by decide, by decide, hw_45 0⟩) kv_X3_60 ⟨Nat.le_of_ble_eq_true rfl, Nat.le_of_ble_eq_true rfl⟩ (q0 := 10) (ci := 6) rfl rfl rfl [10, 11] rfl (by decide) (fun _ => rfl) (fun _ => rfl) hl.1 (Nat.le_of_ble_eq_true rfl) dX3_readRow_76 ⟨Nat.le_refl _, Nat.le_refl _⟩ rfl (fun nf47 H locs _ _ hP hD hS => ?_)
    obtain ⟨pf_48, hP, hD⟩ : ∃ pf_48 : Nat → Nat → Int32, va_P D vwCl (vz_w [rdW g h va vi_42 vr vf (ta 0) ph, tkW g ta tr tf, pgW g ph pa pr_43 pf_48]) H ∧ va_D A (vz_w [rdW g h va vi_42 vr vf (ta 0) ph, tkW g ta tr tf, pgW g ph pa pr_43 pf_48]) := ⟨(vz_uf pf_44 0 nf47), hP, hD⟩
    rw [hQ]
    exact vz_vret3 hx hb hr hlk hK hP hD hS (vi_42, pr_43, pf_48) hw_45 rfl (Nat.le_refl 0) (Nat.le_refl 0) dX3_readRow_79
theorem q496 : Cond.methodLink RX3 56 yX3_readStatements ∈ wsL_law := mT_3 (List.mem_of_getElem? (i := 169) rfl) rfl
theorem q497 : Cond.instanceMethod yX3_readStatements ∈ wsL_law := mT_3 (List.mem_of_getElem? (i := 171) rfl) rfl
theorem q498 : Cond.selects RX3 yX3_readStatements yX3_readStatements ∈ wsL_law := mS_1 (q := (yX3_readStatements, 12)) (List.mem_of_getElem? (i := 12) rfl) rfl
theorem q499 : Cond.code yX3_readStatements cX3_readStatements 7 (some .int) ∈ wsL_law := mT_3 (List.mem_of_getElem? (i := 172) rfl) rfl
theorem kv_X3_56 : vz_cv RX3 56 yX3_readStatements cX3_readStatements 7 (some .int) 2 := ⟨q496, q497, q498, q28, q499, by decide +kernel⟩
theorem dX3_readBlock_0 : decode cX3_readBlock 0 = .ok (.aload_n 0, 1) := by decide +kernel
theorem dX3_readBlock_1 : decode cX3_readBlock 1 = .ok (.getfield 41, 3) := by decide +kernel
theorem dX3_readBlock_4 : decode cX3_readBlock 4 = .ok (.bipush 123, 2) := by decide +kernel
theorem dX3_readBlock_6 : decode cX3_readBlock 6 = .ok (.if_icmp .ne 17, 3) := by decide +kernel
theorem dX3_readBlock_9 : decode cX3_readBlock 9 = .ok (.iload_n 2, 1) := by decide +kernel
theorem dX3_readBlock_10 : decode cX3_readBlock 10 = .ok (.bipush 6, 2) := by decide +kernel
theorem dX3_readBlock_12 : decode cX3_readBlock 12 = .ok (.if_icmp .lt 11, 3) := by decide +kernel
theorem dX3_readBlock_15 : decode cX3_readBlock 15 = .ok (.aload_n 0, 1) := by decide +kernel
theorem dX3_readBlock_16 : decode cX3_readBlock 16 = .ok (.iconst 2, 1) := by decide +kernel
theorem dX3_readBlock_17 : decode cX3_readBlock 17 = .ok (.invokevirtual 68, 3) := by decide +kernel
theorem dX3_readBlock_20 : decode cX3_readBlock 20 = .ok (.bipush (-9), 2) := by decide +kernel
theorem dX3_readBlock_22 : decode cX3_readBlock 22 = .ok (.ireturn, 1) := by decide +kernel
theorem dX3_readBlock_23 : decode cX3_readBlock 23 = .ok (.aload_n 0, 1) := by decide +kernel
theorem dX3_readBlock_24 : decode cX3_readBlock 24 = .ok (.bipush 123, 2) := by decide +kernel
theorem dX3_readBlock_26 : decode cX3_readBlock 26 = .ok (.invokevirtual 64, 3) := by decide +kernel
theorem dX3_readBlock_29 : decode cX3_readBlock 29 = .ok (.aload_n 0, 1) := by decide +kernel
theorem dX3_readBlock_30 : decode cX3_readBlock 30 = .ok (.getfield 74, 3) := by decide +kernel
theorem dX3_readBlock_33 : decode cX3_readBlock 33 = .ok (.ifCond .ne 14, 3) := by decide +kernel
theorem dX3_readBlock_36 : decode cX3_readBlock 36 = .ok (.aload_n 0, 1) := by decide +kernel
theorem dX3_readBlock_37 : decode cX3_readBlock 37 = .ok (.iload_n 1, 1) := by decide +kernel
theorem dX3_readBlock_38 : decode cX3_readBlock 38 = .ok (.iload_n 2, 1) := by decide +kernel
theorem dX3_readBlock_39 : decode cX3_readBlock 39 = .ok (.iconst 1, 1) := by decide +kernel
theorem dX3_readBlock_40 : decode cX3_readBlock 40 = .ok (.iadd, 1) := by decide +kernel
theorem dX3_readBlock_41 : decode cX3_readBlock 41 = .ok (.invokevirtual 56, 3) := by decide +kernel
theorem dX3_readBlock_44 : decode cX3_readBlock 44 = .ok (.goto 5, 3) := by decide +kernel
theorem dX3_readBlock_47 : decode cX3_readBlock 47 = .ok (.bipush (-9), 2) := by decide +kernel
theorem dX3_readBlock_49 : decode cX3_readBlock 49 = .ok (.istore_n 3, 1) := by decide +kernel
theorem dX3_readBlock_50 : decode cX3_readBlock 50 = .ok (.aload_n 0, 1) := by decide +kernel
theorem dX3_readBlock_51 : decode cX3_readBlock 51 = .ok (.bipush 125, 2) := by decide +kernel
theorem dX3_readBlock_53 : decode cX3_readBlock 53 = .ok (.invokevirtual 64, 3) := by decide +kernel
theorem dX3_readBlock_56 : decode cX3_readBlock 56 = .ok (.iload_n 3, 1) := by decide +kernel
theorem dX3_readBlock_57 : decode cX3_readBlock 57 = .ok (.ireturn, 1) := by decide +kernel
set_option maxHeartbeats 8000000 in
set_option maxRecDepth 100000 in
theorem a_D_readBlock (l : Launch) (D : va_G) (g : Nat → ClassId) (dn : Nat) (hdn : dn ≤ 6) (hB : dn < 6 → ∀ (sz : Nat) (h : Nat) (va : Nat → Nat) (vi : Nat → Int32) (vr : Nat → Nat) (vf : Nat → Nat → Int32) (ta : Nat → Nat) (ph : Nat) (tr : Nat → Nat) (tf : Nat → Nat → Int32) (pa : Nat → Nat) (pr : Nat → Nat) (pf : Nat → Nat → Int32) (n1 : Int32) (hw_v : ∀ k, vr k ≤ rdW_lim k) (hw_t : ∀ k, tr k ≤ tkW_lim k) (hw_p : ∀ k, pr k ≤ pgW_lim k), vz_Mi l D (tyG g) yX3_readStatements cX3_readStatements 7 (5 * (6 - (dn + 1)) + 60) (130 * (6 - (dn + 1)) + 2000) 0 0 .int [.ref h, .int n1, .int (nI (dn + 1))] sz (vz_w [rdW g h va vi vr vf (ta 0) ph, tkW g ta tr tf, pgW g ph pa pr pf]) (fun r (u : (Nat → Int32) × (Nat → Nat) × (Nat → Nat → Int32) × (Nat → Nat) × (Nat → Nat → Int32)) => (∀ k, u.2.1 k ≤ rdW_lim k) ∧ (∀ k, u.2.2.2.1 k ≤ pgW_lim k)) (fun u => vz_w [rdW g h va u.1 u.2.1 u.2.2.1 (ta 0) ph, tkW g ta tr tf, pgW g ph pa u.2.2.2.1 u.2.2.2.2])) (sz : Nat) (h : Nat) (va : Nat → Nat) (vi : Nat → Int32) (vr : Nat → Nat) (vf : Nat → Nat → Int32) (ta : Nat → Nat) (ph : Nat) (tr : Nat → Nat) (tf : Nat → Nat → Int32) (pa : Nat → Nat) (pr : Nat → Nat) (pf : Nat → Nat → Int32) (n1 : Int32) (hw_v : ∀ k, vr k ≤ rdW_lim k) (hw_t : ∀ k, tr k ≤ tkW_lim k) (hw_p : ∀ k, pr k ≤ pgW_lim k) : vz_Mi l D (tyG g) yX3_readBlock cX3_readBlock 4 (5 * (6 - dn) + 56) (130 * (6 - dn) + 1896) 0 0 .int [.ref h, .int n1, .int (nI dn)] sz (vz_w [rdW g h va vi vr vf (ta 0) ph, tkW g ta tr tf, pgW g ph pa pr pf]) (fun r (u : (Nat → Int32) × (Nat → Nat) × (Nat → Nat → Int32) × (Nat → Nat) × (Nat → Nat → Int32)) => (∀ k, u.2.1 k ≤ rdW_lim k) ∧ (∀ k, u.2.2.2.1 k ≤ pgW_lim k)) (fun u => vz_w [rdW g h va u.1 u.2.1 u.2.2.1 (ta 0) ph, tkW g ta tr tf, pgW g ph pa u.2.2.2.1 u.2.2.2.2]) := by
  refine vz_siQ (by decide) (Nat.le_of_ble_eq_true rfl) (fun p e s m args below meth c hx hb hr hml hts hown hlk hin hK hsz A hA H locs hP hD hS ls hl Q hQ => ?_)
  have hl : lv_has ls 4 [(0, .ref h), (1, .int n1), (2, .int (nI dn))] := hl
  have J49 : ∀ (y0_49 : Int32), ∀ (vi_49 : Nat → Int32), ∀ (vr_49 : Nat → Nat), ∀ (vf_49 : Nat → Nat → Int32), ∀ (pr_49 : Nat → Nat), ∀ (pf_49 : Nat → Nat → Int32), (∀ k, vr_49 k ≤ rdW_lim k) → (∀ k, pr_49 k ≤ pgW_lim k) → ∀ (H : Heap) (locs : List Loc) (ls : Array Slot), va_P D vwCl (vz_w [rdW g h va vi_49 vr_49 vf_49 (ta 0) ph, tkW g ta tr tf, pgW g ph pa pr_49 pf_49]) H → va_D A (vz_w [rdW g h va vi_49 vr_49 vf_49 (ta 0) ph, tkW g ta tr tf, pgW g ph pa pr_49 pf_49]) → va_S A s.heap H locs → lv_has ls 4 [(0, .ref h), (1, .int n1), (2, .int (nI dn))] → W p l e { frames := (5 * (6 - dn) + 56), cells := 0, slots := 0, locals := (130 * (6 - dn) + 1896) } s m args below meth c H locs 0 0 Q (F0 m 49 ls [.int y0_49]) := by
    intro y0_49 vi_49 vr_49 vf_49 pr_49 pf_49 hw_v_49 hw_p_49 H locs ls hP hD hS hl
    refine lv_istore_n (lv' := [(3, .int y0_49), (0, .ref h), (1, .int n1), (2, .int (nI dn))]) hx hb dX3_readBlock_49 rfl hl (by decide) rfl (fun ls hl => ?_)
    refine lv_aload_n hx hb dX3_readBlock_50 rfl (lv_at hl 1 rfl) ?_
    refine lv_bipush (v := 125) hx hb dX3_readBlock_51 (by decide) ?_
    refine vz_Vv3 (As := [.int 125]) (rest := []) hx hb hml hown hts hK hA hP hD hS (a_D_expect l D g H.size h va vi_49 vr_49 vf_49 ta ph tr tf pa pr_49 pf_49 125 hw_v_49 hw_t hw_p_49) kv_X3_64 ⟨by dsimp only; omega, by dsimp only; omega⟩ (q0 := 0) (ci := 3) rfl rfl rfl  hl.1 (Nat.le_of_ble_eq_true rfl) dX3_readBlock_53 ⟨Nat.le_refl _, Nat.le_refl _⟩ rfl (fun vi_1 H locs hp2 _ hP hD hS => ?_)
    try dsimp only at hp2
    replace hP : va_P D vwCl (vz_w [rdW g h va vi_1 vr_49 vf_49 (ta 0) ph, tkW g ta tr tf, pgW g ph pa pr_49 pf_49]) H := hP
    replace hD : va_D A (vz_w [rdW g h va vi_1 vr_49 vf_49 (ta 0) ph, tkW g ta tr tf, pgW g ph pa pr_49 pf_49]) := hD
    refine lv_iload_n hx hb dX3_readBlock_56 rfl (lv_at hl 0 rfl) ?_
    rw [hQ]
    exact vz_iret3 hx hb hr hlk hK hP hD hS (vi_1, vr_49, vf_49, pr_49, pf_49) (⟨hw_v_49, hw_p_49⟩) rfl (Nat.le_refl 0) (Nat.le_refl 0) dX3_readBlock_57
  have J23 : ∀ (vi_23 : Nat → Int32), ∀ (vr_23 : Nat → Nat), ∀ (vf_23 : Nat → Nat → Int32), ∀ (pr_23 : Nat → Nat), ∀ (pf_23 : Nat → Nat → Int32), (∀ k, vr_23 k ≤ rdW_lim k) → (∀ k, pr_23 k ≤ pgW_lim k) → (¬ vi_23 1 = 123 ∨ nI dn < 6) → ∀ (H : Heap) (locs : List Loc) (ls : Array Slot), va_P D vwCl (vz_w [rdW g h va vi_23 vr_23 vf_23 (ta 0) ph, tkW g ta tr tf, pgW g ph pa pr_23 pf_23]) H → va_D A (vz_w [rdW g h va vi_23 vr_23 vf_23 (ta 0) ph, tkW g ta tr tf, pgW g ph pa pr_23 pf_23]) → va_S A s.heap H locs → lv_has ls 4 [(0, .ref h), (1, .int n1), (2, .int (nI dn))] → W p l e { frames := (5 * (6 - dn) + 56), cells := 0, slots := 0, locals := (130 * (6 - dn) + 1896) } s m args below meth c H locs 0 0 Q (F0 m 23 ls []) := by
    intro vi_23 vr_23 vf_23 pr_23 pf_23 hw_v_23 hw_p_23 hj23_0 H locs ls hP hD hS hl
    refine lv_aload_n hx hb dX3_readBlock_23 rfl (lv_at hl 0 rfl) ?_
    refine lv_bipush (v := 123) hx hb dX3_readBlock_24 (by decide) ?_
    refine vz_Vv3 (As := [.int 123]) (rest := []) hx hb hml hown hts hK hA hP hD hS (a_D_expect l D g H.size h va vi_23 vr_23 vf_23 ta ph tr tf pa pr_23 pf_23 123 hw_v_23 hw_t hw_p_23) kv_X3_64 ⟨by dsimp only; omega, by dsimp only; omega⟩ (q0 := 0) (ci := 3) rfl rfl rfl  hl.1 (Nat.le_of_ble_eq_true rfl) dX3_readBlock_26 ⟨Nat.le_refl _, Nat.le_refl _⟩ rfl (fun vi_1 H locs hp2 _ hP hD hS => ?_)
    try dsimp only at hp2
    replace hP : va_P D vwCl (vz_w [rdW g h va vi_1 vr_23 vf_23 (ta 0) ph, tkW g ta tr tf, pgW g ph pa pr_23 pf_23]) H := hP
    replace hD : va_D A (vz_w [rdW g h va vi_1 vr_23 vf_23 (ta 0) ph, tkW g ta tr tf, pgW g ph pa pr_23 pf_23]) := hD
    refine lv_aload_n hx hb dX3_readBlock_29 rfl (lv_at hl 0 rfl) ?_
    refine va_get (D := D) (ci := 3) (v := .int (vi_1 5)) (C := RX3) (T := TX3) (N := 12) hx hb hts inlX3 hown hK hP 0 rfl rfl 10 (by decide) (hts _ q445) (fun _ h => h) rfl dX3_readBlock_30 ?_
    refine lv_if_ne (tgt := 47) hx hb dX3_readBlock_33 (by decide) (fun kc3 => ?_) (fun kc3 => ?_)
    · refine lv_bipush (v := (-9)) hx hb dX3_readBlock_47 (by decide) ?_
      exact J49 (-9) vi_1 vr_23 vf_23 pr_23 pf_23 hw_v_23 hw_p_23 H locs ls hP hD hS (lv_sub hl [0, 1, 2] rfl)
    · refine lv_aload_n hx hb dX3_readBlock_36 rfl (lv_at hl 0 rfl) ?_
      refine lv_iload_n hx hb dX3_readBlock_37 rfl (lv_at hl 1 rfl) ?_
      refine lv_iload_n hx hb dX3_readBlock_38 rfl (lv_at hl 2 rfl) ?_
      refine lv_iconst (v := 1) hx hb dX3_readBlock_39 (by decide) ?_
      refine lv_iadd hx hb dX3_readBlock_40 ?_
      refine lv_topi (nm_r (e' := (nI (dn + 1))) (nI_1 dn) ?_)
      refine vz_Vi3 (As := [.int n1, .int (nI (dn + 1))]) (rest := []) hx hb hml hown hts hK hA hP hD hS (hB (vz_ltc (B := 6) (by decide) (by omega) (hp2.elim (fun h => hj23_0.elim (fun h2 => absurd h h2) (fun h2 => h2)) (fun h => absurd kc3 h))) H.size h va vi_1 vr_23 vf_23 ta ph tr tf pa pr_23 pf_23 n1 hw_v_23 hw_t hw_p_23) kv_X3_56 ⟨by have hq := (vz_ltc (B := 6) (by decide) (by omega) (hp2.elim (fun h => hj23_0.elim (fun h2 => absurd h h2) (fun h2 => h2)) (fun h => absurd kc3 h))); dsimp only; omega, by have hq := (vz_ltc (B := 6) (by decide) (by omega) (hp2.elim (fun h => hj23_0.elim (fun h2 => absurd h h2) (fun h2 => h2)) (fun h => absurd kc3 h))); dsimp only; omega⟩ (q0 := 0) (ci := 3) rfl rfl rfl  hl.1 (Nat.le_of_ble_eq_true rfl) dX3_readBlock_41 ⟨Nat.le_refl _, Nat.le_refl _⟩ rfl (fun v11 ⟨vi_4, vr_5, vf_6, pr_7, pf_8⟩ H locs ⟨hw_9, hw_10⟩ _ hP hD hS => ?_)
      try dsimp only at hw_9 hw_10
      replace hP : va_P D vwCl (vz_w [rdW g h va vi_4 vr_5 vf_6 (ta 0) ph, tkW g ta tr tf, pgW g ph pa pr_7 pf_8]) H := hP
      replace hD : va_D A (vz_w [rdW g h va vi_4 vr_5 vf_6 (ta 0) ph, tkW g ta tr tf, pgW g ph pa pr_7 pf_8]) := hD
      refine lv_goto (tgt := 49) hx hb dX3_readBlock_44 (by decide) ?_
      exact J49 v11 vi_4 vr_5 vf_6 pr_7 pf_8 hw_9 hw_10 H locs ls hP hD hS (lv_sub hl [0, 1, 2] rfl)
  refine lv_aload_n hx hb dX3_readBlock_0 rfl (lv_at hl 0 rfl) ?_
  refine va_get (D := D) (ci := 3) (v := .int (vi 1)) (C := RX3) (T := TX3) (N := 12) hx hb hts inlX3 hown hK hP 0 rfl rfl 6 (by decide) (hts _ q443) (fun _ h => h) rfl dX3_readBlock_1 ?_
  refine lv_bipush (v := 123) hx hb dX3_readBlock_4 (by decide) ?_
  refine lv_icmp_ne (tgt := 23) hx hb dX3_readBlock_6 (by decide) (fun kc1 => ?_) (fun kc1 => ?_)
  · exact J23 vi vr vf pr pf hw_v hw_p (Or.inl kc1) H locs ls hP hD hS (lv_sub hl [0, 1, 2] rfl)
  · refine lv_iload_n hx hb dX3_readBlock_9 rfl (lv_at hl 2 rfl) ?_
    refine lv_bipush (v := 6) hx hb dX3_readBlock_10 (by decide) ?_
    refine lv_icmp_lt (tgt := 23) hx hb dX3_readBlock_12 (by decide) (fun kc2 => ?_) (fun kc2 => ?_)
    · exact J23 vi vr vf pr pf hw_v hw_p (Or.inr kc2) H locs ls hP hD hS (lv_sub hl [0, 1, 2] rfl)
    · refine lv_aload_n hx hb dX3_readBlock_15 rfl (lv_at hl 0 rfl) ?_
      refine lv_iconst (v := 2) hx hb dX3_readBlock_16 (by decide) ?_
      refine vz_Vv3 (As := [.int 2]) (rest := []) hx hb hml hown hts hK hA hP hD hS (a_D_fail l D g H.size h va vi vr vf ta ph tr tf pa pr pf 2 hw_v hw_t hw_p) kv_X3_68 ⟨by dsimp only; omega, by dsimp only; omega⟩ (q0 := 0) (ci := 3) rfl rfl rfl  hl.1 (Nat.le_of_ble_eq_true rfl) dX3_readBlock_17 ⟨Nat.le_refl _, Nat.le_refl _⟩ rfl (fun vi_3 H locs hp4 _ hP hD hS => ?_)
      try dsimp only at hp4
      replace hP : va_P D vwCl (vz_w [rdW g h va vi_3 vr vf (ta 0) ph, tkW g ta tr tf, pgW g ph pa pr pf]) H := hP
      replace hD : va_D A (vz_w [rdW g h va vi_3 vr vf (ta 0) ph, tkW g ta tr tf, pgW g ph pa pr pf]) := hD
      refine lv_bipush (v := (-9)) hx hb dX3_readBlock_20 (by decide) ?_
      rw [hQ]
      exact vz_iret3 hx hb hr hlk hK hP hD hS (vi_3, vr, vf, pr, pf) (⟨hw_v, hw_p⟩) rfl (Nat.le_refl 0) (Nat.le_refl 0) dX3_readBlock_22
theorem q516 : Cond.methodLink RX3 168 yX3_readBlock ∈ wsL_law := mT_3 (List.mem_of_getElem? (i := 215) rfl) rfl
theorem q517 : Cond.instanceMethod yX3_readBlock ∈ wsL_law := mT_3 (List.mem_of_getElem? (i := 217) rfl) rfl
theorem q518 : Cond.selects RX3 yX3_readBlock yX3_readBlock ∈ wsL_law := mS_2 (q := (yX3_readBlock, 12)) (List.mem_of_getElem? (i := 6) rfl) rfl
theorem q504 : Cond.code yX3_readBlock cX3_readBlock 4 (some .int) ∈ wsL_law := mT_3 (List.mem_of_getElem? (i := 218) rfl) rfl
theorem kv_X3_168 : vz_cv RX3 168 yX3_readBlock cX3_readBlock 4 (some .int) 2 := ⟨q516, q517, q518, q28, q504, by decide +kernel⟩
theorem dX3_readIf_0 : decode cX3_readIf 0 = .ok (.aload_n 0, 1) := by decide +kernel
theorem dX3_readIf_1 : decode cX3_readIf 1 = .ok (.getfield 15, 3) := by decide +kernel
theorem dX3_readIf_4 : decode cX3_readIf 4 = .ok (.getfield 117, 3) := by decide +kernel
theorem dX3_readIf_7 : decode cX3_readIf 7 = .ok (.iload_n 1, 1) := by decide +kernel
theorem dX3_readIf_8 : decode cX3_readIf 8 = .ok (.iconst 0, 1) := by decide +kernel
theorem dX3_readIf_9 : decode cX3_readIf 9 = .ok (.bipush 8, 2) := by decide +kernel
theorem dX3_readIf_11 : decode cX3_readIf 11 = .ok (.invokevirtual 60, 3) := by decide +kernel
theorem dX3_readIf_14 : decode cX3_readIf 14 = .ok (.aload_n 0, 1) := by decide +kernel
theorem dX3_readIf_15 : decode cX3_readIf 15 = .ok (.invokevirtual 89, 3) := by decide +kernel
theorem dX3_readIf_18 : decode cX3_readIf 18 = .ok (.aload_n 0, 1) := by decide +kernel
theorem dX3_readIf_19 : decode cX3_readIf 19 = .ok (.getfield 15, 3) := by decide +kernel
theorem dX3_readIf_22 : decode cX3_readIf 22 = .ok (.getfield 117, 3) := by decide +kernel
theorem dX3_readIf_25 : decode cX3_readIf 25 = .ok (.iload_n 1, 1) := by decide +kernel
theorem dX3_readIf_26 : decode cX3_readIf 26 = .ok (.iconst 3, 1) := by decide +kernel
theorem dX3_readIf_27 : decode cX3_readIf 27 = .ok (.aload_n 0, 1) := by decide +kernel
theorem dX3_readIf_28 : decode cX3_readIf 28 = .ok (.iconst 0, 1) := by decide +kernel
theorem dX3_readIf_29 : decode cX3_readIf 29 = .ok (.iconst 1, 1) := by decide +kernel
theorem dX3_readIf_30 : decode cX3_readIf 30 = .ok (.invokevirtual 164, 3) := by decide +kernel
theorem dX3_readIf_33 : decode cX3_readIf 33 = .ok (.invokevirtual 60, 3) := by decide +kernel
theorem dX3_readIf_36 : decode cX3_readIf 36 = .ok (.aload_n 0, 1) := by decide +kernel
theorem dX3_readIf_37 : decode cX3_readIf 37 = .ok (.getfield 15, 3) := by decide +kernel
theorem dX3_readIf_40 : decode cX3_readIf 40 = .ok (.getfield 117, 3) := by decide +kernel
theorem dX3_readIf_43 : decode cX3_readIf 43 = .ok (.iload_n 1, 1) := by decide +kernel
theorem dX3_readIf_44 : decode cX3_readIf 44 = .ok (.iconst 1, 1) := by decide +kernel
theorem dX3_readIf_45 : decode cX3_readIf 45 = .ok (.aload_n 0, 1) := by decide +kernel
theorem dX3_readIf_46 : decode cX3_readIf 46 = .ok (.getfield 41, 3) := by decide +kernel
theorem dX3_readIf_49 : decode cX3_readIf 49 = .ok (.invokevirtual 60, 3) := by decide +kernel
theorem dX3_readIf_52 : decode cX3_readIf 52 = .ok (.aload_n 0, 1) := by decide +kernel
theorem dX3_readIf_53 : decode cX3_readIf 53 = .ok (.getfield 41, 3) := by decide +kernel
theorem dX3_readIf_56 : decode cX3_readIf 56 = .ok (.bipush 61, 2) := by decide +kernel
theorem dX3_readIf_58 : decode cX3_readIf 58 = .ok (.if_icmp .eq 21, 3) := by decide +kernel
theorem dX3_readIf_61 : decode cX3_readIf 61 = .ok (.aload_n 0, 1) := by decide +kernel
theorem dX3_readIf_62 : decode cX3_readIf 62 = .ok (.getfield 41, 3) := by decide +kernel
theorem dX3_readIf_65 : decode cX3_readIf 65 = .ok (.bipush 60, 2) := by decide +kernel
theorem dX3_readIf_67 : decode cX3_readIf 67 = .ok (.if_icmp .eq 12, 3) := by decide +kernel
theorem dX3_readIf_70 : decode cX3_readIf 70 = .ok (.aload_n 0, 1) := by decide +kernel
theorem dX3_readIf_71 : decode cX3_readIf 71 = .ok (.getfield 41, 3) := by decide +kernel
theorem dX3_readIf_74 : decode cX3_readIf 74 = .ok (.bipush 62, 2) := by decide +kernel
theorem dX3_readIf_76 : decode cX3_readIf 76 = .ok (.if_icmp .ne 10, 3) := by decide +kernel
theorem dX3_readIf_79 : decode cX3_readIf 79 = .ok (.aload_n 0, 1) := by decide +kernel
theorem dX3_readIf_80 : decode cX3_readIf 80 = .ok (.invokevirtual 89, 3) := by decide +kernel
theorem dX3_readIf_83 : decode cX3_readIf 83 = .ok (.goto 8, 3) := by decide +kernel
theorem dX3_readIf_86 : decode cX3_readIf 86 = .ok (.aload_n 0, 1) := by decide +kernel
theorem dX3_readIf_87 : decode cX3_readIf 87 = .ok (.iconst 1, 1) := by decide +kernel
theorem dX3_readIf_88 : decode cX3_readIf 88 = .ok (.invokevirtual 68, 3) := by decide +kernel
theorem dX3_readIf_91 : decode cX3_readIf 91 = .ok (.aload_n 0, 1) := by decide +kernel
theorem dX3_readIf_92 : decode cX3_readIf 92 = .ok (.getfield 15, 3) := by decide +kernel
theorem dX3_readIf_95 : decode cX3_readIf 95 = .ok (.getfield 117, 3) := by decide +kernel
theorem dX3_readIf_98 : decode cX3_readIf 98 = .ok (.iload_n 1, 1) := by decide +kernel
theorem dX3_readIf_99 : decode cX3_readIf 99 = .ok (.iconst 4, 1) := by decide +kernel
theorem dX3_readIf_100 : decode cX3_readIf 100 = .ok (.aload_n 0, 1) := by decide +kernel
theorem dX3_readIf_101 : decode cX3_readIf 101 = .ok (.iconst 0, 1) := by decide +kernel
theorem dX3_readIf_102 : decode cX3_readIf 102 = .ok (.iconst 1, 1) := by decide +kernel
theorem dX3_readIf_103 : decode cX3_readIf 103 = .ok (.invokevirtual 164, 3) := by decide +kernel
theorem dX3_readIf_106 : decode cX3_readIf 106 = .ok (.invokevirtual 60, 3) := by decide +kernel
theorem dX3_readIf_109 : decode cX3_readIf 109 = .ok (.aload_n 0, 1) := by decide +kernel
theorem dX3_readIf_110 : decode cX3_readIf 110 = .ok (.getfield 15, 3) := by decide +kernel
theorem dX3_readIf_113 : decode cX3_readIf 113 = .ok (.getfield 117, 3) := by decide +kernel
theorem dX3_readIf_116 : decode cX3_readIf 116 = .ok (.iload_n 1, 1) := by decide +kernel
theorem dX3_readIf_117 : decode cX3_readIf 117 = .ok (.iconst 5, 1) := by decide +kernel
theorem dX3_readIf_118 : decode cX3_readIf 118 = .ok (.aload_n 0, 1) := by decide +kernel
theorem dX3_readIf_119 : decode cX3_readIf 119 = .ok (.iload_n 1, 1) := by decide +kernel
theorem dX3_readIf_120 : decode cX3_readIf 120 = .ok (.iload_n 2, 1) := by decide +kernel
theorem dX3_readIf_121 : decode cX3_readIf 121 = .ok (.invokevirtual 168, 3) := by decide +kernel
theorem dX3_readIf_124 : decode cX3_readIf 124 = .ok (.invokevirtual 60, 3) := by decide +kernel
theorem dX3_readIf_127 : decode cX3_readIf 127 = .ok (.aload_n 0, 1) := by decide +kernel
theorem dX3_readIf_128 : decode cX3_readIf 128 = .ok (.getfield 41, 3) := by decide +kernel
theorem dX3_readIf_131 : decode cX3_readIf 131 = .ok (.sipush 137, 3) := by decide +kernel
theorem dX3_readIf_134 : decode cX3_readIf 134 = .ok (.if_icmp .ne 26, 3) := by decide +kernel
theorem dX3_readIf_137 : decode cX3_readIf 137 = .ok (.aload_n 0, 1) := by decide +kernel
theorem dX3_readIf_138 : decode cX3_readIf 138 = .ok (.invokevirtual 89, 3) := by decide +kernel
theorem dX3_readIf_141 : decode cX3_readIf 141 = .ok (.aload_n 0, 1) := by decide +kernel
theorem dX3_readIf_142 : decode cX3_readIf 142 = .ok (.getfield 15, 3) := by decide +kernel
theorem dX3_readIf_145 : decode cX3_readIf 145 = .ok (.getfield 117, 3) := by decide +kernel
theorem dX3_readIf_148 : decode cX3_readIf 148 = .ok (.iload_n 1, 1) := by decide +kernel
theorem dX3_readIf_149 : decode cX3_readIf 149 = .ok (.bipush 6, 2) := by decide +kernel
theorem dX3_readIf_151 : decode cX3_readIf 151 = .ok (.aload_n 0, 1) := by decide +kernel
theorem dX3_readIf_152 : decode cX3_readIf 152 = .ok (.iload_n 1, 1) := by decide +kernel
theorem dX3_readIf_153 : decode cX3_readIf 153 = .ok (.iload_n 2, 1) := by decide +kernel
theorem dX3_readIf_154 : decode cX3_readIf 154 = .ok (.invokevirtual 168, 3) := by decide +kernel
theorem dX3_readIf_157 : decode cX3_readIf 157 = .ok (.invokevirtual 60, 3) := by decide +kernel
theorem dX3_readIf_160 : decode cX3_readIf 160 = .ok (.return_, 1) := by decide +kernel
set_option maxHeartbeats 8000000 in
set_option maxRecDepth 100000 in
theorem a_D_readIf (l : Launch) (D : va_G) (g : Nat → ClassId) (dn : Nat) (hdn : dn ≤ 6) (hB : dn < 6 → ∀ (sz : Nat) (h : Nat) (va : Nat → Nat) (vi : Nat → Int32) (vr : Nat → Nat) (vf : Nat → Nat → Int32) (ta : Nat → Nat) (ph : Nat) (tr : Nat → Nat) (tf : Nat → Nat → Int32) (pa : Nat → Nat) (pr : Nat → Nat) (pf : Nat → Nat → Int32) (n1 : Int32) (hw_v : ∀ k, vr k ≤ rdW_lim k) (hw_t : ∀ k, tr k ≤ tkW_lim k) (hw_p : ∀ k, pr k ≤ pgW_lim k), vz_Mi l D (tyG g) yX3_readStatements cX3_readStatements 7 (5 * (6 - (dn + 1)) + 60) (130 * (6 - (dn + 1)) + 2000) 0 0 .int [.ref h, .int n1, .int (nI (dn + 1))] sz (vz_w [rdW g h va vi vr vf (ta 0) ph, tkW g ta tr tf, pgW g ph pa pr pf]) (fun r (u : (Nat → Int32) × (Nat → Nat) × (Nat → Nat → Int32) × (Nat → Nat) × (Nat → Nat → Int32)) => (∀ k, u.2.1 k ≤ rdW_lim k) ∧ (∀ k, u.2.2.2.1 k ≤ pgW_lim k)) (fun u => vz_w [rdW g h va u.1 u.2.1 u.2.2.1 (ta 0) ph, tkW g ta tr tf, pgW g ph pa u.2.2.2.1 u.2.2.2.2])) (sz : Nat) (h : Nat) (va : Nat → Nat) (vi : Nat → Int32) (vr : Nat → Nat) (vf : Nat → Nat → Int32) (ta : Nat → Nat) (ph : Nat) (tr : Nat → Nat) (tf : Nat → Nat → Int32) (pa : Nat → Nat) (pr : Nat → Nat) (pf : Nat → Nat → Int32) (n1 : Int32) (hw_v : ∀ k, vr k ≤ rdW_lim k) (hw_t : ∀ k, tr k ≤ tkW_lim k) (hw_p : ∀ k, pr k ≤ pgW_lim k) : vz_Mv l D (tyG g) yX3_readIf cX3_readIf 3 (5 * (6 - dn) + 57) (130 * (6 - dn) + 1919) 0 0 [.ref h, .int n1, .int (nI dn)] sz (vz_w [rdW g h va vi vr vf (ta 0) ph, tkW g ta tr tf, pgW g ph pa pr pf]) (fun u : (Nat → Int32) × (Nat → Nat) × (Nat → Nat → Int32) × (Nat → Nat) × (Nat → Nat → Int32) => (∀ k, u.2.1 k ≤ rdW_lim k) ∧ (∀ k, u.2.2.2.1 k ≤ pgW_lim k)) (fun u => vz_w [rdW g h va u.1 u.2.1 u.2.2.1 (ta 0) ph, tkW g ta tr tf, pgW g ph pa u.2.2.2.1 u.2.2.2.2]) := by
  refine vz_svQ (by decide) (Nat.le_of_ble_eq_true rfl) (fun p e s m args below meth c hx hb hr hml hts hown hlk hin hK hsz A hA H locs hP hD hS ls hl Q hQ => ?_)
  have hl : lv_has ls 3 [(0, .ref h), (1, .int n1), (2, .int (nI dn))] := hl
  have J160 : ∀ (vi_160 : Nat → Int32), ∀ (vr_160 : Nat → Nat), ∀ (vf_160 : Nat → Nat → Int32), ∀ (pr_160 : Nat → Nat), ∀ (pf_160 : Nat → Nat → Int32), (∀ k, vr_160 k ≤ rdW_lim k) → (∀ k, pr_160 k ≤ pgW_lim k) → ∀ (H : Heap) (locs : List Loc) (ls : Array Slot), va_P D vwCl (vz_w [rdW g h va vi_160 vr_160 vf_160 (ta 0) ph, tkW g ta tr tf, pgW g ph pa pr_160 pf_160]) H → va_D A (vz_w [rdW g h va vi_160 vr_160 vf_160 (ta 0) ph, tkW g ta tr tf, pgW g ph pa pr_160 pf_160]) → va_S A s.heap H locs → lv_has ls 3 [(0, .ref h), (1, .int n1), (2, .int (nI dn))] → W p l e { frames := (5 * (6 - dn) + 57), cells := 0, slots := 0, locals := (130 * (6 - dn) + 1919) } s m args below meth c H locs 0 0 Q (F0 m 160 ls []) := by
    intro vi_160 vr_160 vf_160 pr_160 pf_160 hw_v_160 hw_p_160 H locs ls hP hD hS hl
    rw [hQ]
    exact vz_vret3 hx hb hr hlk hK hP hD hS (vi_160, vr_160, vf_160, pr_160, pf_160) (⟨hw_v_160, hw_p_160⟩) rfl (Nat.le_refl 0) (Nat.le_refl 0) dX3_readIf_160
  have J91 : ∀ (vi_91 : Nat → Int32), ∀ (vr_91 : Nat → Nat), ∀ (vf_91 : Nat → Nat → Int32), ∀ (pr_91 : Nat → Nat), ∀ (pf_91 : Nat → Nat → Int32), (∀ k, vr_91 k ≤ rdW_lim k) → (∀ k, pr_91 k ≤ pgW_lim k) → ∀ (H : Heap) (locs : List Loc) (ls : Array Slot), va_P D vwCl (vz_w [rdW g h va vi_91 vr_91 vf_91 (ta 0) ph, tkW g ta tr tf, pgW g ph pa pr_91 pf_91]) H → va_D A (vz_w [rdW g h va vi_91 vr_91 vf_91 (ta 0) ph, tkW g ta tr tf, pgW g ph pa pr_91 pf_91]) → va_S A s.heap H locs → lv_has ls 3 [(0, .ref h), (1, .int n1), (2, .int (nI dn))] → W p l e { frames := (5 * (6 - dn) + 57), cells := 0, slots := 0, locals := (130 * (6 - dn) + 1919) } s m args below meth c H locs 0 0 Q (F0 m 91 ls []) := by
    intro vi_91 vr_91 vf_91 pr_91 pf_91 hw_v_91 hw_p_91 H locs ls hP hD hS hl
    refine lv_aload_n hx hb dX3_readIf_91 rfl (lv_at hl 0 rfl) ?_
    refine va_get (D := D) (ci := 3) (v := .ref ph) (C := RX3) (T := TX3) (N := 12) hx hb hts inlX3 hown hK hP 0 rfl rfl 4 (by decide) (hts _ q97) (fun _ h => h) rfl dX3_readIf_92 ?_
    refine va_get (D := D) (ci := 2) (v := .ref (pa 0)) (C := RX2) (T := TX2) (N := 5) hx hb hts inlX2 hown hK hP 9 rfl rfl 0 (by decide) (hts _ q500) (fun _ h => h) rfl dX3_readIf_95 ?_
    refine lv_iload_n hx hb dX3_readIf_98 rfl (lv_at hl 1 rfl) ?_
    refine lv_iconst (v := 4) hx hb dX3_readIf_99 (by decide) ?_
    refine lv_aload_n hx hb dX3_readIf_100 rfl (lv_at hl 0 rfl) ?_
    refine lv_iconst (v := 0) hx hb dX3_readIf_101 (by decide) ?_
    refine lv_iconst (v := 1) hx hb dX3_readIf_102 (by decide) ?_
    refine vz_Vi3 (As := [.int 0, .int 1]) (rest := [.int 4, .int n1, .ref (pa 0)]) hx hb hml hown hts hK hA hP hD hS (a_D_list9 l D g 8 0 (by decide) H.size h va vi_91 vr_91 vf_91 ta ph tr tf pa pr_91 pf_91 hw_v_91 hw_t hw_p_91) kv_X3_164 ⟨by dsimp only; omega, by dsimp only; omega⟩ (q0 := 0) (ci := 3) rfl rfl rfl  hl.1 (Nat.le_of_ble_eq_true rfl) dX3_readIf_103 ⟨Nat.le_refl _, Nat.le_refl _⟩ rfl (fun v5 ⟨vi_1, pr_2, pf_3⟩ H locs hw_4 _ hP hD hS => ?_)
    try dsimp only at hw_4
    replace hP : va_P D vwCl (vz_w [rdW g h va vi_1 vr_91 vf_91 (ta 0) ph, tkW g ta tr tf, pgW g ph pa pr_2 pf_3]) H := hP
    replace hD : va_D A (vz_w [rdW g h va vi_1 vr_91 vf_91 (ta 0) ph, tkW g ta tr tf, pgW g ph pa pr_2 pf_3]) := hD
    refine vz_Vv2 (ws' := fun u : (Nat → Int32) => vz_w [rdW g h va vi_1 vr_91 vf_91 (ta 0) ph, tkW g ta tr tf, pgW g ph pa pr_2 (vz_uf pf_3 0 u)]) (As := [.int n1, .int 4, .int v5]) (rest := []) hx hb hml hown hts hK hA hP hD hS (c_T_set l D g (pa 0) (pa 1) H.size 12 80 (pr_2 0) 960 (pf_3 0) n1 4 v5 ⟨rfl, by decide, by decide, by decide, by decide, hw_4 0⟩) kv_X3_60 ⟨by dsimp only; omega, by dsimp only; omega⟩ (q0 := 10) (ci := 6) rfl rfl rfl [10, 11] rfl (by decide) (fun _ => rfl) (fun _ => rfl) hl.1 (Nat.le_of_ble_eq_true rfl) dX3_readIf_106 ⟨Nat.le_refl _, Nat.le_refl _⟩ rfl (fun nf6 H locs _ _ hP hD hS => ?_)
    obtain ⟨pf_7, hP, hD⟩ : ∃ pf_7 : Nat → Nat → Int32, va_P D vwCl (vz_w [rdW g h va vi_1 vr_91 vf_91 (ta 0) ph, tkW g ta tr tf, pgW g ph pa pr_2 pf_7]) H ∧ va_D A (vz_w [rdW g h va vi_1 vr_91 vf_91 (ta 0) ph, tkW g ta tr tf, pgW g ph pa pr_2 pf_7]) := ⟨(vz_uf pf_3 0 nf6), hP, hD⟩
    refine lv_aload_n hx hb dX3_readIf_109 rfl (lv_at hl 0 rfl) ?_
    refine va_get (D := D) (ci := 3) (v := .ref ph) (C := RX3) (T := TX3) (N := 12) hx hb hts inlX3 hown hK hP 0 rfl rfl 4 (by decide) (hts _ q97) (fun _ h => h) rfl dX3_readIf_110 ?_
    refine va_get (D := D) (ci := 2) (v := .ref (pa 0)) (C := RX2) (T := TX2) (N := 5) hx hb hts inlX2 hown hK hP 9 rfl rfl 0 (by decide) (hts _ q500) (fun _ h => h) rfl dX3_readIf_113 ?_
    refine lv_iload_n hx hb dX3_readIf_116 rfl (lv_at hl 1 rfl) ?_
    refine lv_iconst (v := 5) hx hb dX3_readIf_117 (by decide) ?_
    refine lv_aload_n hx hb dX3_readIf_118 rfl (lv_at hl 0 rfl) ?_
    refine lv_iload_n hx hb dX3_readIf_119 rfl (lv_at hl 1 rfl) ?_
    refine lv_iload_n hx hb dX3_readIf_120 rfl (lv_at hl 2 rfl) ?_
    refine vz_Vi3 (As := [.int n1, .int (nI dn)]) (rest := [.int 5, .int n1, .ref (pa 0)]) hx hb hml hown hts hK hA hP hD hS (a_D_readBlock l D g dn hdn hB H.size h va vi_1 vr_91 vf_91 ta ph tr tf pa pr_2 pf_7 n1 hw_v_91 hw_t hw_4) kv_X3_168 ⟨by dsimp only; omega, by dsimp only; omega⟩ (q0 := 0) (ci := 3) rfl rfl rfl  hl.1 (Nat.le_of_ble_eq_true rfl) dX3_readIf_121 ⟨Nat.le_refl _, Nat.le_refl _⟩ rfl (fun v15 ⟨vi_8, vr_9, vf_10, pr_11, pf_12⟩ H locs ⟨hw_13, hw_14⟩ _ hP hD hS => ?_)
    try dsimp only at hw_13 hw_14
    replace hP : va_P D vwCl (vz_w [rdW g h va vi_8 vr_9 vf_10 (ta 0) ph, tkW g ta tr tf, pgW g ph pa pr_11 pf_12]) H := hP
    replace hD : va_D A (vz_w [rdW g h va vi_8 vr_9 vf_10 (ta 0) ph, tkW g ta tr tf, pgW g ph pa pr_11 pf_12]) := hD
    refine vz_Vv2 (ws' := fun u : (Nat → Int32) => vz_w [rdW g h va vi_8 vr_9 vf_10 (ta 0) ph, tkW g ta tr tf, pgW g ph pa pr_11 (vz_uf pf_12 0 u)]) (As := [.int n1, .int 5, .int v15]) (rest := []) hx hb hml hown hts hK hA hP hD hS (c_T_set l D g (pa 0) (pa 1) H.size 12 80 (pr_11 0) 960 (pf_12 0) n1 5 v15 ⟨rfl, by decide, by decide, by decide, by decide, hw_14 0⟩) kv_X3_60 ⟨by dsimp only; omega, by dsimp only; omega⟩ (q0 := 10) (ci := 6) rfl rfl rfl [10, 11] rfl (by decide) (fun _ => rfl) (fun _ => rfl) hl.1 (Nat.le_of_ble_eq_true rfl) dX3_readIf_124 ⟨Nat.le_refl _, Nat.le_refl _⟩ rfl (fun nf16 H locs _ _ hP hD hS => ?_)
    obtain ⟨pf_17, hP, hD⟩ : ∃ pf_17 : Nat → Nat → Int32, va_P D vwCl (vz_w [rdW g h va vi_8 vr_9 vf_10 (ta 0) ph, tkW g ta tr tf, pgW g ph pa pr_11 pf_17]) H ∧ va_D A (vz_w [rdW g h va vi_8 vr_9 vf_10 (ta 0) ph, tkW g ta tr tf, pgW g ph pa pr_11 pf_17]) := ⟨(vz_uf pf_12 0 nf16), hP, hD⟩
    refine lv_aload_n hx hb dX3_readIf_127 rfl (lv_at hl 0 rfl) ?_
    refine va_get (D := D) (ci := 3) (v := .int (vi_8 1)) (C := RX3) (T := TX3) (N := 12) hx hb hts inlX3 hown hK hP 0 rfl rfl 6 (by decide) (hts _ q443) (fun _ h => h) rfl dX3_readIf_128 ?_
    refine lv_sipush (v := 137) hx hb dX3_readIf_131 (by decide) ?_
    refine lv_icmp_ne (tgt := 160) hx hb dX3_readIf_134 (by decide) (fun kc18 => ?_) (fun kc18 => ?_)
    · exact J160 vi_8 vr_9 vf_10 pr_11 pf_17 hw_13 hw_14 H locs ls hP hD hS (lv_sub hl [0, 1, 2] rfl)
    · refine lv_aload_n hx hb dX3_readIf_137 rfl (lv_at hl 0 rfl) ?_
      refine vz_Vv3 (As := []) (rest := []) hx hb hml hown hts hK hA hP hD hS (a_D_advance l D g H.size h va vi_8 vr_9 vf_10 ta ph tr tf pa pr_11 pf_17 hw_13 hw_t hw_14) kv_X3_89 ⟨by dsimp only; omega, by dsimp only; omega⟩ (q0 := 0) (ci := 3) rfl rfl rfl  hl.1 (Nat.le_of_ble_eq_true rfl) dX3_readIf_138 ⟨Nat.le_refl _, Nat.le_refl _⟩ rfl (fun vi_19 H locs _ _ hP hD hS => ?_)
      replace hP : va_P D vwCl (vz_w [rdW g h va vi_19 vr_9 vf_10 (ta 0) ph, tkW g ta tr tf, pgW g ph pa pr_11 pf_17]) H := hP
      replace hD : va_D A (vz_w [rdW g h va vi_19 vr_9 vf_10 (ta 0) ph, tkW g ta tr tf, pgW g ph pa pr_11 pf_17]) := hD
      refine lv_aload_n hx hb dX3_readIf_141 rfl (lv_at hl 0 rfl) ?_
      refine va_get (D := D) (ci := 3) (v := .ref ph) (C := RX3) (T := TX3) (N := 12) hx hb hts inlX3 hown hK hP 0 rfl rfl 4 (by decide) (hts _ q97) (fun _ h => h) rfl dX3_readIf_142 ?_
      refine va_get (D := D) (ci := 2) (v := .ref (pa 0)) (C := RX2) (T := TX2) (N := 5) hx hb hts inlX2 hown hK hP 9 rfl rfl 0 (by decide) (hts _ q500) (fun _ h => h) rfl dX3_readIf_145 ?_
      refine lv_iload_n hx hb dX3_readIf_148 rfl (lv_at hl 1 rfl) ?_
      refine lv_bipush (v := 6) hx hb dX3_readIf_149 (by decide) ?_
      refine lv_aload_n hx hb dX3_readIf_151 rfl (lv_at hl 0 rfl) ?_
      refine lv_iload_n hx hb dX3_readIf_152 rfl (lv_at hl 1 rfl) ?_
      refine lv_iload_n hx hb dX3_readIf_153 rfl (lv_at hl 2 rfl) ?_
      refine vz_Vi3 (As := [.int n1, .int (nI dn)]) (rest := [.int 6, .int n1, .ref (pa 0)]) hx hb hml hown hts hK hA hP hD hS (a_D_readBlock l D g dn hdn hB H.size h va vi_19 vr_9 vf_10 ta ph tr tf pa pr_11 pf_17 n1 hw_13 hw_t hw_14) kv_X3_168 ⟨by dsimp only; omega, by dsimp only; omega⟩ (q0 := 0) (ci := 3) rfl rfl rfl  hl.1 (Nat.le_of_ble_eq_true rfl) dX3_readIf_154 ⟨Nat.le_refl _, Nat.le_refl _⟩ rfl (fun v27 ⟨vi_20, vr_21, vf_22, pr_23, pf_24⟩ H locs ⟨hw_25, hw_26⟩ _ hP hD hS => ?_)
      try dsimp only at hw_25 hw_26
      replace hP : va_P D vwCl (vz_w [rdW g h va vi_20 vr_21 vf_22 (ta 0) ph, tkW g ta tr tf, pgW g ph pa pr_23 pf_24]) H := hP
      replace hD : va_D A (vz_w [rdW g h va vi_20 vr_21 vf_22 (ta 0) ph, tkW g ta tr tf, pgW g ph pa pr_23 pf_24]) := hD
      refine vz_Vv2 (ws' := fun u : (Nat → Int32) => vz_w [rdW g h va vi_20 vr_21 vf_22 (ta 0) ph, tkW g ta tr tf, pgW g ph pa pr_23 (vz_uf pf_24 0 u)]) (As := [.int n1, .int 6, .int v27]) (rest := []) hx hb hml hown hts hK hA hP hD hS (c_T_set l D g (pa 0) (pa 1) H.size 12 80 (pr_23 0) 960 (pf_24 0) n1 6 v27 ⟨rfl, by decide, by decide, by decide, by decide, hw_26 0⟩) kv_X3_60 ⟨by dsimp only; omega, by dsimp only; omega⟩ (q0 := 10) (ci := 6) rfl rfl rfl [10, 11] rfl (by decide) (fun _ => rfl) (fun _ => rfl) hl.1 (Nat.le_of_ble_eq_true rfl) dX3_readIf_157 ⟨Nat.le_refl _, Nat.le_refl _⟩ rfl (fun nf28 H locs _ _ hP hD hS => ?_)
      obtain ⟨pf_29, hP, hD⟩ : ∃ pf_29 : Nat → Nat → Int32, va_P D vwCl (vz_w [rdW g h va vi_20 vr_21 vf_22 (ta 0) ph, tkW g ta tr tf, pgW g ph pa pr_23 pf_29]) H ∧ va_D A (vz_w [rdW g h va vi_20 vr_21 vf_22 (ta 0) ph, tkW g ta tr tf, pgW g ph pa pr_23 pf_29]) := ⟨(vz_uf pf_24 0 nf28), hP, hD⟩
      exact J160 vi_20 vr_21 vf_22 pr_23 pf_29 hw_25 hw_26 H locs ls hP hD hS (lv_sub hl [0, 1, 2] rfl)
  have J79 : ∀ (vi_79 : Nat → Int32), ∀ (vr_79 : Nat → Nat), ∀ (vf_79 : Nat → Nat → Int32), ∀ (pr_79 : Nat → Nat), ∀ (pf_79 : Nat → Nat → Int32), (∀ k, vr_79 k ≤ rdW_lim k) → (∀ k, pr_79 k ≤ pgW_lim k) → ∀ (H : Heap) (locs : List Loc) (ls : Array Slot), va_P D vwCl (vz_w [rdW g h va vi_79 vr_79 vf_79 (ta 0) ph, tkW g ta tr tf, pgW g ph pa pr_79 pf_79]) H → va_D A (vz_w [rdW g h va vi_79 vr_79 vf_79 (ta 0) ph, tkW g ta tr tf, pgW g ph pa pr_79 pf_79]) → va_S A s.heap H locs → lv_has ls 3 [(0, .ref h), (1, .int n1), (2, .int (nI dn))] → W p l e { frames := (5 * (6 - dn) + 57), cells := 0, slots := 0, locals := (130 * (6 - dn) + 1919) } s m args below meth c H locs 0 0 Q (F0 m 79 ls []) := by
    intro vi_79 vr_79 vf_79 pr_79 pf_79 hw_v_79 hw_p_79 H locs ls hP hD hS hl
    refine lv_aload_n hx hb dX3_readIf_79 rfl (lv_at hl 0 rfl) ?_
    refine vz_Vv3 (As := []) (rest := []) hx hb hml hown hts hK hA hP hD hS (a_D_advance l D g H.size h va vi_79 vr_79 vf_79 ta ph tr tf pa pr_79 pf_79 hw_v_79 hw_t hw_p_79) kv_X3_89 ⟨by dsimp only; omega, by dsimp only; omega⟩ (q0 := 0) (ci := 3) rfl rfl rfl  hl.1 (Nat.le_of_ble_eq_true rfl) dX3_readIf_80 ⟨Nat.le_refl _, Nat.le_refl _⟩ rfl (fun vi_1 H locs _ _ hP hD hS => ?_)
    replace hP : va_P D vwCl (vz_w [rdW g h va vi_1 vr_79 vf_79 (ta 0) ph, tkW g ta tr tf, pgW g ph pa pr_79 pf_79]) H := hP
    replace hD : va_D A (vz_w [rdW g h va vi_1 vr_79 vf_79 (ta 0) ph, tkW g ta tr tf, pgW g ph pa pr_79 pf_79]) := hD
    refine lv_goto (tgt := 91) hx hb dX3_readIf_83 (by decide) ?_
    exact J91 vi_1 vr_79 vf_79 pr_79 pf_79 hw_v_79 hw_p_79 H locs ls hP hD hS (lv_sub hl [0, 1, 2] rfl)
  refine lv_aload_n hx hb dX3_readIf_0 rfl (lv_at hl 0 rfl) ?_
  refine va_get (D := D) (ci := 3) (v := .ref ph) (C := RX3) (T := TX3) (N := 12) hx hb hts inlX3 hown hK hP 0 rfl rfl 4 (by decide) (hts _ q97) (fun _ h => h) rfl dX3_readIf_1 ?_
  refine va_get (D := D) (ci := 2) (v := .ref (pa 0)) (C := RX2) (T := TX2) (N := 5) hx hb hts inlX2 hown hK hP 9 rfl rfl 0 (by decide) (hts _ q500) (fun _ h => h) rfl dX3_readIf_4 ?_
  refine lv_iload_n hx hb dX3_readIf_7 rfl (lv_at hl 1 rfl) ?_
  refine lv_iconst (v := 0) hx hb dX3_readIf_8 (by decide) ?_
  refine lv_bipush (v := 8) hx hb dX3_readIf_9 (by decide) ?_
  refine vz_Vv2 (ws' := fun u : (Nat → Int32) => vz_w [rdW g h va vi vr vf (ta 0) ph, tkW g ta tr tf, pgW g ph pa pr (vz_uf pf 0 u)]) (As := [.int n1, .int 0, .int 8]) (rest := []) hx hb hml hown hts hK hA hP hD hS (c_T_set l D g (pa 0) (pa 1) H.size 12 80 (pr 0) 960 (pf 0) n1 0 8 ⟨rfl, by decide, by decide, by decide, by decide, hw_p 0⟩) kv_X3_60 ⟨by dsimp only; omega, by dsimp only; omega⟩ (q0 := 10) (ci := 6) rfl rfl rfl [10, 11] rfl (by decide) (fun _ => rfl) (fun _ => rfl) hl.1 (Nat.le_of_ble_eq_true rfl) dX3_readIf_11 ⟨Nat.le_refl _, Nat.le_refl _⟩ rfl (fun nf1 H locs _ _ hP hD hS => ?_)
  obtain ⟨pf_2, hP, hD⟩ : ∃ pf_2 : Nat → Nat → Int32, va_P D vwCl (vz_w [rdW g h va vi vr vf (ta 0) ph, tkW g ta tr tf, pgW g ph pa pr pf_2]) H ∧ va_D A (vz_w [rdW g h va vi vr vf (ta 0) ph, tkW g ta tr tf, pgW g ph pa pr pf_2]) := ⟨(vz_uf pf 0 nf1), hP, hD⟩
  refine lv_aload_n hx hb dX3_readIf_14 rfl (lv_at hl 0 rfl) ?_
  refine vz_Vv3 (As := []) (rest := []) hx hb hml hown hts hK hA hP hD hS (a_D_advance l D g H.size h va vi vr vf ta ph tr tf pa pr pf_2 hw_v hw_t hw_p) kv_X3_89 ⟨by dsimp only; omega, by dsimp only; omega⟩ (q0 := 0) (ci := 3) rfl rfl rfl  hl.1 (Nat.le_of_ble_eq_true rfl) dX3_readIf_15 ⟨Nat.le_refl _, Nat.le_refl _⟩ rfl (fun vi_3 H locs _ _ hP hD hS => ?_)
  replace hP : va_P D vwCl (vz_w [rdW g h va vi_3 vr vf (ta 0) ph, tkW g ta tr tf, pgW g ph pa pr pf_2]) H := hP
  replace hD : va_D A (vz_w [rdW g h va vi_3 vr vf (ta 0) ph, tkW g ta tr tf, pgW g ph pa pr pf_2]) := hD
  refine lv_aload_n hx hb dX3_readIf_18 rfl (lv_at hl 0 rfl) ?_
  refine va_get (D := D) (ci := 3) (v := .ref ph) (C := RX3) (T := TX3) (N := 12) hx hb hts inlX3 hown hK hP 0 rfl rfl 4 (by decide) (hts _ q97) (fun _ h => h) rfl dX3_readIf_19 ?_
  refine va_get (D := D) (ci := 2) (v := .ref (pa 0)) (C := RX2) (T := TX2) (N := 5) hx hb hts inlX2 hown hK hP 9 rfl rfl 0 (by decide) (hts _ q500) (fun _ h => h) rfl dX3_readIf_22 ?_
  refine lv_iload_n hx hb dX3_readIf_25 rfl (lv_at hl 1 rfl) ?_
  refine lv_iconst (v := 3) hx hb dX3_readIf_26 (by decide) ?_
  refine lv_aload_n hx hb dX3_readIf_27 rfl (lv_at hl 0 rfl) ?_
  refine lv_iconst (v := 0) hx hb dX3_readIf_28 (by decide) ?_
  refine lv_iconst (v := 1) hx hb dX3_readIf_29 (by decide) ?_
  refine vz_Vi3 (As := [.int 0, .int 1]) (rest := [.int 3, .int n1, .ref (pa 0)]) hx hb hml hown hts hK hA hP hD hS (a_D_list9 l D g 8 0 (by decide) H.size h va vi_3 vr vf ta ph tr tf pa pr pf_2 hw_v hw_t hw_p) kv_X3_164 ⟨by dsimp only; omega, by dsimp only; omega⟩ (q0 := 0) (ci := 3) rfl rfl rfl  hl.1 (Nat.le_of_ble_eq_true rfl) dX3_readIf_30 ⟨Nat.le_refl _, Nat.le_refl _⟩ rfl (fun v8 ⟨vi_4, pr_5, pf_6⟩ H locs hw_7 _ hP hD hS => ?_)
  try dsimp only at hw_7
  replace hP : va_P D vwCl (vz_w [rdW g h va vi_4 vr vf (ta 0) ph, tkW g ta tr tf, pgW g ph pa pr_5 pf_6]) H := hP
  replace hD : va_D A (vz_w [rdW g h va vi_4 vr vf (ta 0) ph, tkW g ta tr tf, pgW g ph pa pr_5 pf_6]) := hD
  refine vz_Vv2 (ws' := fun u : (Nat → Int32) => vz_w [rdW g h va vi_4 vr vf (ta 0) ph, tkW g ta tr tf, pgW g ph pa pr_5 (vz_uf pf_6 0 u)]) (As := [.int n1, .int 3, .int v8]) (rest := []) hx hb hml hown hts hK hA hP hD hS (c_T_set l D g (pa 0) (pa 1) H.size 12 80 (pr_5 0) 960 (pf_6 0) n1 3 v8 ⟨rfl, by decide, by decide, by decide, by decide, hw_7 0⟩) kv_X3_60 ⟨by dsimp only; omega, by dsimp only; omega⟩ (q0 := 10) (ci := 6) rfl rfl rfl [10, 11] rfl (by decide) (fun _ => rfl) (fun _ => rfl) hl.1 (Nat.le_of_ble_eq_true rfl) dX3_readIf_33 ⟨Nat.le_refl _, Nat.le_refl _⟩ rfl (fun nf9 H locs _ _ hP hD hS => ?_)
  obtain ⟨pf_10, hP, hD⟩ : ∃ pf_10 : Nat → Nat → Int32, va_P D vwCl (vz_w [rdW g h va vi_4 vr vf (ta 0) ph, tkW g ta tr tf, pgW g ph pa pr_5 pf_10]) H ∧ va_D A (vz_w [rdW g h va vi_4 vr vf (ta 0) ph, tkW g ta tr tf, pgW g ph pa pr_5 pf_10]) := ⟨(vz_uf pf_6 0 nf9), hP, hD⟩
  refine lv_aload_n hx hb dX3_readIf_36 rfl (lv_at hl 0 rfl) ?_
  refine va_get (D := D) (ci := 3) (v := .ref ph) (C := RX3) (T := TX3) (N := 12) hx hb hts inlX3 hown hK hP 0 rfl rfl 4 (by decide) (hts _ q97) (fun _ h => h) rfl dX3_readIf_37 ?_
  refine va_get (D := D) (ci := 2) (v := .ref (pa 0)) (C := RX2) (T := TX2) (N := 5) hx hb hts inlX2 hown hK hP 9 rfl rfl 0 (by decide) (hts _ q500) (fun _ h => h) rfl dX3_readIf_40 ?_
  refine lv_iload_n hx hb dX3_readIf_43 rfl (lv_at hl 1 rfl) ?_
  refine lv_iconst (v := 1) hx hb dX3_readIf_44 (by decide) ?_
  refine lv_aload_n hx hb dX3_readIf_45 rfl (lv_at hl 0 rfl) ?_
  refine va_get (D := D) (ci := 3) (v := .int (vi_4 1)) (C := RX3) (T := TX3) (N := 12) hx hb hts inlX3 hown hK hP 0 rfl rfl 6 (by decide) (hts _ q443) (fun _ h => h) rfl dX3_readIf_46 ?_
  refine vz_Vv2 (ws' := fun u : (Nat → Int32) => vz_w [rdW g h va vi_4 vr vf (ta 0) ph, tkW g ta tr tf, pgW g ph pa pr_5 (vz_uf pf_10 0 u)]) (As := [.int n1, .int 1, .int (vi_4 1)]) (rest := []) hx hb hml hown hts hK hA hP hD hS (c_T_set l D g (pa 0) (pa 1) H.size 12 80 (pr_5 0) 960 (pf_10 0) n1 1 (vi_4 1) ⟨rfl, by decide, by decide, by decide, by decide, hw_7 0⟩) kv_X3_60 ⟨by dsimp only; omega, by dsimp only; omega⟩ (q0 := 10) (ci := 6) rfl rfl rfl [10, 11] rfl (by decide) (fun _ => rfl) (fun _ => rfl) hl.1 (Nat.le_of_ble_eq_true rfl) dX3_readIf_49 ⟨Nat.le_refl _, Nat.le_refl _⟩ rfl (fun nf11 H locs _ _ hP hD hS => ?_)
  obtain ⟨pf_12, hP, hD⟩ : ∃ pf_12 : Nat → Nat → Int32, va_P D vwCl (vz_w [rdW g h va vi_4 vr vf (ta 0) ph, tkW g ta tr tf, pgW g ph pa pr_5 pf_12]) H ∧ va_D A (vz_w [rdW g h va vi_4 vr vf (ta 0) ph, tkW g ta tr tf, pgW g ph pa pr_5 pf_12]) := ⟨(vz_uf pf_10 0 nf11), hP, hD⟩
  refine lv_aload_n hx hb dX3_readIf_52 rfl (lv_at hl 0 rfl) ?_
  refine va_get (D := D) (ci := 3) (v := .int (vi_4 1)) (C := RX3) (T := TX3) (N := 12) hx hb hts inlX3 hown hK hP 0 rfl rfl 6 (by decide) (hts _ q443) (fun _ h => h) rfl dX3_readIf_53 ?_
  refine lv_bipush (v := 61) hx hb dX3_readIf_56 (by decide) ?_
  refine lv_icmp_eq (tgt := 79) hx hb dX3_readIf_58 (by decide) (fun kc13 => ?_) (fun kc13 => ?_)
  · exact J79 vi_4 vr vf pr_5 pf_12 hw_v hw_7 H locs ls hP hD hS (lv_sub hl [0, 1, 2] rfl)
  · refine lv_aload_n hx hb dX3_readIf_61 rfl (lv_at hl 0 rfl) ?_
    refine va_get (D := D) (ci := 3) (v := .int (vi_4 1)) (C := RX3) (T := TX3) (N := 12) hx hb hts inlX3 hown hK hP 0 rfl rfl 6 (by decide) (hts _ q443) (fun _ h => h) rfl dX3_readIf_62 ?_
    refine lv_bipush (v := 60) hx hb dX3_readIf_65 (by decide) ?_
    refine lv_icmp_eq (tgt := 79) hx hb dX3_readIf_67 (by decide) (fun kc14 => ?_) (fun kc14 => ?_)
    · exact J79 vi_4 vr vf pr_5 pf_12 hw_v hw_7 H locs ls hP hD hS (lv_sub hl [0, 1, 2] rfl)
    · refine lv_aload_n hx hb dX3_readIf_70 rfl (lv_at hl 0 rfl) ?_
      refine va_get (D := D) (ci := 3) (v := .int (vi_4 1)) (C := RX3) (T := TX3) (N := 12) hx hb hts inlX3 hown hK hP 0 rfl rfl 6 (by decide) (hts _ q443) (fun _ h => h) rfl dX3_readIf_71 ?_
      refine lv_bipush (v := 62) hx hb dX3_readIf_74 (by decide) ?_
      refine lv_icmp_ne (tgt := 86) hx hb dX3_readIf_76 (by decide) (fun kc15 => ?_) (fun kc15 => ?_)
      · refine lv_aload_n hx hb dX3_readIf_86 rfl (lv_at hl 0 rfl) ?_
        refine lv_iconst (v := 1) hx hb dX3_readIf_87 (by decide) ?_
        refine vz_Vv3 (As := [.int 1]) (rest := []) hx hb hml hown hts hK hA hP hD hS (a_D_fail l D g H.size h va vi_4 vr vf ta ph tr tf pa pr_5 pf_12 1 hw_v hw_t hw_7) kv_X3_68 ⟨by dsimp only; omega, by dsimp only; omega⟩ (q0 := 0) (ci := 3) rfl rfl rfl  hl.1 (Nat.le_of_ble_eq_true rfl) dX3_readIf_88 ⟨Nat.le_refl _, Nat.le_refl _⟩ rfl (fun vi_16 H locs hp17 _ hP hD hS => ?_)
        try dsimp only at hp17
        replace hP : va_P D vwCl (vz_w [rdW g h va vi_16 vr vf (ta 0) ph, tkW g ta tr tf, pgW g ph pa pr_5 pf_12]) H := hP
        replace hD : va_D A (vz_w [rdW g h va vi_16 vr vf (ta 0) ph, tkW g ta tr tf, pgW g ph pa pr_5 pf_12]) := hD
        exact J91 vi_16 vr vf pr_5 pf_12 hw_v hw_7 H locs ls hP hD hS (lv_sub hl [0, 1, 2] rfl)
      · exact J79 vi_4 vr vf pr_5 pf_12 hw_v hw_7 H locs ls hP hD hS (lv_sub hl [0, 1, 2] rfl)
theorem q519 : Cond.methodLink RX3 171 yX6_drop ∈ wsL_law := mT_3 (List.mem_of_getElem? (i := 223) rfl) rfl
theorem kv_X3_171 : vz_cv RX3 171 yX6_drop cX6_drop 1 none 0 := ⟨q519, q520, q521, q15, q522, by decide +kernel⟩
theorem dX3_readLoop_0 : decode cX3_readLoop 0 = .ok (.aload_n 0, 1) := by decide +kernel
theorem dX3_readLoop_1 : decode cX3_readLoop 1 = .ok (.getfield 15, 3) := by decide +kernel
theorem dX3_readLoop_4 : decode cX3_readLoop 4 = .ok (.getfield 117, 3) := by decide +kernel
theorem dX3_readLoop_7 : decode cX3_readLoop 7 = .ok (.iload_n 1, 1) := by decide +kernel
theorem dX3_readLoop_8 : decode cX3_readLoop 8 = .ok (.iconst 0, 1) := by decide +kernel
theorem dX3_readLoop_9 : decode cX3_readLoop 9 = .ok (.bipush 9, 2) := by decide +kernel
theorem dX3_readLoop_11 : decode cX3_readLoop 11 = .ok (.invokevirtual 60, 3) := by decide +kernel
theorem dX3_readLoop_14 : decode cX3_readLoop 14 = .ok (.aload_n 0, 1) := by decide +kernel
theorem dX3_readLoop_15 : decode cX3_readLoop 15 = .ok (.invokevirtual 89, 3) := by decide +kernel
theorem dX3_readLoop_18 : decode cX3_readLoop 18 = .ok (.aload_n 0, 1) := by decide +kernel
theorem dX3_readLoop_19 : decode cX3_readLoop 19 = .ok (.getfield 15, 3) := by decide +kernel
theorem dX3_readLoop_22 : decode cX3_readLoop 22 = .ok (.getfield 117, 3) := by decide +kernel
theorem dX3_readLoop_25 : decode cX3_readLoop 25 = .ok (.iload_n 1, 1) := by decide +kernel
theorem dX3_readLoop_26 : decode cX3_readLoop 26 = .ok (.iconst 3, 1) := by decide +kernel
theorem dX3_readLoop_27 : decode cX3_readLoop 27 = .ok (.aload_n 0, 1) := by decide +kernel
theorem dX3_readLoop_28 : decode cX3_readLoop 28 = .ok (.iconst 0, 1) := by decide +kernel
theorem dX3_readLoop_29 : decode cX3_readLoop 29 = .ok (.iconst 1, 1) := by decide +kernel
theorem dX3_readLoop_30 : decode cX3_readLoop 30 = .ok (.invokevirtual 164, 3) := by decide +kernel
theorem dX3_readLoop_33 : decode cX3_readLoop 33 = .ok (.invokevirtual 60, 3) := by decide +kernel
theorem dX3_readLoop_36 : decode cX3_readLoop 36 = .ok (.aload_n 0, 1) := by decide +kernel
theorem dX3_readLoop_37 : decode cX3_readLoop 37 = .ok (.getfield 24, 3) := by decide +kernel
theorem dX3_readLoop_40 : decode cX3_readLoop 40 = .ok (.invokevirtual 110, 3) := by decide +kernel
theorem dX3_readLoop_43 : decode cX3_readLoop 43 = .ok (.istore_n 3, 1) := by decide +kernel
theorem dX3_readLoop_44 : decode cX3_readLoop 44 = .ok (.aload_n 0, 1) := by decide +kernel
theorem dX3_readLoop_45 : decode cX3_readLoop 45 = .ok (.getfield 24, 3) := by decide +kernel
theorem dX3_readLoop_48 : decode cX3_readLoop 48 = .ok (.iload_n 3, 1) := by decide +kernel
theorem dX3_readLoop_49 : decode cX3_readLoop 49 = .ok (.iconst 0, 1) := by decide +kernel
theorem dX3_readLoop_50 : decode cX3_readLoop 50 = .ok (.iload_n 1, 1) := by decide +kernel
theorem dX3_readLoop_51 : decode cX3_readLoop 51 = .ok (.invokevirtual 60, 3) := by decide +kernel
theorem dX3_readLoop_54 : decode cX3_readLoop 54 = .ok (.aload_n 0, 1) := by decide +kernel
theorem dX3_readLoop_55 : decode cX3_readLoop 55 = .ok (.getfield 15, 3) := by decide +kernel
theorem dX3_readLoop_58 : decode cX3_readLoop 58 = .ok (.getfield 117, 3) := by decide +kernel
theorem dX3_readLoop_61 : decode cX3_readLoop 61 = .ok (.iload_n 1, 1) := by decide +kernel
theorem dX3_readLoop_62 : decode cX3_readLoop 62 = .ok (.iconst 5, 1) := by decide +kernel
theorem dX3_readLoop_63 : decode cX3_readLoop 63 = .ok (.aload_n 0, 1) := by decide +kernel
theorem dX3_readLoop_64 : decode cX3_readLoop 64 = .ok (.iload_n 1, 1) := by decide +kernel
theorem dX3_readLoop_65 : decode cX3_readLoop 65 = .ok (.iload_n 2, 1) := by decide +kernel
theorem dX3_readLoop_66 : decode cX3_readLoop 66 = .ok (.invokevirtual 168, 3) := by decide +kernel
theorem dX3_readLoop_69 : decode cX3_readLoop 69 = .ok (.invokevirtual 60, 3) := by decide +kernel
theorem dX3_readLoop_72 : decode cX3_readLoop 72 = .ok (.iload_n 3, 1) := by decide +kernel
theorem dX3_readLoop_73 : decode cX3_readLoop 73 = .ok (.bipush (-9), 2) := by decide +kernel
theorem dX3_readLoop_75 : decode cX3_readLoop 75 = .ok (.if_icmp .eq 10, 3) := by decide +kernel
theorem dX3_readLoop_78 : decode cX3_readLoop 78 = .ok (.aload_n 0, 1) := by decide +kernel
theorem dX3_readLoop_79 : decode cX3_readLoop 79 = .ok (.getfield 24, 3) := by decide +kernel
theorem dX3_readLoop_82 : decode cX3_readLoop 82 = .ok (.invokevirtual 171, 3) := by decide +kernel
theorem dX3_readLoop_85 : decode cX3_readLoop 85 = .ok (.return_, 1) := by decide +kernel
set_option maxHeartbeats 8000000 in
set_option maxRecDepth 100000 in
theorem a_D_readLoop (l : Launch) (D : va_G) (g : Nat → ClassId) (dn : Nat) (hdn : dn ≤ 6) (hB : dn < 6 → ∀ (sz : Nat) (h : Nat) (va : Nat → Nat) (vi : Nat → Int32) (vr : Nat → Nat) (vf : Nat → Nat → Int32) (ta : Nat → Nat) (ph : Nat) (tr : Nat → Nat) (tf : Nat → Nat → Int32) (pa : Nat → Nat) (pr : Nat → Nat) (pf : Nat → Nat → Int32) (n1 : Int32) (hw_v : ∀ k, vr k ≤ rdW_lim k) (hw_t : ∀ k, tr k ≤ tkW_lim k) (hw_p : ∀ k, pr k ≤ pgW_lim k), vz_Mi l D (tyG g) yX3_readStatements cX3_readStatements 7 (5 * (6 - (dn + 1)) + 60) (130 * (6 - (dn + 1)) + 2000) 0 0 .int [.ref h, .int n1, .int (nI (dn + 1))] sz (vz_w [rdW g h va vi vr vf (ta 0) ph, tkW g ta tr tf, pgW g ph pa pr pf]) (fun r (u : (Nat → Int32) × (Nat → Nat) × (Nat → Nat → Int32) × (Nat → Nat) × (Nat → Nat → Int32)) => (∀ k, u.2.1 k ≤ rdW_lim k) ∧ (∀ k, u.2.2.2.1 k ≤ pgW_lim k)) (fun u => vz_w [rdW g h va u.1 u.2.1 u.2.2.1 (ta 0) ph, tkW g ta tr tf, pgW g ph pa u.2.2.2.1 u.2.2.2.2])) (sz : Nat) (h : Nat) (va : Nat → Nat) (vi : Nat → Int32) (vr : Nat → Nat) (vf : Nat → Nat → Int32) (ta : Nat → Nat) (ph : Nat) (tr : Nat → Nat) (tf : Nat → Nat → Int32) (pa : Nat → Nat) (pr : Nat → Nat) (pf : Nat → Nat → Int32) (n1 : Int32) (hw_v : ∀ k, vr k ≤ rdW_lim k) (hw_t : ∀ k, tr k ≤ tkW_lim k) (hw_p : ∀ k, pr k ≤ pgW_lim k) : vz_Mv l D (tyG g) yX3_readLoop cX3_readLoop 4 (5 * (6 - dn) + 57) (130 * (6 - dn) + 1919) 0 0 [.ref h, .int n1, .int (nI dn)] sz (vz_w [rdW g h va vi vr vf (ta 0) ph, tkW g ta tr tf, pgW g ph pa pr pf]) (fun u : (Nat → Int32) × (Nat → Nat) × (Nat → Nat → Int32) × (Nat → Nat) × (Nat → Nat → Int32) => (∀ k, u.2.1 k ≤ rdW_lim k) ∧ (∀ k, u.2.2.2.1 k ≤ pgW_lim k)) (fun u => vz_w [rdW g h va u.1 u.2.1 u.2.2.1 (ta 0) ph, tkW g ta tr tf, pgW g ph pa u.2.2.2.1 u.2.2.2.2]) := by
  refine vz_svQ (by decide) (Nat.le_of_ble_eq_true rfl) (fun p e s m args below meth c hx hb hr hml hts hown hlk hin hK hsz A hA H locs hP hD hS ls hl Q hQ => ?_)
  have hl : lv_has ls 4 [(0, .ref h), (1, .int n1), (2, .int (nI dn))] := hl
  have J85 : ∀ (x3_85 : Int32), ∀ (vi_85 : Nat → Int32), ∀ (vr_85 : Nat → Nat), ∀ (vf_85 : Nat → Nat → Int32), ∀ (pr_85 : Nat → Nat), ∀ (pf_85 : Nat → Nat → Int32), (∀ k, vr_85 k ≤ rdW_lim k) → (∀ k, pr_85 k ≤ pgW_lim k) → ∀ (H : Heap) (locs : List Loc) (ls : Array Slot), va_P D vwCl (vz_w [rdW g h va vi_85 vr_85 vf_85 (ta 0) ph, tkW g ta tr tf, pgW g ph pa pr_85 pf_85]) H → va_D A (vz_w [rdW g h va vi_85 vr_85 vf_85 (ta 0) ph, tkW g ta tr tf, pgW g ph pa pr_85 pf_85]) → va_S A s.heap H locs → lv_has ls 4 [(0, .ref h), (1, .int n1), (2, .int (nI dn)), (3, .int x3_85)] → W p l e { frames := (5 * (6 - dn) + 57), cells := 0, slots := 0, locals := (130 * (6 - dn) + 1919) } s m args below meth c H locs 0 0 Q (F0 m 85 ls []) := by
    intro x3_85 vi_85 vr_85 vf_85 pr_85 pf_85 hw_v_85 hw_p_85 H locs ls hP hD hS hl
    rw [hQ]
    exact vz_vret3 hx hb hr hlk hK hP hD hS (vi_85, vr_85, vf_85, pr_85, pf_85) (⟨hw_v_85, hw_p_85⟩) rfl (Nat.le_refl 0) (Nat.le_refl 0) dX3_readLoop_85
  refine lv_aload_n hx hb dX3_readLoop_0 rfl (lv_at hl 0 rfl) ?_
  refine va_get (D := D) (ci := 3) (v := .ref ph) (C := RX3) (T := TX3) (N := 12) hx hb hts inlX3 hown hK hP 0 rfl rfl 4 (by decide) (hts _ q97) (fun _ h => h) rfl dX3_readLoop_1 ?_
  refine va_get (D := D) (ci := 2) (v := .ref (pa 0)) (C := RX2) (T := TX2) (N := 5) hx hb hts inlX2 hown hK hP 9 rfl rfl 0 (by decide) (hts _ q500) (fun _ h => h) rfl dX3_readLoop_4 ?_
  refine lv_iload_n hx hb dX3_readLoop_7 rfl (lv_at hl 1 rfl) ?_
  refine lv_iconst (v := 0) hx hb dX3_readLoop_8 (by decide) ?_
  refine lv_bipush (v := 9) hx hb dX3_readLoop_9 (by decide) ?_
  refine vz_Vv2 (ws' := fun u : (Nat → Int32) => vz_w [rdW g h va vi vr vf (ta 0) ph, tkW g ta tr tf, pgW g ph pa pr (vz_uf pf 0 u)]) (As := [.int n1, .int 0, .int 9]) (rest := []) hx hb hml hown hts hK hA hP hD hS (c_T_set l D g (pa 0) (pa 1) H.size 12 80 (pr 0) 960 (pf 0) n1 0 9 ⟨rfl, by decide, by decide, by decide, by decide, hw_p 0⟩) kv_X3_60 ⟨by dsimp only; omega, by dsimp only; omega⟩ (q0 := 10) (ci := 6) rfl rfl rfl [10, 11] rfl (by decide) (fun _ => rfl) (fun _ => rfl) hl.1 (Nat.le_of_ble_eq_true rfl) dX3_readLoop_11 ⟨Nat.le_refl _, Nat.le_refl _⟩ rfl (fun nf1 H locs _ _ hP hD hS => ?_)
  obtain ⟨pf_2, hP, hD⟩ : ∃ pf_2 : Nat → Nat → Int32, va_P D vwCl (vz_w [rdW g h va vi vr vf (ta 0) ph, tkW g ta tr tf, pgW g ph pa pr pf_2]) H ∧ va_D A (vz_w [rdW g h va vi vr vf (ta 0) ph, tkW g ta tr tf, pgW g ph pa pr pf_2]) := ⟨(vz_uf pf 0 nf1), hP, hD⟩
  refine lv_aload_n hx hb dX3_readLoop_14 rfl (lv_at hl 0 rfl) ?_
  refine vz_Vv3 (As := []) (rest := []) hx hb hml hown hts hK hA hP hD hS (a_D_advance l D g H.size h va vi vr vf ta ph tr tf pa pr pf_2 hw_v hw_t hw_p) kv_X3_89 ⟨by dsimp only; omega, by dsimp only; omega⟩ (q0 := 0) (ci := 3) rfl rfl rfl  hl.1 (Nat.le_of_ble_eq_true rfl) dX3_readLoop_15 ⟨Nat.le_refl _, Nat.le_refl _⟩ rfl (fun vi_3 H locs _ _ hP hD hS => ?_)
  replace hP : va_P D vwCl (vz_w [rdW g h va vi_3 vr vf (ta 0) ph, tkW g ta tr tf, pgW g ph pa pr pf_2]) H := hP
  replace hD : va_D A (vz_w [rdW g h va vi_3 vr vf (ta 0) ph, tkW g ta tr tf, pgW g ph pa pr pf_2]) := hD
  refine lv_aload_n hx hb dX3_readLoop_18 rfl (lv_at hl 0 rfl) ?_
  refine va_get (D := D) (ci := 3) (v := .ref ph) (C := RX3) (T := TX3) (N := 12) hx hb hts inlX3 hown hK hP 0 rfl rfl 4 (by decide) (hts _ q97) (fun _ h => h) rfl dX3_readLoop_19 ?_
  refine va_get (D := D) (ci := 2) (v := .ref (pa 0)) (C := RX2) (T := TX2) (N := 5) hx hb hts inlX2 hown hK hP 9 rfl rfl 0 (by decide) (hts _ q500) (fun _ h => h) rfl dX3_readLoop_22 ?_
  refine lv_iload_n hx hb dX3_readLoop_25 rfl (lv_at hl 1 rfl) ?_
  refine lv_iconst (v := 3) hx hb dX3_readLoop_26 (by decide) ?_
  refine lv_aload_n hx hb dX3_readLoop_27 rfl (lv_at hl 0 rfl) ?_
  refine lv_iconst (v := 0) hx hb dX3_readLoop_28 (by decide) ?_
  refine lv_iconst (v := 1) hx hb dX3_readLoop_29 (by decide) ?_
  refine vz_Vi3 (As := [.int 0, .int 1]) (rest := [.int 3, .int n1, .ref (pa 0)]) hx hb hml hown hts hK hA hP hD hS (a_D_list9 l D g 8 0 (by decide) H.size h va vi_3 vr vf ta ph tr tf pa pr pf_2 hw_v hw_t hw_p) kv_X3_164 ⟨by dsimp only; omega, by dsimp only; omega⟩ (q0 := 0) (ci := 3) rfl rfl rfl  hl.1 (Nat.le_of_ble_eq_true rfl) dX3_readLoop_30 ⟨Nat.le_refl _, Nat.le_refl _⟩ rfl (fun v8 ⟨vi_4, pr_5, pf_6⟩ H locs hw_7 _ hP hD hS => ?_)
  try dsimp only at hw_7
  replace hP : va_P D vwCl (vz_w [rdW g h va vi_4 vr vf (ta 0) ph, tkW g ta tr tf, pgW g ph pa pr_5 pf_6]) H := hP
  replace hD : va_D A (vz_w [rdW g h va vi_4 vr vf (ta 0) ph, tkW g ta tr tf, pgW g ph pa pr_5 pf_6]) := hD
  refine vz_Vv2 (ws' := fun u : (Nat → Int32) => vz_w [rdW g h va vi_4 vr vf (ta 0) ph, tkW g ta tr tf, pgW g ph pa pr_5 (vz_uf pf_6 0 u)]) (As := [.int n1, .int 3, .int v8]) (rest := []) hx hb hml hown hts hK hA hP hD hS (c_T_set l D g (pa 0) (pa 1) H.size 12 80 (pr_5 0) 960 (pf_6 0) n1 3 v8 ⟨rfl, by decide, by decide, by decide, by decide, hw_7 0⟩) kv_X3_60 ⟨by dsimp only; omega, by dsimp only; omega⟩ (q0 := 10) (ci := 6) rfl rfl rfl [10, 11] rfl (by decide) (fun _ => rfl) (fun _ => rfl) hl.1 (Nat.le_of_ble_eq_true rfl) dX3_readLoop_33 ⟨Nat.le_refl _, Nat.le_refl _⟩ rfl (fun nf9 H locs _ _ hP hD hS => ?_)
  obtain ⟨pf_10, hP, hD⟩ : ∃ pf_10 : Nat → Nat → Int32, va_P D vwCl (vz_w [rdW g h va vi_4 vr vf (ta 0) ph, tkW g ta tr tf, pgW g ph pa pr_5 pf_10]) H ∧ va_D A (vz_w [rdW g h va vi_4 vr vf (ta 0) ph, tkW g ta tr tf, pgW g ph pa pr_5 pf_10]) := ⟨(vz_uf pf_6 0 nf9), hP, hD⟩
  refine lv_aload_n hx hb dX3_readLoop_36 rfl (lv_at hl 0 rfl) ?_
  refine va_get (D := D) (ci := 3) (v := .ref (va 0)) (C := RX3) (T := TX3) (N := 12) hx hb hts inlX3 hown hK hP 0 rfl rfl 1 (by decide) (hts _ q99) (fun _ h => h) rfl dX3_readLoop_37 ?_
  refine vz_Vi2 (ws' := fun u : (Nat × (Nat → Int32)) => vz_w [rdW g h va vi_4 (vz_un vr 0 u.1) (vz_uf vf 0 u.2) (ta 0) ph, tkW g ta tr tf, pgW g ph pa pr_5 pf_10]) (As := []) (rest := []) hx hb hml hown hts hK hA hP hD hS (c_T_add l D g (va 0) (va 1) H.size 1 6 (vr 0) 6 (vf 0) ⟨rfl, by decide, by decide, by decide, by decide, hw_v 0⟩) kv_X3_110 ⟨by dsimp only; omega, by dsimp only; omega⟩ (q0 := 1) (ci := 6) rfl rfl rfl [1, 2] rfl (by decide) (fun _ => rfl) (fun _ => rfl) hl.1 (Nat.le_of_ble_eq_true rfl) dX3_readLoop_40 ⟨Nat.le_refl _, Nat.le_refl _⟩ rfl (fun v13 ⟨u11R, u11f⟩ H locs ha12 _ hP hD hS => ?_)
  have hq : (vr 0) ≤ 6 := hw_v 0
  replace ha12 : u11R ≤ 6 := by rcases ha12 with ⟨z1, -, z2, -⟩ | ⟨z1, -, z2, -⟩ <;> (dsimp only at z2; omega)
  obtain ⟨vr_14, hw_vr_14, vf_15, hP, hD⟩ : ∃ vr_14 : Nat → Nat, (∀ k, vr_14 k ≤ rdW_lim k) ∧ ∃ vf_15 : Nat → Nat → Int32, va_P D vwCl (vz_w [rdW g h va vi_4 vr_14 vf_15 (ta 0) ph, tkW g ta tr tf, pgW g ph pa pr_5 pf_10]) H ∧ va_D A (vz_w [rdW g h va vi_4 vr_14 vf_15 (ta 0) ph, tkW g ta tr tf, pgW g ph pa pr_5 pf_10]) := ⟨(vz_un vr 0 u11R), (vz_wf hw_v (t := 0) (v := u11R) (ha12)), (vz_uf vf 0 u11f), hP, hD⟩
  refine lv_istore_n (lv' := [(3, .int v13), (0, .ref h), (1, .int n1), (2, .int (nI dn))]) hx hb dX3_readLoop_43 rfl hl (by decide) rfl (fun ls hl => ?_)
  refine lv_aload_n hx hb dX3_readLoop_44 rfl (lv_at hl 1 rfl) ?_
  refine va_get (D := D) (ci := 3) (v := .ref (va 0)) (C := RX3) (T := TX3) (N := 12) hx hb hts inlX3 hown hK hP 0 rfl rfl 1 (by decide) (hts _ q99) (fun _ h => h) rfl dX3_readLoop_45 ?_
  refine lv_iload_n hx hb dX3_readLoop_48 rfl (lv_at hl 0 rfl) ?_
  refine lv_iconst (v := 0) hx hb dX3_readLoop_49 (by decide) ?_
  refine lv_iload_n hx hb dX3_readLoop_50 rfl (lv_at hl 2 rfl) ?_
  refine vz_Vv2 (ws' := fun u : (Nat → Int32) => vz_w [rdW g h va vi_4 vr_14 (vz_uf vf_15 0 u) (ta 0) ph, tkW g ta tr tf, pgW g ph pa pr_5 pf_10]) (As := [.int v13, .int 0, .int n1]) (rest := []) hx hb hml hown hts hK hA hP hD hS (c_T_set l D g (va 0) (va 1) H.size 1 6 (vr_14 0) 6 (vf_15 0) v13 0 n1 ⟨rfl, by decide, by decide, by decide, by decide, hw_vr_14 0⟩) kv_X3_60 ⟨by dsimp only; omega, by dsimp only; omega⟩ (q0 := 1) (ci := 6) rfl rfl rfl [1, 2] rfl (by decide) (fun _ => rfl) (fun _ => rfl) hl.1 (Nat.le_of_ble_eq_true rfl) dX3_readLoop_51 ⟨Nat.le_refl _, Nat.le_refl _⟩ rfl (fun nf16 H locs _ _ hP hD hS => ?_)
  obtain ⟨vf_17, hP, hD⟩ : ∃ vf_17 : Nat → Nat → Int32, va_P D vwCl (vz_w [rdW g h va vi_4 vr_14 vf_17 (ta 0) ph, tkW g ta tr tf, pgW g ph pa pr_5 pf_10]) H ∧ va_D A (vz_w [rdW g h va vi_4 vr_14 vf_17 (ta 0) ph, tkW g ta tr tf, pgW g ph pa pr_5 pf_10]) := ⟨(vz_uf vf_15 0 nf16), hP, hD⟩
  refine lv_aload_n hx hb dX3_readLoop_54 rfl (lv_at hl 1 rfl) ?_
  refine va_get (D := D) (ci := 3) (v := .ref ph) (C := RX3) (T := TX3) (N := 12) hx hb hts inlX3 hown hK hP 0 rfl rfl 4 (by decide) (hts _ q97) (fun _ h => h) rfl dX3_readLoop_55 ?_
  refine va_get (D := D) (ci := 2) (v := .ref (pa 0)) (C := RX2) (T := TX2) (N := 5) hx hb hts inlX2 hown hK hP 9 rfl rfl 0 (by decide) (hts _ q500) (fun _ h => h) rfl dX3_readLoop_58 ?_
  refine lv_iload_n hx hb dX3_readLoop_61 rfl (lv_at hl 2 rfl) ?_
  refine lv_iconst (v := 5) hx hb dX3_readLoop_62 (by decide) ?_
  refine lv_aload_n hx hb dX3_readLoop_63 rfl (lv_at hl 1 rfl) ?_
  refine lv_iload_n hx hb dX3_readLoop_64 rfl (lv_at hl 2 rfl) ?_
  refine lv_iload_n hx hb dX3_readLoop_65 rfl (lv_at hl 3 rfl) ?_
  refine vz_Vi3 (As := [.int n1, .int (nI dn)]) (rest := [.int 5, .int n1, .ref (pa 0)]) hx hb hml hown hts hK hA hP hD hS (a_D_readBlock l D g dn hdn hB H.size h va vi_4 vr_14 vf_17 ta ph tr tf pa pr_5 pf_10 n1 hw_vr_14 hw_t hw_7) kv_X3_168 ⟨by dsimp only; omega, by dsimp only; omega⟩ (q0 := 0) (ci := 3) rfl rfl rfl  hl.1 (Nat.le_of_ble_eq_true rfl) dX3_readLoop_66 ⟨Nat.le_refl _, Nat.le_refl _⟩ rfl (fun v25 ⟨vi_18, vr_19, vf_20, pr_21, pf_22⟩ H locs ⟨hw_23, hw_24⟩ _ hP hD hS => ?_)
  try dsimp only at hw_23 hw_24
  replace hP : va_P D vwCl (vz_w [rdW g h va vi_18 vr_19 vf_20 (ta 0) ph, tkW g ta tr tf, pgW g ph pa pr_21 pf_22]) H := hP
  replace hD : va_D A (vz_w [rdW g h va vi_18 vr_19 vf_20 (ta 0) ph, tkW g ta tr tf, pgW g ph pa pr_21 pf_22]) := hD
  refine vz_Vv2 (ws' := fun u : (Nat → Int32) => vz_w [rdW g h va vi_18 vr_19 vf_20 (ta 0) ph, tkW g ta tr tf, pgW g ph pa pr_21 (vz_uf pf_22 0 u)]) (As := [.int n1, .int 5, .int v25]) (rest := []) hx hb hml hown hts hK hA hP hD hS (c_T_set l D g (pa 0) (pa 1) H.size 12 80 (pr_21 0) 960 (pf_22 0) n1 5 v25 ⟨rfl, by decide, by decide, by decide, by decide, hw_24 0⟩) kv_X3_60 ⟨by dsimp only; omega, by dsimp only; omega⟩ (q0 := 10) (ci := 6) rfl rfl rfl [10, 11] rfl (by decide) (fun _ => rfl) (fun _ => rfl) hl.1 (Nat.le_of_ble_eq_true rfl) dX3_readLoop_69 ⟨Nat.le_refl _, Nat.le_refl _⟩ rfl (fun nf26 H locs _ _ hP hD hS => ?_)
  obtain ⟨pf_27, hP, hD⟩ : ∃ pf_27 : Nat → Nat → Int32, va_P D vwCl (vz_w [rdW g h va vi_18 vr_19 vf_20 (ta 0) ph, tkW g ta tr tf, pgW g ph pa pr_21 pf_27]) H ∧ va_D A (vz_w [rdW g h va vi_18 vr_19 vf_20 (ta 0) ph, tkW g ta tr tf, pgW g ph pa pr_21 pf_27]) := ⟨(vz_uf pf_22 0 nf26), hP, hD⟩
  refine lv_iload_n hx hb dX3_readLoop_72 rfl (lv_at hl 0 rfl) ?_
  refine lv_bipush (v := (-9)) hx hb dX3_readLoop_73 (by decide) ?_
  refine lv_icmp_eq (tgt := 85) hx hb dX3_readLoop_75 (by decide) (fun kc28 => ?_) (fun kc28 => ?_)
  · exact J85 v13 vi_18 vr_19 vf_20 pr_21 pf_27 hw_23 hw_24 H locs ls hP hD hS (lv_sub hl [1, 2, 3, 0] rfl)
  · refine lv_aload_n hx hb dX3_readLoop_78 rfl (lv_at hl 1 rfl) ?_
    refine va_get (D := D) (ci := 3) (v := .ref (va 0)) (C := RX3) (T := TX3) (N := 12) hx hb hts inlX3 hown hK hP 0 rfl rfl 1 (by decide) (hts _ q99) (fun _ h => h) rfl dX3_readLoop_79 ?_
    refine vz_Vv2 (ws' := fun u : Nat => vz_w [rdW g h va vi_18 (vz_un vr_19 0 u) vf_20 (ta 0) ph, tkW g ta tr tf, pgW g ph pa pr_21 pf_27]) (As := []) (rest := []) hx hb hml hown hts hK hA hP hD hS (c_T_drop l D g (va 0) (va 1) H.size (nI 1) (nI 6) (vr_19 0) (Nat.lt_of_le_of_lt (hw_23 0) (by decide))) kv_X3_171 ⟨by dsimp only; omega, by dsimp only; omega⟩ (q0 := 1) (ci := 6) rfl rfl rfl [1] rfl (by decide) (fun _ => rfl) (fun _ => rfl) hl.1 (Nat.le_of_ble_eq_true rfl) dX3_readLoop_82 ⟨Nat.le_refl _, Nat.le_refl _⟩ rfl (fun u29 H locs ha30 _ hP hD hS => ?_)
    obtain ⟨vr_31, hw_vr_31, hP, hD⟩ : ∃ vr_31 : Nat → Nat, (∀ k, vr_31 k ≤ rdW_lim k) ∧ va_P D vwCl (vz_w [rdW g h va vi_18 vr_31 vf_20 (ta 0) ph, tkW g ta tr tf, pgW g ph pa pr_21 pf_27]) H ∧ va_D A (vz_w [rdW g h va vi_18 vr_31 vf_20 (ta 0) ph, tkW g ta tr tf, pgW g ph pa pr_21 pf_27]) := ⟨(vz_un vr_19 0 u29), (vz_wf hw_23 (t := 0) (v := u29) (Nat.le_trans ha30 (hw_23 0))), hP, hD⟩
    exact J85 v13 vi_18 vr_31 vf_20 pr_21 pf_27 hw_vr_31 hw_24 H locs ls hP hD hS (lv_sub hl [1, 2, 3, 0] rfl)
theorem q506 : Cond.fieldLink RX3 181 "WaysAtlas$Program" "catches" "LWaysAtlas$Table;" ∈ wsL_law := mT_1 (List.mem_of_getElem? (i := 94) rfl) rfl
theorem q507 : Cond.methodLink RX3 184 yX2_catchOf ∈ wsL_law := mT_3 (List.mem_of_getElem? (i := 239) rfl) rfl
theorem kv_X3_184 : vz_cv RX3 184 yX2_catchOf cX2_catchOf 5 (some .int) 2 := ⟨q507, q508, q509, q23, q510, by decide +kernel⟩
theorem dX3_readCatch_0 : decode cX3_readCatch 0 = .ok (.aload_n 0, 1) := by decide +kernel
theorem dX3_readCatch_1 : decode cX3_readCatch 1 = .ok (.getfield 15, 3) := by decide +kernel
theorem dX3_readCatch_4 : decode cX3_readCatch 4 = .ok (.getfield 181, 3) := by decide +kernel
theorem dX3_readCatch_7 : decode cX3_readCatch 7 = .ok (.invokevirtual 110, 3) := by decide +kernel
theorem dX3_readCatch_10 : decode cX3_readCatch 10 = .ok (.istore 4, 2) := by decide +kernel
theorem dX3_readCatch_12 : decode cX3_readCatch 12 = .ok (.aload_n 0, 1) := by decide +kernel
theorem dX3_readCatch_13 : decode cX3_readCatch 13 = .ok (.invokevirtual 89, 3) := by decide +kernel
theorem dX3_readCatch_16 : decode cX3_readCatch 16 = .ok (.aload_n 0, 1) := by decide +kernel
theorem dX3_readCatch_17 : decode cX3_readCatch 17 = .ok (.invokevirtual 107, 3) := by decide +kernel
theorem dX3_readCatch_20 : decode cX3_readCatch 20 = .ok (.istore 5, 2) := by decide +kernel
theorem dX3_readCatch_22 : decode cX3_readCatch 22 = .ok (.aload_n 0, 1) := by decide +kernel
theorem dX3_readCatch_23 : decode cX3_readCatch 23 = .ok (.getfield 15, 3) := by decide +kernel
theorem dX3_readCatch_26 : decode cX3_readCatch 26 = .ok (.getfield 181, 3) := by decide +kernel
theorem dX3_readCatch_29 : decode cX3_readCatch 29 = .ok (.iload 4, 2) := by decide +kernel
theorem dX3_readCatch_31 : decode cX3_readCatch 31 = .ok (.iconst 0, 1) := by decide +kernel
theorem dX3_readCatch_32 : decode cX3_readCatch 32 = .ok (.iload_n 1, 1) := by decide +kernel
theorem dX3_readCatch_33 : decode cX3_readCatch 33 = .ok (.invokevirtual 60, 3) := by decide +kernel
theorem dX3_readCatch_36 : decode cX3_readCatch 36 = .ok (.aload_n 0, 1) := by decide +kernel
theorem dX3_readCatch_37 : decode cX3_readCatch 37 = .ok (.getfield 15, 3) := by decide +kernel
theorem dX3_readCatch_40 : decode cX3_readCatch 40 = .ok (.getfield 181, 3) := by decide +kernel
theorem dX3_readCatch_43 : decode cX3_readCatch 43 = .ok (.iload 4, 2) := by decide +kernel
theorem dX3_readCatch_45 : decode cX3_readCatch 45 = .ok (.iconst 2, 1) := by decide +kernel
theorem dX3_readCatch_46 : decode cX3_readCatch 46 = .ok (.aload_n 0, 1) := by decide +kernel
theorem dX3_readCatch_47 : decode cX3_readCatch 47 = .ok (.getfield 15, 3) := by decide +kernel
theorem dX3_readCatch_50 : decode cX3_readCatch 50 = .ok (.iload_n 1, 1) := by decide +kernel
theorem dX3_readCatch_51 : decode cX3_readCatch 51 = .ok (.iload 5, 2) := by decide +kernel
theorem dX3_readCatch_53 : decode cX3_readCatch 53 = .ok (.invokevirtual 184, 3) := by decide +kernel
theorem dX3_readCatch_56 : decode cX3_readCatch 56 = .ok (.bipush (-9), 2) := by decide +kernel
theorem dX3_readCatch_58 : decode cX3_readCatch 58 = .ok (.if_icmp .ne 7, 3) := by decide +kernel
theorem dX3_readCatch_61 : decode cX3_readCatch 61 = .ok (.iconst 0, 1) := by decide +kernel
theorem dX3_readCatch_62 : decode cX3_readCatch 62 = .ok (.goto 4, 3) := by decide +kernel
theorem dX3_readCatch_65 : decode cX3_readCatch 65 = .ok (.iconst 1, 1) := by decide +kernel
theorem dX3_readCatch_66 : decode cX3_readCatch 66 = .ok (.invokevirtual 60, 3) := by decide +kernel
theorem dX3_readCatch_69 : decode cX3_readCatch 69 = .ok (.aload_n 0, 1) := by decide +kernel
theorem dX3_readCatch_70 : decode cX3_readCatch 70 = .ok (.getfield 15, 3) := by decide +kernel
theorem dX3_readCatch_73 : decode cX3_readCatch 73 = .ok (.getfield 181, 3) := by decide +kernel
theorem dX3_readCatch_76 : decode cX3_readCatch 76 = .ok (.iload 4, 2) := by decide +kernel
theorem dX3_readCatch_78 : decode cX3_readCatch 78 = .ok (.iconst 1, 1) := by decide +kernel
theorem dX3_readCatch_79 : decode cX3_readCatch 79 = .ok (.iload 5, 2) := by decide +kernel
theorem dX3_readCatch_81 : decode cX3_readCatch 81 = .ok (.invokevirtual 60, 3) := by decide +kernel
theorem dX3_readCatch_84 : decode cX3_readCatch 84 = .ok (.iload_n 3, 1) := by decide +kernel
theorem dX3_readCatch_85 : decode cX3_readCatch 85 = .ok (.bipush (-9), 2) := by decide +kernel
theorem dX3_readCatch_87 : decode cX3_readCatch 87 = .ok (.if_icmp .ne 21, 3) := by decide +kernel
theorem dX3_readCatch_90 : decode cX3_readCatch 90 = .ok (.aload_n 0, 1) := by decide +kernel
theorem dX3_readCatch_91 : decode cX3_readCatch 91 = .ok (.getfield 15, 3) := by decide +kernel
theorem dX3_readCatch_94 : decode cX3_readCatch 94 = .ok (.getfield 117, 3) := by decide +kernel
theorem dX3_readCatch_97 : decode cX3_readCatch 97 = .ok (.iload_n 1, 1) := by decide +kernel
theorem dX3_readCatch_98 : decode cX3_readCatch 98 = .ok (.bipush 11, 2) := by decide +kernel
theorem dX3_readCatch_100 : decode cX3_readCatch 100 = .ok (.iload 4, 2) := by decide +kernel
theorem dX3_readCatch_102 : decode cX3_readCatch 102 = .ok (.invokevirtual 60, 3) := by decide +kernel
theorem dX3_readCatch_105 : decode cX3_readCatch 105 = .ok (.goto 17, 3) := by decide +kernel
theorem dX3_readCatch_108 : decode cX3_readCatch 108 = .ok (.aload_n 0, 1) := by decide +kernel
theorem dX3_readCatch_109 : decode cX3_readCatch 109 = .ok (.getfield 15, 3) := by decide +kernel
theorem dX3_readCatch_112 : decode cX3_readCatch 112 = .ok (.getfield 181, 3) := by decide +kernel
theorem dX3_readCatch_115 : decode cX3_readCatch 115 = .ok (.iload_n 3, 1) := by decide +kernel
theorem dX3_readCatch_116 : decode cX3_readCatch 116 = .ok (.iconst 4, 1) := by decide +kernel
theorem dX3_readCatch_117 : decode cX3_readCatch 117 = .ok (.iload 4, 2) := by decide +kernel
theorem dX3_readCatch_119 : decode cX3_readCatch 119 = .ok (.invokevirtual 60, 3) := by decide +kernel
theorem dX3_readCatch_122 : decode cX3_readCatch 122 = .ok (.aload_n 0, 1) := by decide +kernel
theorem dX3_readCatch_123 : decode cX3_readCatch 123 = .ok (.getfield 27, 3) := by decide +kernel
theorem dX3_readCatch_126 : decode cX3_readCatch 126 = .ok (.invokevirtual 110, 3) := by decide +kernel
theorem dX3_readCatch_129 : decode cX3_readCatch 129 = .ok (.istore 6, 2) := by decide +kernel
theorem dX3_readCatch_131 : decode cX3_readCatch 131 = .ok (.aload_n 0, 1) := by decide +kernel
theorem dX3_readCatch_132 : decode cX3_readCatch 132 = .ok (.getfield 27, 3) := by decide +kernel
theorem dX3_readCatch_135 : decode cX3_readCatch 135 = .ok (.iload 6, 2) := by decide +kernel
theorem dX3_readCatch_137 : decode cX3_readCatch 137 = .ok (.iconst 0, 1) := by decide +kernel
theorem dX3_readCatch_138 : decode cX3_readCatch 138 = .ok (.iload_n 2, 1) := by decide +kernel
theorem dX3_readCatch_139 : decode cX3_readCatch 139 = .ok (.invokevirtual 60, 3) := by decide +kernel
theorem dX3_readCatch_142 : decode cX3_readCatch 142 = .ok (.aload_n 0, 1) := by decide +kernel
theorem dX3_readCatch_143 : decode cX3_readCatch 143 = .ok (.getfield 15, 3) := by decide +kernel
theorem dX3_readCatch_146 : decode cX3_readCatch 146 = .ok (.getfield 181, 3) := by decide +kernel
theorem dX3_readCatch_149 : decode cX3_readCatch 149 = .ok (.iload 4, 2) := by decide +kernel
theorem dX3_readCatch_151 : decode cX3_readCatch 151 = .ok (.iconst 3, 1) := by decide +kernel
theorem dX3_readCatch_152 : decode cX3_readCatch 152 = .ok (.aload_n 0, 1) := by decide +kernel
theorem dX3_readCatch_153 : decode cX3_readCatch 153 = .ok (.iload_n 1, 1) := by decide +kernel
theorem dX3_readCatch_154 : decode cX3_readCatch 154 = .ok (.iload_n 2, 1) := by decide +kernel
theorem dX3_readCatch_155 : decode cX3_readCatch 155 = .ok (.invokevirtual 168, 3) := by decide +kernel
theorem dX3_readCatch_158 : decode cX3_readCatch 158 = .ok (.invokevirtual 60, 3) := by decide +kernel
theorem dX3_readCatch_161 : decode cX3_readCatch 161 = .ok (.iload 6, 2) := by decide +kernel
theorem dX3_readCatch_163 : decode cX3_readCatch 163 = .ok (.bipush (-9), 2) := by decide +kernel
theorem dX3_readCatch_165 : decode cX3_readCatch 165 = .ok (.if_icmp .eq 10, 3) := by decide +kernel
theorem dX3_readCatch_168 : decode cX3_readCatch 168 = .ok (.aload_n 0, 1) := by decide +kernel
theorem dX3_readCatch_169 : decode cX3_readCatch 169 = .ok (.getfield 27, 3) := by decide +kernel
theorem dX3_readCatch_172 : decode cX3_readCatch 172 = .ok (.invokevirtual 171, 3) := by decide +kernel
theorem dX3_readCatch_175 : decode cX3_readCatch 175 = .ok (.iload 4, 2) := by decide +kernel
theorem dX3_readCatch_177 : decode cX3_readCatch 177 = .ok (.ireturn, 1) := by decide +kernel
set_option maxHeartbeats 8000000 in
set_option maxRecDepth 100000 in
theorem a_D_readCatch (l : Launch) (D : va_G) (g : Nat → ClassId) (dn : Nat) (hdn : dn ≤ 6) (hB : dn < 6 → ∀ (sz : Nat) (h : Nat) (va : Nat → Nat) (vi : Nat → Int32) (vr : Nat → Nat) (vf : Nat → Nat → Int32) (ta : Nat → Nat) (ph : Nat) (tr : Nat → Nat) (tf : Nat → Nat → Int32) (pa : Nat → Nat) (pr : Nat → Nat) (pf : Nat → Nat → Int32) (n1 : Int32) (hw_v : ∀ k, vr k ≤ rdW_lim k) (hw_t : ∀ k, tr k ≤ tkW_lim k) (hw_p : ∀ k, pr k ≤ pgW_lim k), vz_Mi l D (tyG g) yX3_readStatements cX3_readStatements 7 (5 * (6 - (dn + 1)) + 60) (130 * (6 - (dn + 1)) + 2000) 0 0 .int [.ref h, .int n1, .int (nI (dn + 1))] sz (vz_w [rdW g h va vi vr vf (ta 0) ph, tkW g ta tr tf, pgW g ph pa pr pf]) (fun r (u : (Nat → Int32) × (Nat → Nat) × (Nat → Nat → Int32) × (Nat → Nat) × (Nat → Nat → Int32)) => (∀ k, u.2.1 k ≤ rdW_lim k) ∧ (∀ k, u.2.2.2.1 k ≤ pgW_lim k)) (fun u => vz_w [rdW g h va u.1 u.2.1 u.2.2.1 (ta 0) ph, tkW g ta tr tf, pgW g ph pa u.2.2.2.1 u.2.2.2.2])) (sz : Nat) (h : Nat) (va : Nat → Nat) (vi : Nat → Int32) (vr : Nat → Nat) (vf : Nat → Nat → Int32) (ta : Nat → Nat) (ph : Nat) (tr : Nat → Nat) (tf : Nat → Nat → Int32) (pa : Nat → Nat) (pr : Nat → Nat) (pf : Nat → Nat → Int32) (n1 : Int32) (n3 : Int32) (hw_v : ∀ k, vr k ≤ rdW_lim k) (hw_t : ∀ k, tr k ≤ tkW_lim k) (hw_p : ∀ k, pr k ≤ pgW_lim k) : vz_Mi l D (tyG g) yX3_readCatch cX3_readCatch 7 (5 * (6 - dn) + 57) (130 * (6 - dn) + 1919) 0 0 .int [.ref h, .int n1, .int (nI dn), .int n3] sz (vz_w [rdW g h va vi vr vf (ta 0) ph, tkW g ta tr tf, pgW g ph pa pr pf]) (fun r (u : (Nat → Int32) × (Nat → Nat) × (Nat → Nat → Int32) × (Nat → Nat) × (Nat → Nat → Int32)) => (∀ k, u.2.1 k ≤ rdW_lim k) ∧ (∀ k, u.2.2.2.1 k ≤ pgW_lim k)) (fun u => vz_w [rdW g h va u.1 u.2.1 u.2.2.1 (ta 0) ph, tkW g ta tr tf, pgW g ph pa u.2.2.2.1 u.2.2.2.2]) := by
  refine vz_siQ (by decide) (Nat.le_of_ble_eq_true rfl) (fun p e s m args below meth c hx hb hr hml hts hown hlk hin hK hsz A hA H locs hP hD hS ls hl Q hQ => ?_)
  have hl : lv_has ls 7 [(0, .ref h), (1, .int n1), (2, .int (nI dn)), (3, .int n3)] := hl
  have J175 : ∀ (x4_175 : Int32), ∀ (x5_175 : Int32), ∀ (x6_175 : Int32), ∀ (vi_175 : Nat → Int32), ∀ (vr_175 : Nat → Nat), ∀ (vf_175 : Nat → Nat → Int32), ∀ (pr_175 : Nat → Nat), ∀ (pf_175 : Nat → Nat → Int32), (∀ k, vr_175 k ≤ rdW_lim k) → (∀ k, pr_175 k ≤ pgW_lim k) → ∀ (H : Heap) (locs : List Loc) (ls : Array Slot), va_P D vwCl (vz_w [rdW g h va vi_175 vr_175 vf_175 (ta 0) ph, tkW g ta tr tf, pgW g ph pa pr_175 pf_175]) H → va_D A (vz_w [rdW g h va vi_175 vr_175 vf_175 (ta 0) ph, tkW g ta tr tf, pgW g ph pa pr_175 pf_175]) → va_S A s.heap H locs → lv_has ls 7 [(0, .ref h), (1, .int n1), (2, .int (nI dn)), (3, .int n3), (4, .int x4_175), (5, .int x5_175), (6, .int x6_175)] → W p l e { frames := (5 * (6 - dn) + 57), cells := 0, slots := 0, locals := (130 * (6 - dn) + 1919) } s m args below meth c H locs 0 0 Q (F0 m 175 ls []) := by
    intro x4_175 x5_175 x6_175 vi_175 vr_175 vf_175 pr_175 pf_175 hw_v_175 hw_p_175 H locs ls hP hD hS hl
    refine lv_iload hx hb dX3_readCatch_175 (lv_at hl 4 rfl) ?_
    rw [hQ]
    exact vz_iret3 hx hb hr hlk hK hP hD hS (vi_175, vr_175, vf_175, pr_175, pf_175) (⟨hw_v_175, hw_p_175⟩) rfl (Nat.le_refl 0) (Nat.le_refl 0) dX3_readCatch_177
  have J122 : ∀ (x4_122 : Int32), ∀ (x5_122 : Int32), ∀ (vi_122 : Nat → Int32), ∀ (vr_122 : Nat → Nat), ∀ (vf_122 : Nat → Nat → Int32), ∀ (pr_122 : Nat → Nat), ∀ (pf_122 : Nat → Nat → Int32), (∀ k, vr_122 k ≤ rdW_lim k) → (∀ k, pr_122 k ≤ pgW_lim k) → ∀ (H : Heap) (locs : List Loc) (ls : Array Slot), va_P D vwCl (vz_w [rdW g h va vi_122 vr_122 vf_122 (ta 0) ph, tkW g ta tr tf, pgW g ph pa pr_122 pf_122]) H → va_D A (vz_w [rdW g h va vi_122 vr_122 vf_122 (ta 0) ph, tkW g ta tr tf, pgW g ph pa pr_122 pf_122]) → va_S A s.heap H locs → lv_has ls 7 [(0, .ref h), (1, .int n1), (2, .int (nI dn)), (3, .int n3), (4, .int x4_122), (5, .int x5_122)] → W p l e { frames := (5 * (6 - dn) + 57), cells := 0, slots := 0, locals := (130 * (6 - dn) + 1919) } s m args below meth c H locs 0 0 Q (F0 m 122 ls []) := by
    intro x4_122 x5_122 vi_122 vr_122 vf_122 pr_122 pf_122 hw_v_122 hw_p_122 H locs ls hP hD hS hl
    refine lv_aload_n hx hb dX3_readCatch_122 rfl (lv_at hl 0 rfl) ?_
    refine va_get (D := D) (ci := 3) (v := .ref (va 2)) (C := RX3) (T := TX3) (N := 12) hx hb hts inlX3 hown hK hP 0 rfl rfl 2 (by decide) (hts _ q100) (fun _ h => h) rfl dX3_readCatch_123 ?_
    refine vz_Vi2 (ws' := fun u : (Nat × (Nat → Int32)) => vz_w [rdW g h va vi_122 (vz_un vr_122 1 u.1) (vz_uf vf_122 1 u.2) (ta 0) ph, tkW g ta tr tf, pgW g ph pa pr_122 pf_122]) (As := []) (rest := []) hx hb hml hown hts hK hA hP hD hS (c_T_add l D g (va 2) (va 3) H.size 1 6 (vr_122 1) 6 (vf_122 1) ⟨rfl, by decide, by decide, by decide, by decide, hw_v_122 1⟩) kv_X3_110 ⟨by dsimp only; omega, by dsimp only; omega⟩ (q0 := 3) (ci := 6) rfl rfl rfl [3, 4] rfl (by decide) (fun _ => rfl) (fun _ => rfl) hl.1 (Nat.le_of_ble_eq_true rfl) dX3_readCatch_126 ⟨Nat.le_refl _, Nat.le_refl _⟩ rfl (fun v3 ⟨u1R, u1f⟩ H locs ha2 _ hP hD hS => ?_)
    have hq : (vr_122 1) ≤ 6 := hw_v_122 1
    replace ha2 : u1R ≤ 6 := by rcases ha2 with ⟨z1, -, z2, -⟩ | ⟨z1, -, z2, -⟩ <;> (dsimp only at z2; omega)
    obtain ⟨vr_4, hw_vr_4, vf_5, hP, hD⟩ : ∃ vr_4 : Nat → Nat, (∀ k, vr_4 k ≤ rdW_lim k) ∧ ∃ vf_5 : Nat → Nat → Int32, va_P D vwCl (vz_w [rdW g h va vi_122 vr_4 vf_5 (ta 0) ph, tkW g ta tr tf, pgW g ph pa pr_122 pf_122]) H ∧ va_D A (vz_w [rdW g h va vi_122 vr_4 vf_5 (ta 0) ph, tkW g ta tr tf, pgW g ph pa pr_122 pf_122]) := ⟨(vz_un vr_122 1 u1R), (vz_wf hw_v_122 (t := 1) (v := u1R) (ha2)), (vz_uf vf_122 1 u1f), hP, hD⟩
    refine lv_istore (lv' := [(6, .int v3), (0, .ref h), (1, .int n1), (2, .int (nI dn)), (3, .int n3), (4, .int x4_122), (5, .int x5_122)]) hx hb dX3_readCatch_129 hl (by decide) rfl (fun ls hl => ?_)
    refine lv_aload_n hx hb dX3_readCatch_131 rfl (lv_at hl 1 rfl) ?_
    refine va_get (D := D) (ci := 3) (v := .ref (va 2)) (C := RX3) (T := TX3) (N := 12) hx hb hts inlX3 hown hK hP 0 rfl rfl 2 (by decide) (hts _ q100) (fun _ h => h) rfl dX3_readCatch_132 ?_
    refine lv_iload hx hb dX3_readCatch_135 (lv_at hl 0 rfl) ?_
    refine lv_iconst (v := 0) hx hb dX3_readCatch_137 (by decide) ?_
    refine lv_iload_n hx hb dX3_readCatch_138 rfl (lv_at hl 3 rfl) ?_
    refine vz_Vv2 (ws' := fun u : (Nat → Int32) => vz_w [rdW g h va vi_122 vr_4 (vz_uf vf_5 1 u) (ta 0) ph, tkW g ta tr tf, pgW g ph pa pr_122 pf_122]) (As := [.int v3, .int 0, .int (nI dn)]) (rest := []) hx hb hml hown hts hK hA hP hD hS (c_T_set l D g (va 2) (va 3) H.size 1 6 (vr_4 1) 6 (vf_5 1) v3 0 (nI dn) ⟨rfl, by decide, by decide, by decide, by decide, hw_vr_4 1⟩) kv_X3_60 ⟨by dsimp only; omega, by dsimp only; omega⟩ (q0 := 3) (ci := 6) rfl rfl rfl [3, 4] rfl (by decide) (fun _ => rfl) (fun _ => rfl) hl.1 (Nat.le_of_ble_eq_true rfl) dX3_readCatch_139 ⟨Nat.le_refl _, Nat.le_refl _⟩ rfl (fun nf6 H locs _ _ hP hD hS => ?_)
    obtain ⟨vf_7, hP, hD⟩ : ∃ vf_7 : Nat → Nat → Int32, va_P D vwCl (vz_w [rdW g h va vi_122 vr_4 vf_7 (ta 0) ph, tkW g ta tr tf, pgW g ph pa pr_122 pf_122]) H ∧ va_D A (vz_w [rdW g h va vi_122 vr_4 vf_7 (ta 0) ph, tkW g ta tr tf, pgW g ph pa pr_122 pf_122]) := ⟨(vz_uf vf_5 1 nf6), hP, hD⟩
    refine lv_aload_n hx hb dX3_readCatch_142 rfl (lv_at hl 1 rfl) ?_
    refine va_get (D := D) (ci := 3) (v := .ref ph) (C := RX3) (T := TX3) (N := 12) hx hb hts inlX3 hown hK hP 0 rfl rfl 4 (by decide) (hts _ q97) (fun _ h => h) rfl dX3_readCatch_143 ?_
    refine va_get (D := D) (ci := 2) (v := .ref (pa 4)) (C := RX2) (T := TX2) (N := 5) hx hb hts inlX2 hown hK hP 9 rfl rfl 2 (by decide) (hts _ q506) (fun _ h => h) rfl dX3_readCatch_146 ?_
    refine lv_iload hx hb dX3_readCatch_149 (lv_at hl 5 rfl) ?_
    refine lv_iconst (v := 3) hx hb dX3_readCatch_151 (by decide) ?_
    refine lv_aload_n hx hb dX3_readCatch_152 rfl (lv_at hl 1 rfl) ?_
    refine lv_iload_n hx hb dX3_readCatch_153 rfl (lv_at hl 2 rfl) ?_
    refine lv_iload_n hx hb dX3_readCatch_154 rfl (lv_at hl 3 rfl) ?_
    refine vz_Vi3 (As := [.int n1, .int (nI dn)]) (rest := [.int 3, .int x4_122, .ref (pa 4)]) hx hb hml hown hts hK hA hP hD hS (a_D_readBlock l D g dn hdn hB H.size h va vi_122 vr_4 vf_7 ta ph tr tf pa pr_122 pf_122 n1 hw_vr_4 hw_t hw_p_122) kv_X3_168 ⟨by dsimp only; omega, by dsimp only; omega⟩ (q0 := 0) (ci := 3) rfl rfl rfl  hl.1 (Nat.le_of_ble_eq_true rfl) dX3_readCatch_155 ⟨Nat.le_refl _, Nat.le_refl _⟩ rfl (fun v15 ⟨vi_8, vr_9, vf_10, pr_11, pf_12⟩ H locs ⟨hw_13, hw_14⟩ _ hP hD hS => ?_)
    try dsimp only at hw_13 hw_14
    replace hP : va_P D vwCl (vz_w [rdW g h va vi_8 vr_9 vf_10 (ta 0) ph, tkW g ta tr tf, pgW g ph pa pr_11 pf_12]) H := hP
    replace hD : va_D A (vz_w [rdW g h va vi_8 vr_9 vf_10 (ta 0) ph, tkW g ta tr tf, pgW g ph pa pr_11 pf_12]) := hD
    refine vz_Vv2 (ws' := fun u : (Nat → Int32) => vz_w [rdW g h va vi_8 vr_9 vf_10 (ta 0) ph, tkW g ta tr tf, pgW g ph pa pr_11 (vz_uf pf_12 2 u)]) (As := [.int x4_122, .int 3, .int v15]) (rest := []) hx hb hml hown hts hK hA hP hD hS (c_T_set l D g (pa 4) (pa 5) H.size 5 112 (pr_11 2) 560 (pf_12 2) x4_122 3 v15 ⟨rfl, by decide, by decide, by decide, by decide, hw_14 2⟩) kv_X3_60 ⟨by dsimp only; omega, by dsimp only; omega⟩ (q0 := 14) (ci := 6) rfl rfl rfl [14, 15] rfl (by decide) (fun _ => rfl) (fun _ => rfl) hl.1 (Nat.le_of_ble_eq_true rfl) dX3_readCatch_158 ⟨Nat.le_refl _, Nat.le_refl _⟩ rfl (fun nf16 H locs _ _ hP hD hS => ?_)
    obtain ⟨pf_17, hP, hD⟩ : ∃ pf_17 : Nat → Nat → Int32, va_P D vwCl (vz_w [rdW g h va vi_8 vr_9 vf_10 (ta 0) ph, tkW g ta tr tf, pgW g ph pa pr_11 pf_17]) H ∧ va_D A (vz_w [rdW g h va vi_8 vr_9 vf_10 (ta 0) ph, tkW g ta tr tf, pgW g ph pa pr_11 pf_17]) := ⟨(vz_uf pf_12 2 nf16), hP, hD⟩
    refine lv_iload hx hb dX3_readCatch_161 (lv_at hl 0 rfl) ?_
    refine lv_bipush (v := (-9)) hx hb dX3_readCatch_163 (by decide) ?_
    refine lv_icmp_eq (tgt := 175) hx hb dX3_readCatch_165 (by decide) (fun kc18 => ?_) (fun kc18 => ?_)
    · exact J175 x4_122 x5_122 v3 vi_8 vr_9 vf_10 pr_11 pf_17 hw_13 hw_14 H locs ls hP hD hS (lv_sub hl [1, 2, 3, 4, 5, 6, 0] rfl)
    · refine lv_aload_n hx hb dX3_readCatch_168 rfl (lv_at hl 1 rfl) ?_
      refine va_get (D := D) (ci := 3) (v := .ref (va 2)) (C := RX3) (T := TX3) (N := 12) hx hb hts inlX3 hown hK hP 0 rfl rfl 2 (by decide) (hts _ q100) (fun _ h => h) rfl dX3_readCatch_169 ?_
      refine vz_Vv2 (ws' := fun u : Nat => vz_w [rdW g h va vi_8 (vz_un vr_9 1 u) vf_10 (ta 0) ph, tkW g ta tr tf, pgW g ph pa pr_11 pf_17]) (As := []) (rest := []) hx hb hml hown hts hK hA hP hD hS (c_T_drop l D g (va 2) (va 3) H.size (nI 1) (nI 6) (vr_9 1) (Nat.lt_of_le_of_lt (hw_13 1) (by decide))) kv_X3_171 ⟨by dsimp only; omega, by dsimp only; omega⟩ (q0 := 3) (ci := 6) rfl rfl rfl [3] rfl (by decide) (fun _ => rfl) (fun _ => rfl) hl.1 (Nat.le_of_ble_eq_true rfl) dX3_readCatch_172 ⟨Nat.le_refl _, Nat.le_refl _⟩ rfl (fun u19 H locs ha20 _ hP hD hS => ?_)
      obtain ⟨vr_21, hw_vr_21, hP, hD⟩ : ∃ vr_21 : Nat → Nat, (∀ k, vr_21 k ≤ rdW_lim k) ∧ va_P D vwCl (vz_w [rdW g h va vi_8 vr_21 vf_10 (ta 0) ph, tkW g ta tr tf, pgW g ph pa pr_11 pf_17]) H ∧ va_D A (vz_w [rdW g h va vi_8 vr_21 vf_10 (ta 0) ph, tkW g ta tr tf, pgW g ph pa pr_11 pf_17]) := ⟨(vz_un vr_9 1 u19), (vz_wf hw_13 (t := 1) (v := u19) (Nat.le_trans ha20 (hw_13 1))), hP, hD⟩
      exact J175 x4_122 x5_122 v3 vi_8 vr_21 vf_10 pr_11 pf_17 hw_vr_21 hw_14 H locs ls hP hD hS (lv_sub hl [1, 2, 3, 4, 5, 6, 0] rfl)
  have J66 : ∀ (x4_66 : Int32), ∀ (x5_66 : Int32), ∀ (y0_66 : Int32), ∀ (y2_66 : Int32), ∀ (vi_66 : Nat → Int32), ∀ (vr_66 : Nat → Nat), ∀ (vf_66 : Nat → Nat → Int32), ∀ (pr_66 : Nat → Nat), ∀ (pf_66 : Nat → Nat → Int32), (y0_66 = 0 ∨ y0_66 = 1) → (∀ k, vr_66 k ≤ rdW_lim k) → (∀ k, pr_66 k ≤ pgW_lim k) → ∀ (H : Heap) (locs : List Loc) (ls : Array Slot), va_P D vwCl (vz_w [rdW g h va vi_66 vr_66 vf_66 (ta 0) ph, tkW g ta tr tf, pgW g ph pa pr_66 pf_66]) H → va_D A (vz_w [rdW g h va vi_66 vr_66 vf_66 (ta 0) ph, tkW g ta tr tf, pgW g ph pa pr_66 pf_66]) → va_S A s.heap H locs → lv_has ls 7 [(0, .ref h), (1, .int n1), (2, .int (nI dn)), (3, .int n3), (4, .int x4_66), (5, .int x5_66)] → W p l e { frames := (5 * (6 - dn) + 57), cells := 0, slots := 0, locals := (130 * (6 - dn) + 1919) } s m args below meth c H locs 0 0 Q (F0 m 66 ls [.int y0_66, .int 2, .int y2_66, .ref (pa 4)]) := by
    intro x4_66 x5_66 y0_66 y2_66 vi_66 vr_66 vf_66 pr_66 pf_66 hz_y0_66 hw_v_66 hw_p_66 H locs ls hP hD hS hl
    refine vz_Vv2 (ws' := fun u : (Nat → Int32) => vz_w [rdW g h va vi_66 vr_66 vf_66 (ta 0) ph, tkW g ta tr tf, pgW g ph pa pr_66 (vz_uf pf_66 2 u)]) (As := [.int y2_66, .int 2, .int y0_66]) (rest := []) hx hb hml hown hts hK hA hP hD hS (c_T_set l D g (pa 4) (pa 5) H.size 5 112 (pr_66 2) 560 (pf_66 2) y2_66 2 y0_66 ⟨rfl, by decide, by decide, by decide, by decide, hw_p_66 2⟩) kv_X3_60 ⟨by dsimp only; omega, by dsimp only; omega⟩ (q0 := 14) (ci := 6) rfl rfl rfl [14, 15] rfl (by decide) (fun _ => rfl) (fun _ => rfl) hl.1 (Nat.le_of_ble_eq_true rfl) dX3_readCatch_66 ⟨Nat.le_refl _, Nat.le_refl _⟩ rfl (fun nf1 H locs _ _ hP hD hS => ?_)
    obtain ⟨pf_2, hP, hD⟩ : ∃ pf_2 : Nat → Nat → Int32, va_P D vwCl (vz_w [rdW g h va vi_66 vr_66 vf_66 (ta 0) ph, tkW g ta tr tf, pgW g ph pa pr_66 pf_2]) H ∧ va_D A (vz_w [rdW g h va vi_66 vr_66 vf_66 (ta 0) ph, tkW g ta tr tf, pgW g ph pa pr_66 pf_2]) := ⟨(vz_uf pf_66 2 nf1), hP, hD⟩
    refine lv_aload_n hx hb dX3_readCatch_69 rfl (lv_at hl 0 rfl) ?_
    refine va_get (D := D) (ci := 3) (v := .ref ph) (C := RX3) (T := TX3) (N := 12) hx hb hts inlX3 hown hK hP 0 rfl rfl 4 (by decide) (hts _ q97) (fun _ h => h) rfl dX3_readCatch_70 ?_
    refine va_get (D := D) (ci := 2) (v := .ref (pa 4)) (C := RX2) (T := TX2) (N := 5) hx hb hts inlX2 hown hK hP 9 rfl rfl 2 (by decide) (hts _ q506) (fun _ h => h) rfl dX3_readCatch_73 ?_
    refine lv_iload hx hb dX3_readCatch_76 (lv_at hl 4 rfl) ?_
    refine lv_iconst (v := 1) hx hb dX3_readCatch_78 (by decide) ?_
    refine lv_iload hx hb dX3_readCatch_79 (lv_at hl 5 rfl) ?_
    refine vz_Vv2 (ws' := fun u : (Nat → Int32) => vz_w [rdW g h va vi_66 vr_66 vf_66 (ta 0) ph, tkW g ta tr tf, pgW g ph pa pr_66 (vz_uf pf_2 2 u)]) (As := [.int x4_66, .int 1, .int x5_66]) (rest := []) hx hb hml hown hts hK hA hP hD hS (c_T_set l D g (pa 4) (pa 5) H.size 5 112 (pr_66 2) 560 (pf_2 2) x4_66 1 x5_66 ⟨rfl, by decide, by decide, by decide, by decide, hw_p_66 2⟩) kv_X3_60 ⟨by dsimp only; omega, by dsimp only; omega⟩ (q0 := 14) (ci := 6) rfl rfl rfl [14, 15] rfl (by decide) (fun _ => rfl) (fun _ => rfl) hl.1 (Nat.le_of_ble_eq_true rfl) dX3_readCatch_81 ⟨Nat.le_refl _, Nat.le_refl _⟩ rfl (fun nf3 H locs _ _ hP hD hS => ?_)
    obtain ⟨pf_4, hP, hD⟩ : ∃ pf_4 : Nat → Nat → Int32, va_P D vwCl (vz_w [rdW g h va vi_66 vr_66 vf_66 (ta 0) ph, tkW g ta tr tf, pgW g ph pa pr_66 pf_4]) H ∧ va_D A (vz_w [rdW g h va vi_66 vr_66 vf_66 (ta 0) ph, tkW g ta tr tf, pgW g ph pa pr_66 pf_4]) := ⟨(vz_uf pf_2 2 nf3), hP, hD⟩
    refine lv_iload_n hx hb dX3_readCatch_84 rfl (lv_at hl 3 rfl) ?_
    refine lv_bipush (v := (-9)) hx hb dX3_readCatch_85 (by decide) ?_
    refine lv_icmp_ne (tgt := 108) hx hb dX3_readCatch_87 (by decide) (fun kc5 => ?_) (fun kc5 => ?_)
    · refine lv_aload_n hx hb dX3_readCatch_108 rfl (lv_at hl 0 rfl) ?_
      refine va_get (D := D) (ci := 3) (v := .ref ph) (C := RX3) (T := TX3) (N := 12) hx hb hts inlX3 hown hK hP 0 rfl rfl 4 (by decide) (hts _ q97) (fun _ h => h) rfl dX3_readCatch_109 ?_
      refine va_get (D := D) (ci := 2) (v := .ref (pa 4)) (C := RX2) (T := TX2) (N := 5) hx hb hts inlX2 hown hK hP 9 rfl rfl 2 (by decide) (hts _ q506) (fun _ h => h) rfl dX3_readCatch_112 ?_
      refine lv_iload_n hx hb dX3_readCatch_115 rfl (lv_at hl 3 rfl) ?_
      refine lv_iconst (v := 4) hx hb dX3_readCatch_116 (by decide) ?_
      refine lv_iload hx hb dX3_readCatch_117 (lv_at hl 4 rfl) ?_
      refine vz_Vv2 (ws' := fun u : (Nat → Int32) => vz_w [rdW g h va vi_66 vr_66 vf_66 (ta 0) ph, tkW g ta tr tf, pgW g ph pa pr_66 (vz_uf pf_4 2 u)]) (As := [.int n3, .int 4, .int x4_66]) (rest := []) hx hb hml hown hts hK hA hP hD hS (c_T_set l D g (pa 4) (pa 5) H.size 5 112 (pr_66 2) 560 (pf_4 2) n3 4 x4_66 ⟨rfl, by decide, by decide, by decide, by decide, hw_p_66 2⟩) kv_X3_60 ⟨by dsimp only; omega, by dsimp only; omega⟩ (q0 := 14) (ci := 6) rfl rfl rfl [14, 15] rfl (by decide) (fun _ => rfl) (fun _ => rfl) hl.1 (Nat.le_of_ble_eq_true rfl) dX3_readCatch_119 ⟨Nat.le_refl _, Nat.le_refl _⟩ rfl (fun nf6 H locs _ _ hP hD hS => ?_)
      obtain ⟨pf_7, hP, hD⟩ : ∃ pf_7 : Nat → Nat → Int32, va_P D vwCl (vz_w [rdW g h va vi_66 vr_66 vf_66 (ta 0) ph, tkW g ta tr tf, pgW g ph pa pr_66 pf_7]) H ∧ va_D A (vz_w [rdW g h va vi_66 vr_66 vf_66 (ta 0) ph, tkW g ta tr tf, pgW g ph pa pr_66 pf_7]) := ⟨(vz_uf pf_4 2 nf6), hP, hD⟩
      exact J122 x4_66 x5_66 vi_66 vr_66 vf_66 pr_66 pf_7 hw_v_66 hw_p_66 H locs ls hP hD hS (lv_sub hl [0, 1, 2, 3, 4, 5] rfl)
    · refine lv_aload_n hx hb dX3_readCatch_90 rfl (lv_at hl 0 rfl) ?_
      refine va_get (D := D) (ci := 3) (v := .ref ph) (C := RX3) (T := TX3) (N := 12) hx hb hts inlX3 hown hK hP 0 rfl rfl 4 (by decide) (hts _ q97) (fun _ h => h) rfl dX3_readCatch_91 ?_
      refine va_get (D := D) (ci := 2) (v := .ref (pa 0)) (C := RX2) (T := TX2) (N := 5) hx hb hts inlX2 hown hK hP 9 rfl rfl 0 (by decide) (hts _ q500) (fun _ h => h) rfl dX3_readCatch_94 ?_
      refine lv_iload_n hx hb dX3_readCatch_97 rfl (lv_at hl 1 rfl) ?_
      refine lv_bipush (v := 11) hx hb dX3_readCatch_98 (by decide) ?_
      refine lv_iload hx hb dX3_readCatch_100 (lv_at hl 4 rfl) ?_
      refine vz_Vv2 (ws' := fun u : (Nat → Int32) => vz_w [rdW g h va vi_66 vr_66 vf_66 (ta 0) ph, tkW g ta tr tf, pgW g ph pa pr_66 (vz_uf pf_4 0 u)]) (As := [.int n1, .int 11, .int x4_66]) (rest := []) hx hb hml hown hts hK hA hP hD hS (c_T_set l D g (pa 0) (pa 1) H.size 12 80 (pr_66 0) 960 (pf_4 0) n1 11 x4_66 ⟨rfl, by decide, by decide, by decide, by decide, hw_p_66 0⟩) kv_X3_60 ⟨by dsimp only; omega, by dsimp only; omega⟩ (q0 := 10) (ci := 6) rfl rfl rfl [10, 11] rfl (by decide) (fun _ => rfl) (fun _ => rfl) hl.1 (Nat.le_of_ble_eq_true rfl) dX3_readCatch_102 ⟨Nat.le_refl _, Nat.le_refl _⟩ rfl (fun nf8 H locs _ _ hP hD hS => ?_)
      obtain ⟨pf_9, hP, hD⟩ : ∃ pf_9 : Nat → Nat → Int32, va_P D vwCl (vz_w [rdW g h va vi_66 vr_66 vf_66 (ta 0) ph, tkW g ta tr tf, pgW g ph pa pr_66 pf_9]) H ∧ va_D A (vz_w [rdW g h va vi_66 vr_66 vf_66 (ta 0) ph, tkW g ta tr tf, pgW g ph pa pr_66 pf_9]) := ⟨(vz_uf pf_4 0 nf8), hP, hD⟩
      refine lv_goto (tgt := 122) hx hb dX3_readCatch_105 (by decide) ?_
      exact J122 x4_66 x5_66 vi_66 vr_66 vf_66 pr_66 pf_9 hw_v_66 hw_p_66 H locs ls hP hD hS (lv_sub hl [0, 1, 2, 3, 4, 5] rfl)
  refine lv_aload_n hx hb dX3_readCatch_0 rfl (lv_at hl 0 rfl) ?_
  refine va_get (D := D) (ci := 3) (v := .ref ph) (C := RX3) (T := TX3) (N := 12) hx hb hts inlX3 hown hK hP 0 rfl rfl 4 (by decide) (hts _ q97) (fun _ h => h) rfl dX3_readCatch_1 ?_
  refine va_get (D := D) (ci := 2) (v := .ref (pa 4)) (C := RX2) (T := TX2) (N := 5) hx hb hts inlX2 hown hK hP 9 rfl rfl 2 (by decide) (hts _ q506) (fun _ h => h) rfl dX3_readCatch_4 ?_
  refine vz_Vi2 (ws' := fun u : (Nat × (Nat → Int32)) => vz_w [rdW g h va vi vr vf (ta 0) ph, tkW g ta tr tf, pgW g ph pa (vz_un pr 2 u.1) (vz_uf pf 2 u.2)]) (As := []) (rest := []) hx hb hml hown hts hK hA hP hD hS (c_T_add l D g (pa 4) (pa 5) H.size 5 112 (pr 2) 560 (pf 2) ⟨rfl, by decide, by decide, by decide, by decide, hw_p 2⟩) kv_X3_110 ⟨by dsimp only; omega, by dsimp only; omega⟩ (q0 := 14) (ci := 6) rfl rfl rfl [14, 15] rfl (by decide) (fun _ => rfl) (fun _ => rfl) hl.1 (Nat.le_of_ble_eq_true rfl) dX3_readCatch_7 ⟨Nat.le_refl _, Nat.le_refl _⟩ rfl (fun v3 ⟨u1R, u1f⟩ H locs ha2 _ hP hD hS => ?_)
  have hq : (pr 2) ≤ 112 := hw_p 2
  replace ha2 : u1R ≤ 112 := by rcases ha2 with ⟨z1, -, z2, -⟩ | ⟨z1, -, z2, -⟩ <;> (dsimp only at z2; omega)
  obtain ⟨pr_4, hw_pr_4, pf_5, hP, hD⟩ : ∃ pr_4 : Nat → Nat, (∀ k, pr_4 k ≤ pgW_lim k) ∧ ∃ pf_5 : Nat → Nat → Int32, va_P D vwCl (vz_w [rdW g h va vi vr vf (ta 0) ph, tkW g ta tr tf, pgW g ph pa pr_4 pf_5]) H ∧ va_D A (vz_w [rdW g h va vi vr vf (ta 0) ph, tkW g ta tr tf, pgW g ph pa pr_4 pf_5]) := ⟨(vz_un pr 2 u1R), (vz_wf hw_p (t := 2) (v := u1R) (ha2)), (vz_uf pf 2 u1f), hP, hD⟩
  refine lv_istore (lv' := [(4, .int v3), (0, .ref h), (1, .int n1), (2, .int (nI dn)), (3, .int n3)]) hx hb dX3_readCatch_10 hl (by decide) rfl (fun ls hl => ?_)
  refine lv_aload_n hx hb dX3_readCatch_12 rfl (lv_at hl 1 rfl) ?_
  refine vz_Vv3 (As := []) (rest := []) hx hb hml hown hts hK hA hP hD hS (a_D_advance l D g H.size h va vi vr vf ta ph tr tf pa pr_4 pf_5 hw_v hw_t hw_pr_4) kv_X3_89 ⟨by dsimp only; omega, by dsimp only; omega⟩ (q0 := 0) (ci := 3) rfl rfl rfl  hl.1 (Nat.le_of_ble_eq_true rfl) dX3_readCatch_13 ⟨Nat.le_refl _, Nat.le_refl _⟩ rfl (fun vi_6 H locs _ _ hP hD hS => ?_)
  replace hP : va_P D vwCl (vz_w [rdW g h va vi_6 vr vf (ta 0) ph, tkW g ta tr tf, pgW g ph pa pr_4 pf_5]) H := hP
  replace hD : va_D A (vz_w [rdW g h va vi_6 vr vf (ta 0) ph, tkW g ta tr tf, pgW g ph pa pr_4 pf_5]) := hD
  refine lv_aload_n hx hb dX3_readCatch_16 rfl (lv_at hl 1 rfl) ?_
  refine vz_Vi3 (As := []) (rest := []) hx hb hml hown hts hK hA hP hD hS (a_D_readKindName l D g H.size h va vi_6 vr vf ta ph tr tf pa pr_4 pf_5 hw_v hw_t hw_pr_4) kv_X3_107 ⟨by dsimp only; omega, by dsimp only; omega⟩ (q0 := 0) (ci := 3) rfl rfl rfl  hl.1 (Nat.le_of_ble_eq_true rfl) dX3_readCatch_17 ⟨Nat.le_refl _, Nat.le_refl _⟩ rfl (fun v8 vi_7 H locs _ _ hP hD hS => ?_)
  replace hP : va_P D vwCl (vz_w [rdW g h va vi_7 vr vf (ta 0) ph, tkW g ta tr tf, pgW g ph pa pr_4 pf_5]) H := hP
  replace hD : va_D A (vz_w [rdW g h va vi_7 vr vf (ta 0) ph, tkW g ta tr tf, pgW g ph pa pr_4 pf_5]) := hD
  refine lv_istore (lv' := [(5, .int v8), (4, .int v3), (0, .ref h), (1, .int n1), (2, .int (nI dn)), (3, .int n3)]) hx hb dX3_readCatch_20 hl (by decide) rfl (fun ls hl => ?_)
  refine lv_aload_n hx hb dX3_readCatch_22 rfl (lv_at hl 2 rfl) ?_
  refine va_get (D := D) (ci := 3) (v := .ref ph) (C := RX3) (T := TX3) (N := 12) hx hb hts inlX3 hown hK hP 0 rfl rfl 4 (by decide) (hts _ q97) (fun _ h => h) rfl dX3_readCatch_23 ?_
  refine va_get (D := D) (ci := 2) (v := .ref (pa 4)) (C := RX2) (T := TX2) (N := 5) hx hb hts inlX2 hown hK hP 9 rfl rfl 2 (by decide) (hts _ q506) (fun _ h => h) rfl dX3_readCatch_26 ?_
  refine lv_iload hx hb dX3_readCatch_29 (lv_at hl 1 rfl) ?_
  refine lv_iconst (v := 0) hx hb dX3_readCatch_31 (by decide) ?_
  refine lv_iload_n hx hb dX3_readCatch_32 rfl (lv_at hl 3 rfl) ?_
  refine vz_Vv2 (ws' := fun u : (Nat → Int32) => vz_w [rdW g h va vi_7 vr vf (ta 0) ph, tkW g ta tr tf, pgW g ph pa pr_4 (vz_uf pf_5 2 u)]) (As := [.int v3, .int 0, .int n1]) (rest := []) hx hb hml hown hts hK hA hP hD hS (c_T_set l D g (pa 4) (pa 5) H.size 5 112 (pr_4 2) 560 (pf_5 2) v3 0 n1 ⟨rfl, by decide, by decide, by decide, by decide, hw_pr_4 2⟩) kv_X3_60 ⟨by dsimp only; omega, by dsimp only; omega⟩ (q0 := 14) (ci := 6) rfl rfl rfl [14, 15] rfl (by decide) (fun _ => rfl) (fun _ => rfl) hl.1 (Nat.le_of_ble_eq_true rfl) dX3_readCatch_33 ⟨Nat.le_refl _, Nat.le_refl _⟩ rfl (fun nf9 H locs _ _ hP hD hS => ?_)
  obtain ⟨pf_10, hP, hD⟩ : ∃ pf_10 : Nat → Nat → Int32, va_P D vwCl (vz_w [rdW g h va vi_7 vr vf (ta 0) ph, tkW g ta tr tf, pgW g ph pa pr_4 pf_10]) H ∧ va_D A (vz_w [rdW g h va vi_7 vr vf (ta 0) ph, tkW g ta tr tf, pgW g ph pa pr_4 pf_10]) := ⟨(vz_uf pf_5 2 nf9), hP, hD⟩
  refine lv_aload_n hx hb dX3_readCatch_36 rfl (lv_at hl 2 rfl) ?_
  refine va_get (D := D) (ci := 3) (v := .ref ph) (C := RX3) (T := TX3) (N := 12) hx hb hts inlX3 hown hK hP 0 rfl rfl 4 (by decide) (hts _ q97) (fun _ h => h) rfl dX3_readCatch_37 ?_
  refine va_get (D := D) (ci := 2) (v := .ref (pa 4)) (C := RX2) (T := TX2) (N := 5) hx hb hts inlX2 hown hK hP 9 rfl rfl 2 (by decide) (hts _ q506) (fun _ h => h) rfl dX3_readCatch_40 ?_
  refine lv_iload hx hb dX3_readCatch_43 (lv_at hl 1 rfl) ?_
  refine lv_iconst (v := 2) hx hb dX3_readCatch_45 (by decide) ?_
  refine lv_aload_n hx hb dX3_readCatch_46 rfl (lv_at hl 2 rfl) ?_
  refine va_get (D := D) (ci := 3) (v := .ref ph) (C := RX3) (T := TX3) (N := 12) hx hb hts inlX3 hown hK hP 0 rfl rfl 4 (by decide) (hts _ q97) (fun _ h => h) rfl dX3_readCatch_47 ?_
  refine lv_iload_n hx hb dX3_readCatch_50 rfl (lv_at hl 3 rfl) ?_
  refine lv_iload hx hb dX3_readCatch_51 (lv_at hl 0 rfl) ?_
  refine vz_Vi4 (n9 := 3) (bs2 := fun u : Unit => [rdW g h va vi_7 vr vf (ta 0) ph, tkW g ta tr tf, pgW g ph pa pr_4 pf_10]) (br := [rdW g h va vi_7 vr vf (ta 0) ph, tkW g ta tr tf]) (As := [.int n1, .int v8]) (rest := [.int 2, .int v3, .ref (pa 4)]) hx hb hml hown hts hK hA hP hD hS (a_P_catchOf l D g H.size ph pa pr_4 pf_10 n1 v8 hw_pr_4) kv_X3_184 ⟨by dsimp only; omega, by dsimp only; omega⟩ (q0 := 9) (ci := 2) rfl rfl rfl [2] [0, 1] rfl (by decide) rfl (fun _ => rfl) (fun _ => rfl) hl.1 (Nat.le_of_ble_eq_true rfl) dX3_readCatch_53 ⟨Nat.le_refl _, Nat.le_refl _⟩ rfl (fun v11 _ H locs _ _ hP hD hS => ?_)
  refine lv_bipush (v := (-9)) hx hb dX3_readCatch_56 (by decide) ?_
  refine lv_icmp_ne (tgt := 65) hx hb dX3_readCatch_58 (by decide) (fun kc12 => ?_) (fun kc12 => ?_)
  · refine lv_iconst (v := 1) hx hb dX3_readCatch_65 (by decide) ?_
    exact J66 v3 v8 1 v3 vi_7 vr vf pr_4 pf_10 (Or.inr rfl) hw_v hw_pr_4 H locs ls hP hD hS (lv_sub hl [2, 3, 4, 5, 1, 0] rfl)
  · refine lv_iconst (v := 0) hx hb dX3_readCatch_61 (by decide) ?_
    refine lv_goto (tgt := 66) hx hb dX3_readCatch_62 (by decide) ?_
    exact J66 v3 v8 0 v3 vi_7 vr vf pr_4 pf_10 (Or.inl rfl) hw_v hw_pr_4 H locs ls hP hD hS (lv_sub hl [2, 3, 4, 5, 1, 0] rfl)
theorem q524 : Cond.methodLink RX3 174 yX3_readResources ∈ wsL_law := mT_3 (List.mem_of_getElem? (i := 231) rfl) rfl
theorem q525 : Cond.instanceMethod yX3_readResources ∈ wsL_law := mT_3 (List.mem_of_getElem? (i := 233) rfl) rfl
theorem q526 : Cond.selects RX3 yX3_readResources yX3_readResources ∈ wsL_law := mS_2 (q := (yX3_readResources, 12)) (List.mem_of_getElem? (i := 9) rfl) rfl
theorem q527 : Cond.code yX3_readResources cX3_readResources 2 (some .int) ∈ wsL_law := mT_3 (List.mem_of_getElem? (i := 234) rfl) rfl
theorem kv_X3_174 : vz_cv RX3 174 yX3_readResources cX3_readResources 2 (some .int) 0 := ⟨q524, q525, q526, q28, q527, by decide +kernel⟩
theorem q528 : Cond.methodLink RX3 177 yX3_readCatch ∈ wsL_law := mT_3 (List.mem_of_getElem? (i := 235) rfl) rfl
theorem q529 : Cond.instanceMethod yX3_readCatch ∈ wsL_law := mT_3 (List.mem_of_getElem? (i := 237) rfl) rfl
theorem q530 : Cond.selects RX3 yX3_readCatch yX3_readCatch ∈ wsL_law := mS_2 (q := (yX3_readCatch, 12)) (List.mem_of_getElem? (i := 10) rfl) rfl
theorem q505 : Cond.code yX3_readCatch cX3_readCatch 7 (some .int) ∈ wsL_law := mT_3 (List.mem_of_getElem? (i := 238) rfl) rfl
theorem kv_X3_177 : vz_cv RX3 177 yX3_readCatch cX3_readCatch 7 (some .int) 3 := ⟨q528, q529, q530, q28, q505, by decide +kernel⟩
theorem dX3_readGuard_0 : decode cX3_readGuard 0 = .ok (.aload_n 0, 1) := by decide +kernel
theorem dX3_readGuard_1 : decode cX3_readGuard 1 = .ok (.getfield 15, 3) := by decide +kernel
theorem dX3_readGuard_4 : decode cX3_readGuard 4 = .ok (.getfield 117, 3) := by decide +kernel
theorem dX3_readGuard_7 : decode cX3_readGuard 7 = .ok (.iload_n 1, 1) := by decide +kernel
theorem dX3_readGuard_8 : decode cX3_readGuard 8 = .ok (.iconst 0, 1) := by decide +kernel
theorem dX3_readGuard_9 : decode cX3_readGuard 9 = .ok (.bipush 15, 2) := by decide +kernel
theorem dX3_readGuard_11 : decode cX3_readGuard 11 = .ok (.invokevirtual 60, 3) := by decide +kernel
theorem dX3_readGuard_14 : decode cX3_readGuard 14 = .ok (.aload_n 0, 1) := by decide +kernel
theorem dX3_readGuard_15 : decode cX3_readGuard 15 = .ok (.getfield 41, 3) := by decide +kernel
theorem dX3_readGuard_18 : decode cX3_readGuard 18 = .ok (.sipush 145, 3) := by decide +kernel
theorem dX3_readGuard_21 : decode cX3_readGuard 21 = .ok (.if_icmp .ne 7, 3) := by decide +kernel
theorem dX3_readGuard_24 : decode cX3_readGuard 24 = .ok (.iconst 1, 1) := by decide +kernel
theorem dX3_readGuard_25 : decode cX3_readGuard 25 = .ok (.goto 4, 3) := by decide +kernel
theorem dX3_readGuard_28 : decode cX3_readGuard 28 = .ok (.iconst 0, 1) := by decide +kernel
theorem dX3_readGuard_29 : decode cX3_readGuard 29 = .ok (.istore_n 3, 1) := by decide +kernel
theorem dX3_readGuard_30 : decode cX3_readGuard 30 = .ok (.aload_n 0, 1) := by decide +kernel
theorem dX3_readGuard_31 : decode cX3_readGuard 31 = .ok (.invokevirtual 89, 3) := by decide +kernel
theorem dX3_readGuard_34 : decode cX3_readGuard 34 = .ok (.aload_n 0, 1) := by decide +kernel
theorem dX3_readGuard_35 : decode cX3_readGuard 35 = .ok (.getfield 15, 3) := by decide +kernel
theorem dX3_readGuard_38 : decode cX3_readGuard 38 = .ok (.getfield 117, 3) := by decide +kernel
theorem dX3_readGuard_41 : decode cX3_readGuard 41 = .ok (.iload_n 1, 1) := by decide +kernel
theorem dX3_readGuard_42 : decode cX3_readGuard 42 = .ok (.iconst 1, 1) := by decide +kernel
theorem dX3_readGuard_43 : decode cX3_readGuard 43 = .ok (.iload_n 3, 1) := by decide +kernel
theorem dX3_readGuard_44 : decode cX3_readGuard 44 = .ok (.ifCond .eq 10, 3) := by decide +kernel
theorem dX3_readGuard_47 : decode cX3_readGuard 47 = .ok (.aload_n 0, 1) := by decide +kernel
theorem dX3_readGuard_48 : decode cX3_readGuard 48 = .ok (.invokevirtual 174, 3) := by decide +kernel
theorem dX3_readGuard_51 : decode cX3_readGuard 51 = .ok (.goto 4, 3) := by decide +kernel
theorem dX3_readGuard_54 : decode cX3_readGuard 54 = .ok (.iconst 0, 1) := by decide +kernel
theorem dX3_readGuard_55 : decode cX3_readGuard 55 = .ok (.invokevirtual 60, 3) := by decide +kernel
theorem dX3_readGuard_58 : decode cX3_readGuard 58 = .ok (.aload_n 0, 1) := by decide +kernel
theorem dX3_readGuard_59 : decode cX3_readGuard 59 = .ok (.getfield 15, 3) := by decide +kernel
theorem dX3_readGuard_62 : decode cX3_readGuard 62 = .ok (.getfield 117, 3) := by decide +kernel
theorem dX3_readGuard_65 : decode cX3_readGuard 65 = .ok (.iload_n 1, 1) := by decide +kernel
theorem dX3_readGuard_66 : decode cX3_readGuard 66 = .ok (.iconst 5, 1) := by decide +kernel
theorem dX3_readGuard_67 : decode cX3_readGuard 67 = .ok (.aload_n 0, 1) := by decide +kernel
theorem dX3_readGuard_68 : decode cX3_readGuard 68 = .ok (.iload_n 1, 1) := by decide +kernel
theorem dX3_readGuard_69 : decode cX3_readGuard 69 = .ok (.iload_n 2, 1) := by decide +kernel
theorem dX3_readGuard_70 : decode cX3_readGuard 70 = .ok (.invokevirtual 168, 3) := by decide +kernel
theorem dX3_readGuard_73 : decode cX3_readGuard 73 = .ok (.invokevirtual 60, 3) := by decide +kernel
theorem dX3_readGuard_76 : decode cX3_readGuard 76 = .ok (.bipush (-9), 2) := by decide +kernel
theorem dX3_readGuard_78 : decode cX3_readGuard 78 = .ok (.istore 4, 2) := by decide +kernel
theorem dX3_readGuard_80 : decode cX3_readGuard 80 = .ok (.iconst 0, 1) := by decide +kernel
theorem dX3_readGuard_81 : decode cX3_readGuard 81 = .ok (.istore 5, 2) := by decide +kernel
theorem dX3_readGuard_83 : decode cX3_readGuard 83 = .ok (.iload 5, 2) := by decide +kernel
theorem dX3_readGuard_85 : decode cX3_readGuard 85 = .ok (.bipush 112, 2) := by decide +kernel
theorem dX3_readGuard_87 : decode cX3_readGuard 87 = .ok (.if_icmp .ge 29, 3) := by decide +kernel
theorem dX3_readGuard_90 : decode cX3_readGuard 90 = .ok (.aload_n 0, 1) := by decide +kernel
theorem dX3_readGuard_91 : decode cX3_readGuard 91 = .ok (.getfield 41, 3) := by decide +kernel
theorem dX3_readGuard_94 : decode cX3_readGuard 94 = .ok (.sipush 146, 3) := by decide +kernel
theorem dX3_readGuard_97 : decode cX3_readGuard 97 = .ok (.if_icmp .ne 19, 3) := by decide +kernel
theorem dX3_readGuard_100 : decode cX3_readGuard 100 = .ok (.aload_n 0, 1) := by decide +kernel
theorem dX3_readGuard_101 : decode cX3_readGuard 101 = .ok (.iload_n 1, 1) := by decide +kernel
theorem dX3_readGuard_102 : decode cX3_readGuard 102 = .ok (.iload_n 2, 1) := by decide +kernel
theorem dX3_readGuard_103 : decode cX3_readGuard 103 = .ok (.iload 4, 2) := by decide +kernel
theorem dX3_readGuard_105 : decode cX3_readGuard 105 = .ok (.invokevirtual 177, 3) := by decide +kernel
theorem dX3_readGuard_108 : decode cX3_readGuard 108 = .ok (.istore 4, 2) := by decide +kernel
theorem dX3_readGuard_110 : decode cX3_readGuard 110 = .ok (.iinc 5 1, 3) := by decide +kernel
theorem dX3_readGuard_113 : decode cX3_readGuard 113 = .ok (.goto (-30), 3) := by decide +kernel
theorem dX3_readGuard_116 : decode cX3_readGuard 116 = .ok (.aload_n 0, 1) := by decide +kernel
theorem dX3_readGuard_117 : decode cX3_readGuard 117 = .ok (.getfield 41, 3) := by decide +kernel
theorem dX3_readGuard_120 : decode cX3_readGuard 120 = .ok (.sipush 147, 3) := by decide +kernel
theorem dX3_readGuard_123 : decode cX3_readGuard 123 = .ok (.if_icmp .ne 43, 3) := by decide +kernel
theorem dX3_readGuard_126 : decode cX3_readGuard 126 = .ok (.aload_n 0, 1) := by decide +kernel
theorem dX3_readGuard_127 : decode cX3_readGuard 127 = .ok (.invokevirtual 89, 3) := by decide +kernel
theorem dX3_readGuard_130 : decode cX3_readGuard 130 = .ok (.aload_n 0, 1) := by decide +kernel
theorem dX3_readGuard_131 : decode cX3_readGuard 131 = .ok (.getfield 15, 3) := by decide +kernel
theorem dX3_readGuard_134 : decode cX3_readGuard 134 = .ok (.getfield 117, 3) := by decide +kernel
theorem dX3_readGuard_137 : decode cX3_readGuard 137 = .ok (.iload_n 1, 1) := by decide +kernel
theorem dX3_readGuard_138 : decode cX3_readGuard 138 = .ok (.bipush 7, 2) := by decide +kernel
theorem dX3_readGuard_140 : decode cX3_readGuard 140 = .ok (.iconst 1, 1) := by decide +kernel
theorem dX3_readGuard_141 : decode cX3_readGuard 141 = .ok (.invokevirtual 60, 3) := by decide +kernel
theorem dX3_readGuard_144 : decode cX3_readGuard 144 = .ok (.aload_n 0, 1) := by decide +kernel
theorem dX3_readGuard_145 : decode cX3_readGuard 145 = .ok (.getfield 15, 3) := by decide +kernel
theorem dX3_readGuard_148 : decode cX3_readGuard 148 = .ok (.getfield 117, 3) := by decide +kernel
theorem dX3_readGuard_151 : decode cX3_readGuard 151 = .ok (.iload_n 1, 1) := by decide +kernel
theorem dX3_readGuard_152 : decode cX3_readGuard 152 = .ok (.bipush 6, 2) := by decide +kernel
theorem dX3_readGuard_154 : decode cX3_readGuard 154 = .ok (.aload_n 0, 1) := by decide +kernel
theorem dX3_readGuard_155 : decode cX3_readGuard 155 = .ok (.iload_n 1, 1) := by decide +kernel
theorem dX3_readGuard_156 : decode cX3_readGuard 156 = .ok (.iload_n 2, 1) := by decide +kernel
theorem dX3_readGuard_157 : decode cX3_readGuard 157 = .ok (.invokevirtual 168, 3) := by decide +kernel
theorem dX3_readGuard_160 : decode cX3_readGuard 160 = .ok (.invokevirtual 60, 3) := by decide +kernel
theorem dX3_readGuard_163 : decode cX3_readGuard 163 = .ok (.goto 19, 3) := by decide +kernel
theorem dX3_readGuard_166 : decode cX3_readGuard 166 = .ok (.iload_n 3, 1) := by decide +kernel
theorem dX3_readGuard_167 : decode cX3_readGuard 167 = .ok (.ifCond .ne 15, 3) := by decide +kernel
theorem dX3_readGuard_170 : decode cX3_readGuard 170 = .ok (.iload 4, 2) := by decide +kernel
theorem dX3_readGuard_172 : decode cX3_readGuard 172 = .ok (.bipush (-9), 2) := by decide +kernel
theorem dX3_readGuard_174 : decode cX3_readGuard 174 = .ok (.if_icmp .ne 8, 3) := by decide +kernel
theorem dX3_readGuard_177 : decode cX3_readGuard 177 = .ok (.aload_n 0, 1) := by decide +kernel
theorem dX3_readGuard_178 : decode cX3_readGuard 178 = .ok (.iconst 1, 1) := by decide +kernel
theorem dX3_readGuard_179 : decode cX3_readGuard 179 = .ok (.invokevirtual 68, 3) := by decide +kernel
theorem dX3_readGuard_182 : decode cX3_readGuard 182 = .ok (.return_, 1) := by decide +kernel
set_option maxHeartbeats 8000000 in
set_option maxRecDepth 100000 in
theorem a_D_readGuard (l : Launch) (D : va_G) (g : Nat → ClassId) (dn : Nat) (hdn : dn ≤ 6) (hB : dn < 6 → ∀ (sz : Nat) (h : Nat) (va : Nat → Nat) (vi : Nat → Int32) (vr : Nat → Nat) (vf : Nat → Nat → Int32) (ta : Nat → Nat) (ph : Nat) (tr : Nat → Nat) (tf : Nat → Nat → Int32) (pa : Nat → Nat) (pr : Nat → Nat) (pf : Nat → Nat → Int32) (n1 : Int32) (hw_v : ∀ k, vr k ≤ rdW_lim k) (hw_t : ∀ k, tr k ≤ tkW_lim k) (hw_p : ∀ k, pr k ≤ pgW_lim k), vz_Mi l D (tyG g) yX3_readStatements cX3_readStatements 7 (5 * (6 - (dn + 1)) + 60) (130 * (6 - (dn + 1)) + 2000) 0 0 .int [.ref h, .int n1, .int (nI (dn + 1))] sz (vz_w [rdW g h va vi vr vf (ta 0) ph, tkW g ta tr tf, pgW g ph pa pr pf]) (fun r (u : (Nat → Int32) × (Nat → Nat) × (Nat → Nat → Int32) × (Nat → Nat) × (Nat → Nat → Int32)) => (∀ k, u.2.1 k ≤ rdW_lim k) ∧ (∀ k, u.2.2.2.1 k ≤ pgW_lim k)) (fun u => vz_w [rdW g h va u.1 u.2.1 u.2.2.1 (ta 0) ph, tkW g ta tr tf, pgW g ph pa u.2.2.2.1 u.2.2.2.2])) (sz : Nat) (h : Nat) (va : Nat → Nat) (vi : Nat → Int32) (vr : Nat → Nat) (vf : Nat → Nat → Int32) (ta : Nat → Nat) (ph : Nat) (tr : Nat → Nat) (tf : Nat → Nat → Int32) (pa : Nat → Nat) (pr : Nat → Nat) (pf : Nat → Nat → Int32) (n1 : Int32) (hw_v : ∀ k, vr k ≤ rdW_lim k) (hw_t : ∀ k, tr k ≤ tkW_lim k) (hw_p : ∀ k, pr k ≤ pgW_lim k) : vz_Mv l D (tyG g) yX3_readGuard cX3_readGuard 6 (5 * (6 - dn) + 58) (130 * (6 - dn) + 1945) 0 0 [.ref h, .int n1, .int (nI dn)] sz (vz_w [rdW g h va vi vr vf (ta 0) ph, tkW g ta tr tf, pgW g ph pa pr pf]) (fun u : (Nat → Int32) × (Nat → Nat) × (Nat → Nat → Int32) × (Nat → Nat) × (Nat → Nat → Int32) => (∀ k, u.2.1 k ≤ rdW_lim k) ∧ (∀ k, u.2.2.2.1 k ≤ pgW_lim k)) (fun u => vz_w [rdW g h va u.1 u.2.1 u.2.2.1 (ta 0) ph, tkW g ta tr tf, pgW g ph pa u.2.2.2.1 u.2.2.2.2]) := by
  refine vz_svQ (by decide) (Nat.le_of_ble_eq_true rfl) (fun p e s m args below meth c hx hb hr hml hts hown hlk hin hK hsz A hA H locs hP hD hS ls hl Q hQ => ?_)
  have hl : lv_has ls 6 [(0, .ref h), (1, .int n1), (2, .int (nI dn))] := hl
  have J182 : ∀ (x3_182 : Int32), ∀ (x4_182 : Int32), ∀ (x5_182 : Int32), ∀ (vi_182 : Nat → Int32), ∀ (vr_182 : Nat → Nat), ∀ (vf_182 : Nat → Nat → Int32), ∀ (pr_182 : Nat → Nat), ∀ (pf_182 : Nat → Nat → Int32), (x3_182 = 0 ∨ x3_182 = 1) → (∀ k, vr_182 k ≤ rdW_lim k) → (∀ k, pr_182 k ≤ pgW_lim k) → ∀ (H : Heap) (locs : List Loc) (ls : Array Slot), va_P D vwCl (vz_w [rdW g h va vi_182 vr_182 vf_182 (ta 0) ph, tkW g ta tr tf, pgW g ph pa pr_182 pf_182]) H → va_D A (vz_w [rdW g h va vi_182 vr_182 vf_182 (ta 0) ph, tkW g ta tr tf, pgW g ph pa pr_182 pf_182]) → va_S A s.heap H locs → lv_has ls 6 [(0, .ref h), (1, .int n1), (2, .int (nI dn)), (3, .int x3_182), (4, .int x4_182), (5, .int x5_182)] → W p l e { frames := (5 * (6 - dn) + 58), cells := 0, slots := 0, locals := (130 * (6 - dn) + 1945) } s m args below meth c H locs 0 0 Q (F0 m 182 ls []) := by
    intro x3_182 x4_182 x5_182 vi_182 vr_182 vf_182 pr_182 pf_182 hz_x3_182 hw_v_182 hw_p_182 H locs ls hP hD hS hl
    rw [hQ]
    exact vz_vret3 hx hb hr hlk hK hP hD hS (vi_182, vr_182, vf_182, pr_182, pf_182) (⟨hw_v_182, hw_p_182⟩) rfl (Nat.le_refl 0) (Nat.le_refl 0) dX3_readGuard_182
  have J116 : ∀ (x3_116 : Int32), ∀ (x4_116 : Int32), ∀ (x5_116 : Int32), ∀ (vi_116 : Nat → Int32), ∀ (vr_116 : Nat → Nat), ∀ (vf_116 : Nat → Nat → Int32), ∀ (pr_116 : Nat → Nat), ∀ (pf_116 : Nat → Nat → Int32), (x3_116 = 0 ∨ x3_116 = 1) → (∀ k, vr_116 k ≤ rdW_lim k) → (∀ k, pr_116 k ≤ pgW_lim k) → ∀ (H : Heap) (locs : List Loc) (ls : Array Slot), va_P D vwCl (vz_w [rdW g h va vi_116 vr_116 vf_116 (ta 0) ph, tkW g ta tr tf, pgW g ph pa pr_116 pf_116]) H → va_D A (vz_w [rdW g h va vi_116 vr_116 vf_116 (ta 0) ph, tkW g ta tr tf, pgW g ph pa pr_116 pf_116]) → va_S A s.heap H locs → lv_has ls 6 [(0, .ref h), (1, .int n1), (2, .int (nI dn)), (3, .int x3_116), (4, .int x4_116), (5, .int x5_116)] → W p l e { frames := (5 * (6 - dn) + 58), cells := 0, slots := 0, locals := (130 * (6 - dn) + 1945) } s m args below meth c H locs 0 0 Q (F0 m 116 ls []) := by
    intro x3_116 x4_116 x5_116 vi_116 vr_116 vf_116 pr_116 pf_116 hz_x3_116 hw_v_116 hw_p_116 H locs ls hP hD hS hl
    refine lv_aload_n hx hb dX3_readGuard_116 rfl (lv_at hl 0 rfl) ?_
    refine va_get (D := D) (ci := 3) (v := .int (vi_116 1)) (C := RX3) (T := TX3) (N := 12) hx hb hts inlX3 hown hK hP 0 rfl rfl 6 (by decide) (hts _ q443) (fun _ h => h) rfl dX3_readGuard_117 ?_
    refine lv_sipush (v := 147) hx hb dX3_readGuard_120 (by decide) ?_
    refine lv_icmp_ne (tgt := 166) hx hb dX3_readGuard_123 (by decide) (fun kc1 => ?_) (fun kc1 => ?_)
    · refine lv_iload_n hx hb dX3_readGuard_166 rfl (lv_at hl 3 rfl) ?_
      refine lv_if_ne (tgt := 182) hx hb dX3_readGuard_167 (by decide) (fun kc2 => ?_) (fun kc2 => ?_)
      · exact J182 x3_116 x4_116 x5_116 vi_116 vr_116 vf_116 pr_116 pf_116 hz_x3_116 hw_v_116 hw_p_116 H locs ls hP hD hS (lv_sub hl [0, 1, 2, 3, 4, 5] rfl)
      · refine lv_iload hx hb dX3_readGuard_170 (lv_at hl 4 rfl) ?_
        refine lv_bipush (v := (-9)) hx hb dX3_readGuard_172 (by decide) ?_
        refine lv_icmp_ne (tgt := 182) hx hb dX3_readGuard_174 (by decide) (fun kc3 => ?_) (fun kc3 => ?_)
        · exact J182 x3_116 x4_116 x5_116 vi_116 vr_116 vf_116 pr_116 pf_116 hz_x3_116 hw_v_116 hw_p_116 H locs ls hP hD hS (lv_sub hl [0, 1, 2, 3, 4, 5] rfl)
        · refine lv_aload_n hx hb dX3_readGuard_177 rfl (lv_at hl 0 rfl) ?_
          refine lv_iconst (v := 1) hx hb dX3_readGuard_178 (by decide) ?_
          refine vz_Vv3 (As := [.int 1]) (rest := []) hx hb hml hown hts hK hA hP hD hS (a_D_fail l D g H.size h va vi_116 vr_116 vf_116 ta ph tr tf pa pr_116 pf_116 1 hw_v_116 hw_t hw_p_116) kv_X3_68 ⟨by dsimp only; omega, by dsimp only; omega⟩ (q0 := 0) (ci := 3) rfl rfl rfl  hl.1 (Nat.le_of_ble_eq_true rfl) dX3_readGuard_179 ⟨Nat.le_refl _, Nat.le_refl _⟩ rfl (fun vi_4 H locs hp5 _ hP hD hS => ?_)
          try dsimp only at hp5
          replace hP : va_P D vwCl (vz_w [rdW g h va vi_4 vr_116 vf_116 (ta 0) ph, tkW g ta tr tf, pgW g ph pa pr_116 pf_116]) H := hP
          replace hD : va_D A (vz_w [rdW g h va vi_4 vr_116 vf_116 (ta 0) ph, tkW g ta tr tf, pgW g ph pa pr_116 pf_116]) := hD
          exact J182 x3_116 x4_116 x5_116 vi_4 vr_116 vf_116 pr_116 pf_116 hz_x3_116 hw_v_116 hw_p_116 H locs ls hP hD hS (lv_sub hl [0, 1, 2, 3, 4, 5] rfl)
    · refine lv_aload_n hx hb dX3_readGuard_126 rfl (lv_at hl 0 rfl) ?_
      refine vz_Vv3 (As := []) (rest := []) hx hb hml hown hts hK hA hP hD hS (a_D_advance l D g H.size h va vi_116 vr_116 vf_116 ta ph tr tf pa pr_116 pf_116 hw_v_116 hw_t hw_p_116) kv_X3_89 ⟨by dsimp only; omega, by dsimp only; omega⟩ (q0 := 0) (ci := 3) rfl rfl rfl  hl.1 (Nat.le_of_ble_eq_true rfl) dX3_readGuard_127 ⟨Nat.le_refl _, Nat.le_refl _⟩ rfl (fun vi_6 H locs _ _ hP hD hS => ?_)
      replace hP : va_P D vwCl (vz_w [rdW g h va vi_6 vr_116 vf_116 (ta 0) ph, tkW g ta tr tf, pgW g ph pa pr_116 pf_116]) H := hP
      replace hD : va_D A (vz_w [rdW g h va vi_6 vr_116 vf_116 (ta 0) ph, tkW g ta tr tf, pgW g ph pa pr_116 pf_116]) := hD
      refine lv_aload_n hx hb dX3_readGuard_130 rfl (lv_at hl 0 rfl) ?_
      refine va_get (D := D) (ci := 3) (v := .ref ph) (C := RX3) (T := TX3) (N := 12) hx hb hts inlX3 hown hK hP 0 rfl rfl 4 (by decide) (hts _ q97) (fun _ h => h) rfl dX3_readGuard_131 ?_
      refine va_get (D := D) (ci := 2) (v := .ref (pa 0)) (C := RX2) (T := TX2) (N := 5) hx hb hts inlX2 hown hK hP 9 rfl rfl 0 (by decide) (hts _ q500) (fun _ h => h) rfl dX3_readGuard_134 ?_
      refine lv_iload_n hx hb dX3_readGuard_137 rfl (lv_at hl 1 rfl) ?_
      refine lv_bipush (v := 7) hx hb dX3_readGuard_138 (by decide) ?_
      refine lv_iconst (v := 1) hx hb dX3_readGuard_140 (by decide) ?_
      refine vz_Vv2 (ws' := fun u : (Nat → Int32) => vz_w [rdW g h va vi_6 vr_116 vf_116 (ta 0) ph, tkW g ta tr tf, pgW g ph pa pr_116 (vz_uf pf_116 0 u)]) (As := [.int n1, .int 7, .int 1]) (rest := []) hx hb hml hown hts hK hA hP hD hS (c_T_set l D g (pa 0) (pa 1) H.size 12 80 (pr_116 0) 960 (pf_116 0) n1 7 1 ⟨rfl, by decide, by decide, by decide, by decide, hw_p_116 0⟩) kv_X3_60 ⟨by dsimp only; omega, by dsimp only; omega⟩ (q0 := 10) (ci := 6) rfl rfl rfl [10, 11] rfl (by decide) (fun _ => rfl) (fun _ => rfl) hl.1 (Nat.le_of_ble_eq_true rfl) dX3_readGuard_141 ⟨Nat.le_refl _, Nat.le_refl _⟩ rfl (fun nf7 H locs _ _ hP hD hS => ?_)
      obtain ⟨pf_8, hP, hD⟩ : ∃ pf_8 : Nat → Nat → Int32, va_P D vwCl (vz_w [rdW g h va vi_6 vr_116 vf_116 (ta 0) ph, tkW g ta tr tf, pgW g ph pa pr_116 pf_8]) H ∧ va_D A (vz_w [rdW g h va vi_6 vr_116 vf_116 (ta 0) ph, tkW g ta tr tf, pgW g ph pa pr_116 pf_8]) := ⟨(vz_uf pf_116 0 nf7), hP, hD⟩
      refine lv_aload_n hx hb dX3_readGuard_144 rfl (lv_at hl 0 rfl) ?_
      refine va_get (D := D) (ci := 3) (v := .ref ph) (C := RX3) (T := TX3) (N := 12) hx hb hts inlX3 hown hK hP 0 rfl rfl 4 (by decide) (hts _ q97) (fun _ h => h) rfl dX3_readGuard_145 ?_
      refine va_get (D := D) (ci := 2) (v := .ref (pa 0)) (C := RX2) (T := TX2) (N := 5) hx hb hts inlX2 hown hK hP 9 rfl rfl 0 (by decide) (hts _ q500) (fun _ h => h) rfl dX3_readGuard_148 ?_
      refine lv_iload_n hx hb dX3_readGuard_151 rfl (lv_at hl 1 rfl) ?_
      refine lv_bipush (v := 6) hx hb dX3_readGuard_152 (by decide) ?_
      refine lv_aload_n hx hb dX3_readGuard_154 rfl (lv_at hl 0 rfl) ?_
      refine lv_iload_n hx hb dX3_readGuard_155 rfl (lv_at hl 1 rfl) ?_
      refine lv_iload_n hx hb dX3_readGuard_156 rfl (lv_at hl 2 rfl) ?_
      refine vz_Vi3 (As := [.int n1, .int (nI dn)]) (rest := [.int 6, .int n1, .ref (pa 0)]) hx hb hml hown hts hK hA hP hD hS (a_D_readBlock l D g dn hdn hB H.size h va vi_6 vr_116 vf_116 ta ph tr tf pa pr_116 pf_8 n1 hw_v_116 hw_t hw_p_116) kv_X3_168 ⟨by dsimp only; omega, by dsimp only; omega⟩ (q0 := 0) (ci := 3) rfl rfl rfl  hl.1 (Nat.le_of_ble_eq_true rfl) dX3_readGuard_157 ⟨Nat.le_refl _, Nat.le_refl _⟩ rfl (fun v16 ⟨vi_9, vr_10, vf_11, pr_12, pf_13⟩ H locs ⟨hw_14, hw_15⟩ _ hP hD hS => ?_)
      try dsimp only at hw_14 hw_15
      replace hP : va_P D vwCl (vz_w [rdW g h va vi_9 vr_10 vf_11 (ta 0) ph, tkW g ta tr tf, pgW g ph pa pr_12 pf_13]) H := hP
      replace hD : va_D A (vz_w [rdW g h va vi_9 vr_10 vf_11 (ta 0) ph, tkW g ta tr tf, pgW g ph pa pr_12 pf_13]) := hD
      refine vz_Vv2 (ws' := fun u : (Nat → Int32) => vz_w [rdW g h va vi_9 vr_10 vf_11 (ta 0) ph, tkW g ta tr tf, pgW g ph pa pr_12 (vz_uf pf_13 0 u)]) (As := [.int n1, .int 6, .int v16]) (rest := []) hx hb hml hown hts hK hA hP hD hS (c_T_set l D g (pa 0) (pa 1) H.size 12 80 (pr_12 0) 960 (pf_13 0) n1 6 v16 ⟨rfl, by decide, by decide, by decide, by decide, hw_15 0⟩) kv_X3_60 ⟨by dsimp only; omega, by dsimp only; omega⟩ (q0 := 10) (ci := 6) rfl rfl rfl [10, 11] rfl (by decide) (fun _ => rfl) (fun _ => rfl) hl.1 (Nat.le_of_ble_eq_true rfl) dX3_readGuard_160 ⟨Nat.le_refl _, Nat.le_refl _⟩ rfl (fun nf17 H locs _ _ hP hD hS => ?_)
      obtain ⟨pf_18, hP, hD⟩ : ∃ pf_18 : Nat → Nat → Int32, va_P D vwCl (vz_w [rdW g h va vi_9 vr_10 vf_11 (ta 0) ph, tkW g ta tr tf, pgW g ph pa pr_12 pf_18]) H ∧ va_D A (vz_w [rdW g h va vi_9 vr_10 vf_11 (ta 0) ph, tkW g ta tr tf, pgW g ph pa pr_12 pf_18]) := ⟨(vz_uf pf_13 0 nf17), hP, hD⟩
      refine lv_goto (tgt := 182) hx hb dX3_readGuard_163 (by decide) ?_
      exact J182 x3_116 x4_116 x5_116 vi_9 vr_10 vf_11 pr_12 pf_18 hz_x3_116 hw_14 hw_15 H locs ls hP hD hS (lv_sub hl [0, 1, 2, 3, 4, 5] rfl)
  have J83 : ∀ (fu83 n83 : Nat), 112 - n83 < fu83 → n83 ≤ 112 → ∀ (x3_83 : Int32), ∀ (x4_83 : Int32), ∀ (vi_83 : Nat → Int32), ∀ (vr_83 : Nat → Nat), ∀ (vf_83 : Nat → Nat → Int32), ∀ (pr_83 : Nat → Nat), ∀ (pf_83 : Nat → Nat → Int32), (x3_83 = 0 ∨ x3_83 = 1) → (∀ k, vr_83 k ≤ rdW_lim k) → (∀ k, pr_83 k ≤ pgW_lim k) → ∀ (H : Heap) (locs : List Loc) (ls : Array Slot), va_P D vwCl (vz_w [rdW g h va vi_83 vr_83 vf_83 (ta 0) ph, tkW g ta tr tf, pgW g ph pa pr_83 pf_83]) H → va_D A (vz_w [rdW g h va vi_83 vr_83 vf_83 (ta 0) ph, tkW g ta tr tf, pgW g ph pa pr_83 pf_83]) → va_S A s.heap H locs → lv_has ls 6 [(0, .ref h), (1, .int n1), (2, .int (nI dn)), (3, .int x3_83), (4, .int x4_83), (5, .int (nI n83))] → W p l e { frames := (5 * (6 - dn) + 58), cells := 0, slots := 0, locals := (130 * (6 - dn) + 1945) } s m args below meth c H locs 0 0 Q (F0 m 83 ls []) := by
    intro fu83
    induction fu83 with
    | zero => intro n83 z; omega
    | succ fu83 ih83 =>
      intro n83 hf83 hb83 x3_83 x4_83 vi_83 vr_83 vf_83 pr_83 pf_83 hz_x3_83 hw_v_83 hw_p_83 H locs ls hP hD hS hl
      refine lv_iload hx hb dX3_readGuard_83 (lv_at hl 5 rfl) ?_
      refine lv_bipush (v := 112) hx hb dX3_readGuard_85 (by decide) ?_
      refine lv_icmp_ge (tgt := 116) hx hb dX3_readGuard_87 (by decide) (fun kc1 => ?_) (fun kc1 => ?_)
      · exact J116 x3_83 x4_83 (nI n83) vi_83 vr_83 vf_83 pr_83 pf_83 hz_x3_83 hw_v_83 hw_p_83 H locs ls hP hD hS (lv_sub hl [0, 1, 2, 3, 4, 5] rfl)
      · have hn83 : n83 < 112 := vz_ltge (B := 112) (by omega) kc1
        refine lv_aload_n hx hb dX3_readGuard_90 rfl (lv_at hl 0 rfl) ?_
        refine va_get (D := D) (ci := 3) (v := .int (vi_83 1)) (C := RX3) (T := TX3) (N := 12) hx hb hts inlX3 hown hK hP 0 rfl rfl 6 (by decide) (hts _ q443) (fun _ h => h) rfl dX3_readGuard_91 ?_
        refine lv_sipush (v := 146) hx hb dX3_readGuard_94 (by decide) ?_
        refine lv_icmp_ne (tgt := 116) hx hb dX3_readGuard_97 (by decide) (fun kc2 => ?_) (fun kc2 => ?_)
        · exact J116 x3_83 x4_83 (nI n83) vi_83 vr_83 vf_83 pr_83 pf_83 hz_x3_83 hw_v_83 hw_p_83 H locs ls hP hD hS (lv_sub hl [0, 1, 2, 3, 4, 5] rfl)
        · refine lv_aload_n hx hb dX3_readGuard_100 rfl (lv_at hl 0 rfl) ?_
          refine lv_iload_n hx hb dX3_readGuard_101 rfl (lv_at hl 1 rfl) ?_
          refine lv_iload_n hx hb dX3_readGuard_102 rfl (lv_at hl 2 rfl) ?_
          refine lv_iload hx hb dX3_readGuard_103 (lv_at hl 4 rfl) ?_
          refine vz_Vi3 (As := [.int n1, .int (nI dn), .int x4_83]) (rest := []) hx hb hml hown hts hK hA hP hD hS (a_D_readCatch l D g dn hdn hB H.size h va vi_83 vr_83 vf_83 ta ph tr tf pa pr_83 pf_83 n1 x4_83 hw_v_83 hw_t hw_p_83) kv_X3_177 ⟨by dsimp only; omega, by dsimp only; omega⟩ (q0 := 0) (ci := 3) rfl rfl rfl  hl.1 (Nat.le_of_ble_eq_true rfl) dX3_readGuard_105 ⟨Nat.le_refl _, Nat.le_refl _⟩ rfl (fun v10 ⟨vi_3, vr_4, vf_5, pr_6, pf_7⟩ H locs ⟨hw_8, hw_9⟩ _ hP hD hS => ?_)
          try dsimp only at hw_8 hw_9
          replace hP : va_P D vwCl (vz_w [rdW g h va vi_3 vr_4 vf_5 (ta 0) ph, tkW g ta tr tf, pgW g ph pa pr_6 pf_7]) H := hP
          replace hD : va_D A (vz_w [rdW g h va vi_3 vr_4 vf_5 (ta 0) ph, tkW g ta tr tf, pgW g ph pa pr_6 pf_7]) := hD
          refine lv_istore (lv' := [(4, .int v10), (0, .ref h), (1, .int n1), (2, .int (nI dn)), (3, .int x3_83), (5, .int (nI n83))]) hx hb dX3_readGuard_108 hl (by decide) rfl (fun ls hl => ?_)
          refine lv_iinc (v := (nI (n83 + 1))) (lv' := [(5, .int (nI (n83 + 1))), (4, .int v10), (0, .ref h), (1, .int n1), (2, .int (nI dn)), (3, .int x3_83)]) hx hb dX3_readGuard_110 hl (k := 5) rfl (nI_1 n83) (by decide) rfl (fun ls hl => ?_)
          refine lv_goto (tgt := 83) hx hb dX3_readGuard_113 (by decide) ?_
          exact ih83 (n83 + 1) (by omega) (by omega) x3_83 v10 vi_3 vr_4 vf_5 pr_6 pf_7 hz_x3_83 hw_8 hw_9 H locs ls hP hD hS (lv_sub hl [2, 3, 4, 5, 1, 0] rfl)
  have J55 : ∀ (x3_55 : Int32), ∀ (y0_55 : Int32), ∀ (vi_55 : Nat → Int32), ∀ (vr_55 : Nat → Nat), ∀ (vf_55 : Nat → Nat → Int32), ∀ (pr_55 : Nat → Nat), ∀ (pf_55 : Nat → Nat → Int32), (x3_55 = 0 ∨ x3_55 = 1) → (∀ k, vr_55 k ≤ rdW_lim k) → (∀ k, pr_55 k ≤ pgW_lim k) → ∀ (H : Heap) (locs : List Loc) (ls : Array Slot), va_P D vwCl (vz_w [rdW g h va vi_55 vr_55 vf_55 (ta 0) ph, tkW g ta tr tf, pgW g ph pa pr_55 pf_55]) H → va_D A (vz_w [rdW g h va vi_55 vr_55 vf_55 (ta 0) ph, tkW g ta tr tf, pgW g ph pa pr_55 pf_55]) → va_S A s.heap H locs → lv_has ls 6 [(0, .ref h), (1, .int n1), (2, .int (nI dn)), (3, .int x3_55)] → W p l e { frames := (5 * (6 - dn) + 58), cells := 0, slots := 0, locals := (130 * (6 - dn) + 1945) } s m args below meth c H locs 0 0 Q (F0 m 55 ls [.int y0_55, .int 1, .int n1, .ref (pa 0)]) := by
    intro x3_55 y0_55 vi_55 vr_55 vf_55 pr_55 pf_55 hz_x3_55 hw_v_55 hw_p_55 H locs ls hP hD hS hl
    refine vz_Vv2 (ws' := fun u : (Nat → Int32) => vz_w [rdW g h va vi_55 vr_55 vf_55 (ta 0) ph, tkW g ta tr tf, pgW g ph pa pr_55 (vz_uf pf_55 0 u)]) (As := [.int n1, .int 1, .int y0_55]) (rest := []) hx hb hml hown hts hK hA hP hD hS (c_T_set l D g (pa 0) (pa 1) H.size 12 80 (pr_55 0) 960 (pf_55 0) n1 1 y0_55 ⟨rfl, by decide, by decide, by decide, by decide, hw_p_55 0⟩) kv_X3_60 ⟨by dsimp only; omega, by dsimp only; omega⟩ (q0 := 10) (ci := 6) rfl rfl rfl [10, 11] rfl (by decide) (fun _ => rfl) (fun _ => rfl) hl.1 (Nat.le_of_ble_eq_true rfl) dX3_readGuard_55 ⟨Nat.le_refl _, Nat.le_refl _⟩ rfl (fun nf1 H locs _ _ hP hD hS => ?_)
    obtain ⟨pf_2, hP, hD⟩ : ∃ pf_2 : Nat → Nat → Int32, va_P D vwCl (vz_w [rdW g h va vi_55 vr_55 vf_55 (ta 0) ph, tkW g ta tr tf, pgW g ph pa pr_55 pf_2]) H ∧ va_D A (vz_w [rdW g h va vi_55 vr_55 vf_55 (ta 0) ph, tkW g ta tr tf, pgW g ph pa pr_55 pf_2]) := ⟨(vz_uf pf_55 0 nf1), hP, hD⟩
    refine lv_aload_n hx hb dX3_readGuard_58 rfl (lv_at hl 0 rfl) ?_
    refine va_get (D := D) (ci := 3) (v := .ref ph) (C := RX3) (T := TX3) (N := 12) hx hb hts inlX3 hown hK hP 0 rfl rfl 4 (by decide) (hts _ q97) (fun _ h => h) rfl dX3_readGuard_59 ?_
    refine va_get (D := D) (ci := 2) (v := .ref (pa 0)) (C := RX2) (T := TX2) (N := 5) hx hb hts inlX2 hown hK hP 9 rfl rfl 0 (by decide) (hts _ q500) (fun _ h => h) rfl dX3_readGuard_62 ?_
    refine lv_iload_n hx hb dX3_readGuard_65 rfl (lv_at hl 1 rfl) ?_
    refine lv_iconst (v := 5) hx hb dX3_readGuard_66 (by decide) ?_
    refine lv_aload_n hx hb dX3_readGuard_67 rfl (lv_at hl 0 rfl) ?_
    refine lv_iload_n hx hb dX3_readGuard_68 rfl (lv_at hl 1 rfl) ?_
    refine lv_iload_n hx hb dX3_readGuard_69 rfl (lv_at hl 2 rfl) ?_
    refine vz_Vi3 (As := [.int n1, .int (nI dn)]) (rest := [.int 5, .int n1, .ref (pa 0)]) hx hb hml hown hts hK hA hP hD hS (a_D_readBlock l D g dn hdn hB H.size h va vi_55 vr_55 vf_55 ta ph tr tf pa pr_55 pf_2 n1 hw_v_55 hw_t hw_p_55) kv_X3_168 ⟨by dsimp only; omega, by dsimp only; omega⟩ (q0 := 0) (ci := 3) rfl rfl rfl  hl.1 (Nat.le_of_ble_eq_true rfl) dX3_readGuard_70 ⟨Nat.le_refl _, Nat.le_refl _⟩ rfl (fun v10 ⟨vi_3, vr_4, vf_5, pr_6, pf_7⟩ H locs ⟨hw_8, hw_9⟩ _ hP hD hS => ?_)
    try dsimp only at hw_8 hw_9
    replace hP : va_P D vwCl (vz_w [rdW g h va vi_3 vr_4 vf_5 (ta 0) ph, tkW g ta tr tf, pgW g ph pa pr_6 pf_7]) H := hP
    replace hD : va_D A (vz_w [rdW g h va vi_3 vr_4 vf_5 (ta 0) ph, tkW g ta tr tf, pgW g ph pa pr_6 pf_7]) := hD
    refine vz_Vv2 (ws' := fun u : (Nat → Int32) => vz_w [rdW g h va vi_3 vr_4 vf_5 (ta 0) ph, tkW g ta tr tf, pgW g ph pa pr_6 (vz_uf pf_7 0 u)]) (As := [.int n1, .int 5, .int v10]) (rest := []) hx hb hml hown hts hK hA hP hD hS (c_T_set l D g (pa 0) (pa 1) H.size 12 80 (pr_6 0) 960 (pf_7 0) n1 5 v10 ⟨rfl, by decide, by decide, by decide, by decide, hw_9 0⟩) kv_X3_60 ⟨by dsimp only; omega, by dsimp only; omega⟩ (q0 := 10) (ci := 6) rfl rfl rfl [10, 11] rfl (by decide) (fun _ => rfl) (fun _ => rfl) hl.1 (Nat.le_of_ble_eq_true rfl) dX3_readGuard_73 ⟨Nat.le_refl _, Nat.le_refl _⟩ rfl (fun nf11 H locs _ _ hP hD hS => ?_)
    obtain ⟨pf_12, hP, hD⟩ : ∃ pf_12 : Nat → Nat → Int32, va_P D vwCl (vz_w [rdW g h va vi_3 vr_4 vf_5 (ta 0) ph, tkW g ta tr tf, pgW g ph pa pr_6 pf_12]) H ∧ va_D A (vz_w [rdW g h va vi_3 vr_4 vf_5 (ta 0) ph, tkW g ta tr tf, pgW g ph pa pr_6 pf_12]) := ⟨(vz_uf pf_7 0 nf11), hP, hD⟩
    refine lv_bipush (v := (-9)) hx hb dX3_readGuard_76 (by decide) ?_
    refine lv_istore (lv' := [(4, .int (-9)), (0, .ref h), (1, .int n1), (2, .int (nI dn)), (3, .int x3_55)]) hx hb dX3_readGuard_78 hl (by decide) rfl (fun ls hl => ?_)
    refine lv_iconst (v := 0) hx hb dX3_readGuard_80 (by decide) ?_
    refine lv_istore (lv' := [(5, .int 0), (4, .int (-9)), (0, .ref h), (1, .int n1), (2, .int (nI dn)), (3, .int x3_55)]) hx hb dX3_readGuard_81 hl (by decide) rfl (fun ls hl => ?_)
    exact J83 (113) 0 (by omega) (by omega) x3_55 (-9) vi_3 vr_4 vf_5 pr_6 pf_12 hz_x3_55 hw_8 hw_9 H locs ls hP hD hS (lv_sub hl [2, 3, 4, 5, 1, 0] rfl)
  have J29 : ∀ (y0_29 : Int32), ∀ (vi_29 : Nat → Int32), ∀ (vr_29 : Nat → Nat), ∀ (vf_29 : Nat → Nat → Int32), ∀ (pr_29 : Nat → Nat), ∀ (pf_29 : Nat → Nat → Int32), (y0_29 = 0 ∨ y0_29 = 1) → (∀ k, vr_29 k ≤ rdW_lim k) → (∀ k, pr_29 k ≤ pgW_lim k) → ∀ (H : Heap) (locs : List Loc) (ls : Array Slot), va_P D vwCl (vz_w [rdW g h va vi_29 vr_29 vf_29 (ta 0) ph, tkW g ta tr tf, pgW g ph pa pr_29 pf_29]) H → va_D A (vz_w [rdW g h va vi_29 vr_29 vf_29 (ta 0) ph, tkW g ta tr tf, pgW g ph pa pr_29 pf_29]) → va_S A s.heap H locs → lv_has ls 6 [(0, .ref h), (1, .int n1), (2, .int (nI dn))] → W p l e { frames := (5 * (6 - dn) + 58), cells := 0, slots := 0, locals := (130 * (6 - dn) + 1945) } s m args below meth c H locs 0 0 Q (F0 m 29 ls [.int y0_29]) := by
    intro y0_29 vi_29 vr_29 vf_29 pr_29 pf_29 hz_y0_29 hw_v_29 hw_p_29 H locs ls hP hD hS hl
    refine lv_istore_n (lv' := [(3, .int y0_29), (0, .ref h), (1, .int n1), (2, .int (nI dn))]) hx hb dX3_readGuard_29 rfl hl (by decide) rfl (fun ls hl => ?_)
    refine lv_aload_n hx hb dX3_readGuard_30 rfl (lv_at hl 1 rfl) ?_
    refine vz_Vv3 (As := []) (rest := []) hx hb hml hown hts hK hA hP hD hS (a_D_advance l D g H.size h va vi_29 vr_29 vf_29 ta ph tr tf pa pr_29 pf_29 hw_v_29 hw_t hw_p_29) kv_X3_89 ⟨by dsimp only; omega, by dsimp only; omega⟩ (q0 := 0) (ci := 3) rfl rfl rfl  hl.1 (Nat.le_of_ble_eq_true rfl) dX3_readGuard_31 ⟨Nat.le_refl _, Nat.le_refl _⟩ rfl (fun vi_1 H locs _ _ hP hD hS => ?_)
    replace hP : va_P D vwCl (vz_w [rdW g h va vi_1 vr_29 vf_29 (ta 0) ph, tkW g ta tr tf, pgW g ph pa pr_29 pf_29]) H := hP
    replace hD : va_D A (vz_w [rdW g h va vi_1 vr_29 vf_29 (ta 0) ph, tkW g ta tr tf, pgW g ph pa pr_29 pf_29]) := hD
    refine lv_aload_n hx hb dX3_readGuard_34 rfl (lv_at hl 1 rfl) ?_
    refine va_get (D := D) (ci := 3) (v := .ref ph) (C := RX3) (T := TX3) (N := 12) hx hb hts inlX3 hown hK hP 0 rfl rfl 4 (by decide) (hts _ q97) (fun _ h => h) rfl dX3_readGuard_35 ?_
    refine va_get (D := D) (ci := 2) (v := .ref (pa 0)) (C := RX2) (T := TX2) (N := 5) hx hb hts inlX2 hown hK hP 9 rfl rfl 0 (by decide) (hts _ q500) (fun _ h => h) rfl dX3_readGuard_38 ?_
    refine lv_iload_n hx hb dX3_readGuard_41 rfl (lv_at hl 2 rfl) ?_
    refine lv_iconst (v := 1) hx hb dX3_readGuard_42 (by decide) ?_
    refine lv_iload_n hx hb dX3_readGuard_43 rfl (lv_at hl 0 rfl) ?_
    refine lv_if_eq (tgt := 54) hx hb dX3_readGuard_44 (by decide) (fun kc2 => ?_) (fun kc2 => ?_)
    · refine lv_iconst (v := 0) hx hb dX3_readGuard_54 (by decide) ?_
      exact J55 y0_29 0 vi_1 vr_29 vf_29 pr_29 pf_29 hz_y0_29 hw_v_29 hw_p_29 H locs ls hP hD hS (lv_sub hl [1, 2, 3, 0] rfl)
    · refine lv_aload_n hx hb dX3_readGuard_47 rfl (lv_at hl 1 rfl) ?_
      refine vz_Vi3 (As := []) (rest := [.int 1, .int n1, .ref (pa 0)]) hx hb hml hown hts hK hA hP hD hS (a_D_readResources l D g H.size h va vi_1 vr_29 vf_29 ta ph tr tf pa pr_29 pf_29 hw_v_29 hw_t hw_p_29) kv_X3_174 ⟨by dsimp only; omega, by dsimp only; omega⟩ (q0 := 0) (ci := 3) rfl rfl rfl  hl.1 (Nat.le_of_ble_eq_true rfl) dX3_readGuard_48 ⟨Nat.le_refl _, Nat.le_refl _⟩ rfl (fun v4 vi_3 H locs _ _ hP hD hS => ?_)
      replace hP : va_P D vwCl (vz_w [rdW g h va vi_3 vr_29 vf_29 (ta 0) ph, tkW g ta tr tf, pgW g ph pa pr_29 pf_29]) H := hP
      replace hD : va_D A (vz_w [rdW g h va vi_3 vr_29 vf_29 (ta 0) ph, tkW g ta tr tf, pgW g ph pa pr_29 pf_29]) := hD
      refine lv_goto (tgt := 55) hx hb dX3_readGuard_51 (by decide) ?_
      exact J55 y0_29 v4 vi_3 vr_29 vf_29 pr_29 pf_29 hz_y0_29 hw_v_29 hw_p_29 H locs ls hP hD hS (lv_sub hl [1, 2, 3, 0] rfl)
  refine lv_aload_n hx hb dX3_readGuard_0 rfl (lv_at hl 0 rfl) ?_
  refine va_get (D := D) (ci := 3) (v := .ref ph) (C := RX3) (T := TX3) (N := 12) hx hb hts inlX3 hown hK hP 0 rfl rfl 4 (by decide) (hts _ q97) (fun _ h => h) rfl dX3_readGuard_1 ?_
  refine va_get (D := D) (ci := 2) (v := .ref (pa 0)) (C := RX2) (T := TX2) (N := 5) hx hb hts inlX2 hown hK hP 9 rfl rfl 0 (by decide) (hts _ q500) (fun _ h => h) rfl dX3_readGuard_4 ?_
  refine lv_iload_n hx hb dX3_readGuard_7 rfl (lv_at hl 1 rfl) ?_
  refine lv_iconst (v := 0) hx hb dX3_readGuard_8 (by decide) ?_
  refine lv_bipush (v := 15) hx hb dX3_readGuard_9 (by decide) ?_
  refine vz_Vv2 (ws' := fun u : (Nat → Int32) => vz_w [rdW g h va vi vr vf (ta 0) ph, tkW g ta tr tf, pgW g ph pa pr (vz_uf pf 0 u)]) (As := [.int n1, .int 0, .int 15]) (rest := []) hx hb hml hown hts hK hA hP hD hS (c_T_set l D g (pa 0) (pa 1) H.size 12 80 (pr 0) 960 (pf 0) n1 0 15 ⟨rfl, by decide, by decide, by decide, by decide, hw_p 0⟩) kv_X3_60 ⟨by dsimp only; omega, by dsimp only; omega⟩ (q0 := 10) (ci := 6) rfl rfl rfl [10, 11] rfl (by decide) (fun _ => rfl) (fun _ => rfl) hl.1 (Nat.le_of_ble_eq_true rfl) dX3_readGuard_11 ⟨Nat.le_refl _, Nat.le_refl _⟩ rfl (fun nf1 H locs _ _ hP hD hS => ?_)
  obtain ⟨pf_2, hP, hD⟩ : ∃ pf_2 : Nat → Nat → Int32, va_P D vwCl (vz_w [rdW g h va vi vr vf (ta 0) ph, tkW g ta tr tf, pgW g ph pa pr pf_2]) H ∧ va_D A (vz_w [rdW g h va vi vr vf (ta 0) ph, tkW g ta tr tf, pgW g ph pa pr pf_2]) := ⟨(vz_uf pf 0 nf1), hP, hD⟩
  refine lv_aload_n hx hb dX3_readGuard_14 rfl (lv_at hl 0 rfl) ?_
  refine va_get (D := D) (ci := 3) (v := .int (vi 1)) (C := RX3) (T := TX3) (N := 12) hx hb hts inlX3 hown hK hP 0 rfl rfl 6 (by decide) (hts _ q443) (fun _ h => h) rfl dX3_readGuard_15 ?_
  refine lv_sipush (v := 145) hx hb dX3_readGuard_18 (by decide) ?_
  refine lv_icmp_ne (tgt := 28) hx hb dX3_readGuard_21 (by decide) (fun kc3 => ?_) (fun kc3 => ?_)
  · refine lv_iconst (v := 0) hx hb dX3_readGuard_28 (by decide) ?_
    exact J29 0 vi vr vf pr pf_2 (Or.inl rfl) hw_v hw_p H locs ls hP hD hS (lv_sub hl [0, 1, 2] rfl)
  · refine lv_iconst (v := 1) hx hb dX3_readGuard_24 (by decide) ?_
    refine lv_goto (tgt := 29) hx hb dX3_readGuard_25 (by decide) ?_
    exact J29 1 vi vr vf pr pf_2 (Or.inr rfl) hw_v hw_p H locs ls hP hD hS (lv_sub hl [0, 1, 2] rfl)
theorem q566 : Cond.methodLink RX3 123 yX3_beginsStatement ∈ wsL_law := mT_3 (List.mem_of_getElem? (i := 177) rfl) rfl
theorem q567 : Cond.static yX3_beginsStatement ∈ wsL_law := mT_3 (List.mem_of_getElem? (i := 178) rfl) rfl
theorem q568 : Cond.code yX3_beginsStatement cX3_beginsStatement 1 (some .boolean) ∈ wsL_law := mT_3 (List.mem_of_getElem? (i := 179) rfl) rfl
theorem ks_X3_123 : vz_cs RX3 123 yX3_beginsStatement cX3_beginsStatement 1 (some .boolean) 1 := ⟨q566, q567, q28, q568, by decide +kernel⟩
theorem q602 : Cond.methodLink RX3 161 yX3_readThrow ∈ wsL_law := mT_4 (List.mem_of_getElem? (i := 32) rfl) rfl
theorem q603 : Cond.instanceMethod yX3_readThrow ∈ wsL_law := mT_4 (List.mem_of_getElem? (i := 34) rfl) rfl
theorem q604 : Cond.selects RX3 yX3_readThrow yX3_readThrow ∈ wsL_law := mS_3 (q := (yX3_readThrow, 12)) (List.mem_of_getElem? (i := 1) rfl) rfl
theorem q605 : Cond.code yX3_readThrow cX3_readThrow 3 none ∈ wsL_law := mT_4 (List.mem_of_getElem? (i := 35) rfl) rfl
theorem kv_X3_161 : vz_cv RX3 161 yX3_readThrow cX3_readThrow 3 none 2 := ⟨q602, q603, q604, q28, q605, by decide +kernel⟩
theorem q598 : Cond.methodLink RX3 158 yX3_readReturn ∈ wsL_law := mT_4 (List.mem_of_getElem? (i := 28) rfl) rfl
theorem q599 : Cond.instanceMethod yX3_readReturn ∈ wsL_law := mT_4 (List.mem_of_getElem? (i := 30) rfl) rfl
theorem q600 : Cond.selects RX3 yX3_readReturn yX3_readReturn ∈ wsL_law := mS_3 (q := (yX3_readReturn, 12)) (List.mem_of_getElem? (i := 0) rfl) rfl
theorem q601 : Cond.code yX3_readReturn cX3_readReturn 2 none ∈ wsL_law := mT_4 (List.mem_of_getElem? (i := 31) rfl) rfl
theorem kv_X3_158 : vz_cv RX3 158 yX3_readReturn cX3_readReturn 2 none 1 := ⟨q598, q599, q600, q28, q601, by decide +kernel⟩
theorem q594 : Cond.methodLink RX3 155 yX3_readMark ∈ wsL_law := mT_4 (List.mem_of_getElem? (i := 24) rfl) rfl
theorem q595 : Cond.instanceMethod yX3_readMark ∈ wsL_law := mT_4 (List.mem_of_getElem? (i := 26) rfl) rfl
theorem q596 : Cond.selects RX3 yX3_readMark yX3_readMark ∈ wsL_law := mS_2 (q := (yX3_readMark, 12)) (List.mem_of_getElem? (i := 15) rfl) rfl
theorem q597 : Cond.code yX3_readMark cX3_readMark 2 none ∈ wsL_law := mT_4 (List.mem_of_getElem? (i := 27) rfl) rfl
theorem kv_X3_155 : vz_cv RX3 155 yX3_readMark cX3_readMark 2 none 1 := ⟨q594, q595, q596, q28, q597, by decide +kernel⟩
theorem q590 : Cond.methodLink RX3 152 yX3_readJump ∈ wsL_law := mT_4 (List.mem_of_getElem? (i := 20) rfl) rfl
theorem q591 : Cond.instanceMethod yX3_readJump ∈ wsL_law := mT_4 (List.mem_of_getElem? (i := 22) rfl) rfl
theorem q592 : Cond.selects RX3 yX3_readJump yX3_readJump ∈ wsL_law := mS_2 (q := (yX3_readJump, 12)) (List.mem_of_getElem? (i := 14) rfl) rfl
theorem q593 : Cond.code yX3_readJump cX3_readJump 3 none ∈ wsL_law := mT_4 (List.mem_of_getElem? (i := 23) rfl) rfl
theorem kv_X3_152 : vz_cv RX3 152 yX3_readJump cX3_readJump 3 none 2 := ⟨q590, q591, q592, q28, q593, by decide +kernel⟩
theorem q578 : Cond.methodLink RX3 143 yX3_readCall ∈ wsL_law := mT_4 (List.mem_of_getElem? (i := 8) rfl) rfl
theorem q579 : Cond.instanceMethod yX3_readCall ∈ wsL_law := mT_4 (List.mem_of_getElem? (i := 10) rfl) rfl
theorem q580 : Cond.selects RX3 yX3_readCall yX3_readCall ∈ wsL_law := mS_2 (q := (yX3_readCall, 12)) (List.mem_of_getElem? (i := 11) rfl) rfl
theorem q581 : Cond.code yX3_readCall cX3_readCall 3 none ∈ wsL_law := mT_4 (List.mem_of_getElem? (i := 11) rfl) rfl
theorem kv_X3_143 : vz_cv RX3 143 yX3_readCall cX3_readCall 3 none 2 := ⟨q578, q579, q580, q28, q581, by decide +kernel⟩
theorem q586 : Cond.methodLink RX3 149 yX3_readRow ∈ wsL_law := mT_4 (List.mem_of_getElem? (i := 16) rfl) rfl
theorem q587 : Cond.instanceMethod yX3_readRow ∈ wsL_law := mT_4 (List.mem_of_getElem? (i := 18) rfl) rfl
theorem q588 : Cond.selects RX3 yX3_readRow yX3_readRow ∈ wsL_law := mS_2 (q := (yX3_readRow, 12)) (List.mem_of_getElem? (i := 13) rfl) rfl
theorem q589 : Cond.code yX3_readRow cX3_readRow 3 none ∈ wsL_law := mT_4 (List.mem_of_getElem? (i := 19) rfl) rfl
theorem kv_X3_149 : vz_cv RX3 149 yX3_readRow cX3_readRow 3 none 1 := ⟨q586, q587, q588, q28, q589, by decide +kernel⟩
theorem q582 : Cond.methodLink RX3 146 yX3_readSet ∈ wsL_law := mT_4 (List.mem_of_getElem? (i := 12) rfl) rfl
theorem q583 : Cond.instanceMethod yX3_readSet ∈ wsL_law := mT_4 (List.mem_of_getElem? (i := 14) rfl) rfl
theorem q584 : Cond.selects RX3 yX3_readSet yX3_readSet ∈ wsL_law := mS_2 (q := (yX3_readSet, 12)) (List.mem_of_getElem? (i := 12) rfl) rfl
theorem q585 : Cond.code yX3_readSet cX3_readSet 3 none ∈ wsL_law := mT_4 (List.mem_of_getElem? (i := 15) rfl) rfl
theorem kv_X3_146 : vz_cv RX3 146 yX3_readSet cX3_readSet 3 none 2 := ⟨q582, q583, q584, q28, q585, by decide +kernel⟩
theorem q575 : Cond.methodLink RX3 140 yX3_readGuard ∈ wsL_law := mT_3 (List.mem_of_getElem? (i := 227) rfl) rfl
theorem q576 : Cond.instanceMethod yX3_readGuard ∈ wsL_law := mT_3 (List.mem_of_getElem? (i := 229) rfl) rfl
theorem q577 : Cond.selects RX3 yX3_readGuard yX3_readGuard ∈ wsL_law := mS_2 (q := (yX3_readGuard, 12)) (List.mem_of_getElem? (i := 8) rfl) rfl
theorem q523 : Cond.code yX3_readGuard cX3_readGuard 6 none ∈ wsL_law := mT_3 (List.mem_of_getElem? (i := 230) rfl) rfl
theorem kv_X3_140 : vz_cv RX3 140 yX3_readGuard cX3_readGuard 6 none 2 := ⟨q575, q576, q577, q28, q523, by decide +kernel⟩
theorem q572 : Cond.methodLink RX3 137 yX3_readLoop ∈ wsL_law := mT_3 (List.mem_of_getElem? (i := 219) rfl) rfl
theorem q573 : Cond.instanceMethod yX3_readLoop ∈ wsL_law := mT_3 (List.mem_of_getElem? (i := 221) rfl) rfl
theorem q574 : Cond.selects RX3 yX3_readLoop yX3_readLoop ∈ wsL_law := mS_2 (q := (yX3_readLoop, 12)) (List.mem_of_getElem? (i := 7) rfl) rfl
theorem q564 : Cond.code yX3_readLoop cX3_readLoop 4 none ∈ wsL_law := mT_3 (List.mem_of_getElem? (i := 222) rfl) rfl
theorem kv_X3_137 : vz_cv RX3 137 yX3_readLoop cX3_readLoop 4 none 2 := ⟨q572, q573, q574, q28, q564, by decide +kernel⟩
theorem q569 : Cond.methodLink RX3 134 yX3_readIf ∈ wsL_law := mT_3 (List.mem_of_getElem? (i := 188) rfl) rfl
theorem q570 : Cond.instanceMethod yX3_readIf ∈ wsL_law := mT_3 (List.mem_of_getElem? (i := 190) rfl) rfl
theorem q571 : Cond.selects RX3 yX3_readIf yX3_readIf ∈ wsL_law := mS_2 (q := (yX3_readIf, 12)) (List.mem_of_getElem? (i := 0) rfl) rfl
theorem q531 : Cond.code yX3_readIf cX3_readIf 3 none ∈ wsL_law := mT_3 (List.mem_of_getElem? (i := 191) rfl) rfl
theorem kv_X3_134 : vz_cv RX3 134 yX3_readIf cX3_readIf 3 none 2 := ⟨q569, q570, q571, q28, q531, by decide +kernel⟩
theorem dX3_readStatement_0 : decode cX3_readStatement 0 = .ok (.aload_n 0, 1) := by decide +kernel
theorem dX3_readStatement_1 : decode cX3_readStatement 1 = .ok (.getfield 41, 3) := by decide +kernel
theorem dX3_readStatement_4 : decode cX3_readStatement 4 = .ok (.invokestatic 123, 3) := by decide +kernel
theorem dX3_readStatement_7 : decode cX3_readStatement 7 = .ok (.ifCond .ne 11, 3) := by decide +kernel
theorem dX3_readStatement_10 : decode cX3_readStatement 10 = .ok (.aload_n 0, 1) := by decide +kernel
theorem dX3_readStatement_11 : decode cX3_readStatement 11 = .ok (.iconst 1, 1) := by decide +kernel
theorem dX3_readStatement_12 : decode cX3_readStatement 12 = .ok (.invokevirtual 68, 3) := by decide +kernel
theorem dX3_readStatement_15 : decode cX3_readStatement 15 = .ok (.bipush (-9), 2) := by decide +kernel
theorem dX3_readStatement_17 : decode cX3_readStatement 17 = .ok (.ireturn, 1) := by decide +kernel
theorem dX3_readStatement_18 : decode cX3_readStatement 18 = .ok (.aload_n 0, 1) := by decide +kernel
theorem dX3_readStatement_19 : decode cX3_readStatement 19 = .ok (.getfield 15, 3) := by decide +kernel
theorem dX3_readStatement_22 : decode cX3_readStatement 22 = .ok (.getfield 117, 3) := by decide +kernel
theorem dX3_readStatement_25 : decode cX3_readStatement 25 = .ok (.getfield 104, 3) := by decide +kernel
theorem dX3_readStatement_28 : decode cX3_readStatement 28 = .ok (.bipush 80, 2) := by decide +kernel
theorem dX3_readStatement_30 : decode cX3_readStatement 30 = .ok (.if_icmp .ge 17, 3) := by decide +kernel
theorem dX3_readStatement_33 : decode cX3_readStatement 33 = .ok (.aload_n 0, 1) := by decide +kernel
theorem dX3_readStatement_34 : decode cX3_readStatement 34 = .ok (.invokevirtual 127, 3) := by decide +kernel
theorem dX3_readStatement_37 : decode cX3_readStatement 37 = .ok (.ifCond .ne 10, 3) := by decide +kernel
theorem dX3_readStatement_40 : decode cX3_readStatement 40 = .ok (.aload_n 0, 1) := by decide +kernel
theorem dX3_readStatement_41 : decode cX3_readStatement 41 = .ok (.invokevirtual 131, 3) := by decide +kernel
theorem dX3_readStatement_44 : decode cX3_readStatement 44 = .ok (.ifCond .eq 11, 3) := by decide +kernel
theorem dX3_readStatement_47 : decode cX3_readStatement 47 = .ok (.aload_n 0, 1) := by decide +kernel
theorem dX3_readStatement_48 : decode cX3_readStatement 48 = .ok (.iconst 2, 1) := by decide +kernel
theorem dX3_readStatement_49 : decode cX3_readStatement 49 = .ok (.invokevirtual 68, 3) := by decide +kernel
theorem dX3_readStatement_52 : decode cX3_readStatement 52 = .ok (.bipush (-9), 2) := by decide +kernel
theorem dX3_readStatement_54 : decode cX3_readStatement 54 = .ok (.ireturn, 1) := by decide +kernel
theorem dX3_readStatement_55 : decode cX3_readStatement 55 = .ok (.aload_n 0, 1) := by decide +kernel
theorem dX3_readStatement_56 : decode cX3_readStatement 56 = .ok (.getfield 15, 3) := by decide +kernel
theorem dX3_readStatement_59 : decode cX3_readStatement 59 = .ok (.getfield 117, 3) := by decide +kernel
theorem dX3_readStatement_62 : decode cX3_readStatement 62 = .ok (.invokevirtual 110, 3) := by decide +kernel
theorem dX3_readStatement_65 : decode cX3_readStatement 65 = .ok (.istore_n 3, 1) := by decide +kernel
theorem dX3_readStatement_66 : decode cX3_readStatement 66 = .ok (.aload_n 0, 1) := by decide +kernel
theorem dX3_readStatement_67 : decode cX3_readStatement 67 = .ok (.getfield 15, 3) := by decide +kernel
theorem dX3_readStatement_70 : decode cX3_readStatement 70 = .ok (.getfield 117, 3) := by decide +kernel
theorem dX3_readStatement_73 : decode cX3_readStatement 73 = .ok (.iload_n 3, 1) := by decide +kernel
theorem dX3_readStatement_74 : decode cX3_readStatement 74 = .ok (.bipush 10, 2) := by decide +kernel
theorem dX3_readStatement_76 : decode cX3_readStatement 76 = .ok (.iload_n 1, 1) := by decide +kernel
theorem dX3_readStatement_77 : decode cX3_readStatement 77 = .ok (.invokevirtual 60, 3) := by decide +kernel
theorem dX3_readStatement_80 : decode cX3_readStatement 80 = .ok (.aload_n 0, 1) := by decide +kernel
theorem dX3_readStatement_81 : decode cX3_readStatement 81 = .ok (.getfield 15, 3) := by decide +kernel
theorem dX3_readStatement_84 : decode cX3_readStatement 84 = .ok (.getfield 117, 3) := by decide +kernel
theorem dX3_readStatement_87 : decode cX3_readStatement 87 = .ok (.iload_n 3, 1) := by decide +kernel
theorem dX3_readStatement_88 : decode cX3_readStatement 88 = .ok (.bipush 9, 2) := by decide +kernel
theorem dX3_readStatement_90 : decode cX3_readStatement 90 = .ok (.iload_n 2, 1) := by decide +kernel
theorem dX3_readStatement_91 : decode cX3_readStatement 91 = .ok (.invokevirtual 60, 3) := by decide +kernel
theorem dX3_readStatement_94 : decode cX3_readStatement 94 = .ok (.aload_n 0, 1) := by decide +kernel
theorem dX3_readStatement_95 : decode cX3_readStatement 95 = .ok (.getfield 41, 3) := by decide +kernel
theorem dX3_readStatement_98 : decode cX3_readStatement 98 = .ok (.lookupswitch 266 #[(5, 146), (6, 192), (131, 230), (132, 200), (135, 238), (136, 114), (138, 122), (139, 210), (140, 220), (141, 246), (142, 256), (144, 130), (145, 138)], 114) := by decide +kernel
theorem dX3_readStatement_212 : decode cX3_readStatement 212 = .ok (.aload_n 0, 1) := by decide +kernel
theorem dX3_readStatement_213 : decode cX3_readStatement 213 = .ok (.iload_n 3, 1) := by decide +kernel
theorem dX3_readStatement_214 : decode cX3_readStatement 214 = .ok (.iload_n 2, 1) := by decide +kernel
theorem dX3_readStatement_215 : decode cX3_readStatement 215 = .ok (.invokevirtual 134, 3) := by decide +kernel
theorem dX3_readStatement_218 : decode cX3_readStatement 218 = .ok (.iload_n 3, 1) := by decide +kernel
theorem dX3_readStatement_219 : decode cX3_readStatement 219 = .ok (.ireturn, 1) := by decide +kernel
theorem dX3_readStatement_220 : decode cX3_readStatement 220 = .ok (.aload_n 0, 1) := by decide +kernel
theorem dX3_readStatement_221 : decode cX3_readStatement 221 = .ok (.iload_n 3, 1) := by decide +kernel
theorem dX3_readStatement_222 : decode cX3_readStatement 222 = .ok (.iload_n 2, 1) := by decide +kernel
theorem dX3_readStatement_223 : decode cX3_readStatement 223 = .ok (.invokevirtual 137, 3) := by decide +kernel
theorem dX3_readStatement_226 : decode cX3_readStatement 226 = .ok (.iload_n 3, 1) := by decide +kernel
theorem dX3_readStatement_227 : decode cX3_readStatement 227 = .ok (.ireturn, 1) := by decide +kernel
theorem dX3_readStatement_228 : decode cX3_readStatement 228 = .ok (.aload_n 0, 1) := by decide +kernel
theorem dX3_readStatement_229 : decode cX3_readStatement 229 = .ok (.iload_n 3, 1) := by decide +kernel
theorem dX3_readStatement_230 : decode cX3_readStatement 230 = .ok (.iload_n 2, 1) := by decide +kernel
theorem dX3_readStatement_231 : decode cX3_readStatement 231 = .ok (.invokevirtual 140, 3) := by decide +kernel
theorem dX3_readStatement_234 : decode cX3_readStatement 234 = .ok (.iload_n 3, 1) := by decide +kernel
theorem dX3_readStatement_235 : decode cX3_readStatement 235 = .ok (.ireturn, 1) := by decide +kernel
theorem dX3_readStatement_236 : decode cX3_readStatement 236 = .ok (.aload_n 0, 1) := by decide +kernel
theorem dX3_readStatement_237 : decode cX3_readStatement 237 = .ok (.iload_n 3, 1) := by decide +kernel
theorem dX3_readStatement_238 : decode cX3_readStatement 238 = .ok (.iload_n 2, 1) := by decide +kernel
theorem dX3_readStatement_239 : decode cX3_readStatement 239 = .ok (.invokevirtual 140, 3) := by decide +kernel
theorem dX3_readStatement_242 : decode cX3_readStatement 242 = .ok (.iload_n 3, 1) := by decide +kernel
theorem dX3_readStatement_243 : decode cX3_readStatement 243 = .ok (.ireturn, 1) := by decide +kernel
theorem dX3_readStatement_244 : decode cX3_readStatement 244 = .ok (.aload_n 0, 1) := by decide +kernel
theorem dX3_readStatement_245 : decode cX3_readStatement 245 = .ok (.getfield 95, 3) := by decide +kernel
theorem dX3_readStatement_248 : decode cX3_readStatement 248 = .ok (.istore 4, 2) := by decide +kernel
theorem dX3_readStatement_250 : decode cX3_readStatement 250 = .ok (.aload_n 0, 1) := by decide +kernel
theorem dX3_readStatement_251 : decode cX3_readStatement 251 = .ok (.invokevirtual 89, 3) := by decide +kernel
theorem dX3_readStatement_254 : decode cX3_readStatement 254 = .ok (.aload_n 0, 1) := by decide +kernel
theorem dX3_readStatement_255 : decode cX3_readStatement 255 = .ok (.bipush 61, 2) := by decide +kernel
theorem dX3_readStatement_257 : decode cX3_readStatement 257 = .ok (.invokevirtual 64, 3) := by decide +kernel
theorem dX3_readStatement_260 : decode cX3_readStatement 260 = .ok (.aload_n 0, 1) := by decide +kernel
theorem dX3_readStatement_261 : decode cX3_readStatement 261 = .ok (.getfield 41, 3) := by decide +kernel
theorem dX3_readStatement_264 : decode cX3_readStatement 264 = .ok (.sipush 132, 3) := by decide +kernel
theorem dX3_readStatement_267 : decode cX3_readStatement 267 = .ok (.if_icmp .ne 13, 3) := by decide +kernel
theorem dX3_readStatement_270 : decode cX3_readStatement 270 = .ok (.aload_n 0, 1) := by decide +kernel
theorem dX3_readStatement_271 : decode cX3_readStatement 271 = .ok (.iload_n 3, 1) := by decide +kernel
theorem dX3_readStatement_272 : decode cX3_readStatement 272 = .ok (.iload 4, 2) := by decide +kernel
theorem dX3_readStatement_274 : decode cX3_readStatement 274 = .ok (.invokevirtual 143, 3) := by decide +kernel
theorem dX3_readStatement_277 : decode cX3_readStatement 277 = .ok (.goto 94, 3) := by decide +kernel
theorem dX3_readStatement_280 : decode cX3_readStatement 280 = .ok (.aload_n 0, 1) := by decide +kernel
theorem dX3_readStatement_281 : decode cX3_readStatement 281 = .ok (.iload_n 3, 1) := by decide +kernel
theorem dX3_readStatement_282 : decode cX3_readStatement 282 = .ok (.iload 4, 2) := by decide +kernel
theorem dX3_readStatement_284 : decode cX3_readStatement 284 = .ok (.invokevirtual 146, 3) := by decide +kernel
theorem dX3_readStatement_287 : decode cX3_readStatement 287 = .ok (.goto 84, 3) := by decide +kernel
theorem dX3_readStatement_290 : decode cX3_readStatement 290 = .ok (.aload_n 0, 1) := by decide +kernel
theorem dX3_readStatement_291 : decode cX3_readStatement 291 = .ok (.iload_n 3, 1) := by decide +kernel
theorem dX3_readStatement_292 : decode cX3_readStatement 292 = .ok (.invokevirtual 149, 3) := by decide +kernel
theorem dX3_readStatement_295 : decode cX3_readStatement 295 = .ok (.goto 76, 3) := by decide +kernel
theorem dX3_readStatement_298 : decode cX3_readStatement 298 = .ok (.aload_n 0, 1) := by decide +kernel
theorem dX3_readStatement_299 : decode cX3_readStatement 299 = .ok (.iload_n 3, 1) := by decide +kernel
theorem dX3_readStatement_300 : decode cX3_readStatement 300 = .ok (.bipush (-9), 2) := by decide +kernel
theorem dX3_readStatement_302 : decode cX3_readStatement 302 = .ok (.invokevirtual 143, 3) := by decide +kernel
theorem dX3_readStatement_305 : decode cX3_readStatement 305 = .ok (.goto 66, 3) := by decide +kernel
theorem dX3_readStatement_308 : decode cX3_readStatement 308 = .ok (.aload_n 0, 1) := by decide +kernel
theorem dX3_readStatement_309 : decode cX3_readStatement 309 = .ok (.iload_n 3, 1) := by decide +kernel
theorem dX3_readStatement_310 : decode cX3_readStatement 310 = .ok (.bipush 10, 2) := by decide +kernel
theorem dX3_readStatement_312 : decode cX3_readStatement 312 = .ok (.invokevirtual 152, 3) := by decide +kernel
theorem dX3_readStatement_315 : decode cX3_readStatement 315 = .ok (.goto 56, 3) := by decide +kernel
theorem dX3_readStatement_318 : decode cX3_readStatement 318 = .ok (.aload_n 0, 1) := by decide +kernel
theorem dX3_readStatement_319 : decode cX3_readStatement 319 = .ok (.iload_n 3, 1) := by decide +kernel
theorem dX3_readStatement_320 : decode cX3_readStatement 320 = .ok (.bipush 11, 2) := by decide +kernel
theorem dX3_readStatement_322 : decode cX3_readStatement 322 = .ok (.invokevirtual 152, 3) := by decide +kernel
theorem dX3_readStatement_325 : decode cX3_readStatement 325 = .ok (.goto 46, 3) := by decide +kernel
theorem dX3_readStatement_328 : decode cX3_readStatement 328 = .ok (.aload_n 0, 1) := by decide +kernel
theorem dX3_readStatement_329 : decode cX3_readStatement 329 = .ok (.iload_n 3, 1) := by decide +kernel
theorem dX3_readStatement_330 : decode cX3_readStatement 330 = .ok (.invokevirtual 155, 3) := by decide +kernel
theorem dX3_readStatement_333 : decode cX3_readStatement 333 = .ok (.goto 38, 3) := by decide +kernel
theorem dX3_readStatement_336 : decode cX3_readStatement 336 = .ok (.aload_n 0, 1) := by decide +kernel
theorem dX3_readStatement_337 : decode cX3_readStatement 337 = .ok (.iload_n 3, 1) := by decide +kernel
theorem dX3_readStatement_338 : decode cX3_readStatement 338 = .ok (.invokevirtual 158, 3) := by decide +kernel
theorem dX3_readStatement_341 : decode cX3_readStatement 341 = .ok (.goto 30, 3) := by decide +kernel
theorem dX3_readStatement_344 : decode cX3_readStatement 344 = .ok (.aload_n 0, 1) := by decide +kernel
theorem dX3_readStatement_345 : decode cX3_readStatement 345 = .ok (.iload_n 3, 1) := by decide +kernel
theorem dX3_readStatement_346 : decode cX3_readStatement 346 = .ok (.bipush 12, 2) := by decide +kernel
theorem dX3_readStatement_348 : decode cX3_readStatement 348 = .ok (.invokevirtual 161, 3) := by decide +kernel
theorem dX3_readStatement_351 : decode cX3_readStatement 351 = .ok (.goto 20, 3) := by decide +kernel
theorem dX3_readStatement_354 : decode cX3_readStatement 354 = .ok (.aload_n 0, 1) := by decide +kernel
theorem dX3_readStatement_355 : decode cX3_readStatement 355 = .ok (.iload_n 3, 1) := by decide +kernel
theorem dX3_readStatement_356 : decode cX3_readStatement 356 = .ok (.bipush 13, 2) := by decide +kernel
theorem dX3_readStatement_358 : decode cX3_readStatement 358 = .ok (.invokevirtual 161, 3) := by decide +kernel
theorem dX3_readStatement_361 : decode cX3_readStatement 361 = .ok (.goto 10, 3) := by decide +kernel
theorem dX3_readStatement_364 : decode cX3_readStatement 364 = .ok (.aload_n 0, 1) := by decide +kernel
theorem dX3_readStatement_365 : decode cX3_readStatement 365 = .ok (.iload_n 3, 1) := by decide +kernel
theorem dX3_readStatement_366 : decode cX3_readStatement 366 = .ok (.bipush 14, 2) := by decide +kernel
theorem dX3_readStatement_368 : decode cX3_readStatement 368 = .ok (.invokevirtual 161, 3) := by decide +kernel
theorem dX3_readStatement_371 : decode cX3_readStatement 371 = .ok (.aload_n 0, 1) := by decide +kernel
theorem dX3_readStatement_372 : decode cX3_readStatement 372 = .ok (.bipush 59, 2) := by decide +kernel
theorem dX3_readStatement_374 : decode cX3_readStatement 374 = .ok (.invokevirtual 64, 3) := by decide +kernel
theorem dX3_readStatement_377 : decode cX3_readStatement 377 = .ok (.iload_n 3, 1) := by decide +kernel
theorem dX3_readStatement_378 : decode cX3_readStatement 378 = .ok (.ireturn, 1) := by decide +kernel
set_option maxHeartbeats 8000000 in
set_option maxRecDepth 100000 in
theorem a_D_readStatement (l : Launch) (D : va_G) (g : Nat → ClassId) (dn : Nat) (hdn : dn ≤ 6) (hB : dn < 6 → ∀ (sz : Nat) (h : Nat) (va : Nat → Nat) (vi : Nat → Int32) (vr : Nat → Nat) (vf : Nat → Nat → Int32) (ta : Nat → Nat) (ph : Nat) (tr : Nat → Nat) (tf : Nat → Nat → Int32) (pa : Nat → Nat) (pr : Nat → Nat) (pf : Nat → Nat → Int32) (n1 : Int32) (hw_v : ∀ k, vr k ≤ rdW_lim k) (hw_t : ∀ k, tr k ≤ tkW_lim k) (hw_p : ∀ k, pr k ≤ pgW_lim k), vz_Mi l D (tyG g) yX3_readStatements cX3_readStatements 7 (5 * (6 - (dn + 1)) + 60) (130 * (6 - (dn + 1)) + 2000) 0 0 .int [.ref h, .int n1, .int (nI (dn + 1))] sz (vz_w [rdW g h va vi vr vf (ta 0) ph, tkW g ta tr tf, pgW g ph pa pr pf]) (fun r (u : (Nat → Int32) × (Nat → Nat) × (Nat → Nat → Int32) × (Nat → Nat) × (Nat → Nat → Int32)) => (∀ k, u.2.1 k ≤ rdW_lim k) ∧ (∀ k, u.2.2.2.1 k ≤ pgW_lim k)) (fun u => vz_w [rdW g h va u.1 u.2.1 u.2.2.1 (ta 0) ph, tkW g ta tr tf, pgW g ph pa u.2.2.2.1 u.2.2.2.2])) (sz : Nat) (h : Nat) (va : Nat → Nat) (vi : Nat → Int32) (vr : Nat → Nat) (vf : Nat → Nat → Int32) (ta : Nat → Nat) (ph : Nat) (tr : Nat → Nat) (tf : Nat → Nat → Int32) (pa : Nat → Nat) (pr : Nat → Nat) (pf : Nat → Nat → Int32) (n1 : Int32) (hw_v : ∀ k, vr k ≤ rdW_lim k) (hw_t : ∀ k, tr k ≤ tkW_lim k) (hw_p : ∀ k, pr k ≤ pgW_lim k) : vz_Mi l D (tyG g) yX3_readStatement cX3_readStatement 5 (5 * (6 - dn) + 59) (130 * (6 - dn) + 1970) 0 0 .int [.ref h, .int n1, .int (nI dn)] sz (vz_w [rdW g h va vi vr vf (ta 0) ph, tkW g ta tr tf, pgW g ph pa pr pf]) (fun r (u : (Nat → Int32) × (Nat → Nat) × (Nat → Nat → Int32) × (Nat → Nat) × (Nat → Nat → Int32)) => (∀ k, u.2.1 k ≤ rdW_lim k) ∧ (∀ k, u.2.2.2.1 k ≤ pgW_lim k)) (fun u => vz_w [rdW g h va u.1 u.2.1 u.2.2.1 (ta 0) ph, tkW g ta tr tf, pgW g ph pa u.2.2.2.1 u.2.2.2.2]) := by
  refine vz_siQ (by decide) (Nat.le_of_ble_eq_true rfl) (fun p e s m args below meth c hx hb hr hml hts hown hlk hin hK hsz A hA H locs hP hD hS ls hl Q hQ => ?_)
  have hl : lv_has ls 5 [(0, .ref h), (1, .int n1), (2, .int (nI dn))] := hl
  have J371 : ∀ (x3_371 : Int32), ∀ (vi_371 : Nat → Int32), ∀ (vr_371 : Nat → Nat), ∀ (vf_371 : Nat → Nat → Int32), ∀ (pr_371 : Nat → Nat), ∀ (pf_371 : Nat → Nat → Int32), (∀ k, vr_371 k ≤ rdW_lim k) → (∀ k, pr_371 k ≤ pgW_lim k) → ∀ (H : Heap) (locs : List Loc) (ls : Array Slot), va_P D vwCl (vz_w [rdW g h va vi_371 vr_371 vf_371 (ta 0) ph, tkW g ta tr tf, pgW g ph pa pr_371 pf_371]) H → va_D A (vz_w [rdW g h va vi_371 vr_371 vf_371 (ta 0) ph, tkW g ta tr tf, pgW g ph pa pr_371 pf_371]) → va_S A s.heap H locs → lv_has ls 5 [(0, .ref h), (1, .int n1), (2, .int (nI dn)), (3, .int x3_371)] → W p l e { frames := (5 * (6 - dn) + 59), cells := 0, slots := 0, locals := (130 * (6 - dn) + 1970) } s m args below meth c H locs 0 0 Q (F0 m 371 ls []) := by
    intro x3_371 vi_371 vr_371 vf_371 pr_371 pf_371 hw_v_371 hw_p_371 H locs ls hP hD hS hl
    refine lv_aload_n hx hb dX3_readStatement_371 rfl (lv_at hl 0 rfl) ?_
    refine lv_bipush (v := 59) hx hb dX3_readStatement_372 (by decide) ?_
    refine vz_Vv3 (As := [.int 59]) (rest := []) hx hb hml hown hts hK hA hP hD hS (a_D_expect l D g H.size h va vi_371 vr_371 vf_371 ta ph tr tf pa pr_371 pf_371 59 hw_v_371 hw_t hw_p_371) kv_X3_64 ⟨by dsimp only; omega, by dsimp only; omega⟩ (q0 := 0) (ci := 3) rfl rfl rfl  hl.1 (Nat.le_of_ble_eq_true rfl) dX3_readStatement_374 ⟨Nat.le_refl _, Nat.le_refl _⟩ rfl (fun vi_1 H locs hp2 _ hP hD hS => ?_)
    try dsimp only at hp2
    replace hP : va_P D vwCl (vz_w [rdW g h va vi_1 vr_371 vf_371 (ta 0) ph, tkW g ta tr tf, pgW g ph pa pr_371 pf_371]) H := hP
    replace hD : va_D A (vz_w [rdW g h va vi_1 vr_371 vf_371 (ta 0) ph, tkW g ta tr tf, pgW g ph pa pr_371 pf_371]) := hD
    refine lv_iload_n hx hb dX3_readStatement_377 rfl (lv_at hl 3 rfl) ?_
    rw [hQ]
    exact vz_iret3 hx hb hr hlk hK hP hD hS (vi_1, vr_371, vf_371, pr_371, pf_371) (⟨hw_v_371, hw_p_371⟩) rfl (Nat.le_refl 0) (Nat.le_refl 0) dX3_readStatement_378
  have J47 : ∀ (vi_47 : Nat → Int32), ∀ (vr_47 : Nat → Nat), ∀ (vf_47 : Nat → Nat → Int32), ∀ (pr_47 : Nat → Nat), ∀ (pf_47 : Nat → Nat → Int32), (∀ k, vr_47 k ≤ rdW_lim k) → (∀ k, pr_47 k ≤ pgW_lim k) → ∀ (H : Heap) (locs : List Loc) (ls : Array Slot), va_P D vwCl (vz_w [rdW g h va vi_47 vr_47 vf_47 (ta 0) ph, tkW g ta tr tf, pgW g ph pa pr_47 pf_47]) H → va_D A (vz_w [rdW g h va vi_47 vr_47 vf_47 (ta 0) ph, tkW g ta tr tf, pgW g ph pa pr_47 pf_47]) → va_S A s.heap H locs → lv_has ls 5 [(0, .ref h), (1, .int n1), (2, .int (nI dn))] → W p l e { frames := (5 * (6 - dn) + 59), cells := 0, slots := 0, locals := (130 * (6 - dn) + 1970) } s m args below meth c H locs 0 0 Q (F0 m 47 ls []) := by
    intro vi_47 vr_47 vf_47 pr_47 pf_47 hw_v_47 hw_p_47 H locs ls hP hD hS hl
    refine lv_aload_n hx hb dX3_readStatement_47 rfl (lv_at hl 0 rfl) ?_
    refine lv_iconst (v := 2) hx hb dX3_readStatement_48 (by decide) ?_
    refine vz_Vv3 (As := [.int 2]) (rest := []) hx hb hml hown hts hK hA hP hD hS (a_D_fail l D g H.size h va vi_47 vr_47 vf_47 ta ph tr tf pa pr_47 pf_47 2 hw_v_47 hw_t hw_p_47) kv_X3_68 ⟨by dsimp only; omega, by dsimp only; omega⟩ (q0 := 0) (ci := 3) rfl rfl rfl  hl.1 (Nat.le_of_ble_eq_true rfl) dX3_readStatement_49 ⟨Nat.le_refl _, Nat.le_refl _⟩ rfl (fun vi_1 H locs hp2 _ hP hD hS => ?_)
    try dsimp only at hp2
    replace hP : va_P D vwCl (vz_w [rdW g h va vi_1 vr_47 vf_47 (ta 0) ph, tkW g ta tr tf, pgW g ph pa pr_47 pf_47]) H := hP
    replace hD : va_D A (vz_w [rdW g h va vi_1 vr_47 vf_47 (ta 0) ph, tkW g ta tr tf, pgW g ph pa pr_47 pf_47]) := hD
    refine lv_bipush (v := (-9)) hx hb dX3_readStatement_52 (by decide) ?_
    rw [hQ]
    exact vz_iret3 hx hb hr hlk hK hP hD hS (vi_1, vr_47, vf_47, pr_47, pf_47) (⟨hw_v_47, hw_p_47⟩) rfl (Nat.le_refl 0) (Nat.le_refl 0) dX3_readStatement_54
  refine lv_aload_n hx hb dX3_readStatement_0 rfl (lv_at hl 0 rfl) ?_
  refine va_get (D := D) (ci := 3) (v := .int (vi 1)) (C := RX3) (T := TX3) (N := 12) hx hb hts inlX3 hown hK hP 0 rfl rfl 6 (by decide) (hts _ q443) (fun _ h => h) rfl dX3_readStatement_1 ?_
  refine vz_Si4 (n9 := 3) (bs2 := fun u : Unit => [rdW g h va vi vr vf (ta 0) ph, tkW g ta tr tf, pgW g ph pa pr pf]) (br := [rdW g h va vi vr vf (ta 0) ph, tkW g ta tr tf, pgW g ph pa pr pf]) (As := [.int (vi 1)]) (rest := []) hx hb hml hown hts hK hA hP hD hS (a_D_beginsStatement l D g H.size (vi 1)) ks_X3_123 ⟨by dsimp only; omega, by dsimp only; omega⟩ [] [0, 1, 2] rfl (by decide) rfl (fun _ => rfl) (fun _ => rfl) hl.1 (Nat.le_of_ble_eq_true rfl) dX3_readStatement_4 ⟨Nat.le_refl _, Nat.le_refl _⟩ rfl (fun v1 _ H locs hz2 _ hP hD hS => ?_)
  refine lv_if_ne (tgt := 18) hx hb dX3_readStatement_7 (by decide) (fun kc3 => ?_) (fun kc3 => ?_)
  · refine lv_aload_n hx hb dX3_readStatement_18 rfl (lv_at hl 0 rfl) ?_
    refine va_get (D := D) (ci := 3) (v := .ref ph) (C := RX3) (T := TX3) (N := 12) hx hb hts inlX3 hown hK hP 0 rfl rfl 4 (by decide) (hts _ q97) (fun _ h => h) rfl dX3_readStatement_19 ?_
    refine va_get (D := D) (ci := 2) (v := .ref (pa 0)) (C := RX2) (T := TX2) (N := 5) hx hb hts inlX2 hown hK hP 9 rfl rfl 0 (by decide) (hts _ q500) (fun _ h => h) rfl dX3_readStatement_22 ?_
    refine va_get (D := D) (ci := 6) (v := .int (nI (pr 0))) (C := RX6) (T := TX6) (N := 4) hx hb hts inlX6 hown hK hP 10 rfl rfl 3 (by decide) (hts _ q472) (fun _ h => h) rfl dX3_readStatement_25 ?_
    refine lv_bipush (v := 80) hx hb dX3_readStatement_28 (by decide) ?_
    refine lv_icmp_ge (tgt := 47) hx hb dX3_readStatement_30 (by decide) (fun kc4 => ?_) (fun kc4 => ?_)
    · exact J47 vi vr vf pr pf hw_v hw_p H locs ls hP hD hS (lv_sub hl [0, 1, 2] rfl)
    · refine lv_aload_n hx hb dX3_readStatement_33 rfl (lv_at hl 0 rfl) ?_
      refine vz_Vi3 (As := []) (rest := []) hx hb hml hown hts hK hA hP hD hS (a_D_isNoVariable l D g H.size h va vi vr vf ta ph tr tf pa pr pf hw_v hw_t hw_p) kv_X3_127 ⟨by dsimp only; omega, by dsimp only; omega⟩ (q0 := 0) (ci := 3) rfl rfl rfl  hl.1 (Nat.le_of_ble_eq_true rfl) dX3_readStatement_34 ⟨Nat.le_refl _, Nat.le_refl _⟩ rfl (fun v5 _ H locs hz6 _ hP hD hS => ?_)
      refine lv_if_ne (tgt := 47) hx hb dX3_readStatement_37 (by decide) (fun kc7 => ?_) (fun kc7 => ?_)
      · exact J47 vi vr vf pr pf hw_v hw_p H locs ls hP hD hS (lv_sub hl [0, 1, 2] rfl)
      · refine lv_aload_n hx hb dX3_readStatement_40 rfl (lv_at hl 0 rfl) ?_
        refine vz_Vi3 (As := []) (rest := []) hx hb hml hown hts hK hA hP hD hS (a_D_isNoRow l D g H.size h va vi vr vf ta ph tr tf pa pr pf hw_v hw_t hw_p) kv_X3_131 ⟨by dsimp only; omega, by dsimp only; omega⟩ (q0 := 0) (ci := 3) rfl rfl rfl  hl.1 (Nat.le_of_ble_eq_true rfl) dX3_readStatement_41 ⟨Nat.le_refl _, Nat.le_refl _⟩ rfl (fun v8 _ H locs hz9 _ hP hD hS => ?_)
        refine lv_if_eq (tgt := 55) hx hb dX3_readStatement_44 (by decide) (fun kc10 => ?_) (fun kc10 => ?_)
        · refine lv_aload_n hx hb dX3_readStatement_55 rfl (lv_at hl 0 rfl) ?_
          refine va_get (D := D) (ci := 3) (v := .ref ph) (C := RX3) (T := TX3) (N := 12) hx hb hts inlX3 hown hK hP 0 rfl rfl 4 (by decide) (hts _ q97) (fun _ h => h) rfl dX3_readStatement_56 ?_
          refine va_get (D := D) (ci := 2) (v := .ref (pa 0)) (C := RX2) (T := TX2) (N := 5) hx hb hts inlX2 hown hK hP 9 rfl rfl 0 (by decide) (hts _ q500) (fun _ h => h) rfl dX3_readStatement_59 ?_
          refine vz_Vi2 (ws' := fun u : (Nat × (Nat → Int32)) => vz_w [rdW g h va vi vr vf (ta 0) ph, tkW g ta tr tf, pgW g ph pa (vz_un pr 0 u.1) (vz_uf pf 0 u.2)]) (As := []) (rest := []) hx hb hml hown hts hK hA hP hD hS (c_T_add l D g (pa 0) (pa 1) H.size 12 80 (pr 0) 960 (pf 0) ⟨rfl, by decide, by decide, by decide, by decide, hw_p 0⟩) kv_X3_110 ⟨by dsimp only; omega, by dsimp only; omega⟩ (q0 := 10) (ci := 6) rfl rfl rfl [10, 11] rfl (by decide) (fun _ => rfl) (fun _ => rfl) hl.1 (Nat.le_of_ble_eq_true rfl) dX3_readStatement_62 ⟨Nat.le_refl _, Nat.le_refl _⟩ rfl (fun v13 ⟨u11R, u11f⟩ H locs ha12 _ hP hD hS => ?_)
          have hq : (pr 0) ≤ 80 := hw_p 0
          replace ha12 : u11R ≤ 80 := by rcases ha12 with ⟨z1, -, z2, -⟩ | ⟨z1, -, z2, -⟩ <;> (dsimp only at z2; omega)
          obtain ⟨pr_14, hw_pr_14, pf_15, hP, hD⟩ : ∃ pr_14 : Nat → Nat, (∀ k, pr_14 k ≤ pgW_lim k) ∧ ∃ pf_15 : Nat → Nat → Int32, va_P D vwCl (vz_w [rdW g h va vi vr vf (ta 0) ph, tkW g ta tr tf, pgW g ph pa pr_14 pf_15]) H ∧ va_D A (vz_w [rdW g h va vi vr vf (ta 0) ph, tkW g ta tr tf, pgW g ph pa pr_14 pf_15]) := ⟨(vz_un pr 0 u11R), (vz_wf hw_p (t := 0) (v := u11R) (ha12)), (vz_uf pf 0 u11f), hP, hD⟩
          refine lv_istore_n (lv' := [(3, .int v13), (0, .ref h), (1, .int n1), (2, .int (nI dn))]) hx hb dX3_readStatement_65 rfl hl (by decide) rfl (fun ls hl => ?_)
          refine lv_aload_n hx hb dX3_readStatement_66 rfl (lv_at hl 1 rfl) ?_
          refine va_get (D := D) (ci := 3) (v := .ref ph) (C := RX3) (T := TX3) (N := 12) hx hb hts inlX3 hown hK hP 0 rfl rfl 4 (by decide) (hts _ q97) (fun _ h => h) rfl dX3_readStatement_67 ?_
          refine va_get (D := D) (ci := 2) (v := .ref (pa 0)) (C := RX2) (T := TX2) (N := 5) hx hb hts inlX2 hown hK hP 9 rfl rfl 0 (by decide) (hts _ q500) (fun _ h => h) rfl dX3_readStatement_70 ?_
          refine lv_iload_n hx hb dX3_readStatement_73 rfl (lv_at hl 0 rfl) ?_
          refine lv_bipush (v := 10) hx hb dX3_readStatement_74 (by decide) ?_
          refine lv_iload_n hx hb dX3_readStatement_76 rfl (lv_at hl 2 rfl) ?_
          refine vz_Vv2 (ws' := fun u : (Nat → Int32) => vz_w [rdW g h va vi vr vf (ta 0) ph, tkW g ta tr tf, pgW g ph pa pr_14 (vz_uf pf_15 0 u)]) (As := [.int v13, .int 10, .int n1]) (rest := []) hx hb hml hown hts hK hA hP hD hS (c_T_set l D g (pa 0) (pa 1) H.size 12 80 (pr_14 0) 960 (pf_15 0) v13 10 n1 ⟨rfl, by decide, by decide, by decide, by decide, hw_pr_14 0⟩) kv_X3_60 ⟨by dsimp only; omega, by dsimp only; omega⟩ (q0 := 10) (ci := 6) rfl rfl rfl [10, 11] rfl (by decide) (fun _ => rfl) (fun _ => rfl) hl.1 (Nat.le_of_ble_eq_true rfl) dX3_readStatement_77 ⟨Nat.le_refl _, Nat.le_refl _⟩ rfl (fun nf16 H locs _ _ hP hD hS => ?_)
          obtain ⟨pf_17, hP, hD⟩ : ∃ pf_17 : Nat → Nat → Int32, va_P D vwCl (vz_w [rdW g h va vi vr vf (ta 0) ph, tkW g ta tr tf, pgW g ph pa pr_14 pf_17]) H ∧ va_D A (vz_w [rdW g h va vi vr vf (ta 0) ph, tkW g ta tr tf, pgW g ph pa pr_14 pf_17]) := ⟨(vz_uf pf_15 0 nf16), hP, hD⟩
          refine lv_aload_n hx hb dX3_readStatement_80 rfl (lv_at hl 1 rfl) ?_
          refine va_get (D := D) (ci := 3) (v := .ref ph) (C := RX3) (T := TX3) (N := 12) hx hb hts inlX3 hown hK hP 0 rfl rfl 4 (by decide) (hts _ q97) (fun _ h => h) rfl dX3_readStatement_81 ?_
          refine va_get (D := D) (ci := 2) (v := .ref (pa 0)) (C := RX2) (T := TX2) (N := 5) hx hb hts inlX2 hown hK hP 9 rfl rfl 0 (by decide) (hts _ q500) (fun _ h => h) rfl dX3_readStatement_84 ?_
          refine lv_iload_n hx hb dX3_readStatement_87 rfl (lv_at hl 0 rfl) ?_
          refine lv_bipush (v := 9) hx hb dX3_readStatement_88 (by decide) ?_
          refine lv_iload_n hx hb dX3_readStatement_90 rfl (lv_at hl 3 rfl) ?_
          refine vz_Vv2 (ws' := fun u : (Nat → Int32) => vz_w [rdW g h va vi vr vf (ta 0) ph, tkW g ta tr tf, pgW g ph pa pr_14 (vz_uf pf_17 0 u)]) (As := [.int v13, .int 9, .int (nI dn)]) (rest := []) hx hb hml hown hts hK hA hP hD hS (c_T_set l D g (pa 0) (pa 1) H.size 12 80 (pr_14 0) 960 (pf_17 0) v13 9 (nI dn) ⟨rfl, by decide, by decide, by decide, by decide, hw_pr_14 0⟩) kv_X3_60 ⟨by dsimp only; omega, by dsimp only; omega⟩ (q0 := 10) (ci := 6) rfl rfl rfl [10, 11] rfl (by decide) (fun _ => rfl) (fun _ => rfl) hl.1 (Nat.le_of_ble_eq_true rfl) dX3_readStatement_91 ⟨Nat.le_refl _, Nat.le_refl _⟩ rfl (fun nf18 H locs _ _ hP hD hS => ?_)
          obtain ⟨pf_19, hP, hD⟩ : ∃ pf_19 : Nat → Nat → Int32, va_P D vwCl (vz_w [rdW g h va vi vr vf (ta 0) ph, tkW g ta tr tf, pgW g ph pa pr_14 pf_19]) H ∧ va_D A (vz_w [rdW g h va vi vr vf (ta 0) ph, tkW g ta tr tf, pgW g ph pa pr_14 pf_19]) := ⟨(vz_uf pf_17 0 nf18), hP, hD⟩
          refine lv_aload_n hx hb dX3_readStatement_94 rfl (lv_at hl 1 rfl) ?_
          refine va_get (D := D) (ci := 3) (v := .int (vi 1)) (C := RX3) (T := TX3) (N := 12) hx hb hts inlX3 hown hK hP 0 rfl rfl 6 (by decide) (hts _ q443) (fun _ h => h) rfl dX3_readStatement_95 ?_
          have S98_212 : W p l e { frames := (5 * (6 - dn) + 59), cells := 0, slots := 0, locals := (130 * (6 - dn) + 1970) } s m args below meth c H locs 0 0 Q (F0 m 212 ls []) := by
            refine lv_aload_n hx hb dX3_readStatement_212 rfl (lv_at hl 1 rfl) ?_
            refine lv_iload_n hx hb dX3_readStatement_213 rfl (lv_at hl 0 rfl) ?_
            refine lv_iload_n hx hb dX3_readStatement_214 rfl (lv_at hl 3 rfl) ?_
            refine vz_Vv3 (As := [.int v13, .int (nI dn)]) (rest := []) hx hb hml hown hts hK hA hP hD hS (a_D_readIf l D g dn hdn hB H.size h va vi vr vf ta ph tr tf pa pr_14 pf_19 v13 hw_v hw_t hw_pr_14) kv_X3_134 ⟨by dsimp only; omega, by dsimp only; omega⟩ (q0 := 0) (ci := 3) rfl rfl rfl  hl.1 (Nat.le_of_ble_eq_true rfl) dX3_readStatement_215 ⟨Nat.le_refl _, Nat.le_refl _⟩ rfl (fun ⟨vi_20, vr_21, vf_22, pr_23, pf_24⟩ H locs ⟨hw_25, hw_26⟩ _ hP hD hS => ?_)
            try dsimp only at hw_25 hw_26
            replace hP : va_P D vwCl (vz_w [rdW g h va vi_20 vr_21 vf_22 (ta 0) ph, tkW g ta tr tf, pgW g ph pa pr_23 pf_24]) H := hP
            replace hD : va_D A (vz_w [rdW g h va vi_20 vr_21 vf_22 (ta 0) ph, tkW g ta tr tf, pgW g ph pa pr_23 pf_24]) := hD
            refine lv_iload_n hx hb dX3_readStatement_218 rfl (lv_at hl 0 rfl) ?_
            rw [hQ]
            exact vz_iret3 hx hb hr hlk hK hP hD hS (vi_20, vr_21, vf_22, pr_23, pf_24) (⟨hw_25, hw_26⟩) rfl (Nat.le_refl 0) (Nat.le_refl 0) dX3_readStatement_219
          have S98_220 : W p l e { frames := (5 * (6 - dn) + 59), cells := 0, slots := 0, locals := (130 * (6 - dn) + 1970) } s m args below meth c H locs 0 0 Q (F0 m 220 ls []) := by
            refine lv_aload_n hx hb dX3_readStatement_220 rfl (lv_at hl 1 rfl) ?_
            refine lv_iload_n hx hb dX3_readStatement_221 rfl (lv_at hl 0 rfl) ?_
            refine lv_iload_n hx hb dX3_readStatement_222 rfl (lv_at hl 3 rfl) ?_
            refine vz_Vv3 (As := [.int v13, .int (nI dn)]) (rest := []) hx hb hml hown hts hK hA hP hD hS (a_D_readLoop l D g dn hdn hB H.size h va vi vr vf ta ph tr tf pa pr_14 pf_19 v13 hw_v hw_t hw_pr_14) kv_X3_137 ⟨by dsimp only; omega, by dsimp only; omega⟩ (q0 := 0) (ci := 3) rfl rfl rfl  hl.1 (Nat.le_of_ble_eq_true rfl) dX3_readStatement_223 ⟨Nat.le_refl _, Nat.le_refl _⟩ rfl (fun ⟨vi_27, vr_28, vf_29, pr_30, pf_31⟩ H locs ⟨hw_32, hw_33⟩ _ hP hD hS => ?_)
            try dsimp only at hw_32 hw_33
            replace hP : va_P D vwCl (vz_w [rdW g h va vi_27 vr_28 vf_29 (ta 0) ph, tkW g ta tr tf, pgW g ph pa pr_30 pf_31]) H := hP
            replace hD : va_D A (vz_w [rdW g h va vi_27 vr_28 vf_29 (ta 0) ph, tkW g ta tr tf, pgW g ph pa pr_30 pf_31]) := hD
            refine lv_iload_n hx hb dX3_readStatement_226 rfl (lv_at hl 0 rfl) ?_
            rw [hQ]
            exact vz_iret3 hx hb hr hlk hK hP hD hS (vi_27, vr_28, vf_29, pr_30, pf_31) (⟨hw_32, hw_33⟩) rfl (Nat.le_refl 0) (Nat.le_refl 0) dX3_readStatement_227
          have S98_228 : W p l e { frames := (5 * (6 - dn) + 59), cells := 0, slots := 0, locals := (130 * (6 - dn) + 1970) } s m args below meth c H locs 0 0 Q (F0 m 228 ls []) := by
            refine lv_aload_n hx hb dX3_readStatement_228 rfl (lv_at hl 1 rfl) ?_
            refine lv_iload_n hx hb dX3_readStatement_229 rfl (lv_at hl 0 rfl) ?_
            refine lv_iload_n hx hb dX3_readStatement_230 rfl (lv_at hl 3 rfl) ?_
            refine vz_Vv3 (As := [.int v13, .int (nI dn)]) (rest := []) hx hb hml hown hts hK hA hP hD hS (a_D_readGuard l D g dn hdn hB H.size h va vi vr vf ta ph tr tf pa pr_14 pf_19 v13 hw_v hw_t hw_pr_14) kv_X3_140 ⟨by dsimp only; omega, by dsimp only; omega⟩ (q0 := 0) (ci := 3) rfl rfl rfl  hl.1 (Nat.le_of_ble_eq_true rfl) dX3_readStatement_231 ⟨Nat.le_refl _, Nat.le_refl _⟩ rfl (fun ⟨vi_34, vr_35, vf_36, pr_37, pf_38⟩ H locs ⟨hw_39, hw_40⟩ _ hP hD hS => ?_)
            try dsimp only at hw_39 hw_40
            replace hP : va_P D vwCl (vz_w [rdW g h va vi_34 vr_35 vf_36 (ta 0) ph, tkW g ta tr tf, pgW g ph pa pr_37 pf_38]) H := hP
            replace hD : va_D A (vz_w [rdW g h va vi_34 vr_35 vf_36 (ta 0) ph, tkW g ta tr tf, pgW g ph pa pr_37 pf_38]) := hD
            refine lv_iload_n hx hb dX3_readStatement_234 rfl (lv_at hl 0 rfl) ?_
            rw [hQ]
            exact vz_iret3 hx hb hr hlk hK hP hD hS (vi_34, vr_35, vf_36, pr_37, pf_38) (⟨hw_39, hw_40⟩) rfl (Nat.le_refl 0) (Nat.le_refl 0) dX3_readStatement_235
          have S98_236 : W p l e { frames := (5 * (6 - dn) + 59), cells := 0, slots := 0, locals := (130 * (6 - dn) + 1970) } s m args below meth c H locs 0 0 Q (F0 m 236 ls []) := by
            refine lv_aload_n hx hb dX3_readStatement_236 rfl (lv_at hl 1 rfl) ?_
            refine lv_iload_n hx hb dX3_readStatement_237 rfl (lv_at hl 0 rfl) ?_
            refine lv_iload_n hx hb dX3_readStatement_238 rfl (lv_at hl 3 rfl) ?_
            refine vz_Vv3 (As := [.int v13, .int (nI dn)]) (rest := []) hx hb hml hown hts hK hA hP hD hS (a_D_readGuard l D g dn hdn hB H.size h va vi vr vf ta ph tr tf pa pr_14 pf_19 v13 hw_v hw_t hw_pr_14) kv_X3_140 ⟨by dsimp only; omega, by dsimp only; omega⟩ (q0 := 0) (ci := 3) rfl rfl rfl  hl.1 (Nat.le_of_ble_eq_true rfl) dX3_readStatement_239 ⟨Nat.le_refl _, Nat.le_refl _⟩ rfl (fun ⟨vi_41, vr_42, vf_43, pr_44, pf_45⟩ H locs ⟨hw_46, hw_47⟩ _ hP hD hS => ?_)
            try dsimp only at hw_46 hw_47
            replace hP : va_P D vwCl (vz_w [rdW g h va vi_41 vr_42 vf_43 (ta 0) ph, tkW g ta tr tf, pgW g ph pa pr_44 pf_45]) H := hP
            replace hD : va_D A (vz_w [rdW g h va vi_41 vr_42 vf_43 (ta 0) ph, tkW g ta tr tf, pgW g ph pa pr_44 pf_45]) := hD
            refine lv_iload_n hx hb dX3_readStatement_242 rfl (lv_at hl 0 rfl) ?_
            rw [hQ]
            exact vz_iret3 hx hb hr hlk hK hP hD hS (vi_41, vr_42, vf_43, pr_44, pf_45) (⟨hw_46, hw_47⟩) rfl (Nat.le_refl 0) (Nat.le_refl 0) dX3_readStatement_243
          have S98_244 : W p l e { frames := (5 * (6 - dn) + 59), cells := 0, slots := 0, locals := (130 * (6 - dn) + 1970) } s m args below meth c H locs 0 0 Q (F0 m 244 ls []) := by
            refine lv_aload_n hx hb dX3_readStatement_244 rfl (lv_at hl 1 rfl) ?_
            refine va_get (D := D) (ci := 3) (v := .int (vi 2)) (C := RX3) (T := TX3) (N := 12) hx hb hts inlX3 hown hK hP 0 rfl rfl 7 (by decide) (hts _ q464) (fun _ h => h) rfl dX3_readStatement_245 ?_
            refine lv_istore (lv' := [(4, .int (vi 2)), (3, .int v13), (0, .ref h), (1, .int n1), (2, .int (nI dn))]) hx hb dX3_readStatement_248 hl (by decide) rfl (fun ls hl => ?_)
            refine lv_aload_n hx hb dX3_readStatement_250 rfl (lv_at hl 2 rfl) ?_
            refine vz_Vv3 (As := []) (rest := []) hx hb hml hown hts hK hA hP hD hS (a_D_advance l D g H.size h va vi vr vf ta ph tr tf pa pr_14 pf_19 hw_v hw_t hw_pr_14) kv_X3_89 ⟨by dsimp only; omega, by dsimp only; omega⟩ (q0 := 0) (ci := 3) rfl rfl rfl  hl.1 (Nat.le_of_ble_eq_true rfl) dX3_readStatement_251 ⟨Nat.le_refl _, Nat.le_refl _⟩ rfl (fun vi_48 H locs _ _ hP hD hS => ?_)
            replace hP : va_P D vwCl (vz_w [rdW g h va vi_48 vr vf (ta 0) ph, tkW g ta tr tf, pgW g ph pa pr_14 pf_19]) H := hP
            replace hD : va_D A (vz_w [rdW g h va vi_48 vr vf (ta 0) ph, tkW g ta tr tf, pgW g ph pa pr_14 pf_19]) := hD
            refine lv_aload_n hx hb dX3_readStatement_254 rfl (lv_at hl 2 rfl) ?_
            refine lv_bipush (v := 61) hx hb dX3_readStatement_255 (by decide) ?_
            refine vz_Vv3 (As := [.int 61]) (rest := []) hx hb hml hown hts hK hA hP hD hS (a_D_expect l D g H.size h va vi_48 vr vf ta ph tr tf pa pr_14 pf_19 61 hw_v hw_t hw_pr_14) kv_X3_64 ⟨by dsimp only; omega, by dsimp only; omega⟩ (q0 := 0) (ci := 3) rfl rfl rfl  hl.1 (Nat.le_of_ble_eq_true rfl) dX3_readStatement_257 ⟨Nat.le_refl _, Nat.le_refl _⟩ rfl (fun vi_49 H locs hp50 _ hP hD hS => ?_)
            try dsimp only at hp50
            replace hP : va_P D vwCl (vz_w [rdW g h va vi_49 vr vf (ta 0) ph, tkW g ta tr tf, pgW g ph pa pr_14 pf_19]) H := hP
            replace hD : va_D A (vz_w [rdW g h va vi_49 vr vf (ta 0) ph, tkW g ta tr tf, pgW g ph pa pr_14 pf_19]) := hD
            refine lv_aload_n hx hb dX3_readStatement_260 rfl (lv_at hl 2 rfl) ?_
            refine va_get (D := D) (ci := 3) (v := .int (vi_49 1)) (C := RX3) (T := TX3) (N := 12) hx hb hts inlX3 hown hK hP 0 rfl rfl 6 (by decide) (hts _ q443) (fun _ h => h) rfl dX3_readStatement_261 ?_
            refine lv_sipush (v := 132) hx hb dX3_readStatement_264 (by decide) ?_
            refine lv_icmp_ne (tgt := 280) hx hb dX3_readStatement_267 (by decide) (fun kc51 => ?_) (fun kc51 => ?_)
            · refine lv_aload_n hx hb dX3_readStatement_280 rfl (lv_at hl 2 rfl) ?_
              refine lv_iload_n hx hb dX3_readStatement_281 rfl (lv_at hl 1 rfl) ?_
              refine lv_iload hx hb dX3_readStatement_282 (lv_at hl 0 rfl) ?_
              refine vz_Vv3 (As := [.int v13, .int (vi 2)]) (rest := []) hx hb hml hown hts hK hA hP hD hS (a_D_readSet l D g H.size h va vi_49 vr vf ta ph tr tf pa pr_14 pf_19 v13 (vi 2) hw_v hw_t hw_pr_14) kv_X3_146 ⟨by dsimp only; omega, by dsimp only; omega⟩ (q0 := 0) (ci := 3) rfl rfl rfl  hl.1 (Nat.le_of_ble_eq_true rfl) dX3_readStatement_284 ⟨Nat.le_refl _, Nat.le_refl _⟩ rfl (fun ⟨vi_52, pr_53, pf_54⟩ H locs hw_55 _ hP hD hS => ?_)
              try dsimp only at hw_55
              replace hP : va_P D vwCl (vz_w [rdW g h va vi_52 vr vf (ta 0) ph, tkW g ta tr tf, pgW g ph pa pr_53 pf_54]) H := hP
              replace hD : va_D A (vz_w [rdW g h va vi_52 vr vf (ta 0) ph, tkW g ta tr tf, pgW g ph pa pr_53 pf_54]) := hD
              refine lv_goto (tgt := 371) hx hb dX3_readStatement_287 (by decide) ?_
              exact J371 v13 vi_52 vr vf pr_53 pf_54 hw_v hw_55 H locs ls hP hD hS (lv_sub hl [2, 3, 4, 1] rfl)
            · refine lv_aload_n hx hb dX3_readStatement_270 rfl (lv_at hl 2 rfl) ?_
              refine lv_iload_n hx hb dX3_readStatement_271 rfl (lv_at hl 1 rfl) ?_
              refine lv_iload hx hb dX3_readStatement_272 (lv_at hl 0 rfl) ?_
              refine vz_Vv3 (As := [.int v13, .int (vi 2)]) (rest := []) hx hb hml hown hts hK hA hP hD hS (a_D_readCall l D g H.size h va vi_49 vr vf ta ph tr tf pa pr_14 pf_19 v13 (vi 2) hw_v hw_t hw_pr_14) kv_X3_143 ⟨by dsimp only; omega, by dsimp only; omega⟩ (q0 := 0) (ci := 3) rfl rfl rfl  hl.1 (Nat.le_of_ble_eq_true rfl) dX3_readStatement_274 ⟨Nat.le_refl _, Nat.le_refl _⟩ rfl (fun ⟨vi_56, vf_57, pr_58, pf_59⟩ H locs hw_60 _ hP hD hS => ?_)
              try dsimp only at hw_60
              replace hP : va_P D vwCl (vz_w [rdW g h va vi_56 vr vf_57 (ta 0) ph, tkW g ta tr tf, pgW g ph pa pr_58 pf_59]) H := hP
              replace hD : va_D A (vz_w [rdW g h va vi_56 vr vf_57 (ta 0) ph, tkW g ta tr tf, pgW g ph pa pr_58 pf_59]) := hD
              refine lv_goto (tgt := 371) hx hb dX3_readStatement_277 (by decide) ?_
              exact J371 v13 vi_56 vr vf_57 pr_58 pf_59 hw_v hw_60 H locs ls hP hD hS (lv_sub hl [2, 3, 4, 1] rfl)
          have S98_290 : W p l e { frames := (5 * (6 - dn) + 59), cells := 0, slots := 0, locals := (130 * (6 - dn) + 1970) } s m args below meth c H locs 0 0 Q (F0 m 290 ls []) := by
            refine lv_aload_n hx hb dX3_readStatement_290 rfl (lv_at hl 1 rfl) ?_
            refine lv_iload_n hx hb dX3_readStatement_291 rfl (lv_at hl 0 rfl) ?_
            refine vz_Vv3 (As := [.int v13]) (rest := []) hx hb hml hown hts hK hA hP hD hS (a_D_readRow l D g H.size h va vi vr vf ta ph tr tf pa pr_14 pf_19 v13 hw_v hw_t hw_pr_14) kv_X3_149 ⟨by dsimp only; omega, by dsimp only; omega⟩ (q0 := 0) (ci := 3) rfl rfl rfl  hl.1 (Nat.le_of_ble_eq_true rfl) dX3_readStatement_292 ⟨Nat.le_refl _, Nat.le_refl _⟩ rfl (fun ⟨vi_61, pr_62, pf_63⟩ H locs hw_64 _ hP hD hS => ?_)
            try dsimp only at hw_64
            replace hP : va_P D vwCl (vz_w [rdW g h va vi_61 vr vf (ta 0) ph, tkW g ta tr tf, pgW g ph pa pr_62 pf_63]) H := hP
            replace hD : va_D A (vz_w [rdW g h va vi_61 vr vf (ta 0) ph, tkW g ta tr tf, pgW g ph pa pr_62 pf_63]) := hD
            refine lv_goto (tgt := 371) hx hb dX3_readStatement_295 (by decide) ?_
            exact J371 v13 vi_61 vr vf pr_62 pf_63 hw_v hw_64 H locs ls hP hD hS (lv_sub hl [1, 2, 3, 0] rfl)
          have S98_298 : W p l e { frames := (5 * (6 - dn) + 59), cells := 0, slots := 0, locals := (130 * (6 - dn) + 1970) } s m args below meth c H locs 0 0 Q (F0 m 298 ls []) := by
            refine lv_aload_n hx hb dX3_readStatement_298 rfl (lv_at hl 1 rfl) ?_
            refine lv_iload_n hx hb dX3_readStatement_299 rfl (lv_at hl 0 rfl) ?_
            refine lv_bipush (v := (-9)) hx hb dX3_readStatement_300 (by decide) ?_
            refine vz_Vv3 (As := [.int v13, .int (-9)]) (rest := []) hx hb hml hown hts hK hA hP hD hS (a_D_readCall l D g H.size h va vi vr vf ta ph tr tf pa pr_14 pf_19 v13 (-9) hw_v hw_t hw_pr_14) kv_X3_143 ⟨by dsimp only; omega, by dsimp only; omega⟩ (q0 := 0) (ci := 3) rfl rfl rfl  hl.1 (Nat.le_of_ble_eq_true rfl) dX3_readStatement_302 ⟨Nat.le_refl _, Nat.le_refl _⟩ rfl (fun ⟨vi_65, vf_66, pr_67, pf_68⟩ H locs hw_69 _ hP hD hS => ?_)
            try dsimp only at hw_69
            replace hP : va_P D vwCl (vz_w [rdW g h va vi_65 vr vf_66 (ta 0) ph, tkW g ta tr tf, pgW g ph pa pr_67 pf_68]) H := hP
            replace hD : va_D A (vz_w [rdW g h va vi_65 vr vf_66 (ta 0) ph, tkW g ta tr tf, pgW g ph pa pr_67 pf_68]) := hD
            refine lv_goto (tgt := 371) hx hb dX3_readStatement_305 (by decide) ?_
            exact J371 v13 vi_65 vr vf_66 pr_67 pf_68 hw_v hw_69 H locs ls hP hD hS (lv_sub hl [1, 2, 3, 0] rfl)
          have S98_308 : W p l e { frames := (5 * (6 - dn) + 59), cells := 0, slots := 0, locals := (130 * (6 - dn) + 1970) } s m args below meth c H locs 0 0 Q (F0 m 308 ls []) := by
            refine lv_aload_n hx hb dX3_readStatement_308 rfl (lv_at hl 1 rfl) ?_
            refine lv_iload_n hx hb dX3_readStatement_309 rfl (lv_at hl 0 rfl) ?_
            refine lv_bipush (v := 10) hx hb dX3_readStatement_310 (by decide) ?_
            refine vz_Vv3 (As := [.int v13, .int 10]) (rest := []) hx hb hml hown hts hK hA hP hD hS (a_D_readJump l D g H.size h va vi vr vf ta ph tr tf pa pr_14 pf_19 v13 10 hw_v hw_t hw_pr_14) kv_X3_152 ⟨by dsimp only; omega, by dsimp only; omega⟩ (q0 := 0) (ci := 3) rfl rfl rfl  hl.1 (Nat.le_of_ble_eq_true rfl) dX3_readStatement_312 ⟨Nat.le_refl _, Nat.le_refl _⟩ rfl (fun ⟨vi_70, pf_71⟩ H locs _ _ hP hD hS => ?_)
            replace hP : va_P D vwCl (vz_w [rdW g h va vi_70 vr vf (ta 0) ph, tkW g ta tr tf, pgW g ph pa pr_14 pf_71]) H := hP
            replace hD : va_D A (vz_w [rdW g h va vi_70 vr vf (ta 0) ph, tkW g ta tr tf, pgW g ph pa pr_14 pf_71]) := hD
            refine lv_goto (tgt := 371) hx hb dX3_readStatement_315 (by decide) ?_
            exact J371 v13 vi_70 vr vf pr_14 pf_71 hw_v hw_pr_14 H locs ls hP hD hS (lv_sub hl [1, 2, 3, 0] rfl)
          have S98_318 : W p l e { frames := (5 * (6 - dn) + 59), cells := 0, slots := 0, locals := (130 * (6 - dn) + 1970) } s m args below meth c H locs 0 0 Q (F0 m 318 ls []) := by
            refine lv_aload_n hx hb dX3_readStatement_318 rfl (lv_at hl 1 rfl) ?_
            refine lv_iload_n hx hb dX3_readStatement_319 rfl (lv_at hl 0 rfl) ?_
            refine lv_bipush (v := 11) hx hb dX3_readStatement_320 (by decide) ?_
            refine vz_Vv3 (As := [.int v13, .int 11]) (rest := []) hx hb hml hown hts hK hA hP hD hS (a_D_readJump l D g H.size h va vi vr vf ta ph tr tf pa pr_14 pf_19 v13 11 hw_v hw_t hw_pr_14) kv_X3_152 ⟨by dsimp only; omega, by dsimp only; omega⟩ (q0 := 0) (ci := 3) rfl rfl rfl  hl.1 (Nat.le_of_ble_eq_true rfl) dX3_readStatement_322 ⟨Nat.le_refl _, Nat.le_refl _⟩ rfl (fun ⟨vi_72, pf_73⟩ H locs _ _ hP hD hS => ?_)
            replace hP : va_P D vwCl (vz_w [rdW g h va vi_72 vr vf (ta 0) ph, tkW g ta tr tf, pgW g ph pa pr_14 pf_73]) H := hP
            replace hD : va_D A (vz_w [rdW g h va vi_72 vr vf (ta 0) ph, tkW g ta tr tf, pgW g ph pa pr_14 pf_73]) := hD
            refine lv_goto (tgt := 371) hx hb dX3_readStatement_325 (by decide) ?_
            exact J371 v13 vi_72 vr vf pr_14 pf_73 hw_v hw_pr_14 H locs ls hP hD hS (lv_sub hl [1, 2, 3, 0] rfl)
          have S98_328 : W p l e { frames := (5 * (6 - dn) + 59), cells := 0, slots := 0, locals := (130 * (6 - dn) + 1970) } s m args below meth c H locs 0 0 Q (F0 m 328 ls []) := by
            refine lv_aload_n hx hb dX3_readStatement_328 rfl (lv_at hl 1 rfl) ?_
            refine lv_iload_n hx hb dX3_readStatement_329 rfl (lv_at hl 0 rfl) ?_
            refine vz_Vv3 (As := [.int v13]) (rest := []) hx hb hml hown hts hK hA hP hD hS (a_D_readMark l D g H.size h va vi vr vf ta ph tr tf pa pr_14 pf_19 v13 hw_v hw_t hw_pr_14) kv_X3_155 ⟨by dsimp only; omega, by dsimp only; omega⟩ (q0 := 0) (ci := 3) rfl rfl rfl  hl.1 (Nat.le_of_ble_eq_true rfl) dX3_readStatement_330 ⟨Nat.le_refl _, Nat.le_refl _⟩ rfl (fun ⟨vi_74, pf_75⟩ H locs _ _ hP hD hS => ?_)
            replace hP : va_P D vwCl (vz_w [rdW g h va vi_74 vr vf (ta 0) ph, tkW g ta tr tf, pgW g ph pa pr_14 pf_75]) H := hP
            replace hD : va_D A (vz_w [rdW g h va vi_74 vr vf (ta 0) ph, tkW g ta tr tf, pgW g ph pa pr_14 pf_75]) := hD
            refine lv_goto (tgt := 371) hx hb dX3_readStatement_333 (by decide) ?_
            exact J371 v13 vi_74 vr vf pr_14 pf_75 hw_v hw_pr_14 H locs ls hP hD hS (lv_sub hl [1, 2, 3, 0] rfl)
          have S98_336 : W p l e { frames := (5 * (6 - dn) + 59), cells := 0, slots := 0, locals := (130 * (6 - dn) + 1970) } s m args below meth c H locs 0 0 Q (F0 m 336 ls []) := by
            refine lv_aload_n hx hb dX3_readStatement_336 rfl (lv_at hl 1 rfl) ?_
            refine lv_iload_n hx hb dX3_readStatement_337 rfl (lv_at hl 0 rfl) ?_
            refine vz_Vv3 (As := [.int v13]) (rest := []) hx hb hml hown hts hK hA hP hD hS (a_D_readReturn l D g H.size h va vi vr vf ta ph tr tf pa pr_14 pf_19 v13 hw_v hw_t hw_pr_14) kv_X3_158 ⟨by dsimp only; omega, by dsimp only; omega⟩ (q0 := 0) (ci := 3) rfl rfl rfl  hl.1 (Nat.le_of_ble_eq_true rfl) dX3_readStatement_338 ⟨Nat.le_refl _, Nat.le_refl _⟩ rfl (fun ⟨vi_76, pr_77, pf_78⟩ H locs hw_79 _ hP hD hS => ?_)
            try dsimp only at hw_79
            replace hP : va_P D vwCl (vz_w [rdW g h va vi_76 vr vf (ta 0) ph, tkW g ta tr tf, pgW g ph pa pr_77 pf_78]) H := hP
            replace hD : va_D A (vz_w [rdW g h va vi_76 vr vf (ta 0) ph, tkW g ta tr tf, pgW g ph pa pr_77 pf_78]) := hD
            refine lv_goto (tgt := 371) hx hb dX3_readStatement_341 (by decide) ?_
            exact J371 v13 vi_76 vr vf pr_77 pf_78 hw_v hw_79 H locs ls hP hD hS (lv_sub hl [1, 2, 3, 0] rfl)
          have S98_344 : W p l e { frames := (5 * (6 - dn) + 59), cells := 0, slots := 0, locals := (130 * (6 - dn) + 1970) } s m args below meth c H locs 0 0 Q (F0 m 344 ls []) := by
            refine lv_aload_n hx hb dX3_readStatement_344 rfl (lv_at hl 1 rfl) ?_
            refine lv_iload_n hx hb dX3_readStatement_345 rfl (lv_at hl 0 rfl) ?_
            refine lv_bipush (v := 12) hx hb dX3_readStatement_346 (by decide) ?_
            refine vz_Vv3 (As := [.int v13, .int 12]) (rest := []) hx hb hml hown hts hK hA hP hD hS (a_D_readThrow l D g H.size h va vi vr vf ta ph tr tf pa pr_14 pf_19 v13 12 hw_v hw_t hw_pr_14) kv_X3_161 ⟨by dsimp only; omega, by dsimp only; omega⟩ (q0 := 0) (ci := 3) rfl rfl rfl  hl.1 (Nat.le_of_ble_eq_true rfl) dX3_readStatement_348 ⟨Nat.le_refl _, Nat.le_refl _⟩ rfl (fun ⟨vi_80, pf_81⟩ H locs _ _ hP hD hS => ?_)
            replace hP : va_P D vwCl (vz_w [rdW g h va vi_80 vr vf (ta 0) ph, tkW g ta tr tf, pgW g ph pa pr_14 pf_81]) H := hP
            replace hD : va_D A (vz_w [rdW g h va vi_80 vr vf (ta 0) ph, tkW g ta tr tf, pgW g ph pa pr_14 pf_81]) := hD
            refine lv_goto (tgt := 371) hx hb dX3_readStatement_351 (by decide) ?_
            exact J371 v13 vi_80 vr vf pr_14 pf_81 hw_v hw_pr_14 H locs ls hP hD hS (lv_sub hl [1, 2, 3, 0] rfl)
          have S98_354 : W p l e { frames := (5 * (6 - dn) + 59), cells := 0, slots := 0, locals := (130 * (6 - dn) + 1970) } s m args below meth c H locs 0 0 Q (F0 m 354 ls []) := by
            refine lv_aload_n hx hb dX3_readStatement_354 rfl (lv_at hl 1 rfl) ?_
            refine lv_iload_n hx hb dX3_readStatement_355 rfl (lv_at hl 0 rfl) ?_
            refine lv_bipush (v := 13) hx hb dX3_readStatement_356 (by decide) ?_
            refine vz_Vv3 (As := [.int v13, .int 13]) (rest := []) hx hb hml hown hts hK hA hP hD hS (a_D_readThrow l D g H.size h va vi vr vf ta ph tr tf pa pr_14 pf_19 v13 13 hw_v hw_t hw_pr_14) kv_X3_161 ⟨by dsimp only; omega, by dsimp only; omega⟩ (q0 := 0) (ci := 3) rfl rfl rfl  hl.1 (Nat.le_of_ble_eq_true rfl) dX3_readStatement_358 ⟨Nat.le_refl _, Nat.le_refl _⟩ rfl (fun ⟨vi_82, pf_83⟩ H locs _ _ hP hD hS => ?_)
            replace hP : va_P D vwCl (vz_w [rdW g h va vi_82 vr vf (ta 0) ph, tkW g ta tr tf, pgW g ph pa pr_14 pf_83]) H := hP
            replace hD : va_D A (vz_w [rdW g h va vi_82 vr vf (ta 0) ph, tkW g ta tr tf, pgW g ph pa pr_14 pf_83]) := hD
            refine lv_goto (tgt := 371) hx hb dX3_readStatement_361 (by decide) ?_
            exact J371 v13 vi_82 vr vf pr_14 pf_83 hw_v hw_pr_14 H locs ls hP hD hS (lv_sub hl [1, 2, 3, 0] rfl)
          have S98_364 : W p l e { frames := (5 * (6 - dn) + 59), cells := 0, slots := 0, locals := (130 * (6 - dn) + 1970) } s m args below meth c H locs 0 0 Q (F0 m 364 ls []) := by
            refine lv_aload_n hx hb dX3_readStatement_364 rfl (lv_at hl 1 rfl) ?_
            refine lv_iload_n hx hb dX3_readStatement_365 rfl (lv_at hl 0 rfl) ?_
            refine lv_bipush (v := 14) hx hb dX3_readStatement_366 (by decide) ?_
            refine vz_Vv3 (As := [.int v13, .int 14]) (rest := []) hx hb hml hown hts hK hA hP hD hS (a_D_readThrow l D g H.size h va vi vr vf ta ph tr tf pa pr_14 pf_19 v13 14 hw_v hw_t hw_pr_14) kv_X3_161 ⟨by dsimp only; omega, by dsimp only; omega⟩ (q0 := 0) (ci := 3) rfl rfl rfl  hl.1 (Nat.le_of_ble_eq_true rfl) dX3_readStatement_368 ⟨Nat.le_refl _, Nat.le_refl _⟩ rfl (fun ⟨vi_84, pf_85⟩ H locs _ _ hP hD hS => ?_)
            replace hP : va_P D vwCl (vz_w [rdW g h va vi_84 vr vf (ta 0) ph, tkW g ta tr tf, pgW g ph pa pr_14 pf_85]) H := hP
            replace hD : va_D A (vz_w [rdW g h va vi_84 vr vf (ta 0) ph, tkW g ta tr tf, pgW g ph pa pr_14 pf_85]) := hD
            exact J371 v13 vi_84 vr vf pr_14 pf_85 hw_v hw_pr_14 H locs ls hP hD hS (lv_sub hl [1, 2, 3, 0] rfl)
          refine vz_lsw (td := 364) hx hb dX3_readStatement_98 (by decide) (by decide) [(5, 244), (6, 290), (131, 328), (132, 298), (135, 336), (136, 212), (138, 220), (139, 308), (140, 318), (141, 344), (142, 354), (144, 228), (145, 236)] (by decide) (fun hv => ?_) (fun k t hk hv => ?_)
          · exact S98_364
          · have hm := List.mem_of_getElem? hk
            simp only [List.mem_cons, List.not_mem_nil, or_false] at hm
            rcases hm with rfl | rfl | rfl | rfl | rfl | rfl | rfl | rfl | rfl | rfl | rfl | rfl | rfl
            · exact S98_244
            · exact S98_290
            · exact S98_328
            · exact S98_298
            · exact S98_336
            · exact S98_212
            · exact S98_220
            · exact S98_308
            · exact S98_318
            · exact S98_344
            · exact S98_354
            · exact S98_228
            · exact S98_236
        · exact J47 vi vr vf pr pf hw_v hw_p H locs ls hP hD hS (lv_sub hl [0, 1, 2] rfl)
  · refine lv_aload_n hx hb dX3_readStatement_10 rfl (lv_at hl 0 rfl) ?_
    refine lv_iconst (v := 1) hx hb dX3_readStatement_11 (by decide) ?_
    refine vz_Vv3 (As := [.int 1]) (rest := []) hx hb hml hown hts hK hA hP hD hS (a_D_fail l D g H.size h va vi vr vf ta ph tr tf pa pr pf 1 hw_v hw_t hw_p) kv_X3_68 ⟨by dsimp only; omega, by dsimp only; omega⟩ (q0 := 0) (ci := 3) rfl rfl rfl  hl.1 (Nat.le_of_ble_eq_true rfl) dX3_readStatement_12 ⟨Nat.le_refl _, Nat.le_refl _⟩ rfl (fun vi_86 H locs hp87 _ hP hD hS => ?_)
    try dsimp only at hp87
    replace hP : va_P D vwCl (vz_w [rdW g h va vi_86 vr vf (ta 0) ph, tkW g ta tr tf, pgW g ph pa pr pf]) H := hP
    replace hD : va_D A (vz_w [rdW g h va vi_86 vr vf (ta 0) ph, tkW g ta tr tf, pgW g ph pa pr pf]) := hD
    refine lv_bipush (v := (-9)) hx hb dX3_readStatement_15 (by decide) ?_
    rw [hQ]
    exact vz_iret3 hx hb hr hlk hK hP hD hS (vi_86, vr, vf, pr, pf) (⟨hw_v, hw_p⟩) rfl (Nat.le_refl 0) (Nat.le_refl 0) dX3_readStatement_17
theorem q501 : Cond.methodLink RX3 120 yX3_readStatement ∈ wsL_law := mT_3 (List.mem_of_getElem? (i := 173) rfl) rfl
theorem q502 : Cond.instanceMethod yX3_readStatement ∈ wsL_law := mT_3 (List.mem_of_getElem? (i := 175) rfl) rfl
theorem q503 : Cond.selects RX3 yX3_readStatement yX3_readStatement ∈ wsL_law := mS_1 (q := (yX3_readStatement, 12)) (List.mem_of_getElem? (i := 13) rfl) rfl
theorem q565 : Cond.code yX3_readStatement cX3_readStatement 5 (some .int) ∈ wsL_law := mT_3 (List.mem_of_getElem? (i := 176) rfl) rfl
theorem kv_X3_120 : vz_cv RX3 120 yX3_readStatement cX3_readStatement 5 (some .int) 2 := ⟨q501, q502, q503, q28, q565, by decide +kernel⟩
theorem dX3_readStatements_0 : decode cX3_readStatements 0 = .ok (.bipush (-9), 2) := by decide +kernel
theorem dX3_readStatements_2 : decode cX3_readStatements 2 = .ok (.istore_n 3, 1) := by decide +kernel
theorem dX3_readStatements_3 : decode cX3_readStatements 3 = .ok (.bipush (-9), 2) := by decide +kernel
theorem dX3_readStatements_5 : decode cX3_readStatements 5 = .ok (.istore 4, 2) := by decide +kernel
theorem dX3_readStatements_7 : decode cX3_readStatements 7 = .ok (.iconst 0, 1) := by decide +kernel
theorem dX3_readStatements_8 : decode cX3_readStatements 8 = .ok (.istore 5, 2) := by decide +kernel
theorem dX3_readStatements_10 : decode cX3_readStatements 10 = .ok (.iload 5, 2) := by decide +kernel
theorem dX3_readStatements_12 : decode cX3_readStatements 12 = .ok (.bipush 80, 2) := by decide +kernel
theorem dX3_readStatements_14 : decode cX3_readStatements 14 = .ok (.if_icmp .gt 64, 3) := by decide +kernel
theorem dX3_readStatements_17 : decode cX3_readStatements 17 = .ok (.aload_n 0, 1) := by decide +kernel
theorem dX3_readStatements_18 : decode cX3_readStatements 18 = .ok (.getfield 74, 3) := by decide +kernel
theorem dX3_readStatements_21 : decode cX3_readStatements 21 = .ok (.ifCond .ne 57, 3) := by decide +kernel
theorem dX3_readStatements_24 : decode cX3_readStatements 24 = .ok (.aload_n 0, 1) := by decide +kernel
theorem dX3_readStatements_25 : decode cX3_readStatements 25 = .ok (.getfield 41, 3) := by decide +kernel
theorem dX3_readStatements_28 : decode cX3_readStatements 28 = .ok (.bipush 125, 2) := by decide +kernel
theorem dX3_readStatements_30 : decode cX3_readStatements 30 = .ok (.if_icmp .eq 48, 3) := by decide +kernel
theorem dX3_readStatements_33 : decode cX3_readStatements 33 = .ok (.aload_n 0, 1) := by decide +kernel
theorem dX3_readStatements_34 : decode cX3_readStatements 34 = .ok (.iload_n 1, 1) := by decide +kernel
theorem dX3_readStatements_35 : decode cX3_readStatements 35 = .ok (.iload_n 2, 1) := by decide +kernel
theorem dX3_readStatements_36 : decode cX3_readStatements 36 = .ok (.invokevirtual 120, 3) := by decide +kernel
theorem dX3_readStatements_39 : decode cX3_readStatements 39 = .ok (.istore 6, 2) := by decide +kernel
theorem dX3_readStatements_41 : decode cX3_readStatements 41 = .ok (.iload 5, 2) := by decide +kernel
theorem dX3_readStatements_43 : decode cX3_readStatements 43 = .ok (.ifCond .ne 9, 3) := by decide +kernel
theorem dX3_readStatements_46 : decode cX3_readStatements 46 = .ok (.iload 6, 2) := by decide +kernel
theorem dX3_readStatements_48 : decode cX3_readStatements 48 = .ok (.istore_n 3, 1) := by decide +kernel
theorem dX3_readStatements_49 : decode cX3_readStatements 49 = .ok (.goto 19, 3) := by decide +kernel
theorem dX3_readStatements_52 : decode cX3_readStatements 52 = .ok (.aload_n 0, 1) := by decide +kernel
theorem dX3_readStatements_53 : decode cX3_readStatements 53 = .ok (.getfield 15, 3) := by decide +kernel
theorem dX3_readStatements_56 : decode cX3_readStatements 56 = .ok (.getfield 117, 3) := by decide +kernel
theorem dX3_readStatements_59 : decode cX3_readStatements 59 = .ok (.iload 4, 2) := by decide +kernel
theorem dX3_readStatements_61 : decode cX3_readStatements 61 = .ok (.bipush 8, 2) := by decide +kernel
theorem dX3_readStatements_63 : decode cX3_readStatements 63 = .ok (.iload 6, 2) := by decide +kernel
theorem dX3_readStatements_65 : decode cX3_readStatements 65 = .ok (.invokevirtual 60, 3) := by decide +kernel
theorem dX3_readStatements_68 : decode cX3_readStatements 68 = .ok (.iload 6, 2) := by decide +kernel
theorem dX3_readStatements_70 : decode cX3_readStatements 70 = .ok (.istore 4, 2) := by decide +kernel
theorem dX3_readStatements_72 : decode cX3_readStatements 72 = .ok (.iinc 5 1, 3) := by decide +kernel
theorem dX3_readStatements_75 : decode cX3_readStatements 75 = .ok (.goto (-65), 3) := by decide +kernel
theorem dX3_readStatements_78 : decode cX3_readStatements 78 = .ok (.iload_n 3, 1) := by decide +kernel
theorem dX3_readStatements_79 : decode cX3_readStatements 79 = .ok (.ireturn, 1) := by decide +kernel
set_option maxHeartbeats 8000000 in
set_option maxRecDepth 100000 in
theorem a_D_stats (l : Launch) (D : va_G) (g : Nat → ClassId) (dn : Nat) (hdn : dn ≤ 6) (hB : dn < 6 → ∀ (sz : Nat) (h : Nat) (va : Nat → Nat) (vi : Nat → Int32) (vr : Nat → Nat) (vf : Nat → Nat → Int32) (ta : Nat → Nat) (ph : Nat) (tr : Nat → Nat) (tf : Nat → Nat → Int32) (pa : Nat → Nat) (pr : Nat → Nat) (pf : Nat → Nat → Int32) (n1 : Int32) (hw_v : ∀ k, vr k ≤ rdW_lim k) (hw_t : ∀ k, tr k ≤ tkW_lim k) (hw_p : ∀ k, pr k ≤ pgW_lim k), vz_Mi l D (tyG g) yX3_readStatements cX3_readStatements 7 (5 * (6 - (dn + 1)) + 60) (130 * (6 - (dn + 1)) + 2000) 0 0 .int [.ref h, .int n1, .int (nI (dn + 1))] sz (vz_w [rdW g h va vi vr vf (ta 0) ph, tkW g ta tr tf, pgW g ph pa pr pf]) (fun r (u : (Nat → Int32) × (Nat → Nat) × (Nat → Nat → Int32) × (Nat → Nat) × (Nat → Nat → Int32)) => (∀ k, u.2.1 k ≤ rdW_lim k) ∧ (∀ k, u.2.2.2.1 k ≤ pgW_lim k)) (fun u => vz_w [rdW g h va u.1 u.2.1 u.2.2.1 (ta 0) ph, tkW g ta tr tf, pgW g ph pa u.2.2.2.1 u.2.2.2.2])) (sz : Nat) (h : Nat) (va : Nat → Nat) (vi : Nat → Int32) (vr : Nat → Nat) (vf : Nat → Nat → Int32) (ta : Nat → Nat) (ph : Nat) (tr : Nat → Nat) (tf : Nat → Nat → Int32) (pa : Nat → Nat) (pr : Nat → Nat) (pf : Nat → Nat → Int32) (n1 : Int32) (hw_v : ∀ k, vr k ≤ rdW_lim k) (hw_t : ∀ k, tr k ≤ tkW_lim k) (hw_p : ∀ k, pr k ≤ pgW_lim k) : vz_Mi l D (tyG g) yX3_readStatements cX3_readStatements 7 (5 * (6 - dn) + 60) (130 * (6 - dn) + 2000) 0 0 .int [.ref h, .int n1, .int (nI dn)] sz (vz_w [rdW g h va vi vr vf (ta 0) ph, tkW g ta tr tf, pgW g ph pa pr pf]) (fun r (u : (Nat → Int32) × (Nat → Nat) × (Nat → Nat → Int32) × (Nat → Nat) × (Nat → Nat → Int32)) => (∀ k, u.2.1 k ≤ rdW_lim k) ∧ (∀ k, u.2.2.2.1 k ≤ pgW_lim k)) (fun u => vz_w [rdW g h va u.1 u.2.1 u.2.2.1 (ta 0) ph, tkW g ta tr tf, pgW g ph pa u.2.2.2.1 u.2.2.2.2]) := by
  refine vz_siQ (by decide) (Nat.le_of_ble_eq_true rfl) (fun p e s m args below meth c hx hb hr hml hts hown hlk hin hK hsz A hA H locs hP hD hS ls hl Q hQ => ?_)
  have hl : lv_has ls 7 [(0, .ref h), (1, .int n1), (2, .int (nI dn))] := hl
  have J78 : ∀ (x3_78 : Int32), ∀ (x4_78 : Int32), ∀ (x5_78 : Int32), ∀ (vi_78 : Nat → Int32), ∀ (vr_78 : Nat → Nat), ∀ (vf_78 : Nat → Nat → Int32), ∀ (pr_78 : Nat → Nat), ∀ (pf_78 : Nat → Nat → Int32), (∀ k, vr_78 k ≤ rdW_lim k) → (∀ k, pr_78 k ≤ pgW_lim k) → ∀ (H : Heap) (locs : List Loc) (ls : Array Slot), va_P D vwCl (vz_w [rdW g h va vi_78 vr_78 vf_78 (ta 0) ph, tkW g ta tr tf, pgW g ph pa pr_78 pf_78]) H → va_D A (vz_w [rdW g h va vi_78 vr_78 vf_78 (ta 0) ph, tkW g ta tr tf, pgW g ph pa pr_78 pf_78]) → va_S A s.heap H locs → lv_has ls 7 [(0, .ref h), (1, .int n1), (2, .int (nI dn)), (3, .int x3_78), (4, .int x4_78), (5, .int x5_78)] → W p l e { frames := (5 * (6 - dn) + 60), cells := 0, slots := 0, locals := (130 * (6 - dn) + 2000) } s m args below meth c H locs 0 0 Q (F0 m 78 ls []) := by
    intro x3_78 x4_78 x5_78 vi_78 vr_78 vf_78 pr_78 pf_78 hw_v_78 hw_p_78 H locs ls hP hD hS hl
    refine lv_iload_n hx hb dX3_readStatements_78 rfl (lv_at hl 3 rfl) ?_
    rw [hQ]
    exact vz_iret3 hx hb hr hlk hK hP hD hS (vi_78, vr_78, vf_78, pr_78, pf_78) (⟨hw_v_78, hw_p_78⟩) rfl (Nat.le_refl 0) (Nat.le_refl 0) dX3_readStatements_79
  have J10 : ∀ (fu10 n10 : Nat), 81 - n10 < fu10 → n10 ≤ 81 → ∀ (x3_10 : Int32), ∀ (x4_10 : Int32), ∀ (vi_10 : Nat → Int32), ∀ (vr_10 : Nat → Nat), ∀ (vf_10 : Nat → Nat → Int32), ∀ (pr_10 : Nat → Nat), ∀ (pf_10 : Nat → Nat → Int32), (∀ k, vr_10 k ≤ rdW_lim k) → (∀ k, pr_10 k ≤ pgW_lim k) → ∀ (H : Heap) (locs : List Loc) (ls : Array Slot), va_P D vwCl (vz_w [rdW g h va vi_10 vr_10 vf_10 (ta 0) ph, tkW g ta tr tf, pgW g ph pa pr_10 pf_10]) H → va_D A (vz_w [rdW g h va vi_10 vr_10 vf_10 (ta 0) ph, tkW g ta tr tf, pgW g ph pa pr_10 pf_10]) → va_S A s.heap H locs → lv_has ls 7 [(0, .ref h), (1, .int n1), (2, .int (nI dn)), (3, .int x3_10), (4, .int x4_10), (5, .int (nI n10))] → W p l e { frames := (5 * (6 - dn) + 60), cells := 0, slots := 0, locals := (130 * (6 - dn) + 2000) } s m args below meth c H locs 0 0 Q (F0 m 10 ls []) := by
    intro fu10
    induction fu10 with
    | zero => intro n10 z; omega
    | succ fu10 ih10 =>
      intro n10 hf10 hb10 x3_10 x4_10 vi_10 vr_10 vf_10 pr_10 pf_10 hw_v_10 hw_p_10 H locs ls hP hD hS hl
      have J68 : n10 < 81 → ∀ (x3_68 : Int32), ∀ (x4_68 : Int32), ∀ (x6_68 : Int32), ∀ (vi_68 : Nat → Int32), ∀ (vr_68 : Nat → Nat), ∀ (vf_68 : Nat → Nat → Int32), ∀ (pr_68 : Nat → Nat), ∀ (pf_68 : Nat → Nat → Int32), (∀ k, vr_68 k ≤ rdW_lim k) → (∀ k, pr_68 k ≤ pgW_lim k) → ∀ (H : Heap) (locs : List Loc) (ls : Array Slot), va_P D vwCl (vz_w [rdW g h va vi_68 vr_68 vf_68 (ta 0) ph, tkW g ta tr tf, pgW g ph pa pr_68 pf_68]) H → va_D A (vz_w [rdW g h va vi_68 vr_68 vf_68 (ta 0) ph, tkW g ta tr tf, pgW g ph pa pr_68 pf_68]) → va_S A s.heap H locs → lv_has ls 7 [(0, .ref h), (1, .int n1), (2, .int (nI dn)), (3, .int x3_68), (4, .int x4_68), (5, .int (nI n10)), (6, .int x6_68)] → W p l e { frames := (5 * (6 - dn) + 60), cells := 0, slots := 0, locals := (130 * (6 - dn) + 2000) } s m args below meth c H locs 0 0 Q (F0 m 68 ls []) := by
        intro hn10 x3_68 x4_68 x6_68 vi_68 vr_68 vf_68 pr_68 pf_68 hw_v_68 hw_p_68 H locs ls hP hD hS hl
        refine lv_iload hx hb dX3_readStatements_68 (lv_at hl 6 rfl) ?_
        refine lv_istore (lv' := [(4, .int x6_68), (0, .ref h), (1, .int n1), (2, .int (nI dn)), (3, .int x3_68), (5, .int (nI n10)), (6, .int x6_68)]) hx hb dX3_readStatements_70 hl (by decide) rfl (fun ls hl => ?_)
        refine lv_iinc (v := (nI (n10 + 1))) (lv' := [(5, .int (nI (n10 + 1))), (4, .int x6_68), (0, .ref h), (1, .int n1), (2, .int (nI dn)), (3, .int x3_68), (6, .int x6_68)]) hx hb dX3_readStatements_72 hl (k := 5) rfl (nI_1 n10) (by decide) rfl (fun ls hl => ?_)
        refine lv_goto (tgt := 10) hx hb dX3_readStatements_75 (by decide) ?_
        exact ih10 (n10 + 1) (by omega) (by omega) x3_68 x6_68 vi_68 vr_68 vf_68 pr_68 pf_68 hw_v_68 hw_p_68 H locs ls hP hD hS (lv_sub hl [2, 3, 4, 5, 1, 0] rfl)
      refine lv_iload hx hb dX3_readStatements_10 (lv_at hl 5 rfl) ?_
      refine lv_bipush (v := 80) hx hb dX3_readStatements_12 (by decide) ?_
      refine lv_icmp_gt (tgt := 78) hx hb dX3_readStatements_14 (by decide) (fun kc1 => ?_) (fun kc1 => ?_)
      · exact J78 x3_10 x4_10 (nI n10) vi_10 vr_10 vf_10 pr_10 pf_10 hw_v_10 hw_p_10 H locs ls hP hD hS (lv_sub hl [0, 1, 2, 3, 4, 5] rfl)
      · have hn10 : n10 < 81 := vz_ltgt (B := 80) (by decide) (by omega) kc1
        refine lv_aload_n hx hb dX3_readStatements_17 rfl (lv_at hl 0 rfl) ?_
        refine va_get (D := D) (ci := 3) (v := .int (vi_10 5)) (C := RX3) (T := TX3) (N := 12) hx hb hts inlX3 hown hK hP 0 rfl rfl 10 (by decide) (hts _ q445) (fun _ h => h) rfl dX3_readStatements_18 ?_
        refine lv_if_ne (tgt := 78) hx hb dX3_readStatements_21 (by decide) (fun kc2 => ?_) (fun kc2 => ?_)
        · exact J78 x3_10 x4_10 (nI n10) vi_10 vr_10 vf_10 pr_10 pf_10 hw_v_10 hw_p_10 H locs ls hP hD hS (lv_sub hl [0, 1, 2, 3, 4, 5] rfl)
        · refine lv_aload_n hx hb dX3_readStatements_24 rfl (lv_at hl 0 rfl) ?_
          refine va_get (D := D) (ci := 3) (v := .int (vi_10 1)) (C := RX3) (T := TX3) (N := 12) hx hb hts inlX3 hown hK hP 0 rfl rfl 6 (by decide) (hts _ q443) (fun _ h => h) rfl dX3_readStatements_25 ?_
          refine lv_bipush (v := 125) hx hb dX3_readStatements_28 (by decide) ?_
          refine lv_icmp_eq (tgt := 78) hx hb dX3_readStatements_30 (by decide) (fun kc3 => ?_) (fun kc3 => ?_)
          · exact J78 x3_10 x4_10 (nI n10) vi_10 vr_10 vf_10 pr_10 pf_10 hw_v_10 hw_p_10 H locs ls hP hD hS (lv_sub hl [0, 1, 2, 3, 4, 5] rfl)
          · refine lv_aload_n hx hb dX3_readStatements_33 rfl (lv_at hl 0 rfl) ?_
            refine lv_iload_n hx hb dX3_readStatements_34 rfl (lv_at hl 1 rfl) ?_
            refine lv_iload_n hx hb dX3_readStatements_35 rfl (lv_at hl 2 rfl) ?_
            refine vz_Vi3 (As := [.int n1, .int (nI dn)]) (rest := []) hx hb hml hown hts hK hA hP hD hS (a_D_readStatement l D g dn hdn hB H.size h va vi_10 vr_10 vf_10 ta ph tr tf pa pr_10 pf_10 n1 hw_v_10 hw_t hw_p_10) kv_X3_120 ⟨by dsimp only; omega, by dsimp only; omega⟩ (q0 := 0) (ci := 3) rfl rfl rfl  hl.1 (Nat.le_of_ble_eq_true rfl) dX3_readStatements_36 ⟨Nat.le_refl _, Nat.le_refl _⟩ rfl (fun v11 ⟨vi_4, vr_5, vf_6, pr_7, pf_8⟩ H locs ⟨hw_9, hw_10⟩ _ hP hD hS => ?_)
            try dsimp only at hw_9 hw_10
            replace hP : va_P D vwCl (vz_w [rdW g h va vi_4 vr_5 vf_6 (ta 0) ph, tkW g ta tr tf, pgW g ph pa pr_7 pf_8]) H := hP
            replace hD : va_D A (vz_w [rdW g h va vi_4 vr_5 vf_6 (ta 0) ph, tkW g ta tr tf, pgW g ph pa pr_7 pf_8]) := hD
            refine lv_istore (lv' := [(6, .int v11), (0, .ref h), (1, .int n1), (2, .int (nI dn)), (3, .int x3_10), (4, .int x4_10), (5, .int (nI n10))]) hx hb dX3_readStatements_39 hl (by decide) rfl (fun ls hl => ?_)
            refine lv_iload hx hb dX3_readStatements_41 (lv_at hl 6 rfl) ?_
            refine lv_if_ne (tgt := 52) hx hb dX3_readStatements_43 (by decide) (fun kc12 => ?_) (fun kc12 => ?_)
            · refine lv_aload_n hx hb dX3_readStatements_52 rfl (lv_at hl 1 rfl) ?_
              refine va_get (D := D) (ci := 3) (v := .ref ph) (C := RX3) (T := TX3) (N := 12) hx hb hts inlX3 hown hK hP 0 rfl rfl 4 (by decide) (hts _ q97) (fun _ h => h) rfl dX3_readStatements_53 ?_
              refine va_get (D := D) (ci := 2) (v := .ref (pa 0)) (C := RX2) (T := TX2) (N := 5) hx hb hts inlX2 hown hK hP 9 rfl rfl 0 (by decide) (hts _ q500) (fun _ h => h) rfl dX3_readStatements_56 ?_
              refine lv_iload hx hb dX3_readStatements_59 (lv_at hl 5 rfl) ?_
              refine lv_bipush (v := 8) hx hb dX3_readStatements_61 (by decide) ?_
              refine lv_iload hx hb dX3_readStatements_63 (lv_at hl 0 rfl) ?_
              refine vz_Vv2 (ws' := fun u : (Nat → Int32) => vz_w [rdW g h va vi_4 vr_5 vf_6 (ta 0) ph, tkW g ta tr tf, pgW g ph pa pr_7 (vz_uf pf_8 0 u)]) (As := [.int x4_10, .int 8, .int v11]) (rest := []) hx hb hml hown hts hK hA hP hD hS (c_T_set l D g (pa 0) (pa 1) H.size 12 80 (pr_7 0) 960 (pf_8 0) x4_10 8 v11 ⟨rfl, by decide, by decide, by decide, by decide, hw_10 0⟩) kv_X3_60 ⟨by dsimp only; omega, by dsimp only; omega⟩ (q0 := 10) (ci := 6) rfl rfl rfl [10, 11] rfl (by decide) (fun _ => rfl) (fun _ => rfl) hl.1 (Nat.le_of_ble_eq_true rfl) dX3_readStatements_65 ⟨Nat.le_refl _, Nat.le_refl _⟩ rfl (fun nf13 H locs _ _ hP hD hS => ?_)
              obtain ⟨pf_14, hP, hD⟩ : ∃ pf_14 : Nat → Nat → Int32, va_P D vwCl (vz_w [rdW g h va vi_4 vr_5 vf_6 (ta 0) ph, tkW g ta tr tf, pgW g ph pa pr_7 pf_14]) H ∧ va_D A (vz_w [rdW g h va vi_4 vr_5 vf_6 (ta 0) ph, tkW g ta tr tf, pgW g ph pa pr_7 pf_14]) := ⟨(vz_uf pf_8 0 nf13), hP, hD⟩
              exact J68 hn10 x3_10 x4_10 v11 vi_4 vr_5 vf_6 pr_7 pf_14 hw_9 hw_10 H locs ls hP hD hS (lv_sub hl [1, 2, 3, 4, 5, 6, 0] rfl)
            · refine lv_iload hx hb dX3_readStatements_46 (lv_at hl 0 rfl) ?_
              refine lv_istore_n (lv' := [(3, .int v11), (6, .int v11), (0, .ref h), (1, .int n1), (2, .int (nI dn)), (4, .int x4_10), (5, .int (nI n10))]) hx hb dX3_readStatements_48 rfl hl (by decide) rfl (fun ls hl => ?_)
              refine lv_goto (tgt := 68) hx hb dX3_readStatements_49 (by decide) ?_
              exact J68 hn10 v11 x4_10 v11 vi_4 vr_5 vf_6 pr_7 pf_8 hw_9 hw_10 H locs ls hP hD hS (lv_sub hl [2, 3, 4, 0, 5, 6, 1] rfl)
  refine lv_bipush (v := (-9)) hx hb dX3_readStatements_0 (by decide) ?_
  refine lv_istore_n (lv' := [(3, .int (-9)), (0, .ref h), (1, .int n1), (2, .int (nI dn))]) hx hb dX3_readStatements_2 rfl hl (by decide) rfl (fun ls hl => ?_)
  refine lv_bipush (v := (-9)) hx hb dX3_readStatements_3 (by decide) ?_
  refine lv_istore (lv' := [(4, .int (-9)), (3, .int (-9)), (0, .ref h), (1, .int n1), (2, .int (nI dn))]) hx hb dX3_readStatements_5 hl (by decide) rfl (fun ls hl => ?_)
  refine lv_iconst (v := 0) hx hb dX3_readStatements_7 (by decide) ?_
  refine lv_istore (lv' := [(5, .int 0), (4, .int (-9)), (3, .int (-9)), (0, .ref h), (1, .int n1), (2, .int (nI dn))]) hx hb dX3_readStatements_8 hl (by decide) rfl (fun ls hl => ?_)
  exact J10 (82) 0 (by omega) (by omega) (-9) (-9) vi vr vf pr pf hw_v hw_p H locs ls hP hD hS (lv_sub hl [3, 4, 5, 2, 1, 0] rfl)
theorem a_D_stats9 (l : Launch) (D : va_G) (g : Nat → ClassId) : ∀ (k dn : Nat), dn + k = 6 → ∀ (sz : Nat) (h : Nat) (va : Nat → Nat) (vi : Nat → Int32) (vr : Nat → Nat) (vf : Nat → Nat → Int32) (ta : Nat → Nat) (ph : Nat) (tr : Nat → Nat) (tf : Nat → Nat → Int32) (pa : Nat → Nat) (pr : Nat → Nat) (pf : Nat → Nat → Int32) (n1 : Int32) (hw_v : ∀ k, vr k ≤ rdW_lim k) (hw_t : ∀ k, tr k ≤ tkW_lim k) (hw_p : ∀ k, pr k ≤ pgW_lim k), vz_Mi l D (tyG g) yX3_readStatements cX3_readStatements 7 (5 * (6 - dn) + 60) (130 * (6 - dn) + 2000) 0 0 .int [.ref h, .int n1, .int (nI dn)] sz (vz_w [rdW g h va vi vr vf (ta 0) ph, tkW g ta tr tf, pgW g ph pa pr pf]) (fun r (u : (Nat → Int32) × (Nat → Nat) × (Nat → Nat → Int32) × (Nat → Nat) × (Nat → Nat → Int32)) => (∀ k, u.2.1 k ≤ rdW_lim k) ∧ (∀ k, u.2.2.2.1 k ≤ pgW_lim k)) (fun u => vz_w [rdW g h va u.1 u.2.1 u.2.2.1 (ta 0) ph, tkW g ta tr tf, pgW g ph pa u.2.2.2.1 u.2.2.2.2]) := by
  intro k
  induction k with
  | zero => intro dn hk; exact a_D_stats l D g dn (by omega) (fun h => absurd h (by omega))
  | succ k ih => intro dn hk; exact a_D_stats l D g dn (by omega) (fun _ => ih (dn + 1) (by omega))
theorem q452 : Cond.methodLink RX3 80 yX2_reset ∈ wsL_law := mT_3 (List.mem_of_getElem? (i := 129) rfl) rfl
theorem q453 : Cond.instanceMethod yX2_reset ∈ wsL_law := mT_3 (List.mem_of_getElem? (i := 130) rfl) rfl
theorem q454 : Cond.selects RX2 yX2_reset yX2_reset ∈ wsL_law := mT_3 (List.mem_of_getElem? (i := 131) rfl) rfl
theorem q455 : Cond.code yX2_reset cX2_reset 3 none ∈ wsL_law := mT_3 (List.mem_of_getElem? (i := 132) rfl) rfl
theorem kv_X3_80 : vz_cv RX3 80 yX2_reset cX2_reset 3 none 0 := ⟨q452, q453, q454, q23, q455, by decide +kernel⟩
theorem q459 : Cond.methodLink RX3 83 yX6_fill ∈ wsL_law := mT_3 (List.mem_of_getElem? (i := 136) rfl) rfl
theorem kv_X3_83 : vz_cv RX3 83 yX6_fill cX6_fill 4 none 2 := ⟨q459, q142, q143, q15, q144, by decide +kernel⟩
theorem dX3_start_0 : decode cX3_start 0 = .ok (.aload_n 0, 1) := by decide +kernel
theorem dX3_start_1 : decode cX3_start 1 = .ok (.aload_n 1, 1) := by decide +kernel
theorem dX3_start_2 : decode cX3_start 2 = .ok (.putfield 15, 3) := by decide +kernel
theorem dX3_start_5 : decode cX3_start 5 = .ok (.aload_n 0, 1) := by decide +kernel
theorem dX3_start_6 : decode cX3_start 6 = .ok (.getfield 15, 3) := by decide +kernel
theorem dX3_start_9 : decode cX3_start 9 = .ok (.invokevirtual 80, 3) := by decide +kernel
theorem dX3_start_12 : decode cX3_start 12 = .ok (.aload_n 0, 1) := by decide +kernel
theorem dX3_start_13 : decode cX3_start 13 = .ok (.getfield 30, 3) := by decide +kernel
theorem dX3_start_16 : decode cX3_start 16 = .ok (.bipush 80, 2) := by decide +kernel
theorem dX3_start_18 : decode cX3_start 18 = .ok (.bipush (-9), 2) := by decide +kernel
theorem dX3_start_20 : decode cX3_start 20 = .ok (.invokevirtual 83, 3) := by decide +kernel
theorem dX3_start_23 : decode cX3_start 23 = .ok (.aload_n 0, 1) := by decide +kernel
theorem dX3_start_24 : decode cX3_start 24 = .ok (.iconst 0, 1) := by decide +kernel
theorem dX3_start_25 : decode cX3_start 25 = .ok (.putfield 74, 3) := by decide +kernel
theorem dX3_start_28 : decode cX3_start 28 = .ok (.aload_n 0, 1) := by decide +kernel
theorem dX3_start_29 : decode cX3_start 29 = .ok (.iconst 0, 1) := by decide +kernel
theorem dX3_start_30 : decode cX3_start 30 = .ok (.putfield 77, 3) := by decide +kernel
theorem dX3_start_33 : decode cX3_start 33 = .ok (.aload_n 0, 1) := by decide +kernel
theorem dX3_start_34 : decode cX3_start 34 = .ok (.bipush (-9), 2) := by decide +kernel
theorem dX3_start_36 : decode cX3_start 36 = .ok (.putfield 33, 3) := by decide +kernel
theorem dX3_start_39 : decode cX3_start 39 = .ok (.aload_n 0, 1) := by decide +kernel
theorem dX3_start_40 : decode cX3_start 40 = .ok (.iconst (-1), 1) := by decide +kernel
theorem dX3_start_41 : decode cX3_start 41 = .ok (.putfield 86, 3) := by decide +kernel
theorem dX3_start_44 : decode cX3_start 44 = .ok (.aload_n 0, 1) := by decide +kernel
theorem dX3_start_45 : decode cX3_start 45 = .ok (.invokevirtual 89, 3) := by decide +kernel
theorem dX3_start_48 : decode cX3_start 48 = .ok (.return_, 1) := by decide +kernel
set_option maxHeartbeats 8000000 in
set_option maxRecDepth 100000 in
theorem a_D_start (l : Launch) (D : va_G) (g : Nat → ClassId)   (sz : Nat) (h : Nat) (va : Nat → Nat) (vi : Nat → Int32) (vr : Nat → Nat) (vf : Nat → Nat → Int32) (ta : Nat → Nat) (oph : Nat) (tr : Nat → Nat) (tf : Nat → Nat → Int32) (ph : Nat) (pa : Nat → Nat) (pr : Nat → Nat) (pf : Nat → Nat → Int32) (hw_v : ∀ k, vr k ≤ rdW_lim k) (hw_t : ∀ k, tr k ≤ tkW_lim k) (hw_p : ∀ k, pr k ≤ pgW_lim k) : vz_Mv l D (tyG g) yX3_start cX3_start 2 2 46 0 0 [.ref h, .ref ph] sz (vz_w [rdW g h va vi vr vf (ta 0) oph, tkW g ta tr tf, pgW g ph pa pr pf]) (fun u : (Nat → Int32) × (Nat → Nat) × (Nat → Nat → Int32) × (Nat → Nat) × (Nat → Nat → Int32) => (∀ k, u.2.1 k ≤ rdW_lim k) ∧ (∀ k, u.2.2.2.1 k ≤ pgW_lim k)) (fun u => vz_w [rdW g h va u.1 u.2.1 u.2.2.1 (ta 0) ph, tkW g ta tr tf, pgW g ph pa u.2.2.2.1 u.2.2.2.2]) := by
  refine vz_svQ (by decide) (Nat.le_of_ble_eq_true rfl) (fun p e s m args below meth c hx hb hr hml hts hown hlk hin hK hsz A hA H locs hP hD hS ls hl Q hQ => ?_)
  have hl : lv_has ls 2 [(0, .ref h), (1, .ref ph)] := hl
  refine lv_aload_n hx hb dX3_start_0 rfl (lv_at hl 0 rfl) ?_
  refine lv_aload_n hx hb dX3_start_1 rfl (lv_at hl 1 rfl) ?_
  refine va_put (D := D) (ci := 3) (v := .ref ph) (ty := .object "WaysAtlas$Program") (C := RX3) (T := TX3) (N := 12) hx hb hts inlX3 tyX3 tyX3_ok nmX3 hown hK hP hD hS 0 rfl rfl 4 (by decide) (hts _ q97) (fun _ h => h) rfl (by decide +kernel) rfl rfl (Nat.le_of_ble_eq_true rfl) dX3_start_2 (fun H locs hP hD hS => ?_)
  replace hP : va_P D vwCl (vz_w [rdW g h va vi vr vf (ta 0) ph, tkW g ta tr tf, pgW g ph pa pr pf]) H := hP
  replace hD : va_D A (vz_w [rdW g h va vi vr vf (ta 0) ph, tkW g ta tr tf, pgW g ph pa pr pf]) := hD
  refine lv_aload_n hx hb dX3_start_5 rfl (lv_at hl 0 rfl) ?_
  refine va_get (D := D) (ci := 3) (v := .ref ph) (C := RX3) (T := TX3) (N := 12) hx hb hts inlX3 hown hK hP 0 rfl rfl 4 (by decide) (hts _ q97) (fun _ h => h) rfl dX3_start_6 ?_
  refine vz_Vv4 (n9 := 3) (bs2 := fun u : (Nat → Nat) × (Nat → Nat → Int32) => [rdW g h va vi vr vf (ta 0) ph, tkW g ta tr tf, pgW g ph pa u.1 u.2]) (br := [rdW g h va vi vr vf (ta 0) ph, tkW g ta tr tf]) (As := []) (rest := []) hx hb hml hown hts hK hA hP hD hS (a_P_reset l D g H.size ph pa pr pf hw_p) kv_X3_80 ⟨Nat.le_of_ble_eq_true rfl, Nat.le_of_ble_eq_true rfl⟩ (q0 := 9) (ci := 2) rfl rfl rfl [2] [0, 1] rfl (by decide) rfl (fun _ => rfl) (fun _ => rfl) hl.1 (Nat.le_of_ble_eq_true rfl) dX3_start_9 ⟨Nat.le_refl _, Nat.le_refl _⟩ rfl (fun ⟨pr_1, pf_2⟩ H locs hw_3 _ hP hD hS => ?_)
  try dsimp only at hw_3
  replace hP : va_P D vwCl (vz_w [rdW g h va vi vr vf (ta 0) ph, tkW g ta tr tf, pgW g ph pa pr_1 pf_2]) H := hP
  replace hD : va_D A (vz_w [rdW g h va vi vr vf (ta 0) ph, tkW g ta tr tf, pgW g ph pa pr_1 pf_2]) := hD
  refine lv_aload_n hx hb dX3_start_12 rfl (lv_at hl 0 rfl) ?_
  refine va_get (D := D) (ci := 3) (v := .ref (va 4)) (C := RX3) (T := TX3) (N := 12) hx hb hts inlX3 hown hK hP 0 rfl rfl 3 (by decide) (hts _ q101) (fun _ h => h) rfl dX3_start_13 ?_
  refine lv_bipush (v := 80) hx hb dX3_start_16 (by decide) ?_
  refine lv_bipush (v := (-9)) hx hb dX3_start_18 (by decide) ?_
  refine vz_Vv2 (ws' := fun u : (Nat × (Nat → Int32)) => vz_w [rdW g h va vi (vz_un vr 2 u.1) (vz_uf vf 2 u.2) (ta 0) ph, tkW g ta tr tf, pgW g ph pa pr_1 pf_2]) (As := [.int 80, .int (-9)]) (rest := []) hx hb hml hown hts hK hA hP hD hS (c_T_fillw l D g (va 4) (va 5) H.size 1 80 (vr 2) 80 (vf 2) 80 (-9) ⟨rfl, by decide, by decide, by decide, by decide, hw_v 2⟩) kv_X3_83 ⟨Nat.le_of_ble_eq_true rfl, Nat.le_of_ble_eq_true rfl⟩ (q0 := 5) (ci := 6) rfl rfl rfl [5, 6] rfl (by decide) (fun _ => rfl) (fun _ => rfl) hl.1 (Nat.le_of_ble_eq_true rfl) dX3_start_20 ⟨Nat.le_refl _, Nat.le_refl _⟩ rfl (fun ⟨u4R, u4f⟩ H locs ha5 _ hP hD hS => ?_)
  obtain ⟨vr_6, hw_vr_6, vf_7, hP, hD⟩ : ∃ vr_6 : Nat → Nat, (∀ k, vr_6 k ≤ rdW_lim k) ∧ ∃ vf_7 : Nat → Nat → Int32, va_P D vwCl (vz_w [rdW g h va vi vr_6 vf_7 (ta 0) ph, tkW g ta tr tf, pgW g ph pa pr_1 pf_2]) H ∧ va_D A (vz_w [rdW g h va vi vr_6 vf_7 (ta 0) ph, tkW g ta tr tf, pgW g ph pa pr_1 pf_2]) := ⟨(vz_un vr 2 u4R), (vz_wf hw_v (t := 2) (v := u4R) (ha5)), (vz_uf vf 2 u4f), hP, hD⟩
  refine lv_aload_n hx hb dX3_start_23 rfl (lv_at hl 0 rfl) ?_
  refine lv_iconst (v := 0) hx hb dX3_start_24 (by decide) ?_
  refine va_put (D := D) (ci := 3) (v := .int 0) (ty := .int) (C := RX3) (T := TX3) (N := 12) hx hb hts inlX3 tyX3 tyX3_ok nmX3 hown hK hP hD hS 0 rfl rfl 10 (by decide) (hts _ q445) (fun _ h => h) rfl (by decide +kernel) rfl rfl (Nat.le_of_ble_eq_true rfl) dX3_start_25 (fun H locs hP hD hS => ?_)
  obtain ⟨vi_8, hvi_8, hP, hD⟩ : ∃ vi_8 : Nat → Int32, (vi_8 = (upd vi 5 0)) ∧ va_P D vwCl (vz_w [rdW g h va vi_8 vr_6 vf_7 (ta 0) ph, tkW g ta tr tf, pgW g ph pa pr_1 pf_2]) H ∧ va_D A (vz_w [rdW g h va vi_8 vr_6 vf_7 (ta 0) ph, tkW g ta tr tf, pgW g ph pa pr_1 pf_2]) := ⟨(upd vi 5 0), rfl, hP, hD⟩
  refine lv_aload_n hx hb dX3_start_28 rfl (lv_at hl 0 rfl) ?_
  refine lv_iconst (v := 0) hx hb dX3_start_29 (by decide) ?_
  refine va_put (D := D) (ci := 3) (v := .int 0) (ty := .int) (C := RX3) (T := TX3) (N := 12) hx hb hts inlX3 tyX3 tyX3_ok nmX3 hown hK hP hD hS 0 rfl rfl 11 (by decide) (hts _ q446) (fun _ h => h) rfl (by decide +kernel) rfl rfl (Nat.le_of_ble_eq_true rfl) dX3_start_30 (fun H locs hP hD hS => ?_)
  obtain ⟨vi_9, hvi_9, hP, hD⟩ : ∃ vi_9 : Nat → Int32, (vi_9 = (upd vi_8 6 0)) ∧ va_P D vwCl (vz_w [rdW g h va vi_9 vr_6 vf_7 (ta 0) ph, tkW g ta tr tf, pgW g ph pa pr_1 pf_2]) H ∧ va_D A (vz_w [rdW g h va vi_9 vr_6 vf_7 (ta 0) ph, tkW g ta tr tf, pgW g ph pa pr_1 pf_2]) := ⟨(upd vi_8 6 0), rfl, hP, hD⟩
  refine lv_aload_n hx hb dX3_start_33 rfl (lv_at hl 0 rfl) ?_
  refine lv_bipush (v := (-9)) hx hb dX3_start_34 (by decide) ?_
  refine va_put (D := D) (ci := 3) (v := .int (-9)) (ty := .int) (C := RX3) (T := TX3) (N := 12) hx hb hts inlX3 tyX3 tyX3_ok nmX3 hown hK hP hD hS 0 rfl rfl 9 (by decide) (hts _ q102) (fun _ h => h) rfl (by decide +kernel) rfl rfl (Nat.le_of_ble_eq_true rfl) dX3_start_36 (fun H locs hP hD hS => ?_)
  obtain ⟨vi_10, hvi_10, hP, hD⟩ : ∃ vi_10 : Nat → Int32, (vi_10 = (upd vi_9 4 (-9))) ∧ va_P D vwCl (vz_w [rdW g h va vi_10 vr_6 vf_7 (ta 0) ph, tkW g ta tr tf, pgW g ph pa pr_1 pf_2]) H ∧ va_D A (vz_w [rdW g h va vi_10 vr_6 vf_7 (ta 0) ph, tkW g ta tr tf, pgW g ph pa pr_1 pf_2]) := ⟨(upd vi_9 4 (-9)), rfl, hP, hD⟩
  refine lv_aload_n hx hb dX3_start_39 rfl (lv_at hl 0 rfl) ?_
  refine lv_iconst (v := (-1)) hx hb dX3_start_40 (by decide) ?_
  refine va_put (D := D) (ci := 3) (v := .int (-1)) (ty := .int) (C := RX3) (T := TX3) (N := 12) hx hb hts inlX3 tyX3 tyX3_ok nmX3 hown hK hP hD hS 0 rfl rfl 5 (by decide) (hts _ q451) (fun _ h => h) rfl (by decide +kernel) rfl rfl (Nat.le_of_ble_eq_true rfl) dX3_start_41 (fun H locs hP hD hS => ?_)
  obtain ⟨vi_11, hvi_11, hP, hD⟩ : ∃ vi_11 : Nat → Int32, (vi_11 = (upd vi_10 0 (-1))) ∧ va_P D vwCl (vz_w [rdW g h va vi_11 vr_6 vf_7 (ta 0) ph, tkW g ta tr tf, pgW g ph pa pr_1 pf_2]) H ∧ va_D A (vz_w [rdW g h va vi_11 vr_6 vf_7 (ta 0) ph, tkW g ta tr tf, pgW g ph pa pr_1 pf_2]) := ⟨(upd vi_10 0 (-1)), rfl, hP, hD⟩
  refine lv_aload_n hx hb dX3_start_44 rfl (lv_at hl 0 rfl) ?_
  refine vz_Vv3 (As := []) (rest := []) hx hb hml hown hts hK hA hP hD hS (a_D_advance l D g H.size h va vi_11 vr_6 vf_7 ta ph tr tf pa pr_1 pf_2 hw_vr_6 hw_t hw_3) kv_X3_89 ⟨Nat.le_of_ble_eq_true rfl, Nat.le_of_ble_eq_true rfl⟩ (q0 := 0) (ci := 3) rfl rfl rfl  hl.1 (Nat.le_of_ble_eq_true rfl) dX3_start_45 ⟨Nat.le_refl _, Nat.le_refl _⟩ rfl (fun vi_12 H locs _ _ hP hD hS => ?_)
  replace hP : va_P D vwCl (vz_w [rdW g h va vi_12 vr_6 vf_7 (ta 0) ph, tkW g ta tr tf, pgW g ph pa pr_1 pf_2]) H := hP
  replace hD : va_D A (vz_w [rdW g h va vi_12 vr_6 vf_7 (ta 0) ph, tkW g ta tr tf, pgW g ph pa pr_1 pf_2]) := hD
  rw [hQ]
  exact vz_vret3 hx hb hr hlk hK hP hD hS (vi_12, vr_6, vf_7, pr_1, pf_2) (⟨hw_vr_6, hw_3⟩) rfl (Nat.le_refl 0) (Nat.le_refl 0) dX3_start_48
theorem q447 : Cond.methodLink RX3 37 yX3_start ∈ wsL_law := mT_3 (List.mem_of_getElem? (i := 125) rfl) rfl
theorem q448 : Cond.instanceMethod yX3_start ∈ wsL_law := mT_3 (List.mem_of_getElem? (i := 127) rfl) rfl
theorem q449 : Cond.selects RX3 yX3_start yX3_start ∈ wsL_law := mS_1 (q := (yX3_start, 12)) (List.mem_of_getElem? (i := 4) rfl) rfl
theorem q450 : Cond.code yX3_start cX3_start 2 none ∈ wsL_law := mT_3 (List.mem_of_getElem? (i := 128) rfl) rfl
theorem kv_X3_37 : vz_cv RX3 37 yX3_start cX3_start 2 none 1 := ⟨q447, q448, q449, q28, q450, by decide +kernel⟩
theorem q467 : Cond.methodLink RX3 44 yX3_readKind ∈ wsL_law := mT_3 (List.mem_of_getElem? (i := 142) rfl) rfl
theorem q468 : Cond.instanceMethod yX3_readKind ∈ wsL_law := mT_3 (List.mem_of_getElem? (i := 144) rfl) rfl
theorem q469 : Cond.selects RX3 yX3_readKind yX3_readKind ∈ wsL_law := mS_1 (q := (yX3_readKind, 12)) (List.mem_of_getElem? (i := 6) rfl) rfl
theorem q470 : Cond.code yX3_readKind cX3_readKind 2 none ∈ wsL_law := mT_3 (List.mem_of_getElem? (i := 145) rfl) rfl
theorem kv_X3_44 : vz_cv RX3 44 yX3_readKind cX3_readKind 2 none 0 := ⟨q467, q468, q469, q28, q470, by decide +kernel⟩
theorem q491 : Cond.methodLink RX3 47 yX3_beginMethod ∈ wsL_law := mT_3 (List.mem_of_getElem? (i := 164) rfl) rfl
theorem q492 : Cond.instanceMethod yX3_beginMethod ∈ wsL_law := mT_3 (List.mem_of_getElem? (i := 166) rfl) rfl
theorem q493 : Cond.selects RX3 yX3_beginMethod yX3_beginMethod ∈ wsL_law := mS_1 (q := (yX3_beginMethod, 12)) (List.mem_of_getElem? (i := 11) rfl) rfl
theorem q494 : Cond.code yX3_beginMethod cX3_beginMethod 1 (some .int) ∈ wsL_law := mT_3 (List.mem_of_getElem? (i := 167) rfl) rfl
theorem kv_X3_47 : vz_cv RX3 47 yX3_beginMethod cX3_beginMethod 1 (some .int) 0 := ⟨q491, q492, q493, q28, q494, by decide +kernel⟩
theorem q606 : Cond.methodLink RX3 71 yX3_checkCalls ∈ wsL_law := mT_4 (List.mem_of_getElem? (i := 36) rfl) rfl
theorem q607 : Cond.instanceMethod yX3_checkCalls ∈ wsL_law := mT_4 (List.mem_of_getElem? (i := 38) rfl) rfl
theorem q608 : Cond.selects RX3 yX3_checkCalls yX3_checkCalls ∈ wsL_law := mS_3 (q := (yX3_checkCalls, 12)) (List.mem_of_getElem? (i := 2) rfl) rfl
theorem q609 : Cond.code yX3_checkCalls cX3_checkCalls 2 none ∈ wsL_law := mT_4 (List.mem_of_getElem? (i := 39) rfl) rfl
theorem kv_X3_71 : vz_cv RX3 71 yX3_checkCalls cX3_checkCalls 2 none 0 := ⟨q606, q607, q608, q28, q609, by decide +kernel⟩
theorem dX3_read_0 : decode cX3_read 0 = .ok (.aload_n 0, 1) := by decide +kernel
theorem dX3_read_1 : decode cX3_read 1 = .ok (.aload_n 1, 1) := by decide +kernel
theorem dX3_read_2 : decode cX3_read 2 = .ok (.invokevirtual 37, 3) := by decide +kernel
theorem dX3_read_5 : decode cX3_read 5 = .ok (.iconst 0, 1) := by decide +kernel
theorem dX3_read_6 : decode cX3_read 6 = .ok (.istore_n 2, 1) := by decide +kernel
theorem dX3_read_7 : decode cX3_read 7 = .ok (.iload_n 2, 1) := by decide +kernel
theorem dX3_read_8 : decode cX3_read 8 = .ok (.bipush 16, 2) := by decide +kernel
theorem dX3_read_10 : decode cX3_read 10 = .ok (.if_icmp .gt 23, 3) := by decide +kernel
theorem dX3_read_13 : decode cX3_read 13 = .ok (.aload_n 0, 1) := by decide +kernel
theorem dX3_read_14 : decode cX3_read 14 = .ok (.getfield 41, 3) := by decide +kernel
theorem dX3_read_17 : decode cX3_read 17 = .ok (.sipush 128, 3) := by decide +kernel
theorem dX3_read_20 : decode cX3_read 20 = .ok (.if_icmp .ne 13, 3) := by decide +kernel
theorem dX3_read_23 : decode cX3_read 23 = .ok (.aload_n 0, 1) := by decide +kernel
theorem dX3_read_24 : decode cX3_read 24 = .ok (.invokevirtual 44, 3) := by decide +kernel
theorem dX3_read_27 : decode cX3_read 27 = .ok (.iinc 2 1, 3) := by decide +kernel
theorem dX3_read_30 : decode cX3_read 30 = .ok (.goto (-23), 3) := by decide +kernel
theorem dX3_read_33 : decode cX3_read 33 = .ok (.iconst 1, 1) := by decide +kernel
theorem dX3_read_34 : decode cX3_read 34 = .ok (.istore_n 2, 1) := by decide +kernel
theorem dX3_read_35 : decode cX3_read 35 = .ok (.iconst 0, 1) := by decide +kernel
theorem dX3_read_36 : decode cX3_read 36 = .ok (.istore_n 3, 1) := by decide +kernel
theorem dX3_read_37 : decode cX3_read 37 = .ok (.iload_n 3, 1) := by decide +kernel
theorem dX3_read_38 : decode cX3_read 38 = .ok (.bipush 8, 2) := by decide +kernel
theorem dX3_read_40 : decode cX3_read 40 = .ok (.if_icmp .gt 61, 3) := by decide +kernel
theorem dX3_read_43 : decode cX3_read 43 = .ok (.iload_n 2, 1) := by decide +kernel
theorem dX3_read_44 : decode cX3_read 44 = .ok (.ifCond .eq 57, 3) := by decide +kernel
theorem dX3_read_47 : decode cX3_read 47 = .ok (.aload_n 0, 1) := by decide +kernel
theorem dX3_read_48 : decode cX3_read 48 = .ok (.invokevirtual 47, 3) := by decide +kernel
theorem dX3_read_51 : decode cX3_read 51 = .ok (.istore 4, 2) := by decide +kernel
theorem dX3_read_53 : decode cX3_read 53 = .ok (.aload_n 0, 1) := by decide +kernel
theorem dX3_read_54 : decode cX3_read 54 = .ok (.getfield 15, 3) := by decide +kernel
theorem dX3_read_57 : decode cX3_read 57 = .ok (.getfield 51, 3) := by decide +kernel
theorem dX3_read_60 : decode cX3_read 60 = .ok (.iload 4, 2) := by decide +kernel
theorem dX3_read_62 : decode cX3_read 62 = .ok (.iconst 0, 1) := by decide +kernel
theorem dX3_read_63 : decode cX3_read 63 = .ok (.aload_n 0, 1) := by decide +kernel
theorem dX3_read_64 : decode cX3_read 64 = .ok (.bipush (-9), 2) := by decide +kernel
theorem dX3_read_66 : decode cX3_read 66 = .ok (.iconst 0, 1) := by decide +kernel
theorem dX3_read_67 : decode cX3_read 67 = .ok (.invokevirtual 56, 3) := by decide +kernel
theorem dX3_read_70 : decode cX3_read 70 = .ok (.invokevirtual 60, 3) := by decide +kernel
theorem dX3_read_73 : decode cX3_read 73 = .ok (.aload_n 0, 1) := by decide +kernel
theorem dX3_read_74 : decode cX3_read 74 = .ok (.bipush 125, 2) := by decide +kernel
theorem dX3_read_76 : decode cX3_read 76 = .ok (.invokevirtual 64, 3) := by decide +kernel
theorem dX3_read_79 : decode cX3_read 79 = .ok (.aload_n 0, 1) := by decide +kernel
theorem dX3_read_80 : decode cX3_read 80 = .ok (.getfield 41, 3) := by decide +kernel
theorem dX3_read_83 : decode cX3_read 83 = .ok (.sipush 130, 3) := by decide +kernel
theorem dX3_read_86 : decode cX3_read 86 = .ok (.if_icmp .ne 7, 3) := by decide +kernel
theorem dX3_read_89 : decode cX3_read 89 = .ok (.iconst 1, 1) := by decide +kernel
theorem dX3_read_90 : decode cX3_read 90 = .ok (.goto 4, 3) := by decide +kernel
theorem dX3_read_93 : decode cX3_read 93 = .ok (.iconst 0, 1) := by decide +kernel
theorem dX3_read_94 : decode cX3_read 94 = .ok (.istore_n 2, 1) := by decide +kernel
theorem dX3_read_95 : decode cX3_read 95 = .ok (.iinc 3 1, 3) := by decide +kernel
theorem dX3_read_98 : decode cX3_read 98 = .ok (.goto (-61), 3) := by decide +kernel
theorem dX3_read_101 : decode cX3_read 101 = .ok (.aload_n 0, 1) := by decide +kernel
theorem dX3_read_102 : decode cX3_read 102 = .ok (.getfield 41, 3) := by decide +kernel
theorem dX3_read_105 : decode cX3_read 105 = .ok (.ifCond .eq 8, 3) := by decide +kernel
theorem dX3_read_108 : decode cX3_read 108 = .ok (.aload_n 0, 1) := by decide +kernel
theorem dX3_read_109 : decode cX3_read 109 = .ok (.iconst 1, 1) := by decide +kernel
theorem dX3_read_110 : decode cX3_read 110 = .ok (.invokevirtual 68, 3) := by decide +kernel
theorem dX3_read_113 : decode cX3_read 113 = .ok (.aload_n 0, 1) := by decide +kernel
theorem dX3_read_114 : decode cX3_read 114 = .ok (.invokevirtual 71, 3) := by decide +kernel
theorem dX3_read_117 : decode cX3_read 117 = .ok (.aload_n 0, 1) := by decide +kernel
theorem dX3_read_118 : decode cX3_read 118 = .ok (.getfield 74, 3) := by decide +kernel
theorem dX3_read_121 : decode cX3_read 121 = .ok (.ifCond .ne 25, 3) := by decide +kernel
theorem dX3_read_124 : decode cX3_read 124 = .ok (.aload_n 0, 1) := by decide +kernel
theorem dX3_read_125 : decode cX3_read 125 = .ok (.getfield 33, 3) := by decide +kernel
theorem dX3_read_128 : decode cX3_read 128 = .ok (.bipush (-9), 2) := by decide +kernel
theorem dX3_read_130 : decode cX3_read 130 = .ok (.if_icmp .eq 16, 3) := by decide +kernel
theorem dX3_read_133 : decode cX3_read 133 = .ok (.aload_n 0, 1) := by decide +kernel
theorem dX3_read_134 : decode cX3_read 134 = .ok (.iconst 3, 1) := by decide +kernel
theorem dX3_read_135 : decode cX3_read 135 = .ok (.putfield 74, 3) := by decide +kernel
theorem dX3_read_138 : decode cX3_read 138 = .ok (.aload_n 0, 1) := by decide +kernel
theorem dX3_read_139 : decode cX3_read 139 = .ok (.aload_n 0, 1) := by decide +kernel
theorem dX3_read_140 : decode cX3_read 140 = .ok (.getfield 33, 3) := by decide +kernel
theorem dX3_read_143 : decode cX3_read 143 = .ok (.putfield 77, 3) := by decide +kernel
theorem dX3_read_146 : decode cX3_read 146 = .ok (.return_, 1) := by decide +kernel
set_option maxHeartbeats 8000000 in
set_option maxRecDepth 100000 in
theorem a_D_read (l : Launch) (D : va_G) (g : Nat → ClassId)   (sz : Nat) (h : Nat) (va : Nat → Nat) (vi : Nat → Int32) (vr : Nat → Nat) (vf : Nat → Nat → Int32) (ta : Nat → Nat) (oph : Nat) (tr : Nat → Nat) (tf : Nat → Nat → Int32) (ph : Nat) (pa : Nat → Nat) (pr : Nat → Nat) (pf : Nat → Nat → Int32) (hw_v : ∀ k, vr k ≤ rdW_lim k) (hw_t : ∀ k, tr k ≤ tkW_lim k) (hw_p : ∀ k, pr k ≤ pgW_lim k) : vz_Mv l D (tyG g) yX3_read cX3_read 5 91 2806 0 0 [.ref h, .ref ph] sz (vz_w [rdW g h va vi vr vf (ta 0) oph, tkW g ta tr tf, pgW g ph pa pr pf]) (fun u : (Nat → Int32) × (Nat → Nat) × (Nat → Nat → Int32) × (Nat → Nat) × (Nat → Nat → Int32) => (∀ k, u.2.1 k ≤ rdW_lim k) ∧ (∀ k, u.2.2.2.1 k ≤ pgW_lim k)) (fun u => vz_w [rdW g h va u.1 u.2.1 u.2.2.1 (ta 0) ph, tkW g ta tr tf, pgW g ph pa u.2.2.2.1 u.2.2.2.2]) := by
  refine vz_svQ (by decide) (Nat.le_of_ble_eq_true rfl) (fun p e s m args below meth c hx hb hr hml hts hown hlk hin hK hsz A hA H locs hP hD hS ls hl Q hQ => ?_)
  have hl : lv_has ls 5 [(0, .ref h), (1, .ref ph)] := hl
  have J146 : ∀ (x2_146 : Int32), ∀ (x3_146 : Int32), ∀ (vi_146 : Nat → Int32), ∀ (vr_146 : Nat → Nat), ∀ (vf_146 : Nat → Nat → Int32), ∀ (pr_146 : Nat → Nat), ∀ (pf_146 : Nat → Nat → Int32), (x2_146 = 0 ∨ x2_146 = 1) → (∀ k, vr_146 k ≤ rdW_lim k) → (∀ k, pr_146 k ≤ pgW_lim k) → ∀ (H : Heap) (locs : List Loc) (ls : Array Slot), va_P D vwCl (vz_w [rdW g h va vi_146 vr_146 vf_146 (ta 0) ph, tkW g ta tr tf, pgW g ph pa pr_146 pf_146]) H → va_D A (vz_w [rdW g h va vi_146 vr_146 vf_146 (ta 0) ph, tkW g ta tr tf, pgW g ph pa pr_146 pf_146]) → va_S A s.heap H locs → lv_has ls 5 [(0, .ref h), (1, .ref ph), (2, .int x2_146), (3, .int x3_146)] → W p l e { frames := 91, cells := 0, slots := 0, locals := 2806 } s m args below meth c H locs 0 0 Q (F0 m 146 ls []) := by
    intro x2_146 x3_146 vi_146 vr_146 vf_146 pr_146 pf_146 hz_x2_146 hw_v_146 hw_p_146 H locs ls hP hD hS hl
    rw [hQ]
    exact vz_vret3 hx hb hr hlk hK hP hD hS (vi_146, vr_146, vf_146, pr_146, pf_146) (⟨hw_v_146, hw_p_146⟩) rfl (Nat.le_refl 0) (Nat.le_refl 0) dX3_read_146
  have J113 : ∀ (x2_113 : Int32), ∀ (x3_113 : Int32), ∀ (vi_113 : Nat → Int32), ∀ (vr_113 : Nat → Nat), ∀ (vf_113 : Nat → Nat → Int32), ∀ (pr_113 : Nat → Nat), ∀ (pf_113 : Nat → Nat → Int32), (x2_113 = 0 ∨ x2_113 = 1) → (∀ k, vr_113 k ≤ rdW_lim k) → (∀ k, pr_113 k ≤ pgW_lim k) → ∀ (H : Heap) (locs : List Loc) (ls : Array Slot), va_P D vwCl (vz_w [rdW g h va vi_113 vr_113 vf_113 (ta 0) ph, tkW g ta tr tf, pgW g ph pa pr_113 pf_113]) H → va_D A (vz_w [rdW g h va vi_113 vr_113 vf_113 (ta 0) ph, tkW g ta tr tf, pgW g ph pa pr_113 pf_113]) → va_S A s.heap H locs → lv_has ls 5 [(0, .ref h), (1, .ref ph), (2, .int x2_113), (3, .int x3_113)] → W p l e { frames := 91, cells := 0, slots := 0, locals := 2806 } s m args below meth c H locs 0 0 Q (F0 m 113 ls []) := by
    intro x2_113 x3_113 vi_113 vr_113 vf_113 pr_113 pf_113 hz_x2_113 hw_v_113 hw_p_113 H locs ls hP hD hS hl
    refine lv_aload_n hx hb dX3_read_113 rfl (lv_at hl 0 rfl) ?_
    refine vz_Vv3 (As := []) (rest := []) hx hb hml hown hts hK hA hP hD hS (a_D_checkCalls l D g H.size h va vi_113 vr_113 vf_113 ta ph tr tf pa pr_113 pf_113 hw_v_113 hw_t hw_p_113) kv_X3_71 ⟨Nat.le_of_ble_eq_true rfl, Nat.le_of_ble_eq_true rfl⟩ (q0 := 0) (ci := 3) rfl rfl rfl  hl.1 (Nat.le_of_ble_eq_true rfl) dX3_read_114 ⟨Nat.le_refl _, Nat.le_refl _⟩ rfl (fun vi_1 H locs _ _ hP hD hS => ?_)
    replace hP : va_P D vwCl (vz_w [rdW g h va vi_1 vr_113 vf_113 (ta 0) ph, tkW g ta tr tf, pgW g ph pa pr_113 pf_113]) H := hP
    replace hD : va_D A (vz_w [rdW g h va vi_1 vr_113 vf_113 (ta 0) ph, tkW g ta tr tf, pgW g ph pa pr_113 pf_113]) := hD
    refine lv_aload_n hx hb dX3_read_117 rfl (lv_at hl 0 rfl) ?_
    refine va_get (D := D) (ci := 3) (v := .int (vi_1 5)) (C := RX3) (T := TX3) (N := 12) hx hb hts inlX3 hown hK hP 0 rfl rfl 10 (by decide) (hts _ q445) (fun _ h => h) rfl dX3_read_118 ?_
    refine lv_if_ne (tgt := 146) hx hb dX3_read_121 (by decide) (fun kc2 => ?_) (fun kc2 => ?_)
    · exact J146 x2_113 x3_113 vi_1 vr_113 vf_113 pr_113 pf_113 hz_x2_113 hw_v_113 hw_p_113 H locs ls hP hD hS (lv_sub hl [0, 1, 2, 3] rfl)
    · refine lv_aload_n hx hb dX3_read_124 rfl (lv_at hl 0 rfl) ?_
      refine va_get (D := D) (ci := 3) (v := .int (vi_1 4)) (C := RX3) (T := TX3) (N := 12) hx hb hts inlX3 hown hK hP 0 rfl rfl 9 (by decide) (hts _ q102) (fun _ h => h) rfl dX3_read_125 ?_
      refine lv_bipush (v := (-9)) hx hb dX3_read_128 (by decide) ?_
      refine lv_icmp_eq (tgt := 146) hx hb dX3_read_130 (by decide) (fun kc3 => ?_) (fun kc3 => ?_)
      · exact J146 x2_113 x3_113 vi_1 vr_113 vf_113 pr_113 pf_113 hz_x2_113 hw_v_113 hw_p_113 H locs ls hP hD hS (lv_sub hl [0, 1, 2, 3] rfl)
      · refine lv_aload_n hx hb dX3_read_133 rfl (lv_at hl 0 rfl) ?_
        refine lv_iconst (v := 3) hx hb dX3_read_134 (by decide) ?_
        refine va_put (D := D) (ci := 3) (v := .int 3) (ty := .int) (C := RX3) (T := TX3) (N := 12) hx hb hts inlX3 tyX3 tyX3_ok nmX3 hown hK hP hD hS 0 rfl rfl 10 (by decide) (hts _ q445) (fun _ h => h) rfl (by decide +kernel) rfl rfl (Nat.le_of_ble_eq_true rfl) dX3_read_135 (fun H locs hP hD hS => ?_)
        obtain ⟨vi_4, hvi_4, hP, hD⟩ : ∃ vi_4 : Nat → Int32, (vi_4 = (upd vi_1 5 3)) ∧ va_P D vwCl (vz_w [rdW g h va vi_4 vr_113 vf_113 (ta 0) ph, tkW g ta tr tf, pgW g ph pa pr_113 pf_113]) H ∧ va_D A (vz_w [rdW g h va vi_4 vr_113 vf_113 (ta 0) ph, tkW g ta tr tf, pgW g ph pa pr_113 pf_113]) := ⟨(upd vi_1 5 3), rfl, hP, hD⟩
        refine lv_aload_n hx hb dX3_read_138 rfl (lv_at hl 0 rfl) ?_
        refine lv_aload_n hx hb dX3_read_139 rfl (lv_at hl 0 rfl) ?_
        refine va_get (D := D) (ci := 3) (v := .int (vi_4 4)) (C := RX3) (T := TX3) (N := 12) hx hb hts inlX3 hown hK hP 0 rfl rfl 9 (by decide) (hts _ q102) (fun _ h => h) rfl dX3_read_140 ?_
        refine va_put (D := D) (ci := 3) (v := .int (vi_4 4)) (ty := .int) (C := RX3) (T := TX3) (N := 12) hx hb hts inlX3 tyX3 tyX3_ok nmX3 hown hK hP hD hS 0 rfl rfl 11 (by decide) (hts _ q446) (fun _ h => h) rfl (by decide +kernel) rfl rfl (Nat.le_of_ble_eq_true rfl) dX3_read_143 (fun H locs hP hD hS => ?_)
        obtain ⟨vi_5, hvi_5, hP, hD⟩ : ∃ vi_5 : Nat → Int32, (vi_5 = (upd vi_4 6 (vi_4 4))) ∧ va_P D vwCl (vz_w [rdW g h va vi_5 vr_113 vf_113 (ta 0) ph, tkW g ta tr tf, pgW g ph pa pr_113 pf_113]) H ∧ va_D A (vz_w [rdW g h va vi_5 vr_113 vf_113 (ta 0) ph, tkW g ta tr tf, pgW g ph pa pr_113 pf_113]) := ⟨(upd vi_4 6 (vi_4 4)), rfl, hP, hD⟩
        exact J146 x2_113 x3_113 vi_5 vr_113 vf_113 pr_113 pf_113 hz_x2_113 hw_v_113 hw_p_113 H locs ls hP hD hS (lv_sub hl [0, 1, 2, 3] rfl)
  have J101 : ∀ (x2_101 : Int32), ∀ (x3_101 : Int32), ∀ (vi_101 : Nat → Int32), ∀ (vr_101 : Nat → Nat), ∀ (vf_101 : Nat → Nat → Int32), ∀ (pr_101 : Nat → Nat), ∀ (pf_101 : Nat → Nat → Int32), (x2_101 = 0 ∨ x2_101 = 1) → (∀ k, vr_101 k ≤ rdW_lim k) → (∀ k, pr_101 k ≤ pgW_lim k) → ∀ (H : Heap) (locs : List Loc) (ls : Array Slot), va_P D vwCl (vz_w [rdW g h va vi_101 vr_101 vf_101 (ta 0) ph, tkW g ta tr tf, pgW g ph pa pr_101 pf_101]) H → va_D A (vz_w [rdW g h va vi_101 vr_101 vf_101 (ta 0) ph, tkW g ta tr tf, pgW g ph pa pr_101 pf_101]) → va_S A s.heap H locs → lv_has ls 5 [(0, .ref h), (1, .ref ph), (2, .int x2_101), (3, .int x3_101)] → W p l e { frames := 91, cells := 0, slots := 0, locals := 2806 } s m args below meth c H locs 0 0 Q (F0 m 101 ls []) := by
    intro x2_101 x3_101 vi_101 vr_101 vf_101 pr_101 pf_101 hz_x2_101 hw_v_101 hw_p_101 H locs ls hP hD hS hl
    refine lv_aload_n hx hb dX3_read_101 rfl (lv_at hl 0 rfl) ?_
    refine va_get (D := D) (ci := 3) (v := .int (vi_101 1)) (C := RX3) (T := TX3) (N := 12) hx hb hts inlX3 hown hK hP 0 rfl rfl 6 (by decide) (hts _ q443) (fun _ h => h) rfl dX3_read_102 ?_
    refine lv_if_eq (tgt := 113) hx hb dX3_read_105 (by decide) (fun kc1 => ?_) (fun kc1 => ?_)
    · exact J113 x2_101 x3_101 vi_101 vr_101 vf_101 pr_101 pf_101 hz_x2_101 hw_v_101 hw_p_101 H locs ls hP hD hS (lv_sub hl [0, 1, 2, 3] rfl)
    · refine lv_aload_n hx hb dX3_read_108 rfl (lv_at hl 0 rfl) ?_
      refine lv_iconst (v := 1) hx hb dX3_read_109 (by decide) ?_
      refine vz_Vv3 (As := [.int 1]) (rest := []) hx hb hml hown hts hK hA hP hD hS (a_D_fail l D g H.size h va vi_101 vr_101 vf_101 ta ph tr tf pa pr_101 pf_101 1 hw_v_101 hw_t hw_p_101) kv_X3_68 ⟨Nat.le_of_ble_eq_true rfl, Nat.le_of_ble_eq_true rfl⟩ (q0 := 0) (ci := 3) rfl rfl rfl  hl.1 (Nat.le_of_ble_eq_true rfl) dX3_read_110 ⟨Nat.le_refl _, Nat.le_refl _⟩ rfl (fun vi_2 H locs hp3 _ hP hD hS => ?_)
      try dsimp only at hp3
      replace hP : va_P D vwCl (vz_w [rdW g h va vi_2 vr_101 vf_101 (ta 0) ph, tkW g ta tr tf, pgW g ph pa pr_101 pf_101]) H := hP
      replace hD : va_D A (vz_w [rdW g h va vi_2 vr_101 vf_101 (ta 0) ph, tkW g ta tr tf, pgW g ph pa pr_101 pf_101]) := hD
      exact J113 x2_101 x3_101 vi_2 vr_101 vf_101 pr_101 pf_101 hz_x2_101 hw_v_101 hw_p_101 H locs ls hP hD hS (lv_sub hl [0, 1, 2, 3] rfl)
  have J37 : ∀ (fu37 n37 : Nat), 9 - n37 < fu37 → n37 ≤ 9 → ∀ (x2_37 : Int32), ∀ (vi_37 : Nat → Int32), ∀ (vr_37 : Nat → Nat), ∀ (vf_37 : Nat → Nat → Int32), ∀ (pr_37 : Nat → Nat), ∀ (pf_37 : Nat → Nat → Int32), (x2_37 = 0 ∨ x2_37 = 1) → (∀ k, vr_37 k ≤ rdW_lim k) → (∀ k, pr_37 k ≤ pgW_lim k) → ∀ (H : Heap) (locs : List Loc) (ls : Array Slot), va_P D vwCl (vz_w [rdW g h va vi_37 vr_37 vf_37 (ta 0) ph, tkW g ta tr tf, pgW g ph pa pr_37 pf_37]) H → va_D A (vz_w [rdW g h va vi_37 vr_37 vf_37 (ta 0) ph, tkW g ta tr tf, pgW g ph pa pr_37 pf_37]) → va_S A s.heap H locs → lv_has ls 5 [(0, .ref h), (1, .ref ph), (2, .int x2_37), (3, .int (nI n37))] → W p l e { frames := 91, cells := 0, slots := 0, locals := 2806 } s m args below meth c H locs 0 0 Q (F0 m 37 ls []) := by
    intro fu37
    induction fu37 with
    | zero => intro n37 z; omega
    | succ fu37 ih37 =>
      intro n37 hf37 hb37 x2_37 vi_37 vr_37 vf_37 pr_37 pf_37 hz_x2_37 hw_v_37 hw_p_37 H locs ls hP hD hS hl
      have J94 : n37 < 9 → ∀ (x2_94 : Int32), ∀ (x4_94 : Int32), ∀ (y0_94 : Int32), ∀ (vi_94 : Nat → Int32), ∀ (vr_94 : Nat → Nat), ∀ (vf_94 : Nat → Nat → Int32), ∀ (pr_94 : Nat → Nat), ∀ (pf_94 : Nat → Nat → Int32), (x2_94 = 0 ∨ x2_94 = 1) → (y0_94 = 0 ∨ y0_94 = 1) → (∀ k, vr_94 k ≤ rdW_lim k) → (∀ k, pr_94 k ≤ pgW_lim k) → ∀ (H : Heap) (locs : List Loc) (ls : Array Slot), va_P D vwCl (vz_w [rdW g h va vi_94 vr_94 vf_94 (ta 0) ph, tkW g ta tr tf, pgW g ph pa pr_94 pf_94]) H → va_D A (vz_w [rdW g h va vi_94 vr_94 vf_94 (ta 0) ph, tkW g ta tr tf, pgW g ph pa pr_94 pf_94]) → va_S A s.heap H locs → lv_has ls 5 [(0, .ref h), (1, .ref ph), (2, .int x2_94), (3, .int (nI n37)), (4, .int x4_94)] → W p l e { frames := 91, cells := 0, slots := 0, locals := 2806 } s m args below meth c H locs 0 0 Q (F0 m 94 ls [.int y0_94]) := by
        intro hn37 x2_94 x4_94 y0_94 vi_94 vr_94 vf_94 pr_94 pf_94 hz_x2_94 hz_y0_94 hw_v_94 hw_p_94 H locs ls hP hD hS hl
        refine lv_istore_n (lv' := [(2, .int y0_94), (0, .ref h), (1, .ref ph), (3, .int (nI n37)), (4, .int x4_94)]) hx hb dX3_read_94 rfl hl (by decide) rfl (fun ls hl => ?_)
        refine lv_iinc (v := (nI (n37 + 1))) (lv' := [(3, .int (nI (n37 + 1))), (2, .int y0_94), (0, .ref h), (1, .ref ph), (4, .int x4_94)]) hx hb dX3_read_95 hl (k := 3) rfl (nI_1 n37) (by decide) rfl (fun ls hl => ?_)
        refine lv_goto (tgt := 37) hx hb dX3_read_98 (by decide) ?_
        exact ih37 (n37 + 1) (by omega) (by omega) y0_94 vi_94 vr_94 vf_94 pr_94 pf_94 hz_y0_94 hw_v_94 hw_p_94 H locs ls hP hD hS (lv_sub hl [2, 3, 1, 0] rfl)
      refine lv_iload_n hx hb dX3_read_37 rfl (lv_at hl 3 rfl) ?_
      refine lv_bipush (v := 8) hx hb dX3_read_38 (by decide) ?_
      refine lv_icmp_gt (tgt := 101) hx hb dX3_read_40 (by decide) (fun kc1 => ?_) (fun kc1 => ?_)
      · exact J101 x2_37 (nI n37) vi_37 vr_37 vf_37 pr_37 pf_37 hz_x2_37 hw_v_37 hw_p_37 H locs ls hP hD hS (lv_sub hl [0, 1, 2, 3] rfl)
      · have hn37 : n37 < 9 := vz_ltgt (B := 8) (by decide) (by omega) kc1
        refine lv_iload_n hx hb dX3_read_43 rfl (lv_at hl 2 rfl) ?_
        refine lv_if_eq (tgt := 101) hx hb dX3_read_44 (by decide) (fun kc2 => ?_) (fun kc2 => ?_)
        · exact J101 x2_37 (nI n37) vi_37 vr_37 vf_37 pr_37 pf_37 hz_x2_37 hw_v_37 hw_p_37 H locs ls hP hD hS (lv_sub hl [0, 1, 2, 3] rfl)
        · refine lv_aload_n hx hb dX3_read_47 rfl (lv_at hl 0 rfl) ?_
          refine vz_Vi3 (As := []) (rest := []) hx hb hml hown hts hK hA hP hD hS (a_D_beginMethod l D g H.size h va vi_37 vr_37 vf_37 ta ph tr tf pa pr_37 pf_37 hw_v_37 hw_t hw_p_37) kv_X3_47 ⟨Nat.le_of_ble_eq_true rfl, Nat.le_of_ble_eq_true rfl⟩ (q0 := 0) (ci := 3) rfl rfl rfl  hl.1 (Nat.le_of_ble_eq_true rfl) dX3_read_48 ⟨Nat.le_refl _, Nat.le_refl _⟩ rfl (fun v9 ⟨vi_3, vr_4, pr_5, pf_6⟩ H locs ⟨hw_7, hw_8⟩ _ hP hD hS => ?_)
          try dsimp only at hw_7 hw_8
          replace hP : va_P D vwCl (vz_w [rdW g h va vi_3 vr_4 vf_37 (ta 0) ph, tkW g ta tr tf, pgW g ph pa pr_5 pf_6]) H := hP
          replace hD : va_D A (vz_w [rdW g h va vi_3 vr_4 vf_37 (ta 0) ph, tkW g ta tr tf, pgW g ph pa pr_5 pf_6]) := hD
          refine lv_istore (lv' := [(4, .int v9), (0, .ref h), (1, .ref ph), (2, .int x2_37), (3, .int (nI n37))]) hx hb dX3_read_51 hl (by decide) rfl (fun ls hl => ?_)
          refine lv_aload_n hx hb dX3_read_53 rfl (lv_at hl 1 rfl) ?_
          refine va_get (D := D) (ci := 3) (v := .ref ph) (C := RX3) (T := TX3) (N := 12) hx hb hts inlX3 hown hK hP 0 rfl rfl 4 (by decide) (hts _ q97) (fun _ h => h) rfl dX3_read_54 ?_
          refine va_get (D := D) (ci := 2) (v := .ref (pa 8)) (C := RX2) (T := TX2) (N := 5) hx hb hts inlX2 hown hK hP 9 rfl rfl 4 (by decide) (hts _ q444) (fun _ h => h) rfl dX3_read_57 ?_
          refine lv_iload hx hb dX3_read_60 (lv_at hl 0 rfl) ?_
          refine lv_iconst (v := 0) hx hb dX3_read_62 (by decide) ?_
          refine lv_aload_n hx hb dX3_read_63 rfl (lv_at hl 1 rfl) ?_
          refine lv_bipush (v := (-9)) hx hb dX3_read_64 (by decide) ?_
          refine lv_iconst (v := 0) hx hb dX3_read_66 (by decide) ?_
          refine vz_Vi3 (As := [.int (-9), .int 0]) (rest := [.int 0, .int v9, .ref (pa 8)]) hx hb hml hown hts hK hA hP hD hS (a_D_stats9 l D g 6 0 (by decide) H.size h va vi_3 vr_4 vf_37 ta ph tr tf pa pr_5 pf_6 (-9) hw_7 hw_t hw_8) kv_X3_56 ⟨Nat.le_of_ble_eq_true rfl, Nat.le_of_ble_eq_true rfl⟩ (q0 := 0) (ci := 3) rfl rfl rfl  hl.1 (Nat.le_of_ble_eq_true rfl) dX3_read_67 ⟨Nat.le_refl _, Nat.le_refl _⟩ rfl (fun v17 ⟨vi_10, vr_11, vf_12, pr_13, pf_14⟩ H locs ⟨hw_15, hw_16⟩ _ hP hD hS => ?_)
          try dsimp only at hw_15 hw_16
          replace hP : va_P D vwCl (vz_w [rdW g h va vi_10 vr_11 vf_12 (ta 0) ph, tkW g ta tr tf, pgW g ph pa pr_13 pf_14]) H := hP
          replace hD : va_D A (vz_w [rdW g h va vi_10 vr_11 vf_12 (ta 0) ph, tkW g ta tr tf, pgW g ph pa pr_13 pf_14]) := hD
          refine vz_Vv2 (ws' := fun u : (Nat → Int32) => vz_w [rdW g h va vi_10 vr_11 vf_12 (ta 0) ph, tkW g ta tr tf, pgW g ph pa pr_13 (vz_uf pf_14 4 u)]) (As := [.int v9, .int 0, .int v17]) (rest := []) hx hb hml hown hts hK hA hP hD hS (c_T_set l D g (pa 8) (pa 9) H.size 2 8 (pr_13 4) 16 (pf_14 4) v9 0 v17 ⟨rfl, by decide, by decide, by decide, by decide, hw_16 4⟩) kv_X3_60 ⟨Nat.le_of_ble_eq_true rfl, Nat.le_of_ble_eq_true rfl⟩ (q0 := 18) (ci := 6) rfl rfl rfl [18, 19] rfl (by decide) (fun _ => rfl) (fun _ => rfl) hl.1 (Nat.le_of_ble_eq_true rfl) dX3_read_70 ⟨Nat.le_refl _, Nat.le_refl _⟩ rfl (fun nf18 H locs _ _ hP hD hS => ?_)
          obtain ⟨pf_19, hP, hD⟩ : ∃ pf_19 : Nat → Nat → Int32, va_P D vwCl (vz_w [rdW g h va vi_10 vr_11 vf_12 (ta 0) ph, tkW g ta tr tf, pgW g ph pa pr_13 pf_19]) H ∧ va_D A (vz_w [rdW g h va vi_10 vr_11 vf_12 (ta 0) ph, tkW g ta tr tf, pgW g ph pa pr_13 pf_19]) := ⟨(vz_uf pf_14 4 nf18), hP, hD⟩
          refine lv_aload_n hx hb dX3_read_73 rfl (lv_at hl 1 rfl) ?_
          refine lv_bipush (v := 125) hx hb dX3_read_74 (by decide) ?_
          refine vz_Vv3 (As := [.int 125]) (rest := []) hx hb hml hown hts hK hA hP hD hS (a_D_expect l D g H.size h va vi_10 vr_11 vf_12 ta ph tr tf pa pr_13 pf_19 125 hw_15 hw_t hw_16) kv_X3_64 ⟨Nat.le_of_ble_eq_true rfl, Nat.le_of_ble_eq_true rfl⟩ (q0 := 0) (ci := 3) rfl rfl rfl  hl.1 (Nat.le_of_ble_eq_true rfl) dX3_read_76 ⟨Nat.le_refl _, Nat.le_refl _⟩ rfl (fun vi_20 H locs hp21 _ hP hD hS => ?_)
          try dsimp only at hp21
          replace hP : va_P D vwCl (vz_w [rdW g h va vi_20 vr_11 vf_12 (ta 0) ph, tkW g ta tr tf, pgW g ph pa pr_13 pf_19]) H := hP
          replace hD : va_D A (vz_w [rdW g h va vi_20 vr_11 vf_12 (ta 0) ph, tkW g ta tr tf, pgW g ph pa pr_13 pf_19]) := hD
          refine lv_aload_n hx hb dX3_read_79 rfl (lv_at hl 1 rfl) ?_
          refine va_get (D := D) (ci := 3) (v := .int (vi_20 1)) (C := RX3) (T := TX3) (N := 12) hx hb hts inlX3 hown hK hP 0 rfl rfl 6 (by decide) (hts _ q443) (fun _ h => h) rfl dX3_read_80 ?_
          refine lv_sipush (v := 130) hx hb dX3_read_83 (by decide) ?_
          refine lv_icmp_ne (tgt := 93) hx hb dX3_read_86 (by decide) (fun kc22 => ?_) (fun kc22 => ?_)
          · refine lv_iconst (v := 0) hx hb dX3_read_93 (by decide) ?_
            exact J94 hn37 x2_37 v9 0 vi_20 vr_11 vf_12 pr_13 pf_19 hz_x2_37 (Or.inl rfl) hw_15 hw_16 H locs ls hP hD hS (lv_sub hl [1, 2, 3, 4, 0] rfl)
          · refine lv_iconst (v := 1) hx hb dX3_read_89 (by decide) ?_
            refine lv_goto (tgt := 94) hx hb dX3_read_90 (by decide) ?_
            exact J94 hn37 x2_37 v9 1 vi_20 vr_11 vf_12 pr_13 pf_19 hz_x2_37 (Or.inr rfl) hw_15 hw_16 H locs ls hP hD hS (lv_sub hl [1, 2, 3, 4, 0] rfl)
  have J33 : ∀ (x2_33 : Int32), ∀ (vi_33 : Nat → Int32), ∀ (vr_33 : Nat → Nat), ∀ (vf_33 : Nat → Nat → Int32), ∀ (pr_33 : Nat → Nat), ∀ (pf_33 : Nat → Nat → Int32), (∀ k, vr_33 k ≤ rdW_lim k) → (∀ k, pr_33 k ≤ pgW_lim k) → ∀ (H : Heap) (locs : List Loc) (ls : Array Slot), va_P D vwCl (vz_w [rdW g h va vi_33 vr_33 vf_33 (ta 0) ph, tkW g ta tr tf, pgW g ph pa pr_33 pf_33]) H → va_D A (vz_w [rdW g h va vi_33 vr_33 vf_33 (ta 0) ph, tkW g ta tr tf, pgW g ph pa pr_33 pf_33]) → va_S A s.heap H locs → lv_has ls 5 [(0, .ref h), (1, .ref ph), (2, .int x2_33)] → W p l e { frames := 91, cells := 0, slots := 0, locals := 2806 } s m args below meth c H locs 0 0 Q (F0 m 33 ls []) := by
    intro x2_33 vi_33 vr_33 vf_33 pr_33 pf_33 hw_v_33 hw_p_33 H locs ls hP hD hS hl
    refine lv_iconst (v := 1) hx hb dX3_read_33 (by decide) ?_
    refine lv_istore_n (lv' := [(2, .int 1), (0, .ref h), (1, .ref ph)]) hx hb dX3_read_34 rfl hl (by decide) rfl (fun ls hl => ?_)
    refine lv_iconst (v := 0) hx hb dX3_read_35 (by decide) ?_
    refine lv_istore_n (lv' := [(3, .int 0), (2, .int 1), (0, .ref h), (1, .ref ph)]) hx hb dX3_read_36 rfl hl (by decide) rfl (fun ls hl => ?_)
    exact J37 (10) 0 (by omega) (by omega) 1 vi_33 vr_33 vf_33 pr_33 pf_33 (Or.inr rfl) hw_v_33 hw_p_33 H locs ls hP hD hS (lv_sub hl [2, 3, 1, 0] rfl)
  have J7 : ∀ (fu7 n7 : Nat), 17 - n7 < fu7 → n7 ≤ 17 → ∀ (vi_7 : Nat → Int32), ∀ (vr_7 : Nat → Nat), ∀ (vf_7 : Nat → Nat → Int32), ∀ (pr_7 : Nat → Nat), ∀ (pf_7 : Nat → Nat → Int32), (∀ k, vr_7 k ≤ rdW_lim k) → (∀ k, pr_7 k ≤ pgW_lim k) → ∀ (H : Heap) (locs : List Loc) (ls : Array Slot), va_P D vwCl (vz_w [rdW g h va vi_7 vr_7 vf_7 (ta 0) ph, tkW g ta tr tf, pgW g ph pa pr_7 pf_7]) H → va_D A (vz_w [rdW g h va vi_7 vr_7 vf_7 (ta 0) ph, tkW g ta tr tf, pgW g ph pa pr_7 pf_7]) → va_S A s.heap H locs → lv_has ls 5 [(0, .ref h), (1, .ref ph), (2, .int (nI n7))] → W p l e { frames := 91, cells := 0, slots := 0, locals := 2806 } s m args below meth c H locs 0 0 Q (F0 m 7 ls []) := by
    intro fu7
    induction fu7 with
    | zero => intro n7 z; omega
    | succ fu7 ih7 =>
      intro n7 hf7 hb7 vi_7 vr_7 vf_7 pr_7 pf_7 hw_v_7 hw_p_7 H locs ls hP hD hS hl
      refine lv_iload_n hx hb dX3_read_7 rfl (lv_at hl 2 rfl) ?_
      refine lv_bipush (v := 16) hx hb dX3_read_8 (by decide) ?_
      refine lv_icmp_gt (tgt := 33) hx hb dX3_read_10 (by decide) (fun kc1 => ?_) (fun kc1 => ?_)
      · exact J33 (nI n7) vi_7 vr_7 vf_7 pr_7 pf_7 hw_v_7 hw_p_7 H locs ls hP hD hS (lv_sub hl [0, 1, 2] rfl)
      · have hn7 : n7 < 17 := vz_ltgt (B := 16) (by decide) (by omega) kc1
        refine lv_aload_n hx hb dX3_read_13 rfl (lv_at hl 0 rfl) ?_
        refine va_get (D := D) (ci := 3) (v := .int (vi_7 1)) (C := RX3) (T := TX3) (N := 12) hx hb hts inlX3 hown hK hP 0 rfl rfl 6 (by decide) (hts _ q443) (fun _ h => h) rfl dX3_read_14 ?_
        refine lv_sipush (v := 128) hx hb dX3_read_17 (by decide) ?_
        refine lv_icmp_ne (tgt := 33) hx hb dX3_read_20 (by decide) (fun kc2 => ?_) (fun kc2 => ?_)
        · exact J33 (nI n7) vi_7 vr_7 vf_7 pr_7 pf_7 hw_v_7 hw_p_7 H locs ls hP hD hS (lv_sub hl [0, 1, 2] rfl)
        · refine lv_aload_n hx hb dX3_read_23 rfl (lv_at hl 0 rfl) ?_
          refine vz_Vv3 (As := []) (rest := []) hx hb hml hown hts hK hA hP hD hS (a_D_readKind l D g H.size h va vi_7 vr_7 vf_7 ta ph tr tf pa pr_7 pf_7 hw_v_7 hw_t hw_p_7) kv_X3_44 ⟨Nat.le_of_ble_eq_true rfl, Nat.le_of_ble_eq_true rfl⟩ (q0 := 0) (ci := 3) rfl rfl rfl  hl.1 (Nat.le_of_ble_eq_true rfl) dX3_read_24 ⟨Nat.le_refl _, Nat.le_refl _⟩ rfl (fun ⟨vi_3, pr_4, pf_5⟩ H locs hw_6 _ hP hD hS => ?_)
          try dsimp only at hw_6
          replace hP : va_P D vwCl (vz_w [rdW g h va vi_3 vr_7 vf_7 (ta 0) ph, tkW g ta tr tf, pgW g ph pa pr_4 pf_5]) H := hP
          replace hD : va_D A (vz_w [rdW g h va vi_3 vr_7 vf_7 (ta 0) ph, tkW g ta tr tf, pgW g ph pa pr_4 pf_5]) := hD
          refine lv_iinc (v := (nI (n7 + 1))) (lv' := [(2, .int (nI (n7 + 1))), (0, .ref h), (1, .ref ph)]) hx hb dX3_read_27 hl (k := 2) rfl (nI_1 n7) (by decide) rfl (fun ls hl => ?_)
          refine lv_goto (tgt := 7) hx hb dX3_read_30 (by decide) ?_
          exact ih7 (n7 + 1) (by omega) (by omega) vi_3 vr_7 vf_7 pr_4 pf_5 hw_v_7 hw_6 H locs ls hP hD hS (lv_sub hl [1, 2, 0] rfl)
  refine lv_aload_n hx hb dX3_read_0 rfl (lv_at hl 0 rfl) ?_
  refine lv_aload_n hx hb dX3_read_1 rfl (lv_at hl 1 rfl) ?_
  refine vz_Vv3 (As := [.ref ph]) (rest := []) hx hb hml hown hts hK hA hP hD hS (a_D_start l D g H.size h va vi vr vf ta oph tr tf ph pa pr pf hw_v hw_t hw_p) kv_X3_37 ⟨Nat.le_of_ble_eq_true rfl, Nat.le_of_ble_eq_true rfl⟩ (q0 := 0) (ci := 3) rfl rfl rfl  hl.1 (Nat.le_of_ble_eq_true rfl) dX3_read_2 ⟨Nat.le_refl _, Nat.le_refl _⟩ rfl (fun ⟨vi_1, vr_2, vf_3, pr_4, pf_5⟩ H locs ⟨hw_6, hw_7⟩ _ hP hD hS => ?_)
  try dsimp only at hw_6 hw_7
  replace hP : va_P D vwCl (vz_w [rdW g h va vi_1 vr_2 vf_3 (ta 0) ph, tkW g ta tr tf, pgW g ph pa pr_4 pf_5]) H := hP
  replace hD : va_D A (vz_w [rdW g h va vi_1 vr_2 vf_3 (ta 0) ph, tkW g ta tr tf, pgW g ph pa pr_4 pf_5]) := hD
  refine lv_iconst (v := 0) hx hb dX3_read_5 (by decide) ?_
  refine lv_istore_n (lv' := [(2, .int 0), (0, .ref h), (1, .ref ph)]) hx hb dX3_read_6 rfl hl (by decide) rfl (fun ls hl => ?_)
  exact J7 (18) 0 (by omega) (by omega) vi_1 vr_2 vf_3 pr_4 pf_5 hw_6 hw_7 H locs ls hP hD hS (lv_sub hl [1, 2, 0] rfl)
