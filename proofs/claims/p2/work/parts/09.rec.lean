theorem q119 : Cond.fieldLink RX4 14 "WaysAtlas$RunRecord" "tape" "LWaysAtlas$Table;" ∈ wsL_law := mT_1 (List.mem_of_getElem? (i := 206) rfl) rfl
theorem q1032 : Cond.methodLink RX4 36 yX6_reset ∈ wsL_law := mT_4 (List.mem_of_getElem? (i := 202) rfl) rfl
theorem kv_X4_36 : vz_cv RX4 36 yX6_reset cX6_reset 1 none 0 := ⟨q1032, q290, q291, q15, q292, by decide +kernel⟩
theorem q120 : Cond.fieldLink RX4 20 "WaysAtlas$RunRecord" "failures" "LWaysAtlas$Table;" ∈ wsL_law := mT_1 (List.mem_of_getElem? (i := 209) rfl) rfl
theorem q121 : Cond.fieldLink RX4 23 "WaysAtlas$RunRecord" "activations" "LWaysAtlas$Table;" ∈ wsL_law := mT_1 (List.mem_of_getElem? (i := 212) rfl) rfl
theorem q122 : Cond.fieldLink RX4 26 "WaysAtlas$RunRecord" "closings" "LWaysAtlas$Table;" ∈ wsL_law := mT_1 (List.mem_of_getElem? (i := 214) rfl) rfl
theorem q123 : Cond.fieldLink RX4 29 "WaysAtlas$RunRecord" "entries" "LWaysAtlas$Table;" ∈ wsL_law := mT_1 (List.mem_of_getElem? (i := 217) rfl) rfl
theorem q1033 : Cond.methodLink RX4 39 yX6_fill ∈ wsL_law := mT_4 (List.mem_of_getElem? (i := 203) rfl) rfl
theorem q142 : Cond.instanceMethod yX6_fill ∈ wsL_law := mT_2 (List.mem_of_getElem? (i := 32) rfl) rfl
theorem q143 : Cond.selects RX6 yX6_fill yX6_fill ∈ wsL_law := mT_2 (List.mem_of_getElem? (i := 33) rfl) rfl
theorem q144 : Cond.code yX6_fill cX6_fill 4 none ∈ wsL_law := mT_2 (List.mem_of_getElem? (i := 34) rfl) rfl
theorem kv_X4_39 : vz_cv RX4 39 yX6_fill cX6_fill 4 none 2 := ⟨q1033, q142, q143, q15, q144, by decide +kernel⟩
theorem q124 : Cond.fieldLink RX4 32 "WaysAtlas$RunRecord" "ended" "I" ∈ wsL_law := mT_1 (List.mem_of_getElem? (i := 220) rfl) rfl
theorem q1026 : Cond.fieldLink RX4 42 "WaysAtlas$RunRecord" "returned" "I" ∈ wsL_law := mT_1 (List.mem_of_getElem? (i := 223) rfl) rfl
theorem q1027 : Cond.fieldLink RX4 45 "WaysAtlas$RunRecord" "ender" "I" ∈ wsL_law := mT_1 (List.mem_of_getElem? (i := 226) rfl) rfl
theorem q1028 : Cond.fieldLink RX4 48 "WaysAtlas$RunRecord" "opened" "I" ∈ wsL_law := mT_1 (List.mem_of_getElem? (i := 229) rfl) rfl
theorem q1029 : Cond.fieldLink RX4 51 "WaysAtlas$RunRecord" "lost" "I" ∈ wsL_law := mT_1 (List.mem_of_getElem? (i := 231) rfl) rfl
theorem q1030 : Cond.fieldLink RX4 54 "WaysAtlas$RunRecord" "deepest" "I" ∈ wsL_law := mT_1 (List.mem_of_getElem? (i := 234) rfl) rfl
theorem q1031 : Cond.fieldLink RX4 57 "WaysAtlas$RunRecord" "steps" "I" ∈ wsL_law := mT_1 (List.mem_of_getElem? (i := 236) rfl) rfl
theorem dX4_restart_0 : decode cX4_restart 0 = .ok (.aload_n 0, 1) := by decide +kernel
theorem dX4_restart_1 : decode cX4_restart 1 = .ok (.getfield 14, 3) := by decide +kernel
theorem dX4_restart_4 : decode cX4_restart 4 = .ok (.invokevirtual 36, 3) := by decide +kernel
theorem dX4_restart_7 : decode cX4_restart 7 = .ok (.aload_n 0, 1) := by decide +kernel
theorem dX4_restart_8 : decode cX4_restart 8 = .ok (.getfield 20, 3) := by decide +kernel
theorem dX4_restart_11 : decode cX4_restart 11 = .ok (.invokevirtual 36, 3) := by decide +kernel
theorem dX4_restart_14 : decode cX4_restart 14 = .ok (.aload_n 0, 1) := by decide +kernel
theorem dX4_restart_15 : decode cX4_restart 15 = .ok (.getfield 23, 3) := by decide +kernel
theorem dX4_restart_18 : decode cX4_restart 18 = .ok (.invokevirtual 36, 3) := by decide +kernel
theorem dX4_restart_21 : decode cX4_restart 21 = .ok (.aload_n 0, 1) := by decide +kernel
theorem dX4_restart_22 : decode cX4_restart 22 = .ok (.getfield 26, 3) := by decide +kernel
theorem dX4_restart_25 : decode cX4_restart 25 = .ok (.invokevirtual 36, 3) := by decide +kernel
theorem dX4_restart_28 : decode cX4_restart 28 = .ok (.aload_n 0, 1) := by decide +kernel
theorem dX4_restart_29 : decode cX4_restart 29 = .ok (.getfield 29, 3) := by decide +kernel
theorem dX4_restart_32 : decode cX4_restart 32 = .ok (.iload_n 1, 1) := by decide +kernel
theorem dX4_restart_33 : decode cX4_restart 33 = .ok (.iconst 0, 1) := by decide +kernel
theorem dX4_restart_34 : decode cX4_restart 34 = .ok (.invokevirtual 39, 3) := by decide +kernel
theorem dX4_restart_37 : decode cX4_restart 37 = .ok (.aload_n 0, 1) := by decide +kernel
theorem dX4_restart_38 : decode cX4_restart 38 = .ok (.bipush (-9), 2) := by decide +kernel
theorem dX4_restart_40 : decode cX4_restart 40 = .ok (.putfield 32, 3) := by decide +kernel
theorem dX4_restart_43 : decode cX4_restart 43 = .ok (.aload_n 0, 1) := by decide +kernel
theorem dX4_restart_44 : decode cX4_restart 44 = .ok (.iconst 0, 1) := by decide +kernel
theorem dX4_restart_45 : decode cX4_restart 45 = .ok (.putfield 42, 3) := by decide +kernel
theorem dX4_restart_48 : decode cX4_restart 48 = .ok (.aload_n 0, 1) := by decide +kernel
theorem dX4_restart_49 : decode cX4_restart 49 = .ok (.bipush (-9), 2) := by decide +kernel
theorem dX4_restart_51 : decode cX4_restart 51 = .ok (.putfield 45, 3) := by decide +kernel
theorem dX4_restart_54 : decode cX4_restart 54 = .ok (.aload_n 0, 1) := by decide +kernel
theorem dX4_restart_55 : decode cX4_restart 55 = .ok (.iconst 0, 1) := by decide +kernel
theorem dX4_restart_56 : decode cX4_restart 56 = .ok (.putfield 48, 3) := by decide +kernel
theorem dX4_restart_59 : decode cX4_restart 59 = .ok (.aload_n 0, 1) := by decide +kernel
theorem dX4_restart_60 : decode cX4_restart 60 = .ok (.iconst 0, 1) := by decide +kernel
theorem dX4_restart_61 : decode cX4_restart 61 = .ok (.putfield 51, 3) := by decide +kernel
theorem dX4_restart_64 : decode cX4_restart 64 = .ok (.aload_n 0, 1) := by decide +kernel
theorem dX4_restart_65 : decode cX4_restart 65 = .ok (.iconst 0, 1) := by decide +kernel
theorem dX4_restart_66 : decode cX4_restart 66 = .ok (.putfield 54, 3) := by decide +kernel
theorem dX4_restart_69 : decode cX4_restart 69 = .ok (.aload_n 0, 1) := by decide +kernel
theorem dX4_restart_70 : decode cX4_restart 70 = .ok (.iconst 0, 1) := by decide +kernel
theorem dX4_restart_71 : decode cX4_restart 71 = .ok (.putfield 57, 3) := by decide +kernel
theorem dX4_restart_74 : decode cX4_restart 74 = .ok (.return_, 1) := by decide +kernel
set_option maxHeartbeats 8000000 in
set_option maxRecDepth 100000 in
theorem a_R_restart (l : Launch) (D : va_G) (g : Nat → ClassId)   (sz : Nat) (h : Nat) (ca : Nat → Nat) (ci : Nat → Int32) (cr : Nat → Nat) (cf : Nat → Nat → Int32) (n1 : Int32) (hw_c : ∀ k, cr k ≤ rcW_lim k) : vz_Mv l D (tyG g) yX4_restart cX4_restart 2 2 38 0 0 [.ref h, .int n1] sz (vz_w [rcW g h ca ci cr cf]) (fun u : (Nat → Int32) × (Nat → Nat) × (Nat → Nat → Int32) => (∀ k, u.2.1 k ≤ rcW_lim k)) (fun u => vz_w [rcW g h ca u.1 u.2.1 u.2.2]) := by
  refine vz_svQ (by decide) (Nat.le_of_ble_eq_true rfl) (fun p e s m args below meth c hx hb hr hml hts hown hlk hin hK hsz A hA H locs hP hD hS ls hl Q hQ => ?_)
  have hl : lv_has ls 2 [(0, .ref h), (1, .int n1)] := hl
  refine lv_aload_n hx hb dX4_restart_0 rfl (lv_at hl 0 rfl) ?_
  refine va_get (D := D) (ci := 4) (v := .ref (ca 0)) (C := RX4) (T := TX4) (N := 12) hx hb hts inlX4 hown hK hP 0 rfl rfl 0 (by decide) (hts _ q119) (fun _ h => h) rfl dX4_restart_1 ?_
  refine vz_Vv2 (ws' := fun u : Unit => vz_w [rcW g h ca ci (vz_un cr 0 0) cf]) (As := []) (rest := []) hx hb hml hown hts hK hA hP hD hS (c_T_reset l D g (ca 0) (ca 1) H.size (nI 1) (nI 400) (nI (cr 0))) kv_X4_36 ⟨Nat.le_of_ble_eq_true rfl, Nat.le_of_ble_eq_true rfl⟩ (q0 := 1) (ci := 6) rfl rfl rfl [1] rfl (by decide) (fun _ => rfl) (fun _ => rfl) hl.1 (Nat.le_of_ble_eq_true rfl) dX4_restart_4 ⟨Nat.le_refl _, Nat.le_refl _⟩ rfl (fun _ H locs _ _ hP hD hS => ?_)
  obtain ⟨cr_1, hw_cr_1, hP, hD⟩ : ∃ cr_1 : Nat → Nat, (∀ k, cr_1 k ≤ rcW_lim k) ∧ va_P D vwCl (vz_w [rcW g h ca ci cr_1 cf]) H ∧ va_D A (vz_w [rcW g h ca ci cr_1 cf]) := ⟨(vz_un cr 0 0), (vz_wf hw_c (t := 0) (v := 0) (Nat.zero_le _)), hP, hD⟩
  refine lv_aload_n hx hb dX4_restart_7 rfl (lv_at hl 0 rfl) ?_
  refine va_get (D := D) (ci := 4) (v := .ref (ca 2)) (C := RX4) (T := TX4) (N := 12) hx hb hts inlX4 hown hK hP 0 rfl rfl 1 (by decide) (hts _ q120) (fun _ h => h) rfl dX4_restart_8 ?_
  refine vz_Vv2 (ws' := fun u : Unit => vz_w [rcW g h ca ci (vz_un cr_1 1 0) cf]) (As := []) (rest := []) hx hb hml hown hts hK hA hP hD hS (c_T_reset l D g (ca 2) (ca 3) H.size (nI 7) (nI 400) (nI (cr_1 1))) kv_X4_36 ⟨Nat.le_of_ble_eq_true rfl, Nat.le_of_ble_eq_true rfl⟩ (q0 := 3) (ci := 6) rfl rfl rfl [3] rfl (by decide) (fun _ => rfl) (fun _ => rfl) hl.1 (Nat.le_of_ble_eq_true rfl) dX4_restart_11 ⟨Nat.le_refl _, Nat.le_refl _⟩ rfl (fun _ H locs _ _ hP hD hS => ?_)
  obtain ⟨cr_2, hw_cr_2, hP, hD⟩ : ∃ cr_2 : Nat → Nat, (∀ k, cr_2 k ≤ rcW_lim k) ∧ va_P D vwCl (vz_w [rcW g h ca ci cr_2 cf]) H ∧ va_D A (vz_w [rcW g h ca ci cr_2 cf]) := ⟨(vz_un cr_1 1 0), (vz_wf hw_cr_1 (t := 1) (v := 0) (Nat.zero_le _)), hP, hD⟩
  refine lv_aload_n hx hb dX4_restart_14 rfl (lv_at hl 0 rfl) ?_
  refine va_get (D := D) (ci := 4) (v := .ref (ca 4)) (C := RX4) (T := TX4) (N := 12) hx hb hts inlX4 hown hK hP 0 rfl rfl 2 (by decide) (hts _ q121) (fun _ h => h) rfl dX4_restart_15 ?_
  refine vz_Vv2 (ws' := fun u : Unit => vz_w [rcW g h ca ci (vz_un cr_2 2 0) cf]) (As := []) (rest := []) hx hb hml hown hts hK hA hP hD hS (c_T_reset l D g (ca 4) (ca 5) H.size (nI 3) (nI 401) (nI (cr_2 2))) kv_X4_36 ⟨Nat.le_of_ble_eq_true rfl, Nat.le_of_ble_eq_true rfl⟩ (q0 := 5) (ci := 6) rfl rfl rfl [5] rfl (by decide) (fun _ => rfl) (fun _ => rfl) hl.1 (Nat.le_of_ble_eq_true rfl) dX4_restart_18 ⟨Nat.le_refl _, Nat.le_refl _⟩ rfl (fun _ H locs _ _ hP hD hS => ?_)
  obtain ⟨cr_3, hw_cr_3, hP, hD⟩ : ∃ cr_3 : Nat → Nat, (∀ k, cr_3 k ≤ rcW_lim k) ∧ va_P D vwCl (vz_w [rcW g h ca ci cr_3 cf]) H ∧ va_D A (vz_w [rcW g h ca ci cr_3 cf]) := ⟨(vz_un cr_2 2 0), (vz_wf hw_cr_2 (t := 2) (v := 0) (Nat.zero_le _)), hP, hD⟩
  refine lv_aload_n hx hb dX4_restart_21 rfl (lv_at hl 0 rfl) ?_
  refine va_get (D := D) (ci := 4) (v := .ref (ca 6)) (C := RX4) (T := TX4) (N := 12) hx hb hts inlX4 hown hK hP 0 rfl rfl 3 (by decide) (hts _ q122) (fun _ h => h) rfl dX4_restart_22 ?_
  refine vz_Vv2 (ws' := fun u : Unit => vz_w [rcW g h ca ci (vz_un cr_3 3 0) cf]) (As := []) (rest := []) hx hb hml hown hts hK hA hP hD hS (c_T_reset l D g (ca 6) (ca 7) H.size (nI 1) (nI 400) (nI (cr_3 3))) kv_X4_36 ⟨Nat.le_of_ble_eq_true rfl, Nat.le_of_ble_eq_true rfl⟩ (q0 := 7) (ci := 6) rfl rfl rfl [7] rfl (by decide) (fun _ => rfl) (fun _ => rfl) hl.1 (Nat.le_of_ble_eq_true rfl) dX4_restart_25 ⟨Nat.le_refl _, Nat.le_refl _⟩ rfl (fun _ H locs _ _ hP hD hS => ?_)
  obtain ⟨cr_4, hw_cr_4, hP, hD⟩ : ∃ cr_4 : Nat → Nat, (∀ k, cr_4 k ≤ rcW_lim k) ∧ va_P D vwCl (vz_w [rcW g h ca ci cr_4 cf]) H ∧ va_D A (vz_w [rcW g h ca ci cr_4 cf]) := ⟨(vz_un cr_3 3 0), (vz_wf hw_cr_3 (t := 3) (v := 0) (Nat.zero_le _)), hP, hD⟩
  refine lv_aload_n hx hb dX4_restart_28 rfl (lv_at hl 0 rfl) ?_
  refine va_get (D := D) (ci := 4) (v := .ref (ca 8)) (C := RX4) (T := TX4) (N := 12) hx hb hts inlX4 hown hK hP 0 rfl rfl 4 (by decide) (hts _ q123) (fun _ h => h) rfl dX4_restart_29 ?_
  refine lv_iload_n hx hb dX4_restart_32 rfl (lv_at hl 1 rfl) ?_
  refine lv_iconst (v := 0) hx hb dX4_restart_33 (by decide) ?_
  refine vz_Vv2 (ws' := fun u : (Nat × (Nat → Int32)) => vz_w [rcW g h ca ci (vz_un cr_4 4 u.1) (vz_uf cf 4 u.2)]) (As := [.int n1, .int 0]) (rest := []) hx hb hml hown hts hK hA hP hD hS (c_T_fillw l D g (ca 8) (ca 9) H.size 1 80 (cr_4 4) 80 (cf 4) n1 0 ⟨rfl, by decide, by decide, by decide, by decide, hw_cr_4 4⟩) kv_X4_39 ⟨Nat.le_of_ble_eq_true rfl, Nat.le_of_ble_eq_true rfl⟩ (q0 := 9) (ci := 6) rfl rfl rfl [9, 10] rfl (by decide) (fun _ => rfl) (fun _ => rfl) hl.1 (Nat.le_of_ble_eq_true rfl) dX4_restart_34 ⟨Nat.le_refl _, Nat.le_refl _⟩ rfl (fun ⟨u5R, u5f⟩ H locs ha6 _ hP hD hS => ?_)
  obtain ⟨cr_7, hw_cr_7, cf_8, hP, hD⟩ : ∃ cr_7 : Nat → Nat, (∀ k, cr_7 k ≤ rcW_lim k) ∧ ∃ cf_8 : Nat → Nat → Int32, va_P D vwCl (vz_w [rcW g h ca ci cr_7 cf_8]) H ∧ va_D A (vz_w [rcW g h ca ci cr_7 cf_8]) := ⟨(vz_un cr_4 4 u5R), (vz_wf hw_cr_4 (t := 4) (v := u5R) (ha6)), (vz_uf cf 4 u5f), hP, hD⟩
  refine lv_aload_n hx hb dX4_restart_37 rfl (lv_at hl 0 rfl) ?_
  refine lv_bipush (v := (-9)) hx hb dX4_restart_38 (by decide) ?_
  refine va_put (D := D) (ci := 4) (v := .int (-9)) (ty := .int) (C := RX4) (T := TX4) (N := 12) hx hb hts inlX4 tyX4 tyX4_ok nmX4 hown hK hP hD hS 0 rfl rfl 5 (by decide) (hts _ q124) (fun _ h => h) rfl (by decide +kernel) rfl rfl (Nat.le_of_ble_eq_true rfl) dX4_restart_40 (fun H locs hP hD hS => ?_)
  obtain ⟨ci_9, hci_9, hP, hD⟩ : ∃ ci_9 : Nat → Int32, (ci_9 = (upd ci 0 (-9))) ∧ va_P D vwCl (vz_w [rcW g h ca ci_9 cr_7 cf_8]) H ∧ va_D A (vz_w [rcW g h ca ci_9 cr_7 cf_8]) := ⟨(upd ci 0 (-9)), rfl, hP, hD⟩
  refine lv_aload_n hx hb dX4_restart_43 rfl (lv_at hl 0 rfl) ?_
  refine lv_iconst (v := 0) hx hb dX4_restart_44 (by decide) ?_
  refine va_put (D := D) (ci := 4) (v := .int 0) (ty := .int) (C := RX4) (T := TX4) (N := 12) hx hb hts inlX4 tyX4 tyX4_ok nmX4 hown hK hP hD hS 0 rfl rfl 6 (by decide) (hts _ q1026) (fun _ h => h) rfl (by decide +kernel) rfl rfl (Nat.le_of_ble_eq_true rfl) dX4_restart_45 (fun H locs hP hD hS => ?_)
  obtain ⟨ci_10, hci_10, hP, hD⟩ : ∃ ci_10 : Nat → Int32, (ci_10 = (upd ci_9 1 0)) ∧ va_P D vwCl (vz_w [rcW g h ca ci_10 cr_7 cf_8]) H ∧ va_D A (vz_w [rcW g h ca ci_10 cr_7 cf_8]) := ⟨(upd ci_9 1 0), rfl, hP, hD⟩
  refine lv_aload_n hx hb dX4_restart_48 rfl (lv_at hl 0 rfl) ?_
  refine lv_bipush (v := (-9)) hx hb dX4_restart_49 (by decide) ?_
  refine va_put (D := D) (ci := 4) (v := .int (-9)) (ty := .int) (C := RX4) (T := TX4) (N := 12) hx hb hts inlX4 tyX4 tyX4_ok nmX4 hown hK hP hD hS 0 rfl rfl 7 (by decide) (hts _ q1027) (fun _ h => h) rfl (by decide +kernel) rfl rfl (Nat.le_of_ble_eq_true rfl) dX4_restart_51 (fun H locs hP hD hS => ?_)
  obtain ⟨ci_11, hci_11, hP, hD⟩ : ∃ ci_11 : Nat → Int32, (ci_11 = (upd ci_10 2 (-9))) ∧ va_P D vwCl (vz_w [rcW g h ca ci_11 cr_7 cf_8]) H ∧ va_D A (vz_w [rcW g h ca ci_11 cr_7 cf_8]) := ⟨(upd ci_10 2 (-9)), rfl, hP, hD⟩
  refine lv_aload_n hx hb dX4_restart_54 rfl (lv_at hl 0 rfl) ?_
  refine lv_iconst (v := 0) hx hb dX4_restart_55 (by decide) ?_
  refine va_put (D := D) (ci := 4) (v := .int 0) (ty := .int) (C := RX4) (T := TX4) (N := 12) hx hb hts inlX4 tyX4 tyX4_ok nmX4 hown hK hP hD hS 0 rfl rfl 8 (by decide) (hts _ q1028) (fun _ h => h) rfl (by decide +kernel) rfl rfl (Nat.le_of_ble_eq_true rfl) dX4_restart_56 (fun H locs hP hD hS => ?_)
  obtain ⟨ci_12, hci_12, hP, hD⟩ : ∃ ci_12 : Nat → Int32, (ci_12 = (upd ci_11 3 0)) ∧ va_P D vwCl (vz_w [rcW g h ca ci_12 cr_7 cf_8]) H ∧ va_D A (vz_w [rcW g h ca ci_12 cr_7 cf_8]) := ⟨(upd ci_11 3 0), rfl, hP, hD⟩
  refine lv_aload_n hx hb dX4_restart_59 rfl (lv_at hl 0 rfl) ?_
  refine lv_iconst (v := 0) hx hb dX4_restart_60 (by decide) ?_
  refine va_put (D := D) (ci := 4) (v := .int 0) (ty := .int) (C := RX4) (T := TX4) (N := 12) hx hb hts inlX4 tyX4 tyX4_ok nmX4 hown hK hP hD hS 0 rfl rfl 9 (by decide) (hts _ q1029) (fun _ h => h) rfl (by decide +kernel) rfl rfl (Nat.le_of_ble_eq_true rfl) dX4_restart_61 (fun H locs hP hD hS => ?_)
  obtain ⟨ci_13, hci_13, hP, hD⟩ : ∃ ci_13 : Nat → Int32, (ci_13 = (upd ci_12 4 0)) ∧ va_P D vwCl (vz_w [rcW g h ca ci_13 cr_7 cf_8]) H ∧ va_D A (vz_w [rcW g h ca ci_13 cr_7 cf_8]) := ⟨(upd ci_12 4 0), rfl, hP, hD⟩
  refine lv_aload_n hx hb dX4_restart_64 rfl (lv_at hl 0 rfl) ?_
  refine lv_iconst (v := 0) hx hb dX4_restart_65 (by decide) ?_
  refine va_put (D := D) (ci := 4) (v := .int 0) (ty := .int) (C := RX4) (T := TX4) (N := 12) hx hb hts inlX4 tyX4 tyX4_ok nmX4 hown hK hP hD hS 0 rfl rfl 10 (by decide) (hts _ q1030) (fun _ h => h) rfl (by decide +kernel) rfl rfl (Nat.le_of_ble_eq_true rfl) dX4_restart_66 (fun H locs hP hD hS => ?_)
  obtain ⟨ci_14, hci_14, hP, hD⟩ : ∃ ci_14 : Nat → Int32, (ci_14 = (upd ci_13 5 0)) ∧ va_P D vwCl (vz_w [rcW g h ca ci_14 cr_7 cf_8]) H ∧ va_D A (vz_w [rcW g h ca ci_14 cr_7 cf_8]) := ⟨(upd ci_13 5 0), rfl, hP, hD⟩
  refine lv_aload_n hx hb dX4_restart_69 rfl (lv_at hl 0 rfl) ?_
  refine lv_iconst (v := 0) hx hb dX4_restart_70 (by decide) ?_
  refine va_put (D := D) (ci := 4) (v := .int 0) (ty := .int) (C := RX4) (T := TX4) (N := 12) hx hb hts inlX4 tyX4 tyX4_ok nmX4 hown hK hP hD hS 0 rfl rfl 11 (by decide) (hts _ q1031) (fun _ h => h) rfl (by decide +kernel) rfl rfl (Nat.le_of_ble_eq_true rfl) dX4_restart_71 (fun H locs hP hD hS => ?_)
  obtain ⟨ci_15, hci_15, hP, hD⟩ : ∃ ci_15 : Nat → Int32, (ci_15 = (upd ci_14 6 0)) ∧ va_P D vwCl (vz_w [rcW g h ca ci_15 cr_7 cf_8]) H ∧ va_D A (vz_w [rcW g h ca ci_15 cr_7 cf_8]) := ⟨(upd ci_14 6 0), rfl, hP, hD⟩
  rw [hQ]
  exact vz_vret3 hx hb hr hlk hK hP hD hS (ci_15, cr_7, cf_8) hw_cr_7 rfl (Nat.le_refl 0) (Nat.le_refl 0) dX4_restart_74
theorem q1526 : Cond.fieldLink RX4 60 "WaysAtlas$Table" "rows" "I" ∈ wsL_law := mT_1 (List.mem_of_getElem? (i := 43) rfl) rfl
theorem dX4_property_0 : decode cX4_property 0 = .ok (.iload_n 1, 1) := by decide +kernel
theorem dX4_property_1 : decode cX4_property 1 = .ok (.tableswitch 105 0 8 #[51, 56, 61, 66, 74, 82, 87, 95, 100], 51) := by decide +kernel
theorem dX4_property_52 : decode cX4_property 52 = .ok (.aload_n 0, 1) := by decide +kernel
theorem dX4_property_53 : decode cX4_property 53 = .ok (.getfield 32, 3) := by decide +kernel
theorem dX4_property_56 : decode cX4_property 56 = .ok (.ireturn, 1) := by decide +kernel
theorem dX4_property_57 : decode cX4_property 57 = .ok (.aload_n 0, 1) := by decide +kernel
theorem dX4_property_58 : decode cX4_property 58 = .ok (.getfield 42, 3) := by decide +kernel
theorem dX4_property_61 : decode cX4_property 61 = .ok (.ireturn, 1) := by decide +kernel
theorem dX4_property_62 : decode cX4_property 62 = .ok (.aload_n 0, 1) := by decide +kernel
theorem dX4_property_63 : decode cX4_property 63 = .ok (.getfield 45, 3) := by decide +kernel
theorem dX4_property_66 : decode cX4_property 66 = .ok (.ireturn, 1) := by decide +kernel
theorem dX4_property_67 : decode cX4_property 67 = .ok (.aload_n 0, 1) := by decide +kernel
theorem dX4_property_68 : decode cX4_property 68 = .ok (.getfield 14, 3) := by decide +kernel
theorem dX4_property_71 : decode cX4_property 71 = .ok (.getfield 60, 3) := by decide +kernel
theorem dX4_property_74 : decode cX4_property 74 = .ok (.ireturn, 1) := by decide +kernel
theorem dX4_property_75 : decode cX4_property 75 = .ok (.aload_n 0, 1) := by decide +kernel
theorem dX4_property_76 : decode cX4_property 76 = .ok (.getfield 20, 3) := by decide +kernel
theorem dX4_property_79 : decode cX4_property 79 = .ok (.getfield 60, 3) := by decide +kernel
theorem dX4_property_82 : decode cX4_property 82 = .ok (.ireturn, 1) := by decide +kernel
theorem dX4_property_83 : decode cX4_property 83 = .ok (.aload_n 0, 1) := by decide +kernel
theorem dX4_property_84 : decode cX4_property 84 = .ok (.getfield 48, 3) := by decide +kernel
theorem dX4_property_87 : decode cX4_property 87 = .ok (.ireturn, 1) := by decide +kernel
theorem dX4_property_88 : decode cX4_property 88 = .ok (.aload_n 0, 1) := by decide +kernel
theorem dX4_property_89 : decode cX4_property 89 = .ok (.getfield 26, 3) := by decide +kernel
theorem dX4_property_92 : decode cX4_property 92 = .ok (.getfield 60, 3) := by decide +kernel
theorem dX4_property_95 : decode cX4_property 95 = .ok (.ireturn, 1) := by decide +kernel
theorem dX4_property_96 : decode cX4_property 96 = .ok (.aload_n 0, 1) := by decide +kernel
theorem dX4_property_97 : decode cX4_property 97 = .ok (.getfield 51, 3) := by decide +kernel
theorem dX4_property_100 : decode cX4_property 100 = .ok (.ireturn, 1) := by decide +kernel
theorem dX4_property_101 : decode cX4_property 101 = .ok (.aload_n 0, 1) := by decide +kernel
theorem dX4_property_102 : decode cX4_property 102 = .ok (.getfield 54, 3) := by decide +kernel
theorem dX4_property_105 : decode cX4_property 105 = .ok (.ireturn, 1) := by decide +kernel
theorem dX4_property_106 : decode cX4_property 106 = .ok (.aload_n 0, 1) := by decide +kernel
theorem dX4_property_107 : decode cX4_property 107 = .ok (.getfield 57, 3) := by decide +kernel
theorem dX4_property_110 : decode cX4_property 110 = .ok (.ireturn, 1) := by decide +kernel
set_option maxHeartbeats 8000000 in
set_option maxRecDepth 100000 in
theorem a_R_property (l : Launch) (D : va_G) (g : Nat → ClassId)   (sz : Nat) (h : Nat) (ca : Nat → Nat) (ci : Nat → Int32) (cr : Nat → Nat) (cf : Nat → Nat → Int32) (n1 : Int32) (hw_c : ∀ k, cr k ≤ rcW_lim k) : vz_Mi l D (tyG g) yX4_property cX4_property 2 0 0 0 0 .int [.ref h, .int n1] sz (vz_w [rcW g h ca ci cr cf]) (fun r (u : Unit) => True) (fun u => vz_w [rcW g h ca ci cr cf]) := by
  refine vz_siQ (by decide) (Nat.le_of_ble_eq_true rfl) (fun p e s m args below meth c hx hb hr hml hts hown hlk hin hK hsz A hA H locs hP hD hS ls hl Q hQ => ?_)
  have hl : lv_has ls 2 [(0, .ref h), (1, .int n1)] := hl
  refine lv_iload_n hx hb dX4_property_0 rfl (lv_at hl 1 rfl) ?_
  have S1_52 : W p l e { frames := 0, cells := 0, slots := 0, locals := 0 } s m args below meth c H locs 0 0 Q (F0 m 52 ls []) := by
    refine lv_aload_n hx hb dX4_property_52 rfl (lv_at hl 0 rfl) ?_
    refine va_get (D := D) (ci := 4) (v := .int (ci 0)) (C := RX4) (T := TX4) (N := 12) hx hb hts inlX4 hown hK hP 0 rfl rfl 5 (by decide) (hts _ q124) (fun _ h => h) rfl dX4_property_53 ?_
    rw [hQ]
    exact vz_iret3 hx hb hr hlk hK hP hD hS () trivial rfl (Nat.le_refl 0) (Nat.le_refl 0) dX4_property_56
  have S1_57 : W p l e { frames := 0, cells := 0, slots := 0, locals := 0 } s m args below meth c H locs 0 0 Q (F0 m 57 ls []) := by
    refine lv_aload_n hx hb dX4_property_57 rfl (lv_at hl 0 rfl) ?_
    refine va_get (D := D) (ci := 4) (v := .int (ci 1)) (C := RX4) (T := TX4) (N := 12) hx hb hts inlX4 hown hK hP 0 rfl rfl 6 (by decide) (hts _ q1026) (fun _ h => h) rfl dX4_property_58 ?_
    rw [hQ]
    exact vz_iret3 hx hb hr hlk hK hP hD hS () trivial rfl (Nat.le_refl 0) (Nat.le_refl 0) dX4_property_61
  have S1_62 : W p l e { frames := 0, cells := 0, slots := 0, locals := 0 } s m args below meth c H locs 0 0 Q (F0 m 62 ls []) := by
    refine lv_aload_n hx hb dX4_property_62 rfl (lv_at hl 0 rfl) ?_
    refine va_get (D := D) (ci := 4) (v := .int (ci 2)) (C := RX4) (T := TX4) (N := 12) hx hb hts inlX4 hown hK hP 0 rfl rfl 7 (by decide) (hts _ q1027) (fun _ h => h) rfl dX4_property_63 ?_
    rw [hQ]
    exact vz_iret3 hx hb hr hlk hK hP hD hS () trivial rfl (Nat.le_refl 0) (Nat.le_refl 0) dX4_property_66
  have S1_67 : W p l e { frames := 0, cells := 0, slots := 0, locals := 0 } s m args below meth c H locs 0 0 Q (F0 m 67 ls []) := by
    refine lv_aload_n hx hb dX4_property_67 rfl (lv_at hl 0 rfl) ?_
    refine va_get (D := D) (ci := 4) (v := .ref (ca 0)) (C := RX4) (T := TX4) (N := 12) hx hb hts inlX4 hown hK hP 0 rfl rfl 0 (by decide) (hts _ q119) (fun _ h => h) rfl dX4_property_68 ?_
    refine va_get (D := D) (ci := 6) (v := .int (nI (cr 0))) (C := RX6) (T := TX6) (N := 4) hx hb hts inlX6 hown hK hP 1 rfl rfl 3 (by decide) (hts _ q1526) (fun _ h => h) rfl dX4_property_71 ?_
    rw [hQ]
    exact vz_iret3 hx hb hr hlk hK hP hD hS () trivial rfl (Nat.le_refl 0) (Nat.le_refl 0) dX4_property_74
  have S1_75 : W p l e { frames := 0, cells := 0, slots := 0, locals := 0 } s m args below meth c H locs 0 0 Q (F0 m 75 ls []) := by
    refine lv_aload_n hx hb dX4_property_75 rfl (lv_at hl 0 rfl) ?_
    refine va_get (D := D) (ci := 4) (v := .ref (ca 2)) (C := RX4) (T := TX4) (N := 12) hx hb hts inlX4 hown hK hP 0 rfl rfl 1 (by decide) (hts _ q120) (fun _ h => h) rfl dX4_property_76 ?_
    refine va_get (D := D) (ci := 6) (v := .int (nI (cr 1))) (C := RX6) (T := TX6) (N := 4) hx hb hts inlX6 hown hK hP 3 rfl rfl 3 (by decide) (hts _ q1526) (fun _ h => h) rfl dX4_property_79 ?_
    rw [hQ]
    exact vz_iret3 hx hb hr hlk hK hP hD hS () trivial rfl (Nat.le_refl 0) (Nat.le_refl 0) dX4_property_82
  have S1_83 : W p l e { frames := 0, cells := 0, slots := 0, locals := 0 } s m args below meth c H locs 0 0 Q (F0 m 83 ls []) := by
    refine lv_aload_n hx hb dX4_property_83 rfl (lv_at hl 0 rfl) ?_
    refine va_get (D := D) (ci := 4) (v := .int (ci 3)) (C := RX4) (T := TX4) (N := 12) hx hb hts inlX4 hown hK hP 0 rfl rfl 8 (by decide) (hts _ q1028) (fun _ h => h) rfl dX4_property_84 ?_
    rw [hQ]
    exact vz_iret3 hx hb hr hlk hK hP hD hS () trivial rfl (Nat.le_refl 0) (Nat.le_refl 0) dX4_property_87
  have S1_88 : W p l e { frames := 0, cells := 0, slots := 0, locals := 0 } s m args below meth c H locs 0 0 Q (F0 m 88 ls []) := by
    refine lv_aload_n hx hb dX4_property_88 rfl (lv_at hl 0 rfl) ?_
    refine va_get (D := D) (ci := 4) (v := .ref (ca 6)) (C := RX4) (T := TX4) (N := 12) hx hb hts inlX4 hown hK hP 0 rfl rfl 3 (by decide) (hts _ q122) (fun _ h => h) rfl dX4_property_89 ?_
    refine va_get (D := D) (ci := 6) (v := .int (nI (cr 3))) (C := RX6) (T := TX6) (N := 4) hx hb hts inlX6 hown hK hP 7 rfl rfl 3 (by decide) (hts _ q1526) (fun _ h => h) rfl dX4_property_92 ?_
    rw [hQ]
    exact vz_iret3 hx hb hr hlk hK hP hD hS () trivial rfl (Nat.le_refl 0) (Nat.le_refl 0) dX4_property_95
  have S1_96 : W p l e { frames := 0, cells := 0, slots := 0, locals := 0 } s m args below meth c H locs 0 0 Q (F0 m 96 ls []) := by
    refine lv_aload_n hx hb dX4_property_96 rfl (lv_at hl 0 rfl) ?_
    refine va_get (D := D) (ci := 4) (v := .int (ci 4)) (C := RX4) (T := TX4) (N := 12) hx hb hts inlX4 hown hK hP 0 rfl rfl 9 (by decide) (hts _ q1029) (fun _ h => h) rfl dX4_property_97 ?_
    rw [hQ]
    exact vz_iret3 hx hb hr hlk hK hP hD hS () trivial rfl (Nat.le_refl 0) (Nat.le_refl 0) dX4_property_100
  have S1_101 : W p l e { frames := 0, cells := 0, slots := 0, locals := 0 } s m args below meth c H locs 0 0 Q (F0 m 101 ls []) := by
    refine lv_aload_n hx hb dX4_property_101 rfl (lv_at hl 0 rfl) ?_
    refine va_get (D := D) (ci := 4) (v := .int (ci 5)) (C := RX4) (T := TX4) (N := 12) hx hb hts inlX4 hown hK hP 0 rfl rfl 10 (by decide) (hts _ q1030) (fun _ h => h) rfl dX4_property_102 ?_
    rw [hQ]
    exact vz_iret3 hx hb hr hlk hK hP hD hS () trivial rfl (Nat.le_refl 0) (Nat.le_refl 0) dX4_property_105
  have S1_106 : W p l e { frames := 0, cells := 0, slots := 0, locals := 0 } s m args below meth c H locs 0 0 Q (F0 m 106 ls []) := by
    refine lv_aload_n hx hb dX4_property_106 rfl (lv_at hl 0 rfl) ?_
    refine va_get (D := D) (ci := 4) (v := .int (ci 6)) (C := RX4) (T := TX4) (N := 12) hx hb hts inlX4 hown hK hP 0 rfl rfl 11 (by decide) (hts _ q1031) (fun _ h => h) rfl dX4_property_107 ?_
    rw [hQ]
    exact vz_iret3 hx hb hr hlk hK hP hD hS () trivial rfl (Nat.le_refl 0) (Nat.le_refl 0) dX4_property_110
  refine vz_tsw (td := 106) hx hb dX4_property_1 (by decide) [52, 57, 62, 67, 75, 83, 88, 96, 101] (by decide) (by decide) (fun hv => ?_) (fun k t hk hv => ?_)
  · exact S1_106
  · have hm := List.mem_of_getElem? hk
    simp only [List.mem_cons, List.not_mem_nil, or_false] at hm
    rcases hm with rfl | rfl | rfl | rfl | rfl | rfl | rfl | rfl | rfl
    · exact S1_52
    · exact S1_57
    · exact S1_62
    · exact S1_67
    · exact S1_75
    · exact S1_83
    · exact S1_88
    · exact S1_96
    · exact S1_101
theorem q1562 : Cond.methodLink RX4 63 yX6_get ∈ wsL_law := mT_6 (List.mem_of_getElem? (i := 45) rfl) rfl
theorem kv_X4_63 : vz_cv RX4 63 yX6_get cX6_get 4 (some .int) 2 := ⟨q1562, q294, q295, q15, q296, by decide +kernel⟩
theorem dX4_traced_0 : decode cX4_traced 0 = .ok (.iload_n 2, 1) := by decide +kernel
theorem dX4_traced_1 : decode cX4_traced 1 = .ok (.ifCond .ge 6, 3) := by decide +kernel
theorem dX4_traced_4 : decode cX4_traced 4 = .ok (.bipush (-9), 2) := by decide +kernel
theorem dX4_traced_6 : decode cX4_traced 6 = .ok (.ireturn, 1) := by decide +kernel
theorem dX4_traced_7 : decode cX4_traced 7 = .ok (.aload_n 0, 1) := by decide +kernel
theorem dX4_traced_8 : decode cX4_traced 8 = .ok (.getfield 20, 3) := by decide +kernel
theorem dX4_traced_11 : decode cX4_traced 11 = .ok (.iload_n 1, 1) := by decide +kernel
theorem dX4_traced_12 : decode cX4_traced 12 = .ok (.bipush 6, 2) := by decide +kernel
theorem dX4_traced_14 : decode cX4_traced 14 = .ok (.invokevirtual 63, 3) := by decide +kernel
theorem dX4_traced_17 : decode cX4_traced 17 = .ok (.istore_n 3, 1) := by decide +kernel
theorem dX4_traced_18 : decode cX4_traced 18 = .ok (.aload_n 0, 1) := by decide +kernel
theorem dX4_traced_19 : decode cX4_traced 19 = .ok (.getfield 20, 3) := by decide +kernel
theorem dX4_traced_22 : decode cX4_traced 22 = .ok (.iload_n 1, 1) := by decide +kernel
theorem dX4_traced_23 : decode cX4_traced 23 = .ok (.iconst 4, 1) := by decide +kernel
theorem dX4_traced_24 : decode cX4_traced 24 = .ok (.invokevirtual 63, 3) := by decide +kernel
theorem dX4_traced_27 : decode cX4_traced 27 = .ok (.istore 4, 2) := by decide +kernel
theorem dX4_traced_29 : decode cX4_traced 29 = .ok (.iconst 0, 1) := by decide +kernel
theorem dX4_traced_30 : decode cX4_traced 30 = .ok (.istore 5, 2) := by decide +kernel
theorem dX4_traced_32 : decode cX4_traced 32 = .ok (.iload 5, 2) := by decide +kernel
theorem dX4_traced_34 : decode cX4_traced 34 = .ok (.iload_n 2, 1) := by decide +kernel
theorem dX4_traced_35 : decode cX4_traced 35 = .ok (.if_icmp .ge 36, 3) := by decide +kernel
theorem dX4_traced_38 : decode cX4_traced 38 = .ok (.iload_n 3, 1) := by decide +kernel
theorem dX4_traced_39 : decode cX4_traced 39 = .ok (.bipush (-9), 2) := by decide +kernel
theorem dX4_traced_41 : decode cX4_traced 41 = .ok (.if_icmp .eq 30, 3) := by decide +kernel
theorem dX4_traced_44 : decode cX4_traced 44 = .ok (.aload_n 0, 1) := by decide +kernel
theorem dX4_traced_45 : decode cX4_traced 45 = .ok (.getfield 23, 3) := by decide +kernel
theorem dX4_traced_48 : decode cX4_traced 48 = .ok (.iload_n 3, 1) := by decide +kernel
theorem dX4_traced_49 : decode cX4_traced 49 = .ok (.iconst 2, 1) := by decide +kernel
theorem dX4_traced_50 : decode cX4_traced 50 = .ok (.invokevirtual 63, 3) := by decide +kernel
theorem dX4_traced_53 : decode cX4_traced 53 = .ok (.istore 4, 2) := by decide +kernel
theorem dX4_traced_55 : decode cX4_traced 55 = .ok (.aload_n 0, 1) := by decide +kernel
theorem dX4_traced_56 : decode cX4_traced 56 = .ok (.getfield 23, 3) := by decide +kernel
theorem dX4_traced_59 : decode cX4_traced 59 = .ok (.iload_n 3, 1) := by decide +kernel
theorem dX4_traced_60 : decode cX4_traced 60 = .ok (.iconst 0, 1) := by decide +kernel
theorem dX4_traced_61 : decode cX4_traced 61 = .ok (.invokevirtual 63, 3) := by decide +kernel
theorem dX4_traced_64 : decode cX4_traced 64 = .ok (.istore_n 3, 1) := by decide +kernel
theorem dX4_traced_65 : decode cX4_traced 65 = .ok (.iinc 5 1, 3) := by decide +kernel
theorem dX4_traced_68 : decode cX4_traced 68 = .ok (.goto (-36), 3) := by decide +kernel
theorem dX4_traced_71 : decode cX4_traced 71 = .ok (.iload_n 3, 1) := by decide +kernel
theorem dX4_traced_72 : decode cX4_traced 72 = .ok (.bipush (-9), 2) := by decide +kernel
theorem dX4_traced_74 : decode cX4_traced 74 = .ok (.if_icmp .ne 8, 3) := by decide +kernel
theorem dX4_traced_77 : decode cX4_traced 77 = .ok (.bipush (-9), 2) := by decide +kernel
theorem dX4_traced_79 : decode cX4_traced 79 = .ok (.goto 19, 3) := by decide +kernel
theorem dX4_traced_82 : decode cX4_traced 82 = .ok (.sipush 1000, 3) := by decide +kernel
theorem dX4_traced_85 : decode cX4_traced 85 = .ok (.aload_n 0, 1) := by decide +kernel
theorem dX4_traced_86 : decode cX4_traced 86 = .ok (.getfield 23, 3) := by decide +kernel
theorem dX4_traced_89 : decode cX4_traced 89 = .ok (.iload_n 3, 1) := by decide +kernel
theorem dX4_traced_90 : decode cX4_traced 90 = .ok (.iconst 1, 1) := by decide +kernel
theorem dX4_traced_91 : decode cX4_traced 91 = .ok (.invokevirtual 63, 3) := by decide +kernel
theorem dX4_traced_94 : decode cX4_traced 94 = .ok (.imul, 1) := by decide +kernel
theorem dX4_traced_95 : decode cX4_traced 95 = .ok (.iload 4, 2) := by decide +kernel
theorem dX4_traced_97 : decode cX4_traced 97 = .ok (.iadd, 1) := by decide +kernel
theorem dX4_traced_98 : decode cX4_traced 98 = .ok (.ireturn, 1) := by decide +kernel
set_option maxHeartbeats 8000000 in
set_option maxRecDepth 100000 in
theorem a_R_traced (l : Launch) (D : va_G) (g : Nat → ClassId)   (sz : Nat) (h : Nat) (ca : Nat → Nat) (ci : Nat → Int32) (cr : Nat → Nat) (cf : Nat → Nat → Int32) (n1 : Int32) (n2 : Int32) (hw_c : ∀ k, cr k ≤ rcW_lim k) : vz_Mi l D (tyG g) yX4_traced cX4_traced 6 1 23 0 0 .int [.ref h, .int n1, .int n2] sz (vz_w [rcW g h ca ci cr cf]) (fun r (u : Unit) => True) (fun u => vz_w [rcW g h ca ci cr cf]) := by
  refine vz_siQ (by decide) (Nat.le_of_ble_eq_true rfl) (fun p e s m args below meth c hx hb hr hml hts hown hlk hin hK hsz A hA H locs hP hD hS ls hl Q hQ => ?_)
  have hl : lv_has ls 6 [(0, .ref h), (1, .int n1), (2, .int n2)] := hl
  have J98 : ∀ (x3_98 : Int32), ∀ (x4_98 : Int32), ∀ (x5_98 : Int32), ∀ (y0_98 : Int32), ∀ (H : Heap) (locs : List Loc) (ls : Array Slot), va_P D vwCl (vz_w [rcW g h ca ci cr cf]) H → va_D A (vz_w [rcW g h ca ci cr cf]) → va_S A s.heap H locs → lv_has ls 6 [(0, .ref h), (1, .int n1), (2, .int n2), (3, .int x3_98), (4, .int x4_98), (5, .int x5_98)] → W p l e { frames := 1, cells := 0, slots := 0, locals := 23 } s m args below meth c H locs 0 0 Q (F0 m 98 ls [.int y0_98]) := by
    intro x3_98 x4_98 x5_98 y0_98 H locs ls hP hD hS hl
    rw [hQ]
    exact vz_iret3 hx hb hr hlk hK hP hD hS () trivial rfl (Nat.le_refl 0) (Nat.le_refl 0) dX4_traced_98
  have J71 : ∀ (x3_71 : Int32), ∀ (x4_71 : Int32), ∀ (x5_71 : Int32), ∀ (H : Heap) (locs : List Loc) (ls : Array Slot), va_P D vwCl (vz_w [rcW g h ca ci cr cf]) H → va_D A (vz_w [rcW g h ca ci cr cf]) → va_S A s.heap H locs → lv_has ls 6 [(0, .ref h), (1, .int n1), (2, .int n2), (3, .int x3_71), (4, .int x4_71), (5, .int x5_71)] → W p l e { frames := 1, cells := 0, slots := 0, locals := 23 } s m args below meth c H locs 0 0 Q (F0 m 71 ls []) := by
    intro x3_71 x4_71 x5_71 H locs ls hP hD hS hl
    refine lv_iload_n hx hb dX4_traced_71 rfl (lv_at hl 3 rfl) ?_
    refine lv_bipush (v := (-9)) hx hb dX4_traced_72 (by decide) ?_
    refine lv_icmp_ne (tgt := 82) hx hb dX4_traced_74 (by decide) (fun kc1 => ?_) (fun kc1 => ?_)
    · refine lv_sipush (v := 1000) hx hb dX4_traced_82 (by decide) ?_
      refine lv_aload_n hx hb dX4_traced_85 rfl (lv_at hl 0 rfl) ?_
      refine va_get (D := D) (ci := 4) (v := .ref (ca 4)) (C := RX4) (T := TX4) (N := 12) hx hb hts inlX4 hown hK hP 0 rfl rfl 2 (by decide) (hts _ q121) (fun _ h => h) rfl dX4_traced_86 ?_
      refine lv_iload_n hx hb dX4_traced_89 rfl (lv_at hl 3 rfl) ?_
      refine lv_iconst (v := 1) hx hb dX4_traced_90 (by decide) ?_
      refine vz_Vi2 (ws' := fun u : Unit => vz_w [rcW g h ca ci cr cf]) (As := [.int x3_71, .int 1]) (rest := [.int 1000]) hx hb hml hown hts hK hA hP hD hS (c_T_get l D g (ca 4) (ca 5) H.size 3 401 (cr 2) 1203 (cf 2) x3_71 1 ⟨rfl, by decide, by decide, by decide, by decide, hw_c 2⟩) kv_X4_63 ⟨Nat.le_of_ble_eq_true rfl, Nat.le_of_ble_eq_true rfl⟩ (q0 := 5) (ci := 6) rfl rfl rfl [5, 6] rfl (by decide) (fun _ => rfl) (fun _ => rfl) hl.1 (Nat.le_of_ble_eq_true rfl) dX4_traced_91 ⟨Nat.le_refl _, Nat.le_refl _⟩ rfl (fun v2 _ H locs he3 _ hP hD hS => ?_)
      refine lv_imul hx hb dX4_traced_94 ?_
      refine lv_iload hx hb dX4_traced_95 (lv_at hl 4 rfl) ?_
      refine lv_iadd hx hb dX4_traced_97 ?_
      exact J98 x3_71 x4_71 x5_71 ((1000 * v2) + x4_71) H locs ls hP hD hS (lv_sub hl [0, 1, 2, 3, 4, 5] rfl)
    · refine lv_bipush (v := (-9)) hx hb dX4_traced_77 (by decide) ?_
      refine lv_goto (tgt := 98) hx hb dX4_traced_79 (by decide) ?_
      exact J98 x3_71 x4_71 x5_71 (-9) H locs ls hP hD hS (lv_sub hl [0, 1, 2, 3, 4, 5] rfl)
  have J32 : ∀ fu32 : Nat, ∀ (x3_32 : Int32), ∀ (x4_32 : Int32), ∀ (x5_32 : Int32), (n2.toInt - x5_32.toInt).toNat < fu32 → ∀ (H : Heap) (locs : List Loc) (ls : Array Slot), va_P D vwCl (vz_w [rcW g h ca ci cr cf]) H → va_D A (vz_w [rcW g h ca ci cr cf]) → va_S A s.heap H locs → lv_has ls 6 [(0, .ref h), (1, .int n1), (2, .int n2), (3, .int x3_32), (4, .int x4_32), (5, .int x5_32)] → W p l e { frames := 1, cells := 0, slots := 0, locals := 23 } s m args below meth c H locs 0 0 Q (F0 m 32 ls []) := by
    intro fu32
    induction fu32 with
    | zero => intro x3_32 x4_32 x5_32 hf32 H locs ls hP hD hS hl; exact absurd hf32 (Nat.not_lt_zero _)
    | succ fu32 ih32 =>
      intro x3_32 x4_32 x5_32 hf32 H locs ls hP hD hS hl
      refine lv_iload hx hb dX4_traced_32 (lv_at hl 5 rfl) ?_
      refine lv_iload_n hx hb dX4_traced_34 rfl (lv_at hl 2 rfl) ?_
      refine lv_icmp_ge (tgt := 71) hx hb dX4_traced_35 (by decide) (fun kc1 => ?_) (fun kc1 => ?_)
      · exact J71 x3_32 x4_32 x5_32 H locs ls hP hD hS (lv_sub hl [0, 1, 2, 3, 4, 5] rfl)
      · have hn32 : (n2.toInt - (x5_32 + 1).toInt).toNat < fu32 := by have hq := vz_up kc1; omega
        refine lv_iload_n hx hb dX4_traced_38 rfl (lv_at hl 3 rfl) ?_
        refine lv_bipush (v := (-9)) hx hb dX4_traced_39 (by decide) ?_
        refine lv_icmp_eq (tgt := 71) hx hb dX4_traced_41 (by decide) (fun kc2 => ?_) (fun kc2 => ?_)
        · exact J71 x3_32 x4_32 x5_32 H locs ls hP hD hS (lv_sub hl [0, 1, 2, 3, 4, 5] rfl)
        · refine lv_aload_n hx hb dX4_traced_44 rfl (lv_at hl 0 rfl) ?_
          refine va_get (D := D) (ci := 4) (v := .ref (ca 4)) (C := RX4) (T := TX4) (N := 12) hx hb hts inlX4 hown hK hP 0 rfl rfl 2 (by decide) (hts _ q121) (fun _ h => h) rfl dX4_traced_45 ?_
          refine lv_iload_n hx hb dX4_traced_48 rfl (lv_at hl 3 rfl) ?_
          refine lv_iconst (v := 2) hx hb dX4_traced_49 (by decide) ?_
          refine vz_Vi2 (ws' := fun u : Unit => vz_w [rcW g h ca ci cr cf]) (As := [.int x3_32, .int 2]) (rest := []) hx hb hml hown hts hK hA hP hD hS (c_T_get l D g (ca 4) (ca 5) H.size 3 401 (cr 2) 1203 (cf 2) x3_32 2 ⟨rfl, by decide, by decide, by decide, by decide, hw_c 2⟩) kv_X4_63 ⟨Nat.le_of_ble_eq_true rfl, Nat.le_of_ble_eq_true rfl⟩ (q0 := 5) (ci := 6) rfl rfl rfl [5, 6] rfl (by decide) (fun _ => rfl) (fun _ => rfl) hl.1 (Nat.le_of_ble_eq_true rfl) dX4_traced_50 ⟨Nat.le_refl _, Nat.le_refl _⟩ rfl (fun v3 _ H locs he4 _ hP hD hS => ?_)
          refine lv_istore (lv' := [(4, .int v3), (0, .ref h), (1, .int n1), (2, .int n2), (3, .int x3_32), (5, .int x5_32)]) hx hb dX4_traced_53 hl (by decide) rfl (fun ls hl => ?_)
          refine lv_aload_n hx hb dX4_traced_55 rfl (lv_at hl 1 rfl) ?_
          refine va_get (D := D) (ci := 4) (v := .ref (ca 4)) (C := RX4) (T := TX4) (N := 12) hx hb hts inlX4 hown hK hP 0 rfl rfl 2 (by decide) (hts _ q121) (fun _ h => h) rfl dX4_traced_56 ?_
          refine lv_iload_n hx hb dX4_traced_59 rfl (lv_at hl 4 rfl) ?_
          refine lv_iconst (v := 0) hx hb dX4_traced_60 (by decide) ?_
          refine vz_Vi2 (ws' := fun u : Unit => vz_w [rcW g h ca ci cr cf]) (As := [.int x3_32, .int 0]) (rest := []) hx hb hml hown hts hK hA hP hD hS (c_T_get l D g (ca 4) (ca 5) H.size 3 401 (cr 2) 1203 (cf 2) x3_32 0 ⟨rfl, by decide, by decide, by decide, by decide, hw_c 2⟩) kv_X4_63 ⟨Nat.le_of_ble_eq_true rfl, Nat.le_of_ble_eq_true rfl⟩ (q0 := 5) (ci := 6) rfl rfl rfl [5, 6] rfl (by decide) (fun _ => rfl) (fun _ => rfl) hl.1 (Nat.le_of_ble_eq_true rfl) dX4_traced_61 ⟨Nat.le_refl _, Nat.le_refl _⟩ rfl (fun v5 _ H locs he6 _ hP hD hS => ?_)
          refine lv_istore_n (lv' := [(3, .int v5), (4, .int v3), (0, .ref h), (1, .int n1), (2, .int n2), (5, .int x5_32)]) hx hb dX4_traced_64 rfl hl (by decide) rfl (fun ls hl => ?_)
          refine lv_iinc (v := (x5_32 + 1)) (lv' := [(5, .int (x5_32 + 1)), (3, .int v5), (4, .int v3), (0, .ref h), (1, .int n1), (2, .int n2)]) hx hb dX4_traced_65 hl (k := 5) rfl (rfl) (by decide) rfl (fun ls hl => ?_)
          refine lv_goto (tgt := 32) hx hb dX4_traced_68 (by decide) ?_
          exact ih32 v5 v3 (x5_32 + 1) hn32 H locs ls hP hD hS (lv_sub hl [3, 4, 5, 1, 2, 0] rfl)
  refine lv_iload_n hx hb dX4_traced_0 rfl (lv_at hl 2 rfl) ?_
  refine lv_if_ge (tgt := 7) hx hb dX4_traced_1 (by decide) (fun kc1 => ?_) (fun kc1 => ?_)
  · refine lv_aload_n hx hb dX4_traced_7 rfl (lv_at hl 0 rfl) ?_
    refine va_get (D := D) (ci := 4) (v := .ref (ca 2)) (C := RX4) (T := TX4) (N := 12) hx hb hts inlX4 hown hK hP 0 rfl rfl 1 (by decide) (hts _ q120) (fun _ h => h) rfl dX4_traced_8 ?_
    refine lv_iload_n hx hb dX4_traced_11 rfl (lv_at hl 1 rfl) ?_
    refine lv_bipush (v := 6) hx hb dX4_traced_12 (by decide) ?_
    refine vz_Vi2 (ws' := fun u : Unit => vz_w [rcW g h ca ci cr cf]) (As := [.int n1, .int 6]) (rest := []) hx hb hml hown hts hK hA hP hD hS (c_T_get l D g (ca 2) (ca 3) H.size 7 400 (cr 1) 2800 (cf 1) n1 6 ⟨rfl, by decide, by decide, by decide, by decide, hw_c 1⟩) kv_X4_63 ⟨Nat.le_of_ble_eq_true rfl, Nat.le_of_ble_eq_true rfl⟩ (q0 := 3) (ci := 6) rfl rfl rfl [3, 4] rfl (by decide) (fun _ => rfl) (fun _ => rfl) hl.1 (Nat.le_of_ble_eq_true rfl) dX4_traced_14 ⟨Nat.le_refl _, Nat.le_refl _⟩ rfl (fun v2 _ H locs he3 _ hP hD hS => ?_)
    refine lv_istore_n (lv' := [(3, .int v2), (0, .ref h), (1, .int n1), (2, .int n2)]) hx hb dX4_traced_17 rfl hl (by decide) rfl (fun ls hl => ?_)
    refine lv_aload_n hx hb dX4_traced_18 rfl (lv_at hl 1 rfl) ?_
    refine va_get (D := D) (ci := 4) (v := .ref (ca 2)) (C := RX4) (T := TX4) (N := 12) hx hb hts inlX4 hown hK hP 0 rfl rfl 1 (by decide) (hts _ q120) (fun _ h => h) rfl dX4_traced_19 ?_
    refine lv_iload_n hx hb dX4_traced_22 rfl (lv_at hl 2 rfl) ?_
    refine lv_iconst (v := 4) hx hb dX4_traced_23 (by decide) ?_
    refine vz_Vi2 (ws' := fun u : Unit => vz_w [rcW g h ca ci cr cf]) (As := [.int n1, .int 4]) (rest := []) hx hb hml hown hts hK hA hP hD hS (c_T_get l D g (ca 2) (ca 3) H.size 7 400 (cr 1) 2800 (cf 1) n1 4 ⟨rfl, by decide, by decide, by decide, by decide, hw_c 1⟩) kv_X4_63 ⟨Nat.le_of_ble_eq_true rfl, Nat.le_of_ble_eq_true rfl⟩ (q0 := 3) (ci := 6) rfl rfl rfl [3, 4] rfl (by decide) (fun _ => rfl) (fun _ => rfl) hl.1 (Nat.le_of_ble_eq_true rfl) dX4_traced_24 ⟨Nat.le_refl _, Nat.le_refl _⟩ rfl (fun v4 _ H locs he5 _ hP hD hS => ?_)
    refine lv_istore (lv' := [(4, .int v4), (3, .int v2), (0, .ref h), (1, .int n1), (2, .int n2)]) hx hb dX4_traced_27 hl (by decide) rfl (fun ls hl => ?_)
    refine lv_iconst (v := 0) hx hb dX4_traced_29 (by decide) ?_
    refine lv_istore (lv' := [(5, .int 0), (4, .int v4), (3, .int v2), (0, .ref h), (1, .int n1), (2, .int n2)]) hx hb dX4_traced_30 hl (by decide) rfl (fun ls hl => ?_)
    exact J32 (2 ^ 34) v2 v4 0 (vz_mb _ _) H locs ls hP hD hS (lv_sub hl [3, 4, 5, 2, 1, 0] rfl)
  · refine lv_bipush (v := (-9)) hx hb dX4_traced_4 (by decide) ?_
    rw [hQ]
    exact vz_iret3 hx hb hr hlk hK hP hD hS () trivial rfl (Nat.le_refl 0) (Nat.le_refl 0) dX4_traced_6
