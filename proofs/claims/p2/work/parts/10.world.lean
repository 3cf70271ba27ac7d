theorem q132 : Cond.fieldLink RX8 19 "WaysAtlas$World" "record" "LWaysAtlas$RunRecord;" ∈ wsL_law := mT_2 (List.mem_of_getElem? (i := 47) rfl) rfl
theorem q1071 : Cond.fieldLink RX8 70 "WaysAtlas$RunRecord" "ended" "I" ∈ wsL_law := mT_1 (List.mem_of_getElem? (i := 221) rfl) rfl
theorem dX8_isRunning_0 : decode cX8_isRunning 0 = .ok (.aload_n 0, 1) := by decide +kernel
theorem dX8_isRunning_1 : decode cX8_isRunning 1 = .ok (.getfield 19, 3) := by decide +kernel
theorem dX8_isRunning_4 : decode cX8_isRunning 4 = .ok (.getfield 70, 3) := by decide +kernel
theorem dX8_isRunning_7 : decode cX8_isRunning 7 = .ok (.bipush (-9), 2) := by decide +kernel
theorem dX8_isRunning_9 : decode cX8_isRunning 9 = .ok (.if_icmp .ne 7, 3) := by decide +kernel
theorem dX8_isRunning_12 : decode cX8_isRunning 12 = .ok (.iconst 1, 1) := by decide +kernel
theorem dX8_isRunning_13 : decode cX8_isRunning 13 = .ok (.goto 4, 3) := by decide +kernel
theorem dX8_isRunning_16 : decode cX8_isRunning 16 = .ok (.iconst 0, 1) := by decide +kernel
theorem dX8_isRunning_17 : decode cX8_isRunning 17 = .ok (.ireturn, 1) := by decide +kernel
set_option maxHeartbeats 8000000 in
set_option maxRecDepth 100000 in
theorem a_W_isRunning (l : Launch) (D : va_G) (g : Nat → ClassId)   (sz : Nat) (h : Nat) (wa : Nat → Nat) (wi : Nat → Int32) (wr : Nat → Nat) (wf : Nat → Nat → Int32) (ph : Nat) (rh : Nat) (la : Nat → Nat) (pa : Nat → Nat) (pr : Nat → Nat) (pf : Nat → Nat → Int32) (ca : Nat → Nat) (ci : Nat → Int32) (cr : Nat → Nat) (cf : Nat → Nat → Int32) (lr : Nat → Nat) (lf : Nat → Nat → Int32) (lmx : Nat) (hw_w : ∀ k, wr k ≤ woW_lim k) (hw_p : ∀ k, pr k ≤ pgW_lim k) (hw_c : ∀ k, cr k ≤ rcW_lim k) (hw_l : ∀ k, lr k ≤ (plW_lim lmx) k) (hmx_l : lmx ≤ 30) : vz_Mi l D (tyG g) yX8_isRunning cX8_isRunning 1 0 0 0 0 .boolean [.ref h] sz (vz_w [woW g h wa wi wr wf ph rh (la 0), pgW g ph pa pr pf, rcW g rh ca ci cr cf, plW g la lr lf lmx]) (fun r (u : Unit) => (r = 0 ∨ r = 1)) (fun u => vz_w [woW g h wa wi wr wf ph rh (la 0), pgW g ph pa pr pf, rcW g rh ca ci cr cf, plW g la lr lf lmx]) := by
  refine vz_siQ (by decide) (Nat.le_of_ble_eq_true rfl) (fun p e s m args below meth c hx hb hr hml hts hown hlk hin hK hsz A hA H locs hP hD hS ls hl Q hQ => ?_)
  have hl : lv_has ls 1 [(0, .ref h)] := hl
  have J17 : ∀ (y0_17 : Int32), (y0_17 = 0 ∨ y0_17 = 1) → ∀ (H : Heap) (locs : List Loc) (ls : Array Slot), va_P D vwCl (vz_w [woW g h wa wi wr wf ph rh (la 0), pgW g ph pa pr pf, rcW g rh ca ci cr cf, plW g la lr lf lmx]) H → va_D A (vz_w [woW g h wa wi wr wf ph rh (la 0), pgW g ph pa pr pf, rcW g rh ca ci cr cf, plW g la lr lf lmx]) → va_S A s.heap H locs → lv_has ls 1 [(0, .ref h)] → W p l e { frames := 0, cells := 0, slots := 0, locals := 0 } s m args below meth c H locs 0 0 Q (F0 m 17 ls [.int y0_17]) := by
    intro y0_17 hz_y0_17 H locs ls hP hD hS hl
    rw [hQ]
    exact vz_zret3 hx hb hr hlk hK hP hD hS () hz_y0_17 rfl (Nat.le_refl 0) (Nat.le_refl 0) (vz_nb hz_y0_17) dX8_isRunning_17
  refine lv_aload_n hx hb dX8_isRunning_0 rfl (lv_at hl 0 rfl) ?_
  refine va_get (D := D) (ci := 8) (v := .ref rh) (C := RX8) (T := TX8) (N := 11) hx hb hts inlX8 hown hK hP 0 rfl rfl 6 (by decide) (hts _ q132) (fun _ h => h) rfl dX8_isRunning_1 ?_
  refine va_get (D := D) (ci := 4) (v := .int (ci 0)) (C := RX4) (T := TX4) (N := 12) hx hb hts inlX4 hown hK hP 22 rfl rfl 5 (by decide) (hts _ q1071) (fun _ h => h) rfl dX8_isRunning_4 ?_
  refine lv_bipush (v := (-9)) hx hb dX8_isRunning_7 (by decide) ?_
  refine lv_icmp_ne (tgt := 16) hx hb dX8_isRunning_9 (by decide) (fun kc1 => ?_) (fun kc1 => ?_)
  · refine lv_iconst (v := 0) hx hb dX8_isRunning_16 (by decide) ?_
    exact J17 0 (Or.inl rfl) H locs ls hP hD hS (lv_sub hl [0] rfl)
  · refine lv_iconst (v := 1) hx hb dX8_isRunning_12 (by decide) ?_
    refine lv_goto (tgt := 17) hx hb dX8_isRunning_13 (by decide) ?_
    exact J17 1 (Or.inr rfl) H locs ls hP hD hS (lv_sub hl [0] rfl)
theorem q1082 : Cond.fieldLink RX8 73 "WaysAtlas$RunRecord" "steps" "I" ∈ wsL_law := mT_1 (List.mem_of_getElem? (i := 237) rfl) rfl
theorem q1019 : Cond.fieldLink RX8 50 "WaysAtlas$World" "limit" "I" ∈ wsL_law := mT_2 (List.mem_of_getElem? (i := 51) rfl) rfl
theorem dX8_takeStep_0 : decode cX8_takeStep 0 = .ok (.aload_n 0, 1) := by decide +kernel
theorem dX8_takeStep_1 : decode cX8_takeStep 1 = .ok (.getfield 19, 3) := by decide +kernel
theorem dX8_takeStep_4 : decode cX8_takeStep 4 = .ok (.getfield 73, 3) := by decide +kernel
theorem dX8_takeStep_7 : decode cX8_takeStep 7 = .ok (.aload_n 0, 1) := by decide +kernel
theorem dX8_takeStep_8 : decode cX8_takeStep 8 = .ok (.getfield 50, 3) := by decide +kernel
theorem dX8_takeStep_11 : decode cX8_takeStep 11 = .ok (.if_icmp .lt 13, 3) := by decide +kernel
theorem dX8_takeStep_14 : decode cX8_takeStep 14 = .ok (.aload_n 0, 1) := by decide +kernel
theorem dX8_takeStep_15 : decode cX8_takeStep 15 = .ok (.getfield 19, 3) := by decide +kernel
theorem dX8_takeStep_18 : decode cX8_takeStep 18 = .ok (.iconst 2, 1) := by decide +kernel
theorem dX8_takeStep_19 : decode cX8_takeStep 19 = .ok (.putfield 70, 3) := by decide +kernel
theorem dX8_takeStep_22 : decode cX8_takeStep 22 = .ok (.iconst 0, 1) := by decide +kernel
theorem dX8_takeStep_23 : decode cX8_takeStep 23 = .ok (.ireturn, 1) := by decide +kernel
theorem dX8_takeStep_24 : decode cX8_takeStep 24 = .ok (.aload_n 0, 1) := by decide +kernel
theorem dX8_takeStep_25 : decode cX8_takeStep 25 = .ok (.getfield 19, 3) := by decide +kernel
theorem dX8_takeStep_28 : decode cX8_takeStep 28 = .ok (.dup, 1) := by decide +kernel
theorem dX8_takeStep_29 : decode cX8_takeStep 29 = .ok (.getfield 73, 3) := by decide +kernel
theorem dX8_takeStep_32 : decode cX8_takeStep 32 = .ok (.iconst 1, 1) := by decide +kernel
theorem dX8_takeStep_33 : decode cX8_takeStep 33 = .ok (.iadd, 1) := by decide +kernel
theorem dX8_takeStep_34 : decode cX8_takeStep 34 = .ok (.putfield 73, 3) := by decide +kernel
theorem dX8_takeStep_37 : decode cX8_takeStep 37 = .ok (.iconst 1, 1) := by decide +kernel
theorem dX8_takeStep_38 : decode cX8_takeStep 38 = .ok (.ireturn, 1) := by decide +kernel
set_option maxHeartbeats 8000000 in
set_option maxRecDepth 100000 in
theorem a_W_takeStep (l : Launch) (D : va_G) (g : Nat → ClassId)   (sz : Nat) (h : Nat) (wa : Nat → Nat) (wi : Nat → Int32) (wr : Nat → Nat) (wf : Nat → Nat → Int32) (ph : Nat) (rh : Nat) (la : Nat → Nat) (pa : Nat → Nat) (pr : Nat → Nat) (pf : Nat → Nat → Int32) (ca : Nat → Nat) (ci : Nat → Int32) (cr : Nat → Nat) (cf : Nat → Nat → Int32) (lr : Nat → Nat) (lf : Nat → Nat → Int32) (lmx : Nat) (hw_w : ∀ k, wr k ≤ woW_lim k) (hw_p : ∀ k, pr k ≤ pgW_lim k) (hw_c : ∀ k, cr k ≤ rcW_lim k) (hw_l : ∀ k, lr k ≤ (plW_lim lmx) k) (hmx_l : lmx ≤ 30) : vz_Mi l D (tyG g) yX8_takeStep cX8_takeStep 1 0 0 0 0 .boolean [.ref h] sz (vz_w [woW g h wa wi wr wf ph rh (la 0), pgW g ph pa pr pf, rcW g rh ca ci cr cf, plW g la lr lf lmx]) (fun r (u : (Nat → Int32)) => (r = 0 ∨ r = 1)) (fun u => vz_w [woW g h wa wi wr wf ph rh (la 0), pgW g ph pa pr pf, rcW g rh ca u cr cf, plW g la lr lf lmx]) := by
  refine vz_siQ (by decide) (Nat.le_of_ble_eq_true rfl) (fun p e s m args below meth c hx hb hr hml hts hown hlk hin hK hsz A hA H locs hP hD hS ls hl Q hQ => ?_)
  have hl : lv_has ls 1 [(0, .ref h)] := hl
  refine lv_aload_n hx hb dX8_takeStep_0 rfl (lv_at hl 0 rfl) ?_
  refine va_get (D := D) (ci := 8) (v := .ref rh) (C := RX8) (T := TX8) (N := 11) hx hb hts inlX8 hown hK hP 0 rfl rfl 6 (by decide) (hts _ q132) (fun _ h => h) rfl dX8_takeStep_1 ?_
  refine va_get (D := D) (ci := 4) (v := .int (ci 6)) (C := RX4) (T := TX4) (N := 12) hx hb hts inlX4 hown hK hP 22 rfl rfl 11 (by decide) (hts _ q1082) (fun _ h => h) rfl dX8_takeStep_4 ?_
  refine lv_aload_n hx hb dX8_takeStep_7 rfl (lv_at hl 0 rfl) ?_
  refine va_get (D := D) (ci := 8) (v := .int (wi 0)) (C := RX8) (T := TX8) (N := 11) hx hb hts inlX8 hown hK hP 0 rfl rfl 8 (by decide) (hts _ q1019) (fun _ h => h) rfl dX8_takeStep_8 ?_
  refine lv_icmp_lt (tgt := 24) hx hb dX8_takeStep_11 (by decide) (fun kc1 => ?_) (fun kc1 => ?_)
  · refine lv_aload_n hx hb dX8_takeStep_24 rfl (lv_at hl 0 rfl) ?_
    refine va_get (D := D) (ci := 8) (v := .ref rh) (C := RX8) (T := TX8) (N := 11) hx hb hts inlX8 hown hK hP 0 rfl rfl 6 (by decide) (hts _ q132) (fun _ h => h) rfl dX8_takeStep_25 ?_
    refine lv_dup hx hb dX8_takeStep_28 rfl ?_
    refine va_get (D := D) (ci := 4) (v := .int (ci 6)) (C := RX4) (T := TX4) (N := 12) hx hb hts inlX4 hown hK hP 22 rfl rfl 11 (by decide) (hts _ q1082) (fun _ h => h) rfl dX8_takeStep_29 ?_
    refine lv_iconst (v := 1) hx hb dX8_takeStep_32 (by decide) ?_
    refine lv_iadd hx hb dX8_takeStep_33 ?_
    refine va_put (D := D) (ci := 4) (v := .int ((ci 6) + 1)) (ty := .int) (C := RX4) (T := TX4) (N := 12) hx hb hts inlX4 tyX4 tyX4_ok nmX4 hown hK hP hD hS 22 rfl rfl 11 (by decide) (hts _ q1082) (fun _ h => h) rfl (by decide +kernel) rfl rfl (Nat.le_of_ble_eq_true rfl) dX8_takeStep_34 (fun H locs hP hD hS => ?_)
    obtain ⟨ci_2, hci_2, hP, hD⟩ : ∃ ci_2 : Nat → Int32, (ci_2 = (upd ci 6 ((ci 6) + 1))) ∧ va_P D vwCl (vz_w [woW g h wa wi wr wf ph rh (la 0), pgW g ph pa pr pf, rcW g rh ca ci_2 cr cf, plW g la lr lf lmx]) H ∧ va_D A (vz_w [woW g h wa wi wr wf ph rh (la 0), pgW g ph pa pr pf, rcW g rh ca ci_2 cr cf, plW g la lr lf lmx]) := ⟨(upd ci 6 ((ci 6) + 1)), rfl, hP, hD⟩
    refine lv_iconst (v := 1) hx hb dX8_takeStep_37 (by decide) ?_
    rw [hQ]
    exact vz_zret3 hx hb hr hlk hK hP hD hS ci_2 (Or.inr rfl) rfl (Nat.le_refl 0) (Nat.le_refl 0) (by decide) dX8_takeStep_38
  · refine lv_aload_n hx hb dX8_takeStep_14 rfl (lv_at hl 0 rfl) ?_
    refine va_get (D := D) (ci := 8) (v := .ref rh) (C := RX8) (T := TX8) (N := 11) hx hb hts inlX8 hown hK hP 0 rfl rfl 6 (by decide) (hts _ q132) (fun _ h => h) rfl dX8_takeStep_15 ?_
    refine lv_iconst (v := 2) hx hb dX8_takeStep_18 (by decide) ?_
    refine va_put (D := D) (ci := 4) (v := .int 2) (ty := .int) (C := RX4) (T := TX4) (N := 12) hx hb hts inlX4 tyX4 tyX4_ok nmX4 hown hK hP hD hS 22 rfl rfl 5 (by decide) (hts _ q1071) (fun _ h => h) rfl (by decide +kernel) rfl rfl (Nat.le_of_ble_eq_true rfl) dX8_takeStep_19 (fun H locs hP hD hS => ?_)
    obtain ⟨ci_3, hci_3, hP, hD⟩ : ∃ ci_3 : Nat → Int32, (ci_3 = (upd ci 0 2)) ∧ va_P D vwCl (vz_w [woW g h wa wi wr wf ph rh (la 0), pgW g ph pa pr pf, rcW g rh ca ci_3 cr cf, plW g la lr lf lmx]) H ∧ va_D A (vz_w [woW g h wa wi wr wf ph rh (la 0), pgW g ph pa pr pf, rcW g rh ca ci_3 cr cf, plW g la lr lf lmx]) := ⟨(upd ci 0 2), rfl, hP, hD⟩
    refine lv_iconst (v := 0) hx hb dX8_takeStep_22 (by decide) ?_
    rw [hQ]
    exact vz_zret3 hx hb hr hlk hK hP hD hS ci_3 (Or.inl rfl) rfl (Nat.le_refl 0) (Nat.le_refl 0) (by decide) dX8_takeStep_23
theorem q1201 : Cond.fieldLink RX8 76 "WaysAtlas$RunRecord" "returned" "I" ∈ wsL_law := mT_1 (List.mem_of_getElem? (i := 224) rfl) rfl
theorem q1202 : Cond.fieldLink RX8 79 "WaysAtlas$RunRecord" "ender" "I" ∈ wsL_law := mT_1 (List.mem_of_getElem? (i := 227) rfl) rfl
theorem dX8_end_0 : decode cX8_end 0 = .ok (.aload_n 0, 1) := by decide +kernel
theorem dX8_end_1 : decode cX8_end 1 = .ok (.getfield 19, 3) := by decide +kernel
theorem dX8_end_4 : decode cX8_end 4 = .ok (.iload_n 1, 1) := by decide +kernel
theorem dX8_end_5 : decode cX8_end 5 = .ok (.putfield 70, 3) := by decide +kernel
theorem dX8_end_8 : decode cX8_end 8 = .ok (.iload_n 1, 1) := by decide +kernel
theorem dX8_end_9 : decode cX8_end 9 = .ok (.ifCond .ne 14, 3) := by decide +kernel
theorem dX8_end_12 : decode cX8_end 12 = .ok (.aload_n 0, 1) := by decide +kernel
theorem dX8_end_13 : decode cX8_end 13 = .ok (.getfield 19, 3) := by decide +kernel
theorem dX8_end_16 : decode cX8_end 16 = .ok (.iload_n 2, 1) := by decide +kernel
theorem dX8_end_17 : decode cX8_end 17 = .ok (.putfield 76, 3) := by decide +kernel
theorem dX8_end_20 : decode cX8_end 20 = .ok (.goto 11, 3) := by decide +kernel
theorem dX8_end_23 : decode cX8_end 23 = .ok (.aload_n 0, 1) := by decide +kernel
theorem dX8_end_24 : decode cX8_end 24 = .ok (.getfield 19, 3) := by decide +kernel
theorem dX8_end_27 : decode cX8_end 27 = .ok (.iload_n 2, 1) := by decide +kernel
theorem dX8_end_28 : decode cX8_end 28 = .ok (.putfield 79, 3) := by decide +kernel
theorem dX8_end_31 : decode cX8_end 31 = .ok (.return_, 1) := by decide +kernel
set_option maxHeartbeats 8000000 in
set_option maxRecDepth 100000 in
theorem a_W_end (l : Launch) (D : va_G) (g : Nat → ClassId)   (sz : Nat) (h : Nat) (wa : Nat → Nat) (wi : Nat → Int32) (wr : Nat → Nat) (wf : Nat → Nat → Int32) (ph : Nat) (rh : Nat) (la : Nat → Nat) (pa : Nat → Nat) (pr : Nat → Nat) (pf : Nat → Nat → Int32) (ca : Nat → Nat) (ci : Nat → Int32) (cr : Nat → Nat) (cf : Nat → Nat → Int32) (lr : Nat → Nat) (lf : Nat → Nat → Int32) (lmx : Nat) (n1 : Int32) (n2 : Int32) (hw_w : ∀ k, wr k ≤ woW_lim k) (hw_p : ∀ k, pr k ≤ pgW_lim k) (hw_c : ∀ k, cr k ≤ rcW_lim k) (hw_l : ∀ k, lr k ≤ (plW_lim lmx) k) (hmx_l : lmx ≤ 30) : vz_Mv l D (tyG g) yX8_end cX8_end 3 0 0 0 0 [.ref h, .int n1, .int n2] sz (vz_w [woW g h wa wi wr wf ph rh (la 0), pgW g ph pa pr pf, rcW g rh ca ci cr cf, plW g la lr lf lmx]) (fun u : (Nat → Int32) => True) (fun u => vz_w [woW g h wa wi wr wf ph rh (la 0), pgW g ph pa pr pf, rcW g rh ca u cr cf, plW g la lr lf lmx]) := by
  refine vz_svQ (by decide) (Nat.le_of_ble_eq_true rfl) (fun p e s m args below meth c hx hb hr hml hts hown hlk hin hK hsz A hA H locs hP hD hS ls hl Q hQ => ?_)
  have hl : lv_has ls 3 [(0, .ref h), (1, .int n1), (2, .int n2)] := hl
  have J31 : ∀ (ci_31 : Nat → Int32), ∀ (H : Heap) (locs : List Loc) (ls : Array Slot), va_P D vwCl (vz_w [woW g h wa wi wr wf ph rh (la 0), pgW g ph pa pr pf, rcW g rh ca ci_31 cr cf, plW g la lr lf lmx]) H → va_D A (vz_w [woW g h wa wi wr wf ph rh (la 0), pgW g ph pa pr pf, rcW g rh ca ci_31 cr cf, plW g la lr lf lmx]) → va_S A s.heap H locs → lv_has ls 3 [(0, .ref h), (1, .int n1), (2, .int n2)] → W p l e { frames := 0, cells := 0, slots := 0, locals := 0 } s m args below meth c H locs 0 0 Q (F0 m 31 ls []) := by
    intro ci_31 H locs ls hP hD hS hl
    rw [hQ]
    exact vz_vret3 hx hb hr hlk hK hP hD hS ci_31 trivial rfl (Nat.le_refl 0) (Nat.le_refl 0) dX8_end_31
  refine lv_aload_n hx hb dX8_end_0 rfl (lv_at hl 0 rfl) ?_
  refine va_get (D := D) (ci := 8) (v := .ref rh) (C := RX8) (T := TX8) (N := 11) hx hb hts inlX8 hown hK hP 0 rfl rfl 6 (by decide) (hts _ q132) (fun _ h => h) rfl dX8_end_1 ?_
  refine lv_iload_n hx hb dX8_end_4 rfl (lv_at hl 1 rfl) ?_
  refine va_put (D := D) (ci := 4) (v := .int n1) (ty := .int) (C := RX4) (T := TX4) (N := 12) hx hb hts inlX4 tyX4 tyX4_ok nmX4 hown hK hP hD hS 22 rfl rfl 5 (by decide) (hts _ q1071) (fun _ h => h) rfl (by decide +kernel) rfl rfl (Nat.le_of_ble_eq_true rfl) dX8_end_5 (fun H locs hP hD hS => ?_)
  obtain ⟨ci_1, hci_1, hP, hD⟩ : ∃ ci_1 : Nat → Int32, (ci_1 = (upd ci 0 n1)) ∧ va_P D vwCl (vz_w [woW g h wa wi wr wf ph rh (la 0), pgW g ph pa pr pf, rcW g rh ca ci_1 cr cf, plW g la lr lf lmx]) H ∧ va_D A (vz_w [woW g h wa wi wr wf ph rh (la 0), pgW g ph pa pr pf, rcW g rh ca ci_1 cr cf, plW g la lr lf lmx]) := ⟨(upd ci 0 n1), rfl, hP, hD⟩
  refine lv_iload_n hx hb dX8_end_8 rfl (lv_at hl 1 rfl) ?_
  refine lv_if_ne (tgt := 23) hx hb dX8_end_9 (by decide) (fun kc2 => ?_) (fun kc2 => ?_)
  · refine lv_aload_n hx hb dX8_end_23 rfl (lv_at hl 0 rfl) ?_
    refine va_get (D := D) (ci := 8) (v := .ref rh) (C := RX8) (T := TX8) (N := 11) hx hb hts inlX8 hown hK hP 0 rfl rfl 6 (by decide) (hts _ q132) (fun _ h => h) rfl dX8_end_24 ?_
    refine lv_iload_n hx hb dX8_end_27 rfl (lv_at hl 2 rfl) ?_
    refine va_put (D := D) (ci := 4) (v := .int n2) (ty := .int) (C := RX4) (T := TX4) (N := 12) hx hb hts inlX4 tyX4 tyX4_ok nmX4 hown hK hP hD hS 22 rfl rfl 7 (by decide) (hts _ q1202) (fun _ h => h) rfl (by decide +kernel) rfl rfl (Nat.le_of_ble_eq_true rfl) dX8_end_28 (fun H locs hP hD hS => ?_)
    obtain ⟨ci_3, hci_3, hP, hD⟩ : ∃ ci_3 : Nat → Int32, (ci_3 = (upd ci_1 2 n2)) ∧ va_P D vwCl (vz_w [woW g h wa wi wr wf ph rh (la 0), pgW g ph pa pr pf, rcW g rh ca ci_3 cr cf, plW g la lr lf lmx]) H ∧ va_D A (vz_w [woW g h wa wi wr wf ph rh (la 0), pgW g ph pa pr pf, rcW g rh ca ci_3 cr cf, plW g la lr lf lmx]) := ⟨(upd ci_1 2 n2), rfl, hP, hD⟩
    exact J31 ci_3 H locs ls hP hD hS (lv_sub hl [0, 1, 2] rfl)
  · refine lv_aload_n hx hb dX8_end_12 rfl (lv_at hl 0 rfl) ?_
    refine va_get (D := D) (ci := 8) (v := .ref rh) (C := RX8) (T := TX8) (N := 11) hx hb hts inlX8 hown hK hP 0 rfl rfl 6 (by decide) (hts _ q132) (fun _ h => h) rfl dX8_end_13 ?_
    refine lv_iload_n hx hb dX8_end_16 rfl (lv_at hl 2 rfl) ?_
    refine va_put (D := D) (ci := 4) (v := .int n2) (ty := .int) (C := RX4) (T := TX4) (N := 12) hx hb hts inlX4 tyX4 tyX4_ok nmX4 hown hK hP hD hS 22 rfl rfl 6 (by decide) (hts _ q1201) (fun _ h => h) rfl (by decide +kernel) rfl rfl (Nat.le_of_ble_eq_true rfl) dX8_end_17 (fun H locs hP hD hS => ?_)
    obtain ⟨ci_4, hci_4, hP, hD⟩ : ∃ ci_4 : Nat → Int32, (ci_4 = (upd ci_1 1 n2)) ∧ va_P D vwCl (vz_w [woW g h wa wi wr wf ph rh (la 0), pgW g ph pa pr pf, rcW g rh ca ci_4 cr cf, plW g la lr lf lmx]) H ∧ va_D A (vz_w [woW g h wa wi wr wf ph rh (la 0), pgW g ph pa pr pf, rcW g rh ca ci_4 cr cf, plW g la lr lf lmx]) := ⟨(upd ci_1 1 n2), rfl, hP, hD⟩
    refine lv_goto (tgt := 31) hx hb dX8_end_20 (by decide) ?_
    exact J31 ci_4 H locs ls hP hD hS (lv_sub hl [0, 1, 2] rfl)
theorem q135 : Cond.fieldLink RX8 31 "WaysAtlas$World" "activations" "LWaysAtlas$Table;" ∈ wsL_law := mT_2 (List.mem_of_getElem? (i := 40) rfl) rfl
theorem q1021 : Cond.fieldLink RX8 58 "WaysAtlas$Table" "rows" "I" ∈ wsL_law := mT_1 (List.mem_of_getElem? (i := 41) rfl) rfl
theorem dX8_active_0 : decode cX8_active 0 = .ok (.aload_n 0, 1) := by decide +kernel
theorem dX8_active_1 : decode cX8_active 1 = .ok (.getfield 31, 3) := by decide +kernel
theorem dX8_active_4 : decode cX8_active 4 = .ok (.getfield 58, 3) := by decide +kernel
theorem dX8_active_7 : decode cX8_active 7 = .ok (.ireturn, 1) := by decide +kernel
set_option maxHeartbeats 8000000 in
set_option maxRecDepth 100000 in
theorem a_W_active (l : Launch) (D : va_G) (g : Nat → ClassId)   (sz : Nat) (h : Nat) (wa : Nat → Nat) (wi : Nat → Int32) (wr : Nat → Nat) (wf : Nat → Nat → Int32) (ph : Nat) (rh : Nat) (la : Nat → Nat) (pa : Nat → Nat) (pr : Nat → Nat) (pf : Nat → Nat → Int32) (ca : Nat → Nat) (ci : Nat → Int32) (cr : Nat → Nat) (cf : Nat → Nat → Int32) (lr : Nat → Nat) (lf : Nat → Nat → Int32) (lmx : Nat) (hw_w : ∀ k, wr k ≤ woW_lim k) (hw_p : ∀ k, pr k ≤ pgW_lim k) (hw_c : ∀ k, cr k ≤ rcW_lim k) (hw_l : ∀ k, lr k ≤ (plW_lim lmx) k) (hmx_l : lmx ≤ 30) : vz_Mi l D (tyG g) yX8_active cX8_active 1 0 0 0 0 .int [.ref h] sz (vz_w [woW g h wa wi wr wf ph rh (la 0), pgW g ph pa pr pf, rcW g rh ca ci cr cf, plW g la lr lf lmx]) (fun r (u : Unit) => True) (fun u => vz_w [woW g h wa wi wr wf ph rh (la 0), pgW g ph pa pr pf, rcW g rh ca ci cr cf, plW g la lr lf lmx]) := by
  refine vz_siQ (by decide) (Nat.le_of_ble_eq_true rfl) (fun p e s m args below meth c hx hb hr hml hts hown hlk hin hK hsz A hA H locs hP hD hS ls hl Q hQ => ?_)
  have hl : lv_has ls 1 [(0, .ref h)] := hl
  refine lv_aload_n hx hb dX8_active_0 rfl (lv_at hl 0 rfl) ?_
  refine va_get (D := D) (ci := 8) (v := .ref (wa 2)) (C := RX8) (T := TX8) (N := 11) hx hb hts inlX8 hown hK hP 0 rfl rfl 1 (by decide) (hts _ q135) (fun _ h => h) rfl dX8_active_1 ?_
  refine va_get (D := D) (ci := 6) (v := .int (nI (wr 1))) (C := RX6) (T := TX6) (N := 4) hx hb hts inlX6 hown hK hP 3 rfl rfl 3 (by decide) (hts _ q1021) (fun _ h => h) rfl dX8_active_4 ?_
  rw [hQ]
  exact vz_iret3 hx hb hr hlk hK hP hD hS () trivial rfl (Nat.le_refl 0) (Nat.le_refl 0) dX8_active_7
theorem q1060 : Cond.methodLink RX8 110 yX6_get ∈ wsL_law := mT_4 (List.mem_of_getElem? (i := 222) rfl) rfl
theorem kv_X8_110 : vz_cv RX8 110 yX6_get cX6_get 4 (some .int) 2 := ⟨q1060, q294, q295, q15, q296, by decide +kernel⟩
theorem dX8_now_0 : decode cX8_now 0 = .ok (.aload_n 0, 1) := by decide +kernel
theorem dX8_now_1 : decode cX8_now 1 = .ok (.getfield 31, 3) := by decide +kernel
theorem dX8_now_4 : decode cX8_now 4 = .ok (.aload_n 0, 1) := by decide +kernel
theorem dX8_now_5 : decode cX8_now 5 = .ok (.getfield 31, 3) := by decide +kernel
theorem dX8_now_8 : decode cX8_now 8 = .ok (.getfield 58, 3) := by decide +kernel
theorem dX8_now_11 : decode cX8_now 11 = .ok (.iconst 1, 1) := by decide +kernel
theorem dX8_now_12 : decode cX8_now 12 = .ok (.isub, 1) := by decide +kernel
theorem dX8_now_13 : decode cX8_now 13 = .ok (.iload_n 1, 1) := by decide +kernel
theorem dX8_now_14 : decode cX8_now 14 = .ok (.invokevirtual 110, 3) := by decide +kernel
theorem dX8_now_17 : decode cX8_now 17 = .ok (.ireturn, 1) := by decide +kernel
set_option maxHeartbeats 8000000 in
set_option maxRecDepth 100000 in
theorem a_W_now (l : Launch) (D : va_G) (g : Nat → ClassId)   (sz : Nat) (h : Nat) (wa : Nat → Nat) (wi : Nat → Int32) (wr : Nat → Nat) (wf : Nat → Nat → Int32) (ph : Nat) (rh : Nat) (la : Nat → Nat) (pa : Nat → Nat) (pr : Nat → Nat) (pf : Nat → Nat → Int32) (ca : Nat → Nat) (ci : Nat → Int32) (cr : Nat → Nat) (cf : Nat → Nat → Int32) (lr : Nat → Nat) (lf : Nat → Nat → Int32) (lmx : Nat) (n1 : Int32) (hw_w : ∀ k, wr k ≤ woW_lim k) (hw_p : ∀ k, pr k ≤ pgW_lim k) (hw_c : ∀ k, cr k ≤ rcW_lim k) (hw_l : ∀ k, lr k ≤ (plW_lim lmx) k) (hmx_l : lmx ≤ 30) : vz_Mi l D (tyG g) yX8_now cX8_now 2 1 23 0 0 .int [.ref h, .int n1] sz (vz_w [woW g h wa wi wr wf ph rh (la 0), pgW g ph pa pr pf, rcW g rh ca ci cr cf, plW g la lr lf lmx]) (fun r (u : Unit) => True) (fun u => vz_w [woW g h wa wi wr wf ph rh (la 0), pgW g ph pa pr pf, rcW g rh ca ci cr cf, plW g la lr lf lmx]) := by
  refine vz_siQ (by decide) (Nat.le_of_ble_eq_true rfl) (fun p e s m args below meth c hx hb hr hml hts hown hlk hin hK hsz A hA H locs hP hD hS ls hl Q hQ => ?_)
  have hl : lv_has ls 2 [(0, .ref h), (1, .int n1)] := hl
  refine lv_aload_n hx hb dX8_now_0 rfl (lv_at hl 0 rfl) ?_
  refine va_get (D := D) (ci := 8) (v := .ref (wa 2)) (C := RX8) (T := TX8) (N := 11) hx hb hts inlX8 hown hK hP 0 rfl rfl 1 (by decide) (hts _ q135) (fun _ h => h) rfl dX8_now_1 ?_
  refine lv_aload_n hx hb dX8_now_4 rfl (lv_at hl 0 rfl) ?_
  refine va_get (D := D) (ci := 8) (v := .ref (wa 2)) (C := RX8) (T := TX8) (N := 11) hx hb hts inlX8 hown hK hP 0 rfl rfl 1 (by decide) (hts _ q135) (fun _ h => h) rfl dX8_now_5 ?_
  refine va_get (D := D) (ci := 6) (v := .int (nI (wr 1))) (C := RX6) (T := TX6) (N := 4) hx hb hts inlX6 hown hK hP 3 rfl rfl 3 (by decide) (hts _ q1021) (fun _ h => h) rfl dX8_now_8 ?_
  refine lv_iconst (v := 1) hx hb dX8_now_11 (by decide) ?_
  refine lv_isub hx hb dX8_now_12 ?_
  refine lv_iload_n hx hb dX8_now_13 rfl (lv_at hl 1 rfl) ?_
  refine vz_Vi2 (ws' := fun u : Unit => vz_w [woW g h wa wi wr wf ph rh (la 0), pgW g ph pa pr pf, rcW g rh ca ci cr cf, plW g la lr lf lmx]) (As := [.int ((nI (wr 1)) - 1), .int n1]) (rest := []) hx hb hml hown hts hK hA hP hD hS (c_T_get l D g (wa 2) (wa 3) H.size 12 12 (wr 1) 144 (wf 1) ((nI (wr 1)) - 1) n1 ⟨rfl, by decide, by decide, by decide, by decide, hw_w 1⟩) kv_X8_110 ⟨Nat.le_of_ble_eq_true rfl, Nat.le_of_ble_eq_true rfl⟩ (q0 := 3) (ci := 6) rfl rfl rfl [3, 4] rfl (by decide) (fun _ => rfl) (fun _ => rfl) hl.1 (Nat.le_of_ble_eq_true rfl) dX8_now_14 ⟨Nat.le_refl _, Nat.le_refl _⟩ rfl (fun v1 _ H locs he2 _ hP hD hS => ?_)
  rw [hQ]
  exact vz_iret3 hx hb hr hlk hK hP hD hS () trivial rfl (Nat.le_refl 0) (Nat.le_refl 0) dX8_now_17
theorem q1061 : Cond.methodLink RX8 91 yX6_set ∈ wsL_law := mT_4 (List.mem_of_getElem? (i := 223) rfl) rfl
theorem kv_X8_91 : vz_cv RX8 91 yX6_set cX6_set 5 none 3 := ⟨q1061, q265, q266, q15, q267, by decide +kernel⟩
theorem dX8_setNow_0 : decode cX8_setNow 0 = .ok (.aload_n 0, 1) := by decide +kernel
theorem dX8_setNow_1 : decode cX8_setNow 1 = .ok (.getfield 31, 3) := by decide +kernel
theorem dX8_setNow_4 : decode cX8_setNow 4 = .ok (.aload_n 0, 1) := by decide +kernel
theorem dX8_setNow_5 : decode cX8_setNow 5 = .ok (.getfield 31, 3) := by decide +kernel
theorem dX8_setNow_8 : decode cX8_setNow 8 = .ok (.getfield 58, 3) := by decide +kernel
theorem dX8_setNow_11 : decode cX8_setNow 11 = .ok (.iconst 1, 1) := by decide +kernel
theorem dX8_setNow_12 : decode cX8_setNow 12 = .ok (.isub, 1) := by decide +kernel
theorem dX8_setNow_13 : decode cX8_setNow 13 = .ok (.iload_n 1, 1) := by decide +kernel
theorem dX8_setNow_14 : decode cX8_setNow 14 = .ok (.iload_n 2, 1) := by decide +kernel
theorem dX8_setNow_15 : decode cX8_setNow 15 = .ok (.invokevirtual 91, 3) := by decide +kernel
theorem dX8_setNow_18 : decode cX8_setNow 18 = .ok (.return_, 1) := by decide +kernel
set_option maxHeartbeats 8000000 in
set_option maxRecDepth 100000 in
theorem a_W_setNow (l : Launch) (D : va_G) (g : Nat → ClassId)   (sz : Nat) (h : Nat) (wa : Nat → Nat) (wi : Nat → Int32) (wr : Nat → Nat) (wf : Nat → Nat → Int32) (ph : Nat) (rh : Nat) (la : Nat → Nat) (pa : Nat → Nat) (pr : Nat → Nat) (pf : Nat → Nat → Int32) (ca : Nat → Nat) (ci : Nat → Int32) (cr : Nat → Nat) (cf : Nat → Nat → Int32) (lr : Nat → Nat) (lf : Nat → Nat → Int32) (lmx : Nat) (n1 : Int32) (n2 : Int32) (hw_w : ∀ k, wr k ≤ woW_lim k) (hw_p : ∀ k, pr k ≤ pgW_lim k) (hw_c : ∀ k, cr k ≤ rcW_lim k) (hw_l : ∀ k, lr k ≤ (plW_lim lmx) k) (hmx_l : lmx ≤ 30) : vz_Mv l D (tyG g) yX8_setNow cX8_setNow 3 1 24 0 0 [.ref h, .int n1, .int n2] sz (vz_w [woW g h wa wi wr wf ph rh (la 0), pgW g ph pa pr pf, rcW g rh ca ci cr cf, plW g la lr lf lmx]) (fun u : (Nat → Nat → Int32) => True) (fun u => vz_w [woW g h wa wi wr u ph rh (la 0), pgW g ph pa pr pf, rcW g rh ca ci cr cf, plW g la lr lf lmx]) := by
  refine vz_svQ (by decide) (Nat.le_of_ble_eq_true rfl) (fun p e s m args below meth c hx hb hr hml hts hown hlk hin hK hsz A hA H locs hP hD hS ls hl Q hQ => ?_)
  have hl : lv_has ls 3 [(0, .ref h), (1, .int n1), (2, .int n2)] := hl
  refine lv_aload_n hx hb dX8_setNow_0 rfl (lv_at hl 0 rfl) ?_
  refine va_get (D := D) (ci := 8) (v := .ref (wa 2)) (C := RX8) (T := TX8) (N := 11) hx hb hts inlX8 hown hK hP 0 rfl rfl 1 (by decide) (hts _ q135) (fun _ h => h) rfl dX8_setNow_1 ?_
  refine lv_aload_n hx hb dX8_setNow_4 rfl (lv_at hl 0 rfl) ?_
  refine va_get (D := D) (ci := 8) (v := .ref (wa 2)) (C := RX8) (T := TX8) (N := 11) hx hb hts inlX8 hown hK hP 0 rfl rfl 1 (by decide) (hts _ q135) (fun _ h => h) rfl dX8_setNow_5 ?_
  refine va_get (D := D) (ci := 6) (v := .int (nI (wr 1))) (C := RX6) (T := TX6) (N := 4) hx hb hts inlX6 hown hK hP 3 rfl rfl 3 (by decide) (hts _ q1021) (fun _ h => h) rfl dX8_setNow_8 ?_
  refine lv_iconst (v := 1) hx hb dX8_setNow_11 (by decide) ?_
  refine lv_isub hx hb dX8_setNow_12 ?_
  refine lv_iload_n hx hb dX8_setNow_13 rfl (lv_at hl 1 rfl) ?_
  refine lv_iload_n hx hb dX8_setNow_14 rfl (lv_at hl 2 rfl) ?_
  refine vz_Vv2 (ws' := fun u : (Nat → Int32) => vz_w [woW g h wa wi wr (vz_uf wf 1 u) ph rh (la 0), pgW g ph pa pr pf, rcW g rh ca ci cr cf, plW g la lr lf lmx]) (As := [.int ((nI (wr 1)) - 1), .int n1, .int n2]) (rest := []) hx hb hml hown hts hK hA hP hD hS (c_T_set l D g (wa 2) (wa 3) H.size 12 12 (wr 1) 144 (wf 1) ((nI (wr 1)) - 1) n1 n2 ⟨rfl, by decide, by decide, by decide, by decide, hw_w 1⟩) kv_X8_91 ⟨Nat.le_of_ble_eq_true rfl, Nat.le_of_ble_eq_true rfl⟩ (q0 := 3) (ci := 6) rfl rfl rfl [3, 4] rfl (by decide) (fun _ => rfl) (fun _ => rfl) hl.1 (Nat.le_of_ble_eq_true rfl) dX8_setNow_15 ⟨Nat.le_refl _, Nat.le_refl _⟩ rfl (fun nf1 H locs _ _ hP hD hS => ?_)
  obtain ⟨wf_2, hP, hD⟩ : ∃ wf_2 : Nat → Nat → Int32, va_P D vwCl (vz_w [woW g h wa wi wr wf_2 ph rh (la 0), pgW g ph pa pr pf, rcW g rh ca ci cr cf, plW g la lr lf lmx]) H ∧ va_D A (vz_w [woW g h wa wi wr wf_2 ph rh (la 0), pgW g ph pa pr pf, rcW g rh ca ci cr cf, plW g la lr lf lmx]) := ⟨(vz_uf wf 1 nf1), hP, hD⟩
  rw [hQ]
  exact vz_vret3 hx hb hr hlk hK hP hD hS wf_2 trivial rfl (Nat.le_refl 0) (Nat.le_refl 0) dX8_setNow_18
theorem q1196 : Cond.methodLink RX8 107 yX6_drop ∈ wsL_law := mT_5 (List.mem_of_getElem? (i := 110) rfl) rfl
theorem q520 : Cond.instanceMethod yX6_drop ∈ wsL_law := mT_3 (List.mem_of_getElem? (i := 224) rfl) rfl
theorem q521 : Cond.selects RX6 yX6_drop yX6_drop ∈ wsL_law := mT_3 (List.mem_of_getElem? (i := 225) rfl) rfl
theorem q522 : Cond.code yX6_drop cX6_drop 1 none ∈ wsL_law := mT_3 (List.mem_of_getElem? (i := 226) rfl) rfl
theorem kv_X8_107 : vz_cv RX8 107 yX6_drop cX6_drop 1 none 0 := ⟨q1196, q520, q521, q15, q522, by decide +kernel⟩
theorem dX8_leave_0 : decode cX8_leave 0 = .ok (.aload_n 0, 1) := by decide +kernel
theorem dX8_leave_1 : decode cX8_leave 1 = .ok (.getfield 31, 3) := by decide +kernel
theorem dX8_leave_4 : decode cX8_leave 4 = .ok (.invokevirtual 107, 3) := by decide +kernel
theorem dX8_leave_7 : decode cX8_leave 7 = .ok (.return_, 1) := by decide +kernel
set_option maxHeartbeats 8000000 in
set_option maxRecDepth 100000 in
theorem a_W_leave (l : Launch) (D : va_G) (g : Nat → ClassId)   (sz : Nat) (h : Nat) (wa : Nat → Nat) (wi : Nat → Int32) (wr : Nat → Nat) (wf : Nat → Nat → Int32) (ph : Nat) (rh : Nat) (la : Nat → Nat) (pa : Nat → Nat) (pr : Nat → Nat) (pf : Nat → Nat → Int32) (ca : Nat → Nat) (ci : Nat → Int32) (cr : Nat → Nat) (cf : Nat → Nat → Int32) (lr : Nat → Nat) (lf : Nat → Nat → Int32) (lmx : Nat) (hw_w : ∀ k, wr k ≤ woW_lim k) (hw_p : ∀ k, pr k ≤ pgW_lim k) (hw_c : ∀ k, cr k ≤ rcW_lim k) (hw_l : ∀ k, lr k ≤ (plW_lim lmx) k) (hmx_l : lmx ≤ 30) : vz_Mv l D (tyG g) yX8_leave cX8_leave 1 1 20 0 0 [.ref h] sz (vz_w [woW g h wa wi wr wf ph rh (la 0), pgW g ph pa pr pf, rcW g rh ca ci cr cf, plW g la lr lf lmx]) (fun u : (Nat → Nat) => (∀ k, u k ≤ woW_lim k)) (fun u => vz_w [woW g h wa wi u wf ph rh (la 0), pgW g ph pa pr pf, rcW g rh ca ci cr cf, plW g la lr lf lmx]) := by
  refine vz_svQ (by decide) (Nat.le_of_ble_eq_true rfl) (fun p e s m args below meth c hx hb hr hml hts hown hlk hin hK hsz A hA H locs hP hD hS ls hl Q hQ => ?_)
  have hl : lv_has ls 1 [(0, .ref h)] := hl
  refine lv_aload_n hx hb dX8_leave_0 rfl (lv_at hl 0 rfl) ?_
  refine va_get (D := D) (ci := 8) (v := .ref (wa 2)) (C := RX8) (T := TX8) (N := 11) hx hb hts inlX8 hown hK hP 0 rfl rfl 1 (by decide) (hts _ q135) (fun _ h => h) rfl dX8_leave_1 ?_
  refine vz_Vv2 (ws' := fun u : Nat => vz_w [woW g h wa wi (vz_un wr 1 u) wf ph rh (la 0), pgW g ph pa pr pf, rcW g rh ca ci cr cf, plW g la lr lf lmx]) (As := []) (rest := []) hx hb hml hown hts hK hA hP hD hS (c_T_drop l D g (wa 2) (wa 3) H.size (nI 12) (nI 12) (wr 1) (Nat.lt_of_le_of_lt (hw_w 1) (by decide))) kv_X8_107 ⟨Nat.le_of_ble_eq_true rfl, Nat.le_of_ble_eq_true rfl⟩ (q0 := 3) (ci := 6) rfl rfl rfl [3] rfl (by decide) (fun _ => rfl) (fun _ => rfl) hl.1 (Nat.le_of_ble_eq_true rfl) dX8_leave_4 ⟨Nat.le_refl _, Nat.le_refl _⟩ rfl (fun u1 H locs ha2 _ hP hD hS => ?_)
  obtain ⟨wr_3, hw_wr_3, hP, hD⟩ : ∃ wr_3 : Nat → Nat, (∀ k, wr_3 k ≤ woW_lim k) ∧ va_P D vwCl (vz_w [woW g h wa wi wr_3 wf ph rh (la 0), pgW g ph pa pr pf, rcW g rh ca ci cr cf, plW g la lr lf lmx]) H ∧ va_D A (vz_w [woW g h wa wi wr_3 wf ph rh (la 0), pgW g ph pa pr pf, rcW g rh ca ci cr cf, plW g la lr lf lmx]) := ⟨(vz_un wr 1 u1), (vz_wf hw_w (t := 1) (v := u1) (Nat.le_trans ha2 (hw_w 1))), hP, hD⟩
  rw [hQ]
  exact vz_vret3 hx hb hr hlk hK hP hD hS wr_3 hw_wr_3 rfl (Nat.le_refl 0) (Nat.le_refl 0) dX8_leave_7
theorem q136 : Cond.fieldLink RX8 34 "WaysAtlas$World" "slots" "LWaysAtlas$Table;" ∈ wsL_law := mT_2 (List.mem_of_getElem? (i := 41) rfl) rfl
theorem dX8_slot_0 : decode cX8_slot 0 = .ok (.aload_n 0, 1) := by decide +kernel
theorem dX8_slot_1 : decode cX8_slot 1 = .ok (.getfield 34, 3) := by decide +kernel
theorem dX8_slot_4 : decode cX8_slot 4 = .ok (.aload_n 0, 1) := by decide +kernel
theorem dX8_slot_5 : decode cX8_slot 5 = .ok (.getfield 31, 3) := by decide +kernel
theorem dX8_slot_8 : decode cX8_slot 8 = .ok (.getfield 58, 3) := by decide +kernel
theorem dX8_slot_11 : decode cX8_slot 11 = .ok (.iconst 1, 1) := by decide +kernel
theorem dX8_slot_12 : decode cX8_slot 12 = .ok (.isub, 1) := by decide +kernel
theorem dX8_slot_13 : decode cX8_slot 13 = .ok (.bipush 6, 2) := by decide +kernel
theorem dX8_slot_15 : decode cX8_slot 15 = .ok (.imul, 1) := by decide +kernel
theorem dX8_slot_16 : decode cX8_slot 16 = .ok (.iload_n 1, 1) := by decide +kernel
theorem dX8_slot_17 : decode cX8_slot 17 = .ok (.iadd, 1) := by decide +kernel
theorem dX8_slot_18 : decode cX8_slot 18 = .ok (.iload_n 2, 1) := by decide +kernel
theorem dX8_slot_19 : decode cX8_slot 19 = .ok (.invokevirtual 110, 3) := by decide +kernel
theorem dX8_slot_22 : decode cX8_slot 22 = .ok (.ireturn, 1) := by decide +kernel
set_option maxHeartbeats 8000000 in
set_option maxRecDepth 100000 in
theorem a_W_slot (l : Launch) (D : va_G) (g : Nat → ClassId)   (sz : Nat) (h : Nat) (wa : Nat → Nat) (wi : Nat → Int32) (wr : Nat → Nat) (wf : Nat → Nat → Int32) (ph : Nat) (rh : Nat) (la : Nat → Nat) (pa : Nat → Nat) (pr : Nat → Nat) (pf : Nat → Nat → Int32) (ca : Nat → Nat) (ci : Nat → Int32) (cr : Nat → Nat) (cf : Nat → Nat → Int32) (lr : Nat → Nat) (lf : Nat → Nat → Int32) (lmx : Nat) (n1 : Int32) (n2 : Int32) (hw_w : ∀ k, wr k ≤ woW_lim k) (hw_p : ∀ k, pr k ≤ pgW_lim k) (hw_c : ∀ k, cr k ≤ rcW_lim k) (hw_l : ∀ k, lr k ≤ (plW_lim lmx) k) (hmx_l : lmx ≤ 30) : vz_Mi l D (tyG g) yX8_slot cX8_slot 3 1 23 0 0 .int [.ref h, .int n1, .int n2] sz (vz_w [woW g h wa wi wr wf ph rh (la 0), pgW g ph pa pr pf, rcW g rh ca ci cr cf, plW g la lr lf lmx]) (fun r (u : Unit) => True) (fun u => vz_w [woW g h wa wi wr wf ph rh (la 0), pgW g ph pa pr pf, rcW g rh ca ci cr cf, plW g la lr lf lmx]) := by
  refine vz_siQ (by decide) (Nat.le_of_ble_eq_true rfl) (fun p e s m args below meth c hx hb hr hml hts hown hlk hin hK hsz A hA H locs hP hD hS ls hl Q hQ => ?_)
  have hl : lv_has ls 3 [(0, .ref h), (1, .int n1), (2, .int n2)] := hl
  refine lv_aload_n hx hb dX8_slot_0 rfl (lv_at hl 0 rfl) ?_
  refine va_get (D := D) (ci := 8) (v := .ref (wa 4)) (C := RX8) (T := TX8) (N := 11) hx hb hts inlX8 hown hK hP 0 rfl rfl 2 (by decide) (hts _ q136) (fun _ h => h) rfl dX8_slot_1 ?_
  refine lv_aload_n hx hb dX8_slot_4 rfl (lv_at hl 0 rfl) ?_
  refine va_get (D := D) (ci := 8) (v := .ref (wa 2)) (C := RX8) (T := TX8) (N := 11) hx hb hts inlX8 hown hK hP 0 rfl rfl 1 (by decide) (hts _ q135) (fun _ h => h) rfl dX8_slot_5 ?_
  refine va_get (D := D) (ci := 6) (v := .int (nI (wr 1))) (C := RX6) (T := TX6) (N := 4) hx hb hts inlX6 hown hK hP 3 rfl rfl 3 (by decide) (hts _ q1021) (fun _ h => h) rfl dX8_slot_8 ?_
  refine lv_iconst (v := 1) hx hb dX8_slot_11 (by decide) ?_
  refine lv_isub hx hb dX8_slot_12 ?_
  refine lv_bipush (v := 6) hx hb dX8_slot_13 (by decide) ?_
  refine lv_imul hx hb dX8_slot_15 ?_
  refine lv_iload_n hx hb dX8_slot_16 rfl (lv_at hl 1 rfl) ?_
  refine lv_iadd hx hb dX8_slot_17 ?_
  refine lv_iload_n hx hb dX8_slot_18 rfl (lv_at hl 2 rfl) ?_
  refine vz_Vi2 (ws' := fun u : Unit => vz_w [woW g h wa wi wr wf ph rh (la 0), pgW g ph pa pr pf, rcW g rh ca ci cr cf, plW g la lr lf lmx]) (As := [.int ((((nI (wr 1)) - 1) * 6) + n1), .int n2]) (rest := []) hx hb hml hown hts hK hA hP hD hS (c_T_get l D g (wa 4) (wa 5) H.size 11 72 (wr 2) 792 (wf 2) ((((nI (wr 1)) - 1) * 6) + n1) n2 ⟨rfl, by decide, by decide, by decide, by decide, hw_w 2⟩) kv_X8_110 ⟨Nat.le_of_ble_eq_true rfl, Nat.le_of_ble_eq_true rfl⟩ (q0 := 5) (ci := 6) rfl rfl rfl [5, 6] rfl (by decide) (fun _ => rfl) (fun _ => rfl) hl.1 (Nat.le_of_ble_eq_true rfl) dX8_slot_19 ⟨Nat.le_refl _, Nat.le_refl _⟩ rfl (fun v1 _ H locs he2 _ hP hD hS => ?_)
  rw [hQ]
  exact vz_iret3 hx hb hr hlk hK hP hD hS () trivial rfl (Nat.le_refl 0) (Nat.le_refl 0) dX8_slot_22
theorem dX8_setSlot_0 : decode cX8_setSlot 0 = .ok (.aload_n 0, 1) := by decide +kernel
theorem dX8_setSlot_1 : decode cX8_setSlot 1 = .ok (.getfield 34, 3) := by decide +kernel
theorem dX8_setSlot_4 : decode cX8_setSlot 4 = .ok (.aload_n 0, 1) := by decide +kernel
theorem dX8_setSlot_5 : decode cX8_setSlot 5 = .ok (.getfield 31, 3) := by decide +kernel
theorem dX8_setSlot_8 : decode cX8_setSlot 8 = .ok (.getfield 58, 3) := by decide +kernel
theorem dX8_setSlot_11 : decode cX8_setSlot 11 = .ok (.iconst 1, 1) := by decide +kernel
theorem dX8_setSlot_12 : decode cX8_setSlot 12 = .ok (.isub, 1) := by decide +kernel
theorem dX8_setSlot_13 : decode cX8_setSlot 13 = .ok (.bipush 6, 2) := by decide +kernel
theorem dX8_setSlot_15 : decode cX8_setSlot 15 = .ok (.imul, 1) := by decide +kernel
theorem dX8_setSlot_16 : decode cX8_setSlot 16 = .ok (.iload_n 1, 1) := by decide +kernel
theorem dX8_setSlot_17 : decode cX8_setSlot 17 = .ok (.iadd, 1) := by decide +kernel
theorem dX8_setSlot_18 : decode cX8_setSlot 18 = .ok (.iload_n 2, 1) := by decide +kernel
theorem dX8_setSlot_19 : decode cX8_setSlot 19 = .ok (.iload_n 3, 1) := by decide +kernel
theorem dX8_setSlot_20 : decode cX8_setSlot 20 = .ok (.invokevirtual 91, 3) := by decide +kernel
theorem dX8_setSlot_23 : decode cX8_setSlot 23 = .ok (.return_, 1) := by decide +kernel
set_option maxHeartbeats 8000000 in
set_option maxRecDepth 100000 in
theorem a_W_setSlot (l : Launch) (D : va_G) (g : Nat → ClassId)   (sz : Nat) (h : Nat) (wa : Nat → Nat) (wi : Nat → Int32) (wr : Nat → Nat) (wf : Nat → Nat → Int32) (ph : Nat) (rh : Nat) (la : Nat → Nat) (pa : Nat → Nat) (pr : Nat → Nat) (pf : Nat → Nat → Int32) (ca : Nat → Nat) (ci : Nat → Int32) (cr : Nat → Nat) (cf : Nat → Nat → Int32) (lr : Nat → Nat) (lf : Nat → Nat → Int32) (lmx : Nat) (n1 : Int32) (n2 : Int32) (n3 : Int32) (hw_w : ∀ k, wr k ≤ woW_lim k) (hw_p : ∀ k, pr k ≤ pgW_lim k) (hw_c : ∀ k, cr k ≤ rcW_lim k) (hw_l : ∀ k, lr k ≤ (plW_lim lmx) k) (hmx_l : lmx ≤ 30) : vz_Mv l D (tyG g) yX8_setSlot cX8_setSlot 4 1 24 0 0 [.ref h, .int n1, .int n2, .int n3] sz (vz_w [woW g h wa wi wr wf ph rh (la 0), pgW g ph pa pr pf, rcW g rh ca ci cr cf, plW g la lr lf lmx]) (fun u : (Nat → Nat → Int32) => True) (fun u => vz_w [woW g h wa wi wr u ph rh (la 0), pgW g ph pa pr pf, rcW g rh ca ci cr cf, plW g la lr lf lmx]) := by
  refine vz_svQ (by decide) (Nat.le_of_ble_eq_true rfl) (fun p e s m args below meth c hx hb hr hml hts hown hlk hin hK hsz A hA H locs hP hD hS ls hl Q hQ => ?_)
  have hl : lv_has ls 4 [(0, .ref h), (1, .int n1), (2, .int n2), (3, .int n3)] := hl
  refine lv_aload_n hx hb dX8_setSlot_0 rfl (lv_at hl 0 rfl) ?_
  refine va_get (D := D) (ci := 8) (v := .ref (wa 4)) (C := RX8) (T := TX8) (N := 11) hx hb hts inlX8 hown hK hP 0 rfl rfl 2 (by decide) (hts _ q136) (fun _ h => h) rfl dX8_setSlot_1 ?_
  refine lv_aload_n hx hb dX8_setSlot_4 rfl (lv_at hl 0 rfl) ?_
  refine va_get (D := D) (ci := 8) (v := .ref (wa 2)) (C := RX8) (T := TX8) (N := 11) hx hb hts inlX8 hown hK hP 0 rfl rfl 1 (by decide) (hts _ q135) (fun _ h => h) rfl dX8_setSlot_5 ?_
  refine va_get (D := D) (ci := 6) (v := .int (nI (wr 1))) (C := RX6) (T := TX6) (N := 4) hx hb hts inlX6 hown hK hP 3 rfl rfl 3 (by decide) (hts _ q1021) (fun _ h => h) rfl dX8_setSlot_8 ?_
  refine lv_iconst (v := 1) hx hb dX8_setSlot_11 (by decide) ?_
  refine lv_isub hx hb dX8_setSlot_12 ?_
  refine lv_bipush (v := 6) hx hb dX8_setSlot_13 (by decide) ?_
  refine lv_imul hx hb dX8_setSlot_15 ?_
  refine lv_iload_n hx hb dX8_setSlot_16 rfl (lv_at hl 1 rfl) ?_
  refine lv_iadd hx hb dX8_setSlot_17 ?_
  refine lv_iload_n hx hb dX8_setSlot_18 rfl (lv_at hl 2 rfl) ?_
  refine lv_iload_n hx hb dX8_setSlot_19 rfl (lv_at hl 3 rfl) ?_
  refine vz_Vv2 (ws' := fun u : (Nat → Int32) => vz_w [woW g h wa wi wr (vz_uf wf 2 u) ph rh (la 0), pgW g ph pa pr pf, rcW g rh ca ci cr cf, plW g la lr lf lmx]) (As := [.int ((((nI (wr 1)) - 1) * 6) + n1), .int n2, .int n3]) (rest := []) hx hb hml hown hts hK hA hP hD hS (c_T_set l D g (wa 4) (wa 5) H.size 11 72 (wr 2) 792 (wf 2) ((((nI (wr 1)) - 1) * 6) + n1) n2 n3 ⟨rfl, by decide, by decide, by decide, by decide, hw_w 2⟩) kv_X8_91 ⟨Nat.le_of_ble_eq_true rfl, Nat.le_of_ble_eq_true rfl⟩ (q0 := 5) (ci := 6) rfl rfl rfl [5, 6] rfl (by decide) (fun _ => rfl) (fun _ => rfl) hl.1 (Nat.le_of_ble_eq_true rfl) dX8_setSlot_20 ⟨Nat.le_refl _, Nat.le_refl _⟩ rfl (fun nf1 H locs _ _ hP hD hS => ?_)
  obtain ⟨wf_2, hP, hD⟩ : ∃ wf_2 : Nat → Nat → Int32, va_P D vwCl (vz_w [woW g h wa wi wr wf_2 ph rh (la 0), pgW g ph pa pr pf, rcW g rh ca ci cr cf, plW g la lr lf lmx]) H ∧ va_D A (vz_w [woW g h wa wi wr wf_2 ph rh (la 0), pgW g ph pa pr pf, rcW g rh ca ci cr cf, plW g la lr lf lmx]) := ⟨(vz_uf wf 2 nf1), hP, hD⟩
  rw [hQ]
  exact vz_vret3 hx hb hr hlk hK hP hD hS wf_2 trivial rfl (Nat.le_refl 0) (Nat.le_refl 0) dX8_setSlot_23
theorem q1052 : Cond.fieldLink RX8 82 "WaysAtlas$RunRecord" "activations" "LWaysAtlas$Table;" ∈ wsL_law := mT_1 (List.mem_of_getElem? (i := 213) rfl) rfl
theorem q1055 : Cond.methodLink RX8 83 yX6_add ∈ wsL_law := mT_4 (List.mem_of_getElem? (i := 217) rfl) rfl
theorem kv_X8_83 : vz_cv RX8 83 yX6_add cX6_add 2 (some .int) 0 := ⟨q1055, q261, q262, q15, q263, by decide +kernel⟩
theorem q1056 : Cond.methodLink RX8 87 yX8_now ∈ wsL_law := mT_4 (List.mem_of_getElem? (i := 218) rfl) rfl
theorem q1057 : Cond.instanceMethod yX8_now ∈ wsL_law := mT_4 (List.mem_of_getElem? (i := 219) rfl) rfl
theorem q1058 : Cond.selects RX8 yX8_now yX8_now ∈ wsL_law := mT_4 (List.mem_of_getElem? (i := 220) rfl) rfl
theorem q47 : Cond.initialized RX8 ∈ wsL_law := mT_1 (List.mem_of_getElem? (i := 9) rfl) rfl
theorem q1059 : Cond.code yX8_now cX8_now 2 (some .int) ∈ wsL_law := mT_4 (List.mem_of_getElem? (i := 221) rfl) rfl
theorem kv_X8_87 : vz_cv RX8 87 yX8_now cX8_now 2 (some .int) 1 := ⟨q1056, q1057, q1058, q47, q1059, by decide +kernel⟩
theorem q1062 : Cond.methodLink RX8 95 yX8_setNow ∈ wsL_law := mT_4 (List.mem_of_getElem? (i := 224) rfl) rfl
theorem q1063 : Cond.instanceMethod yX8_setNow ∈ wsL_law := mT_4 (List.mem_of_getElem? (i := 225) rfl) rfl
theorem q1064 : Cond.selects RX8 yX8_setNow yX8_setNow ∈ wsL_law := mT_4 (List.mem_of_getElem? (i := 226) rfl) rfl
theorem q1065 : Cond.code yX8_setNow cX8_setNow 3 none ∈ wsL_law := mT_4 (List.mem_of_getElem? (i := 227) rfl) rfl
theorem kv_X8_95 : vz_cv RX8 95 yX8_setNow cX8_setNow 3 none 2 := ⟨q1062, q1063, q1064, q47, q1065, by decide +kernel⟩
theorem q1053 : Cond.fieldLink RX8 98 "WaysAtlas$RunRecord" "deepest" "I" ∈ wsL_law := mT_1 (List.mem_of_getElem? (i := 235) rfl) rfl
theorem q1054 : Cond.methodLink RX8 101 Lib.Math.max.name ∈ wsL_law := mT_4 (List.mem_of_getElem? (i := 228) rfl) rfl
theorem dX8_enter_0 : decode cX8_enter 0 = .ok (.aload_n 0, 1) := by decide +kernel
theorem dX8_enter_1 : decode cX8_enter 1 = .ok (.getfield 19, 3) := by decide +kernel
theorem dX8_enter_4 : decode cX8_enter 4 = .ok (.getfield 82, 3) := by decide +kernel
theorem dX8_enter_7 : decode cX8_enter 7 = .ok (.invokevirtual 83, 3) := by decide +kernel
theorem dX8_enter_10 : decode cX8_enter 10 = .ok (.istore 4, 2) := by decide +kernel
theorem dX8_enter_12 : decode cX8_enter 12 = .ok (.aload_n 0, 1) := by decide +kernel
theorem dX8_enter_13 : decode cX8_enter 13 = .ok (.getfield 19, 3) := by decide +kernel
theorem dX8_enter_16 : decode cX8_enter 16 = .ok (.getfield 82, 3) := by decide +kernel
theorem dX8_enter_19 : decode cX8_enter 19 = .ok (.iload 4, 2) := by decide +kernel
theorem dX8_enter_21 : decode cX8_enter 21 = .ok (.iconst 0, 1) := by decide +kernel
theorem dX8_enter_22 : decode cX8_enter 22 = .ok (.aload_n 0, 1) := by decide +kernel
theorem dX8_enter_23 : decode cX8_enter 23 = .ok (.iconst 1, 1) := by decide +kernel
theorem dX8_enter_24 : decode cX8_enter 24 = .ok (.invokevirtual 87, 3) := by decide +kernel
theorem dX8_enter_27 : decode cX8_enter 27 = .ok (.invokevirtual 91, 3) := by decide +kernel
theorem dX8_enter_30 : decode cX8_enter 30 = .ok (.aload_n 0, 1) := by decide +kernel
theorem dX8_enter_31 : decode cX8_enter 31 = .ok (.getfield 19, 3) := by decide +kernel
theorem dX8_enter_34 : decode cX8_enter 34 = .ok (.getfield 82, 3) := by decide +kernel
theorem dX8_enter_37 : decode cX8_enter 37 = .ok (.iload 4, 2) := by decide +kernel
theorem dX8_enter_39 : decode cX8_enter 39 = .ok (.iconst 2, 1) := by decide +kernel
theorem dX8_enter_40 : decode cX8_enter 40 = .ok (.aload_n 0, 1) := by decide +kernel
theorem dX8_enter_41 : decode cX8_enter 41 = .ok (.iconst 0, 1) := by decide +kernel
theorem dX8_enter_42 : decode cX8_enter 42 = .ok (.invokevirtual 87, 3) := by decide +kernel
theorem dX8_enter_45 : decode cX8_enter 45 = .ok (.invokevirtual 91, 3) := by decide +kernel
theorem dX8_enter_48 : decode cX8_enter 48 = .ok (.aload_n 0, 1) := by decide +kernel
theorem dX8_enter_49 : decode cX8_enter 49 = .ok (.getfield 19, 3) := by decide +kernel
theorem dX8_enter_52 : decode cX8_enter 52 = .ok (.getfield 82, 3) := by decide +kernel
theorem dX8_enter_55 : decode cX8_enter 55 = .ok (.iload 4, 2) := by decide +kernel
theorem dX8_enter_57 : decode cX8_enter 57 = .ok (.iconst 1, 1) := by decide +kernel
theorem dX8_enter_58 : decode cX8_enter 58 = .ok (.iload_n 1, 1) := by decide +kernel
theorem dX8_enter_59 : decode cX8_enter 59 = .ok (.invokevirtual 91, 3) := by decide +kernel
theorem dX8_enter_62 : decode cX8_enter 62 = .ok (.aload_n 0, 1) := by decide +kernel
theorem dX8_enter_63 : decode cX8_enter 63 = .ok (.getfield 31, 3) := by decide +kernel
theorem dX8_enter_66 : decode cX8_enter 66 = .ok (.invokevirtual 83, 3) := by decide +kernel
theorem dX8_enter_69 : decode cX8_enter 69 = .ok (.pop, 1) := by decide +kernel
theorem dX8_enter_70 : decode cX8_enter 70 = .ok (.aload_n 0, 1) := by decide +kernel
theorem dX8_enter_71 : decode cX8_enter 71 = .ok (.iconst 1, 1) := by decide +kernel
theorem dX8_enter_72 : decode cX8_enter 72 = .ok (.iload 4, 2) := by decide +kernel
theorem dX8_enter_74 : decode cX8_enter 74 = .ok (.invokevirtual 95, 3) := by decide +kernel
theorem dX8_enter_77 : decode cX8_enter 77 = .ok (.iconst 0, 1) := by decide +kernel
theorem dX8_enter_78 : decode cX8_enter 78 = .ok (.istore 5, 2) := by decide +kernel
theorem dX8_enter_80 : decode cX8_enter 80 = .ok (.iload 5, 2) := by decide +kernel
theorem dX8_enter_82 : decode cX8_enter 82 = .ok (.bipush 6, 2) := by decide +kernel
theorem dX8_enter_84 : decode cX8_enter 84 = .ok (.if_icmp .ge 37, 3) := by decide +kernel
theorem dX8_enter_87 : decode cX8_enter 87 = .ok (.aload_n 0, 1) := by decide +kernel
theorem dX8_enter_88 : decode cX8_enter 88 = .ok (.iconst 3, 1) := by decide +kernel
theorem dX8_enter_89 : decode cX8_enter 89 = .ok (.iload 5, 2) := by decide +kernel
theorem dX8_enter_91 : decode cX8_enter 91 = .ok (.iadd, 1) := by decide +kernel
theorem dX8_enter_92 : decode cX8_enter 92 = .ok (.iload 5, 2) := by decide +kernel
theorem dX8_enter_94 : decode cX8_enter 94 = .ok (.ifCond .ne 7, 3) := by decide +kernel
theorem dX8_enter_97 : decode cX8_enter 97 = .ok (.iload_n 2, 1) := by decide +kernel
theorem dX8_enter_98 : decode cX8_enter 98 = .ok (.goto 14, 3) := by decide +kernel
theorem dX8_enter_101 : decode cX8_enter 101 = .ok (.iload 5, 2) := by decide +kernel
theorem dX8_enter_103 : decode cX8_enter 103 = .ok (.iconst 1, 1) := by decide +kernel
theorem dX8_enter_104 : decode cX8_enter 104 = .ok (.if_icmp .ne 7, 3) := by decide +kernel
theorem dX8_enter_107 : decode cX8_enter 107 = .ok (.iload_n 3, 1) := by decide +kernel
theorem dX8_enter_108 : decode cX8_enter 108 = .ok (.goto 4, 3) := by decide +kernel
theorem dX8_enter_111 : decode cX8_enter 111 = .ok (.iconst 0, 1) := by decide +kernel
theorem dX8_enter_112 : decode cX8_enter 112 = .ok (.invokevirtual 95, 3) := by decide +kernel
theorem dX8_enter_115 : decode cX8_enter 115 = .ok (.iinc 5 1, 3) := by decide +kernel
theorem dX8_enter_118 : decode cX8_enter 118 = .ok (.goto (-38), 3) := by decide +kernel
theorem dX8_enter_121 : decode cX8_enter 121 = .ok (.aload_n 0, 1) := by decide +kernel
theorem dX8_enter_122 : decode cX8_enter 122 = .ok (.getfield 19, 3) := by decide +kernel
theorem dX8_enter_125 : decode cX8_enter 125 = .ok (.aload_n 0, 1) := by decide +kernel
theorem dX8_enter_126 : decode cX8_enter 126 = .ok (.getfield 19, 3) := by decide +kernel
theorem dX8_enter_129 : decode cX8_enter 129 = .ok (.getfield 98, 3) := by decide +kernel
theorem dX8_enter_132 : decode cX8_enter 132 = .ok (.aload_n 0, 1) := by decide +kernel
theorem dX8_enter_133 : decode cX8_enter 133 = .ok (.getfield 31, 3) := by decide +kernel
theorem dX8_enter_136 : decode cX8_enter 136 = .ok (.getfield 58, 3) := by decide +kernel
theorem dX8_enter_139 : decode cX8_enter 139 = .ok (.invokestatic 101, 3) := by decide +kernel
theorem dX8_enter_142 : decode cX8_enter 142 = .ok (.putfield 98, 3) := by decide +kernel
theorem dX8_enter_145 : decode cX8_enter 145 = .ok (.return_, 1) := by decide +kernel
set_option maxHeartbeats 8000000 in
set_option maxRecDepth 100000 in
theorem a_W_enter (l : Launch) (D : va_G) (g : Nat → ClassId)   (sz : Nat) (h : Nat) (wa : Nat → Nat) (wi : Nat → Int32) (wr : Nat → Nat) (wf : Nat → Nat → Int32) (ph : Nat) (rh : Nat) (la : Nat → Nat) (pa : Nat → Nat) (pr : Nat → Nat) (pf : Nat → Nat → Int32) (ca : Nat → Nat) (ci : Nat → Int32) (cr : Nat → Nat) (cf : Nat → Nat → Int32) (lr : Nat → Nat) (lf : Nat → Nat → Int32) (lmx : Nat) (n1 : Int32) (n2 : Int32) (n3 : Int32) (hw_w : ∀ k, wr k ≤ woW_lim k) (hw_p : ∀ k, pr k ≤ pgW_lim k) (hw_c : ∀ k, cr k ≤ rcW_lim k) (hw_l : ∀ k, lr k ≤ (plW_lim lmx) k) (hmx_l : lmx ≤ 30) : vz_Mv l D (tyG g) yX8_enter cX8_enter 6 2 46 0 0 [.ref h, .int n1, .int n2, .int n3] sz (vz_w [woW g h wa wi wr wf ph rh (la 0), pgW g ph pa pr pf, rcW g rh ca ci cr cf, plW g la lr lf lmx]) (fun u : (Nat → Nat) × (Nat → Nat → Int32) × (Nat → Int32) × (Nat → Nat) × (Nat → Nat → Int32) => (∀ k, u.1 k ≤ woW_lim k) ∧ (∀ k, u.2.2.2.1 k ≤ rcW_lim k)) (fun u => vz_w [woW g h wa wi u.1 u.2.1 ph rh (la 0), pgW g ph pa pr pf, rcW g rh ca u.2.2.1 u.2.2.2.1 u.2.2.2.2, plW g la lr lf lmx]) := by
  refine vz_svQ (by decide) (Nat.le_of_ble_eq_true rfl) (fun p e s m args below meth c hx hb hr hml hts hown hlk hin hK hsz A hA H locs hP hD hS ls hl Q hQ => ?_)
  have hl : lv_has ls 6 [(0, .ref h), (1, .int n1), (2, .int n2), (3, .int n3)] := hl
  have J80 : ∀ (fu80 n80 : Nat), 6 - n80 < fu80 → n80 ≤ 6 → ∀ (x4_80 : Int32), ∀ (wr_80 : Nat → Nat), ∀ (wf_80 : Nat → Nat → Int32), ∀ (ci_80 : Nat → Int32), ∀ (cr_80 : Nat → Nat), ∀ (cf_80 : Nat → Nat → Int32), (∀ k, wr_80 k ≤ woW_lim k) → (∀ k, cr_80 k ≤ rcW_lim k) → ∀ (H : Heap) (locs : List Loc) (ls : Array Slot), va_P D vwCl (vz_w [woW g h wa wi wr_80 wf_80 ph rh (la 0), pgW g ph pa pr pf, rcW g rh ca ci_80 cr_80 cf_80, plW g la lr lf lmx]) H → va_D A (vz_w [woW g h wa wi wr_80 wf_80 ph rh (la 0), pgW g ph pa pr pf, rcW g rh ca ci_80 cr_80 cf_80, plW g la lr lf lmx]) → va_S A s.heap H locs → lv_has ls 6 [(0, .ref h), (1, .int n1), (2, .int n2), (3, .int n3), (4, .int x4_80), (5, .int (nI n80))] → W p l e { frames := 2, cells := 0, slots := 0, locals := 46 } s m args below meth c H locs 0 0 Q (F0 m 80 ls []) := by
    intro fu80
    induction fu80 with
    | zero => intro n80 z; omega
    | succ fu80 ih80 =>
      intro n80 hf80 hb80 x4_80 wr_80 wf_80 ci_80 cr_80 cf_80 hw_w_80 hw_c_80 H locs ls hP hD hS hl
      have J112 : n80 < 6 → ∀ (y0_112 : Int32), ∀ (y1_112 : Int32), ∀ (wr_112 : Nat → Nat), ∀ (wf_112 : Nat → Nat → Int32), ∀ (ci_112 : Nat → Int32), ∀ (cr_112 : Nat → Nat), ∀ (cf_112 : Nat → Nat → Int32), (∀ k, wr_112 k ≤ woW_lim k) → (∀ k, cr_112 k ≤ rcW_lim k) → ∀ (H : Heap) (locs : List Loc) (ls : Array Slot), va_P D vwCl (vz_w [woW g h wa wi wr_112 wf_112 ph rh (la 0), pgW g ph pa pr pf, rcW g rh ca ci_112 cr_112 cf_112, plW g la lr lf lmx]) H → va_D A (vz_w [woW g h wa wi wr_112 wf_112 ph rh (la 0), pgW g ph pa pr pf, rcW g rh ca ci_112 cr_112 cf_112, plW g la lr lf lmx]) → va_S A s.heap H locs → lv_has ls 6 [(0, .ref h), (1, .int n1), (2, .int n2), (3, .int n3), (4, .int x4_80), (5, .int (nI n80))] → W p l e { frames := 2, cells := 0, slots := 0, locals := 46 } s m args below meth c H locs 0 0 Q (F0 m 112 ls [.int y0_112, .int y1_112, .ref h]) := by
        intro hn80 y0_112 y1_112 wr_112 wf_112 ci_112 cr_112 cf_112 hw_w_112 hw_c_112 H locs ls hP hD hS hl
        refine vz_Vv3 (As := [.int y1_112, .int y0_112]) (rest := []) hx hb hml hown hts hK hA hP hD hS (a_W_setNow l D g H.size h wa wi wr_112 wf_112 ph rh la pa pr pf ca ci_112 cr_112 cf_112 lr lf lmx y1_112 y0_112 hw_w_112 hw_p hw_c_112 hw_l hmx_l) kv_X8_95 ⟨Nat.le_of_ble_eq_true rfl, Nat.le_of_ble_eq_true rfl⟩ (q0 := 0) (ci := 8) rfl rfl rfl  hl.1 (Nat.le_of_ble_eq_true rfl) dX8_enter_112 ⟨Nat.le_refl _, Nat.le_refl _⟩ rfl (fun wf_1 H locs _ _ hP hD hS => ?_)
        replace hP : va_P D vwCl (vz_w [woW g h wa wi wr_112 wf_1 ph rh (la 0), pgW g ph pa pr pf, rcW g rh ca ci_112 cr_112 cf_112, plW g la lr lf lmx]) H := hP
        replace hD : va_D A (vz_w [woW g h wa wi wr_112 wf_1 ph rh (la 0), pgW g ph pa pr pf, rcW g rh ca ci_112 cr_112 cf_112, plW g la lr lf lmx]) := hD
        refine lv_iinc (v := (nI (n80 + 1))) (lv' := [(5, .int (nI (n80 + 1))), (0, .ref h), (1, .int n1), (2, .int n2), (3, .int n3), (4, .int x4_80)]) hx hb dX8_enter_115 hl (k := 5) rfl (nI_1 n80) (by decide) rfl (fun ls hl => ?_)
        refine lv_goto (tgt := 80) hx hb dX8_enter_118 (by decide) ?_
        exact ih80 (n80 + 1) (by omega) (by omega) x4_80 wr_112 wf_1 ci_112 cr_112 cf_112 hw_w_112 hw_c_112 H locs ls hP hD hS (lv_sub hl [1, 2, 3, 4, 5, 0] rfl)
      refine lv_iload hx hb dX8_enter_80 (lv_at hl 5 rfl) ?_
      refine lv_bipush (v := 6) hx hb dX8_enter_82 (by decide) ?_
      refine lv_icmp_ge (tgt := 121) hx hb dX8_enter_84 (by decide) (fun kc1 => ?_) (fun kc1 => ?_)
      · refine lv_aload_n hx hb dX8_enter_121 rfl (lv_at hl 0 rfl) ?_
        refine va_get (D := D) (ci := 8) (v := .ref rh) (C := RX8) (T := TX8) (N := 11) hx hb hts inlX8 hown hK hP 0 rfl rfl 6 (by decide) (hts _ q132) (fun _ h => h) rfl dX8_enter_122 ?_
        refine lv_aload_n hx hb dX8_enter_125 rfl (lv_at hl 0 rfl) ?_
        refine va_get (D := D) (ci := 8) (v := .ref rh) (C := RX8) (T := TX8) (N := 11) hx hb hts inlX8 hown hK hP 0 rfl rfl 6 (by decide) (hts _ q132) (fun _ h => h) rfl dX8_enter_126 ?_
        refine va_get (D := D) (ci := 4) (v := .int (ci_80 5)) (C := RX4) (T := TX4) (N := 12) hx hb hts inlX4 hown hK hP 22 rfl rfl 10 (by decide) (hts _ q1053) (fun _ h => h) rfl dX8_enter_129 ?_
        refine lv_aload_n hx hb dX8_enter_132 rfl (lv_at hl 0 rfl) ?_
        refine va_get (D := D) (ci := 8) (v := .ref (wa 2)) (C := RX8) (T := TX8) (N := 11) hx hb hts inlX8 hown hK hP 0 rfl rfl 1 (by decide) (hts _ q135) (fun _ h => h) rfl dX8_enter_133 ?_
        refine va_get (D := D) (ci := 6) (v := .int (nI (wr_80 1))) (C := RX6) (T := TX6) (N := 4) hx hb hts inlX6 hown hK hP 3 rfl rfl 3 (by decide) (hts _ q1021) (fun _ h => h) rfl dX8_enter_136 ?_
        refine va_mmax hx hb (hml.trans hl.1.symm) hown (hts _ q1054) (hts _ q65) (hts _ q66) (hts _ q67) (Nat.le_of_ble_eq_true rfl) (Nat.le_of_ble_eq_true rfl) (Nat.le_of_ble_eq_true rfl) (Nat.le_of_ble_eq_true rfl) dX8_enter_139 ?_
        refine va_put (D := D) (ci := 4) (v := .int (if (ci_80 5) < (nI (wr_80 1)) then (nI (wr_80 1)) else (ci_80 5))) (ty := .int) (C := RX4) (T := TX4) (N := 12) hx hb hts inlX4 tyX4 tyX4_ok nmX4 hown hK hP hD hS 22 rfl rfl 10 (by decide) (hts _ q1053) (fun _ h => h) rfl (by decide +kernel) rfl rfl (Nat.le_of_ble_eq_true rfl) dX8_enter_142 (fun H locs hP hD hS => ?_)
        obtain ⟨ci_2, hci_2, hP, hD⟩ : ∃ ci_2 : Nat → Int32, (ci_2 = (upd ci_80 5 (if (ci_80 5) < (nI (wr_80 1)) then (nI (wr_80 1)) else (ci_80 5)))) ∧ va_P D vwCl (vz_w [woW g h wa wi wr_80 wf_80 ph rh (la 0), pgW g ph pa pr pf, rcW g rh ca ci_2 cr_80 cf_80, plW g la lr lf lmx]) H ∧ va_D A (vz_w [woW g h wa wi wr_80 wf_80 ph rh (la 0), pgW g ph pa pr pf, rcW g rh ca ci_2 cr_80 cf_80, plW g la lr lf lmx]) := ⟨(upd ci_80 5 (if (ci_80 5) < (nI (wr_80 1)) then (nI (wr_80 1)) else (ci_80 5))), rfl, hP, hD⟩
        rw [hQ]
        exact vz_vret3 hx hb hr hlk hK hP hD hS (wr_80, wf_80, ci_2, cr_80, cf_80) (⟨hw_w_80, hw_c_80⟩) rfl (Nat.le_refl 0) (Nat.le_refl 0) dX8_enter_145
      · have hn80 : n80 < 6 := vz_ltge (B := 6) (by omega) kc1
        refine lv_aload_n hx hb dX8_enter_87 rfl (lv_at hl 0 rfl) ?_
        refine lv_iconst (v := 3) hx hb dX8_enter_88 (by decide) ?_
        refine lv_iload hx hb dX8_enter_89 (lv_at hl 5 rfl) ?_
        refine lv_iadd hx hb dX8_enter_91 ?_
        refine lv_iload hx hb dX8_enter_92 (lv_at hl 5 rfl) ?_
        refine lv_if_ne (tgt := 101) hx hb dX8_enter_94 (by decide) (fun kc3 => ?_) (fun kc3 => ?_)
        · refine lv_iload hx hb dX8_enter_101 (lv_at hl 5 rfl) ?_
          refine lv_iconst (v := 1) hx hb dX8_enter_103 (by decide) ?_
          refine lv_icmp_ne (tgt := 111) hx hb dX8_enter_104 (by decide) (fun kc4 => ?_) (fun kc4 => ?_)
          · refine lv_iconst (v := 0) hx hb dX8_enter_111 (by decide) ?_
            exact J112 hn80 0 (3 + (nI n80)) wr_80 wf_80 ci_80 cr_80 cf_80 hw_w_80 hw_c_80 H locs ls hP hD hS (lv_sub hl [0, 1, 2, 3, 4, 5] rfl)
          · refine lv_iload_n hx hb dX8_enter_107 rfl (lv_at hl 3 rfl) ?_
            refine lv_goto (tgt := 112) hx hb dX8_enter_108 (by decide) ?_
            exact J112 hn80 n3 (3 + (nI n80)) wr_80 wf_80 ci_80 cr_80 cf_80 hw_w_80 hw_c_80 H locs ls hP hD hS (lv_sub hl [0, 1, 2, 3, 4, 5] rfl)
        · refine lv_iload_n hx hb dX8_enter_97 rfl (lv_at hl 2 rfl) ?_
          refine lv_goto (tgt := 112) hx hb dX8_enter_98 (by decide) ?_
          exact J112 hn80 n2 (3 + (nI n80)) wr_80 wf_80 ci_80 cr_80 cf_80 hw_w_80 hw_c_80 H locs ls hP hD hS (lv_sub hl [0, 1, 2, 3, 4, 5] rfl)
  refine lv_aload_n hx hb dX8_enter_0 rfl (lv_at hl 0 rfl) ?_
  refine va_get (D := D) (ci := 8) (v := .ref rh) (C := RX8) (T := TX8) (N := 11) hx hb hts inlX8 hown hK hP 0 rfl rfl 6 (by decide) (hts _ q132) (fun _ h => h) rfl dX8_enter_1 ?_
  refine va_get (D := D) (ci := 4) (v := .ref (ca 4)) (C := RX4) (T := TX4) (N := 12) hx hb hts inlX4 hown hK hP 22 rfl rfl 2 (by decide) (hts _ q1052) (fun _ h => h) rfl dX8_enter_4 ?_
  refine vz_Vi2 (ws' := fun u : (Nat × (Nat → Int32)) => vz_w [woW g h wa wi wr wf ph rh (la 0), pgW g ph pa pr pf, rcW g rh ca ci (vz_un cr 2 u.1) (vz_uf cf 2 u.2), plW g la lr lf lmx]) (As := []) (rest := []) hx hb hml hown hts hK hA hP hD hS (c_T_add l D g (ca 4) (ca 5) H.size 3 401 (cr 2) 1203 (cf 2) ⟨rfl, by decide, by decide, by decide, by decide, hw_c 2⟩) kv_X8_83 ⟨Nat.le_of_ble_eq_true rfl, Nat.le_of_ble_eq_true rfl⟩ (q0 := 27) (ci := 6) rfl rfl rfl [27, 28] rfl (by decide) (fun _ => rfl) (fun _ => rfl) hl.1 (Nat.le_of_ble_eq_true rfl) dX8_enter_7 ⟨Nat.le_refl _, Nat.le_refl _⟩ rfl (fun v3 ⟨u1R, u1f⟩ H locs ha2 _ hP hD hS => ?_)
  have hq : (cr 2) ≤ 401 := hw_c 2
  replace ha2 : u1R ≤ 401 := by rcases ha2 with ⟨z1, -, z2, -⟩ | ⟨z1, -, z2, -⟩ <;> (dsimp only at z2; omega)
  obtain ⟨cr_4, hw_cr_4, cf_5, hP, hD⟩ : ∃ cr_4 : Nat → Nat, (∀ k, cr_4 k ≤ rcW_lim k) ∧ ∃ cf_5 : Nat → Nat → Int32, va_P D vwCl (vz_w [woW g h wa wi wr wf ph rh (la 0), pgW g ph pa pr pf, rcW g rh ca ci cr_4 cf_5, plW g la lr lf lmx]) H ∧ va_D A (vz_w [woW g h wa wi wr wf ph rh (la 0), pgW g ph pa pr pf, rcW g rh ca ci cr_4 cf_5, plW g la lr lf lmx]) := ⟨(vz_un cr 2 u1R), (vz_wf hw_c (t := 2) (v := u1R) (ha2)), (vz_uf cf 2 u1f), hP, hD⟩
  refine lv_istore (lv' := [(4, .int v3), (0, .ref h), (1, .int n1), (2, .int n2), (3, .int n3)]) hx hb dX8_enter_10 hl (by decide) rfl (fun ls hl => ?_)
  refine lv_aload_n hx hb dX8_enter_12 rfl (lv_at hl 1 rfl) ?_
  refine va_get (D := D) (ci := 8) (v := .ref rh) (C := RX8) (T := TX8) (N := 11) hx hb hts inlX8 hown hK hP 0 rfl rfl 6 (by decide) (hts _ q132) (fun _ h => h) rfl dX8_enter_13 ?_
  refine va_get (D := D) (ci := 4) (v := .ref (ca 4)) (C := RX4) (T := TX4) (N := 12) hx hb hts inlX4 hown hK hP 22 rfl rfl 2 (by decide) (hts _ q1052) (fun _ h => h) rfl dX8_enter_16 ?_
  refine lv_iload hx hb dX8_enter_19 (lv_at hl 0 rfl) ?_
  refine lv_iconst (v := 0) hx hb dX8_enter_21 (by decide) ?_
  refine lv_aload_n hx hb dX8_enter_22 rfl (lv_at hl 1 rfl) ?_
  refine lv_iconst (v := 1) hx hb dX8_enter_23 (by decide) ?_
  refine vz_Vi3 (As := [.int 1]) (rest := [.int 0, .int v3, .ref (ca 4)]) hx hb hml hown hts hK hA hP hD hS (a_W_now l D g H.size h wa wi wr wf ph rh la pa pr pf ca ci cr_4 cf_5 lr lf lmx 1 hw_w hw_p hw_cr_4 hw_l hmx_l) kv_X8_87 ⟨Nat.le_of_ble_eq_true rfl, Nat.le_of_ble_eq_true rfl⟩ (q0 := 0) (ci := 8) rfl rfl rfl  hl.1 (Nat.le_of_ble_eq_true rfl) dX8_enter_24 ⟨Nat.le_refl _, Nat.le_refl _⟩ rfl (fun v6 _ H locs _ _ hP hD hS => ?_)
  refine vz_Vv2 (ws' := fun u : (Nat → Int32) => vz_w [woW g h wa wi wr wf ph rh (la 0), pgW g ph pa pr pf, rcW g rh ca ci cr_4 (vz_uf cf_5 2 u), plW g la lr lf lmx]) (As := [.int v3, .int 0, .int v6]) (rest := []) hx hb hml hown hts hK hA hP hD hS (c_T_set l D g (ca 4) (ca 5) H.size 3 401 (cr_4 2) 1203 (cf_5 2) v3 0 v6 ⟨rfl, by decide, by decide, by decide, by decide, hw_cr_4 2⟩) kv_X8_91 ⟨Nat.le_of_ble_eq_true rfl, Nat.le_of_ble_eq_true rfl⟩ (q0 := 27) (ci := 6) rfl rfl rfl [27, 28] rfl (by decide) (fun _ => rfl) (fun _ => rfl) hl.1 (Nat.le_of_ble_eq_true rfl) dX8_enter_27 ⟨Nat.le_refl _, Nat.le_refl _⟩ rfl (fun nf7 H locs _ _ hP hD hS => ?_)
  obtain ⟨cf_8, hP, hD⟩ : ∃ cf_8 : Nat → Nat → Int32, va_P D vwCl (vz_w [woW g h wa wi wr wf ph rh (la 0), pgW g ph pa pr pf, rcW g rh ca ci cr_4 cf_8, plW g la lr lf lmx]) H ∧ va_D A (vz_w [woW g h wa wi wr wf ph rh (la 0), pgW g ph pa pr pf, rcW g rh ca ci cr_4 cf_8, plW g la lr lf lmx]) := ⟨(vz_uf cf_5 2 nf7), hP, hD⟩
  refine lv_aload_n hx hb dX8_enter_30 rfl (lv_at hl 1 rfl) ?_
  refine va_get (D := D) (ci := 8) (v := .ref rh) (C := RX8) (T := TX8) (N := 11) hx hb hts inlX8 hown hK hP 0 rfl rfl 6 (by decide) (hts _ q132) (fun _ h => h) rfl dX8_enter_31 ?_
  refine va_get (D := D) (ci := 4) (v := .ref (ca 4)) (C := RX4) (T := TX4) (N := 12) hx hb hts inlX4 hown hK hP 22 rfl rfl 2 (by decide) (hts _ q1052) (fun _ h => h) rfl dX8_enter_34 ?_
  refine lv_iload hx hb dX8_enter_37 (lv_at hl 0 rfl) ?_
  refine lv_iconst (v := 2) hx hb dX8_enter_39 (by decide) ?_
  refine lv_aload_n hx hb dX8_enter_40 rfl (lv_at hl 1 rfl) ?_
  refine lv_iconst (v := 0) hx hb dX8_enter_41 (by decide) ?_
  refine vz_Vi3 (As := [.int 0]) (rest := [.int 2, .int v3, .ref (ca 4)]) hx hb hml hown hts hK hA hP hD hS (a_W_now l D g H.size h wa wi wr wf ph rh la pa pr pf ca ci cr_4 cf_8 lr lf lmx 0 hw_w hw_p hw_cr_4 hw_l hmx_l) kv_X8_87 ⟨Nat.le_of_ble_eq_true rfl, Nat.le_of_ble_eq_true rfl⟩ (q0 := 0) (ci := 8) rfl rfl rfl  hl.1 (Nat.le_of_ble_eq_true rfl) dX8_enter_42 ⟨Nat.le_refl _, Nat.le_refl _⟩ rfl (fun v9 _ H locs _ _ hP hD hS => ?_)
  refine vz_Vv2 (ws' := fun u : (Nat → Int32) => vz_w [woW g h wa wi wr wf ph rh (la 0), pgW g ph pa pr pf, rcW g rh ca ci cr_4 (vz_uf cf_8 2 u), plW g la lr lf lmx]) (As := [.int v3, .int 2, .int v9]) (rest := []) hx hb hml hown hts hK hA hP hD hS (c_T_set l D g (ca 4) (ca 5) H.size 3 401 (cr_4 2) 1203 (cf_8 2) v3 2 v9 ⟨rfl, by decide, by decide, by decide, by decide, hw_cr_4 2⟩) kv_X8_91 ⟨Nat.le_of_ble_eq_true rfl, Nat.le_of_ble_eq_true rfl⟩ (q0 := 27) (ci := 6) rfl rfl rfl [27, 28] rfl (by decide) (fun _ => rfl) (fun _ => rfl) hl.1 (Nat.le_of_ble_eq_true rfl) dX8_enter_45 ⟨Nat.le_refl _, Nat.le_refl _⟩ rfl (fun nf10 H locs _ _ hP hD hS => ?_)
  obtain ⟨cf_11, hP, hD⟩ : ∃ cf_11 : Nat → Nat → Int32, va_P D vwCl (vz_w [woW g h wa wi wr wf ph rh (la 0), pgW g ph pa pr pf, rcW g rh ca ci cr_4 cf_11, plW g la lr lf lmx]) H ∧ va_D A (vz_w [woW g h wa wi wr wf ph rh (la 0), pgW g ph pa pr pf, rcW g rh ca ci cr_4 cf_11, plW g la lr lf lmx]) := ⟨(vz_uf cf_8 2 nf10), hP, hD⟩
  refine lv_aload_n hx hb dX8_enter_48 rfl (lv_at hl 1 rfl) ?_
  refine va_get (D := D) (ci := 8) (v := .ref rh) (C := RX8) (T := TX8) (N := 11) hx hb hts inlX8 hown hK hP 0 rfl rfl 6 (by decide) (hts _ q132) (fun _ h => h) rfl dX8_enter_49 ?_
  refine va_get (D := D) (ci := 4) (v := .ref (ca 4)) (C := RX4) (T := TX4) (N := 12) hx hb hts inlX4 hown hK hP 22 rfl rfl 2 (by decide) (hts _ q1052) (fun _ h => h) rfl dX8_enter_52 ?_
  refine lv_iload hx hb dX8_enter_55 (lv_at hl 0 rfl) ?_
  refine lv_iconst (v := 1) hx hb dX8_enter_57 (by decide) ?_
  refine lv_iload_n hx hb dX8_enter_58 rfl (lv_at hl 2 rfl) ?_
  refine vz_Vv2 (ws' := fun u : (Nat → Int32) => vz_w [woW g h wa wi wr wf ph rh (la 0), pgW g ph pa pr pf, rcW g rh ca ci cr_4 (vz_uf cf_11 2 u), plW g la lr lf lmx]) (As := [.int v3, .int 1, .int n1]) (rest := []) hx hb hml hown hts hK hA hP hD hS (c_T_set l D g (ca 4) (ca 5) H.size 3 401 (cr_4 2) 1203 (cf_11 2) v3 1 n1 ⟨rfl, by decide, by decide, by decide, by decide, hw_cr_4 2⟩) kv_X8_91 ⟨Nat.le_of_ble_eq_true rfl, Nat.le_of_ble_eq_true rfl⟩ (q0 := 27) (ci := 6) rfl rfl rfl [27, 28] rfl (by decide) (fun _ => rfl) (fun _ => rfl) hl.1 (Nat.le_of_ble_eq_true rfl) dX8_enter_59 ⟨Nat.le_refl _, Nat.le_refl _⟩ rfl (fun nf12 H locs _ _ hP hD hS => ?_)
  obtain ⟨cf_13, hP, hD⟩ : ∃ cf_13 : Nat → Nat → Int32, va_P D vwCl (vz_w [woW g h wa wi wr wf ph rh (la 0), pgW g ph pa pr pf, rcW g rh ca ci cr_4 cf_13, plW g la lr lf lmx]) H ∧ va_D A (vz_w [woW g h wa wi wr wf ph rh (la 0), pgW g ph pa pr pf, rcW g rh ca ci cr_4 cf_13, plW g la lr lf lmx]) := ⟨(vz_uf cf_11 2 nf12), hP, hD⟩
  refine lv_aload_n hx hb dX8_enter_62 rfl (lv_at hl 1 rfl) ?_
  refine va_get (D := D) (ci := 8) (v := .ref (wa 2)) (C := RX8) (T := TX8) (N := 11) hx hb hts inlX8 hown hK hP 0 rfl rfl 1 (by decide) (hts _ q135) (fun _ h => h) rfl dX8_enter_63 ?_
  refine vz_Vi2 (ws' := fun u : (Nat × (Nat → Int32)) => vz_w [woW g h wa wi (vz_un wr 1 u.1) (vz_uf wf 1 u.2) ph rh (la 0), pgW g ph pa pr pf, rcW g rh ca ci cr_4 cf_13, plW g la lr lf lmx]) (As := []) (rest := []) hx hb hml hown hts hK hA hP hD hS (c_T_add l D g (wa 2) (wa 3) H.size 12 12 (wr 1) 144 (wf 1) ⟨rfl, by decide, by decide, by decide, by decide, hw_w 1⟩) kv_X8_83 ⟨Nat.le_of_ble_eq_true rfl, Nat.le_of_ble_eq_true rfl⟩ (q0 := 3) (ci := 6) rfl rfl rfl [3, 4] rfl (by decide) (fun _ => rfl) (fun _ => rfl) hl.1 (Nat.le_of_ble_eq_true rfl) dX8_enter_66 ⟨Nat.le_refl _, Nat.le_refl _⟩ rfl (fun v16 ⟨u14R, u14f⟩ H locs ha15 _ hP hD hS => ?_)
  have hq : (wr 1) ≤ 12 := hw_w 1
  replace ha15 : u14R ≤ 12 := by rcases ha15 with ⟨z1, -, z2, -⟩ | ⟨z1, -, z2, -⟩ <;> (dsimp only at z2; omega)
  obtain ⟨wr_17, hw_wr_17, wf_18, hP, hD⟩ : ∃ wr_17 : Nat → Nat, (∀ k, wr_17 k ≤ woW_lim k) ∧ ∃ wf_18 : Nat → Nat → Int32, va_P D vwCl (vz_w [woW g h wa wi wr_17 wf_18 ph rh (la 0), pgW g ph pa pr pf, rcW g rh ca ci cr_4 cf_13, plW g la lr lf lmx]) H ∧ va_D A (vz_w [woW g h wa wi wr_17 wf_18 ph rh (la 0), pgW g ph pa pr pf, rcW g rh ca ci cr_4 cf_13, plW g la lr lf lmx]) := ⟨(vz_un wr 1 u14R), (vz_wf hw_w (t := 1) (v := u14R) (ha15)), (vz_uf wf 1 u14f), hP, hD⟩
  refine lv_pop hx hb dX8_enter_69 rfl ?_
  refine lv_aload_n hx hb dX8_enter_70 rfl (lv_at hl 1 rfl) ?_
  refine lv_iconst (v := 1) hx hb dX8_enter_71 (by decide) ?_
  refine lv_iload hx hb dX8_enter_72 (lv_at hl 0 rfl) ?_
  refine vz_Vv3 (As := [.int 1, .int v3]) (rest := []) hx hb hml hown hts hK hA hP hD hS (a_W_setNow l D g H.size h wa wi wr_17 wf_18 ph rh la pa pr pf ca ci cr_4 cf_13 lr lf lmx 1 v3 hw_wr_17 hw_p hw_cr_4 hw_l hmx_l) kv_X8_95 ⟨Nat.le_of_ble_eq_true rfl, Nat.le_of_ble_eq_true rfl⟩ (q0 := 0) (ci := 8) rfl rfl rfl  hl.1 (Nat.le_of_ble_eq_true rfl) dX8_enter_74 ⟨Nat.le_refl _, Nat.le_refl _⟩ rfl (fun wf_19 H locs _ _ hP hD hS => ?_)
  replace hP : va_P D vwCl (vz_w [woW g h wa wi wr_17 wf_19 ph rh (la 0), pgW g ph pa pr pf, rcW g rh ca ci cr_4 cf_13, plW g la lr lf lmx]) H := hP
  replace hD : va_D A (vz_w [woW g h wa wi wr_17 wf_19 ph rh (la 0), pgW g ph pa pr pf, rcW g rh ca ci cr_4 cf_13, plW g la lr lf lmx]) := hD
  refine lv_iconst (v := 0) hx hb dX8_enter_77 (by decide) ?_
  refine lv_istore (lv' := [(5, .int 0), (4, .int v3), (0, .ref h), (1, .int n1), (2, .int n2), (3, .int n3)]) hx hb dX8_enter_78 hl (by decide) rfl (fun ls hl => ?_)
  exact J80 (7) 0 (by omega) (by omega) v3 wr_17 wf_19 ci cr_4 cf_13 hw_wr_17 hw_cr_4 H locs ls hP hD hS (lv_sub hl [2, 3, 4, 5, 1, 0] rfl)
theorem q1103 : Cond.fieldLink RX8 113 "WaysAtlas$RunRecord" "failures" "LWaysAtlas$Table;" ∈ wsL_law := mT_1 (List.mem_of_getElem? (i := 211) rfl) rfl
theorem dX8_kindOf_0 : decode cX8_kindOf 0 = .ok (.aload_n 0, 1) := by decide +kernel
theorem dX8_kindOf_1 : decode cX8_kindOf 1 = .ok (.getfield 19, 3) := by decide +kernel
theorem dX8_kindOf_4 : decode cX8_kindOf 4 = .ok (.getfield 113, 3) := by decide +kernel
theorem dX8_kindOf_7 : decode cX8_kindOf 7 = .ok (.iload_n 1, 1) := by decide +kernel
theorem dX8_kindOf_8 : decode cX8_kindOf 8 = .ok (.iconst 0, 1) := by decide +kernel
theorem dX8_kindOf_9 : decode cX8_kindOf 9 = .ok (.invokevirtual 110, 3) := by decide +kernel
theorem dX8_kindOf_12 : decode cX8_kindOf 12 = .ok (.ireturn, 1) := by decide +kernel
set_option maxHeartbeats 8000000 in
set_option maxRecDepth 100000 in
theorem a_W_kindOf (l : Launch) (D : va_G) (g : Nat → ClassId)   (sz : Nat) (h : Nat) (wa : Nat → Nat) (wi : Nat → Int32) (wr : Nat → Nat) (wf : Nat → Nat → Int32) (ph : Nat) (rh : Nat) (la : Nat → Nat) (pa : Nat → Nat) (pr : Nat → Nat) (pf : Nat → Nat → Int32) (ca : Nat → Nat) (ci : Nat → Int32) (cr : Nat → Nat) (cf : Nat → Nat → Int32) (lr : Nat → Nat) (lf : Nat → Nat → Int32) (lmx : Nat) (n1 : Int32) (hw_w : ∀ k, wr k ≤ woW_lim k) (hw_p : ∀ k, pr k ≤ pgW_lim k) (hw_c : ∀ k, cr k ≤ rcW_lim k) (hw_l : ∀ k, lr k ≤ (plW_lim lmx) k) (hmx_l : lmx ≤ 30) : vz_Mi l D (tyG g) yX8_kindOf cX8_kindOf 2 1 23 0 0 .int [.ref h, .int n1] sz (vz_w [woW g h wa wi wr wf ph rh (la 0), pgW g ph pa pr pf, rcW g rh ca ci cr cf, plW g la lr lf lmx]) (fun r (u : Unit) => True) (fun u => vz_w [woW g h wa wi wr wf ph rh (la 0), pgW g ph pa pr pf, rcW g rh ca ci cr cf, plW g la lr lf lmx]) := by
  refine vz_siQ (by decide) (Nat.le_of_ble_eq_true rfl) (fun p e s m args below meth c hx hb hr hml hts hown hlk hin hK hsz A hA H locs hP hD hS ls hl Q hQ => ?_)
  have hl : lv_has ls 2 [(0, .ref h), (1, .int n1)] := hl
  refine lv_aload_n hx hb dX8_kindOf_0 rfl (lv_at hl 0 rfl) ?_
  refine va_get (D := D) (ci := 8) (v := .ref rh) (C := RX8) (T := TX8) (N := 11) hx hb hts inlX8 hown hK hP 0 rfl rfl 6 (by decide) (hts _ q132) (fun _ h => h) rfl dX8_kindOf_1 ?_
  refine va_get (D := D) (ci := 4) (v := .ref (ca 2)) (C := RX4) (T := TX4) (N := 12) hx hb hts inlX4 hown hK hP 22 rfl rfl 1 (by decide) (hts _ q1103) (fun _ h => h) rfl dX8_kindOf_4 ?_
  refine lv_iload_n hx hb dX8_kindOf_7 rfl (lv_at hl 1 rfl) ?_
  refine lv_iconst (v := 0) hx hb dX8_kindOf_8 (by decide) ?_
  refine vz_Vi2 (ws' := fun u : Unit => vz_w [woW g h wa wi wr wf ph rh (la 0), pgW g ph pa pr pf, rcW g rh ca ci cr cf, plW g la lr lf lmx]) (As := [.int n1, .int 0]) (rest := []) hx hb hml hown hts hK hA hP hD hS (c_T_get l D g (ca 2) (ca 3) H.size 7 400 (cr 1) 2800 (cf 1) n1 0 ⟨rfl, by decide, by decide, by decide, by decide, hw_c 1⟩) kv_X8_110 ⟨Nat.le_of_ble_eq_true rfl, Nat.le_of_ble_eq_true rfl⟩ (q0 := 25) (ci := 6) rfl rfl rfl [25, 26] rfl (by decide) (fun _ => rfl) (fun _ => rfl) hl.1 (Nat.le_of_ble_eq_true rfl) dX8_kindOf_9 ⟨Nat.le_refl _, Nat.le_refl _⟩ rfl (fun v1 _ H locs he2 _ hP hD hS => ?_)
  rw [hQ]
  exact vz_iret3 hx hb hr hlk hK hP hD hS () trivial rfl (Nat.le_refl 0) (Nat.le_refl 0) dX8_kindOf_12
theorem q139 : Cond.fieldLink RX8 46 "WaysAtlas$World" "thrown" "I" ∈ wsL_law := mT_2 (List.mem_of_getElem? (i := 52) rfl) rfl
theorem dX8_raise_0 : decode cX8_raise 0 = .ok (.aload_n 0, 1) := by decide +kernel
theorem dX8_raise_1 : decode cX8_raise 1 = .ok (.getfield 31, 3) := by decide +kernel
theorem dX8_raise_4 : decode cX8_raise 4 = .ok (.getfield 58, 3) := by decide +kernel
theorem dX8_raise_7 : decode cX8_raise 7 = .ok (.iconst 1, 1) := by decide +kernel
theorem dX8_raise_8 : decode cX8_raise 8 = .ok (.isub, 1) := by decide +kernel
theorem dX8_raise_9 : decode cX8_raise 9 = .ok (.istore_n 3, 1) := by decide +kernel
theorem dX8_raise_10 : decode cX8_raise 10 = .ok (.aload_n 0, 1) := by decide +kernel
theorem dX8_raise_11 : decode cX8_raise 11 = .ok (.getfield 19, 3) := by decide +kernel
theorem dX8_raise_14 : decode cX8_raise 14 = .ok (.getfield 113, 3) := by decide +kernel
theorem dX8_raise_17 : decode cX8_raise 17 = .ok (.invokevirtual 83, 3) := by decide +kernel
theorem dX8_raise_20 : decode cX8_raise 20 = .ok (.istore 4, 2) := by decide +kernel
theorem dX8_raise_22 : decode cX8_raise 22 = .ok (.aload_n 0, 1) := by decide +kernel
theorem dX8_raise_23 : decode cX8_raise 23 = .ok (.getfield 19, 3) := by decide +kernel
theorem dX8_raise_26 : decode cX8_raise 26 = .ok (.getfield 113, 3) := by decide +kernel
theorem dX8_raise_29 : decode cX8_raise 29 = .ok (.iload 4, 2) := by decide +kernel
theorem dX8_raise_31 : decode cX8_raise 31 = .ok (.iconst 0, 1) := by decide +kernel
theorem dX8_raise_32 : decode cX8_raise 32 = .ok (.iload_n 1, 1) := by decide +kernel
theorem dX8_raise_33 : decode cX8_raise 33 = .ok (.invokevirtual 91, 3) := by decide +kernel
theorem dX8_raise_36 : decode cX8_raise 36 = .ok (.aload_n 0, 1) := by decide +kernel
theorem dX8_raise_37 : decode cX8_raise 37 = .ok (.getfield 19, 3) := by decide +kernel
theorem dX8_raise_40 : decode cX8_raise 40 = .ok (.getfield 113, 3) := by decide +kernel
theorem dX8_raise_43 : decode cX8_raise 43 = .ok (.iload 4, 2) := by decide +kernel
theorem dX8_raise_45 : decode cX8_raise 45 = .ok (.iconst 1, 1) := by decide +kernel
theorem dX8_raise_46 : decode cX8_raise 46 = .ok (.iload_n 2, 1) := by decide +kernel
theorem dX8_raise_47 : decode cX8_raise 47 = .ok (.invokevirtual 91, 3) := by decide +kernel
theorem dX8_raise_50 : decode cX8_raise 50 = .ok (.aload_n 0, 1) := by decide +kernel
theorem dX8_raise_51 : decode cX8_raise 51 = .ok (.getfield 19, 3) := by decide +kernel
theorem dX8_raise_54 : decode cX8_raise 54 = .ok (.getfield 113, 3) := by decide +kernel
theorem dX8_raise_57 : decode cX8_raise 57 = .ok (.iload 4, 2) := by decide +kernel
theorem dX8_raise_59 : decode cX8_raise 59 = .ok (.iconst 4, 1) := by decide +kernel
theorem dX8_raise_60 : decode cX8_raise 60 = .ok (.aload_n 0, 1) := by decide +kernel
theorem dX8_raise_61 : decode cX8_raise 61 = .ok (.getfield 31, 3) := by decide +kernel
theorem dX8_raise_64 : decode cX8_raise 64 = .ok (.iload_n 3, 1) := by decide +kernel
theorem dX8_raise_65 : decode cX8_raise 65 = .ok (.iconst 0, 1) := by decide +kernel
theorem dX8_raise_66 : decode cX8_raise 66 = .ok (.invokevirtual 110, 3) := by decide +kernel
theorem dX8_raise_69 : decode cX8_raise 69 = .ok (.invokevirtual 91, 3) := by decide +kernel
theorem dX8_raise_72 : decode cX8_raise 72 = .ok (.aload_n 0, 1) := by decide +kernel
theorem dX8_raise_73 : decode cX8_raise 73 = .ok (.getfield 19, 3) := by decide +kernel
theorem dX8_raise_76 : decode cX8_raise 76 = .ok (.getfield 113, 3) := by decide +kernel
theorem dX8_raise_79 : decode cX8_raise 79 = .ok (.iload 4, 2) := by decide +kernel
theorem dX8_raise_81 : decode cX8_raise 81 = .ok (.iconst 5, 1) := by decide +kernel
theorem dX8_raise_82 : decode cX8_raise 82 = .ok (.aload_n 0, 1) := by decide +kernel
theorem dX8_raise_83 : decode cX8_raise 83 = .ok (.getfield 31, 3) := by decide +kernel
theorem dX8_raise_86 : decode cX8_raise 86 = .ok (.getfield 58, 3) := by decide +kernel
theorem dX8_raise_89 : decode cX8_raise 89 = .ok (.invokevirtual 91, 3) := by decide +kernel
theorem dX8_raise_92 : decode cX8_raise 92 = .ok (.aload_n 0, 1) := by decide +kernel
theorem dX8_raise_93 : decode cX8_raise 93 = .ok (.getfield 19, 3) := by decide +kernel
theorem dX8_raise_96 : decode cX8_raise 96 = .ok (.getfield 113, 3) := by decide +kernel
theorem dX8_raise_99 : decode cX8_raise 99 = .ok (.iload 4, 2) := by decide +kernel
theorem dX8_raise_101 : decode cX8_raise 101 = .ok (.bipush 6, 2) := by decide +kernel
theorem dX8_raise_103 : decode cX8_raise 103 = .ok (.aload_n 0, 1) := by decide +kernel
theorem dX8_raise_104 : decode cX8_raise 104 = .ok (.getfield 31, 3) := by decide +kernel
theorem dX8_raise_107 : decode cX8_raise 107 = .ok (.iload_n 3, 1) := by decide +kernel
theorem dX8_raise_108 : decode cX8_raise 108 = .ok (.iconst 1, 1) := by decide +kernel
theorem dX8_raise_109 : decode cX8_raise 109 = .ok (.invokevirtual 110, 3) := by decide +kernel
theorem dX8_raise_112 : decode cX8_raise 112 = .ok (.invokevirtual 91, 3) := by decide +kernel
theorem dX8_raise_115 : decode cX8_raise 115 = .ok (.aload_n 0, 1) := by decide +kernel
theorem dX8_raise_116 : decode cX8_raise 116 = .ok (.iload 4, 2) := by decide +kernel
theorem dX8_raise_118 : decode cX8_raise 118 = .ok (.putfield 46, 3) := by decide +kernel
theorem dX8_raise_121 : decode cX8_raise 121 = .ok (.return_, 1) := by decide +kernel
set_option maxHeartbeats 8000000 in
set_option maxRecDepth 100000 in
theorem a_W_raise (l : Launch) (D : va_G) (g : Nat → ClassId)   (sz : Nat) (h : Nat) (wa : Nat → Nat) (wi : Nat → Int32) (wr : Nat → Nat) (wf : Nat → Nat → Int32) (ph : Nat) (rh : Nat) (la : Nat → Nat) (pa : Nat → Nat) (pr : Nat → Nat) (pf : Nat → Nat → Int32) (ca : Nat → Nat) (ci : Nat → Int32) (cr : Nat → Nat) (cf : Nat → Nat → Int32) (lr : Nat → Nat) (lf : Nat → Nat → Int32) (lmx : Nat) (n1 : Int32) (n2 : Int32) (hw_w : ∀ k, wr k ≤ woW_lim k) (hw_p : ∀ k, pr k ≤ pgW_lim k) (hw_c : ∀ k, cr k ≤ rcW_lim k) (hw_l : ∀ k, lr k ≤ (plW_lim lmx) k) (hmx_l : lmx ≤ 30) : vz_Mv l D (tyG g) yX8_raise cX8_raise 5 1 24 0 0 [.ref h, .int n1, .int n2] sz (vz_w [woW g h wa wi wr wf ph rh (la 0), pgW g ph pa pr pf, rcW g rh ca ci cr cf, plW g la lr lf lmx]) (fun u : (Nat → Int32) × (Nat → Nat) × (Nat → Nat → Int32) => (∀ k, u.2.1 k ≤ rcW_lim k)) (fun u => vz_w [woW g h wa u.1 wr wf ph rh (la 0), pgW g ph pa pr pf, rcW g rh ca ci u.2.1 u.2.2, plW g la lr lf lmx]) := by
  refine vz_svQ (by decide) (Nat.le_of_ble_eq_true rfl) (fun p e s m args below meth c hx hb hr hml hts hown hlk hin hK hsz A hA H locs hP hD hS ls hl Q hQ => ?_)
  have hl : lv_has ls 5 [(0, .ref h), (1, .int n1), (2, .int n2)] := hl
  refine lv_aload_n hx hb dX8_raise_0 rfl (lv_at hl 0 rfl) ?_
  refine va_get (D := D) (ci := 8) (v := .ref (wa 2)) (C := RX8) (T := TX8) (N := 11) hx hb hts inlX8 hown hK hP 0 rfl rfl 1 (by decide) (hts _ q135) (fun _ h => h) rfl dX8_raise_1 ?_
  refine va_get (D := D) (ci := 6) (v := .int (nI (wr 1))) (C := RX6) (T := TX6) (N := 4) hx hb hts inlX6 hown hK hP 3 rfl rfl 3 (by decide) (hts _ q1021) (fun _ h => h) rfl dX8_raise_4 ?_
  refine lv_iconst (v := 1) hx hb dX8_raise_7 (by decide) ?_
  refine lv_isub hx hb dX8_raise_8 ?_
  refine lv_istore_n (lv' := [(3, .int ((nI (wr 1)) - 1)), (0, .ref h), (1, .int n1), (2, .int n2)]) hx hb dX8_raise_9 rfl hl (by decide) rfl (fun ls hl => ?_)
  refine lv_aload_n hx hb dX8_raise_10 rfl (lv_at hl 1 rfl) ?_
  refine va_get (D := D) (ci := 8) (v := .ref rh) (C := RX8) (T := TX8) (N := 11) hx hb hts inlX8 hown hK hP 0 rfl rfl 6 (by decide) (hts _ q132) (fun _ h => h) rfl dX8_raise_11 ?_
  refine va_get (D := D) (ci := 4) (v := .ref (ca 2)) (C := RX4) (T := TX4) (N := 12) hx hb hts inlX4 hown hK hP 22 rfl rfl 1 (by decide) (hts _ q1103) (fun _ h => h) rfl dX8_raise_14 ?_
  refine vz_Vi2 (ws' := fun u : (Nat × (Nat → Int32)) => vz_w [woW g h wa wi wr wf ph rh (la 0), pgW g ph pa pr pf, rcW g rh ca ci (vz_un cr 1 u.1) (vz_uf cf 1 u.2), plW g la lr lf lmx]) (As := []) (rest := []) hx hb hml hown hts hK hA hP hD hS (c_T_add l D g (ca 2) (ca 3) H.size 7 400 (cr 1) 2800 (cf 1) ⟨rfl, by decide, by decide, by decide, by decide, hw_c 1⟩) kv_X8_83 ⟨Nat.le_of_ble_eq_true rfl, Nat.le_of_ble_eq_true rfl⟩ (q0 := 25) (ci := 6) rfl rfl rfl [25, 26] rfl (by decide) (fun _ => rfl) (fun _ => rfl) hl.1 (Nat.le_of_ble_eq_true rfl) dX8_raise_17 ⟨Nat.le_refl _, Nat.le_refl _⟩ rfl (fun v3 ⟨u1R, u1f⟩ H locs ha2 _ hP hD hS => ?_)
  have hq : (cr 1) ≤ 400 := hw_c 1
  replace ha2 : u1R ≤ 400 := by rcases ha2 with ⟨z1, -, z2, -⟩ | ⟨z1, -, z2, -⟩ <;> (dsimp only at z2; omega)
  obtain ⟨cr_4, hw_cr_4, cf_5, hP, hD⟩ : ∃ cr_4 : Nat → Nat, (∀ k, cr_4 k ≤ rcW_lim k) ∧ ∃ cf_5 : Nat → Nat → Int32, va_P D vwCl (vz_w [woW g h wa wi wr wf ph rh (la 0), pgW g ph pa pr pf, rcW g rh ca ci cr_4 cf_5, plW g la lr lf lmx]) H ∧ va_D A (vz_w [woW g h wa wi wr wf ph rh (la 0), pgW g ph pa pr pf, rcW g rh ca ci cr_4 cf_5, plW g la lr lf lmx]) := ⟨(vz_un cr 1 u1R), (vz_wf hw_c (t := 1) (v := u1R) (ha2)), (vz_uf cf 1 u1f), hP, hD⟩
  refine lv_istore (lv' := [(4, .int v3), (3, .int ((nI (wr 1)) - 1)), (0, .ref h), (1, .int n1), (2, .int n2)]) hx hb dX8_raise_20 hl (by decide) rfl (fun ls hl => ?_)
  refine lv_aload_n hx hb dX8_raise_22 rfl (lv_at hl 2 rfl) ?_
  refine va_get (D := D) (ci := 8) (v := .ref rh) (C := RX8) (T := TX8) (N := 11) hx hb hts inlX8 hown hK hP 0 rfl rfl 6 (by decide) (hts _ q132) (fun _ h => h) rfl dX8_raise_23 ?_
  refine va_get (D := D) (ci := 4) (v := .ref (ca 2)) (C := RX4) (T := TX4) (N := 12) hx hb hts inlX4 hown hK hP 22 rfl rfl 1 (by decide) (hts _ q1103) (fun _ h => h) rfl dX8_raise_26 ?_
  refine lv_iload hx hb dX8_raise_29 (lv_at hl 0 rfl) ?_
  refine lv_iconst (v := 0) hx hb dX8_raise_31 (by decide) ?_
  refine lv_iload_n hx hb dX8_raise_32 rfl (lv_at hl 3 rfl) ?_
  refine vz_Vv2 (ws' := fun u : (Nat → Int32) => vz_w [woW g h wa wi wr wf ph rh (la 0), pgW g ph pa pr pf, rcW g rh ca ci cr_4 (vz_uf cf_5 1 u), plW g la lr lf lmx]) (As := [.int v3, .int 0, .int n1]) (rest := []) hx hb hml hown hts hK hA hP hD hS (c_T_set l D g (ca 2) (ca 3) H.size 7 400 (cr_4 1) 2800 (cf_5 1) v3 0 n1 ⟨rfl, by decide, by decide, by decide, by decide, hw_cr_4 1⟩) kv_X8_91 ⟨Nat.le_of_ble_eq_true rfl, Nat.le_of_ble_eq_true rfl⟩ (q0 := 25) (ci := 6) rfl rfl rfl [25, 26] rfl (by decide) (fun _ => rfl) (fun _ => rfl) hl.1 (Nat.le_of_ble_eq_true rfl) dX8_raise_33 ⟨Nat.le_refl _, Nat.le_refl _⟩ rfl (fun nf6 H locs _ _ hP hD hS => ?_)
  obtain ⟨cf_7, hP, hD⟩ : ∃ cf_7 : Nat → Nat → Int32, va_P D vwCl (vz_w [woW g h wa wi wr wf ph rh (la 0), pgW g ph pa pr pf, rcW g rh ca ci cr_4 cf_7, plW g la lr lf lmx]) H ∧ va_D A (vz_w [woW g h wa wi wr wf ph rh (la 0), pgW g ph pa pr pf, rcW g rh ca ci cr_4 cf_7, plW g la lr lf lmx]) := ⟨(vz_uf cf_5 1 nf6), hP, hD⟩
  refine lv_aload_n hx hb dX8_raise_36 rfl (lv_at hl 2 rfl) ?_
  refine va_get (D := D) (ci := 8) (v := .ref rh) (C := RX8) (T := TX8) (N := 11) hx hb hts inlX8 hown hK hP 0 rfl rfl 6 (by decide) (hts _ q132) (fun _ h => h) rfl dX8_raise_37 ?_
  refine va_get (D := D) (ci := 4) (v := .ref (ca 2)) (C := RX4) (T := TX4) (N := 12) hx hb hts inlX4 hown hK hP 22 rfl rfl 1 (by decide) (hts _ q1103) (fun _ h => h) rfl dX8_raise_40 ?_
  refine lv_iload hx hb dX8_raise_43 (lv_at hl 0 rfl) ?_
  refine lv_iconst (v := 1) hx hb dX8_raise_45 (by decide) ?_
  refine lv_iload_n hx hb dX8_raise_46 rfl (lv_at hl 4 rfl) ?_
  refine vz_Vv2 (ws' := fun u : (Nat → Int32) => vz_w [woW g h wa wi wr wf ph rh (la 0), pgW g ph pa pr pf, rcW g rh ca ci cr_4 (vz_uf cf_7 1 u), plW g la lr lf lmx]) (As := [.int v3, .int 1, .int n2]) (rest := []) hx hb hml hown hts hK hA hP hD hS (c_T_set l D g (ca 2) (ca 3) H.size 7 400 (cr_4 1) 2800 (cf_7 1) v3 1 n2 ⟨rfl, by decide, by decide, by decide, by decide, hw_cr_4 1⟩) kv_X8_91 ⟨Nat.le_of_ble_eq_true rfl, Nat.le_of_ble_eq_true rfl⟩ (q0 := 25) (ci := 6) rfl rfl rfl [25, 26] rfl (by decide) (fun _ => rfl) (fun _ => rfl) hl.1 (Nat.le_of_ble_eq_true rfl) dX8_raise_47 ⟨Nat.le_refl _, Nat.le_refl _⟩ rfl (fun nf8 H locs _ _ hP hD hS => ?_)
  obtain ⟨cf_9, hP, hD⟩ : ∃ cf_9 : Nat → Nat → Int32, va_P D vwCl (vz_w [woW g h wa wi wr wf ph rh (la 0), pgW g ph pa pr pf, rcW g rh ca ci cr_4 cf_9, plW g la lr lf lmx]) H ∧ va_D A (vz_w [woW g h wa wi wr wf ph rh (la 0), pgW g ph pa pr pf, rcW g rh ca ci cr_4 cf_9, plW g la lr lf lmx]) := ⟨(vz_uf cf_7 1 nf8), hP, hD⟩
  refine lv_aload_n hx hb dX8_raise_50 rfl (lv_at hl 2 rfl) ?_
  refine va_get (D := D) (ci := 8) (v := .ref rh) (C := RX8) (T := TX8) (N := 11) hx hb hts inlX8 hown hK hP 0 rfl rfl 6 (by decide) (hts _ q132) (fun _ h => h) rfl dX8_raise_51 ?_
  refine va_get (D := D) (ci := 4) (v := .ref (ca 2)) (C := RX4) (T := TX4) (N := 12) hx hb hts inlX4 hown hK hP 22 rfl rfl 1 (by decide) (hts _ q1103) (fun _ h => h) rfl dX8_raise_54 ?_
  refine lv_iload hx hb dX8_raise_57 (lv_at hl 0 rfl) ?_
  refine lv_iconst (v := 4) hx hb dX8_raise_59 (by decide) ?_
  refine lv_aload_n hx hb dX8_raise_60 rfl (lv_at hl 2 rfl) ?_
  refine va_get (D := D) (ci := 8) (v := .ref (wa 2)) (C := RX8) (T := TX8) (N := 11) hx hb hts inlX8 hown hK hP 0 rfl rfl 1 (by decide) (hts _ q135) (fun _ h => h) rfl dX8_raise_61 ?_
  refine lv_iload_n hx hb dX8_raise_64 rfl (lv_at hl 1 rfl) ?_
  refine lv_iconst (v := 0) hx hb dX8_raise_65 (by decide) ?_
  refine vz_Vi2 (ws' := fun u : Unit => vz_w [woW g h wa wi wr wf ph rh (la 0), pgW g ph pa pr pf, rcW g rh ca ci cr_4 cf_9, plW g la lr lf lmx]) (As := [.int ((nI (wr 1)) - 1), .int 0]) (rest := [.int 4, .int v3, .ref (ca 2)]) hx hb hml hown hts hK hA hP hD hS (c_T_get l D g (wa 2) (wa 3) H.size 12 12 (wr 1) 144 (wf 1) ((nI (wr 1)) - 1) 0 ⟨rfl, by decide, by decide, by decide, by decide, hw_w 1⟩) kv_X8_110 ⟨Nat.le_of_ble_eq_true rfl, Nat.le_of_ble_eq_true rfl⟩ (q0 := 3) (ci := 6) rfl rfl rfl [3, 4] rfl (by decide) (fun _ => rfl) (fun _ => rfl) hl.1 (Nat.le_of_ble_eq_true rfl) dX8_raise_66 ⟨Nat.le_refl _, Nat.le_refl _⟩ rfl (fun v10 _ H locs he11 _ hP hD hS => ?_)
  refine vz_Vv2 (ws' := fun u : (Nat → Int32) => vz_w [woW g h wa wi wr wf ph rh (la 0), pgW g ph pa pr pf, rcW g rh ca ci cr_4 (vz_uf cf_9 1 u), plW g la lr lf lmx]) (As := [.int v3, .int 4, .int v10]) (rest := []) hx hb hml hown hts hK hA hP hD hS (c_T_set l D g (ca 2) (ca 3) H.size 7 400 (cr_4 1) 2800 (cf_9 1) v3 4 v10 ⟨rfl, by decide, by decide, by decide, by decide, hw_cr_4 1⟩) kv_X8_91 ⟨Nat.le_of_ble_eq_true rfl, Nat.le_of_ble_eq_true rfl⟩ (q0 := 25) (ci := 6) rfl rfl rfl [25, 26] rfl (by decide) (fun _ => rfl) (fun _ => rfl) hl.1 (Nat.le_of_ble_eq_true rfl) dX8_raise_69 ⟨Nat.le_refl _, Nat.le_refl _⟩ rfl (fun nf12 H locs _ _ hP hD hS => ?_)
  obtain ⟨cf_13, hP, hD⟩ : ∃ cf_13 : Nat → Nat → Int32, va_P D vwCl (vz_w [woW g h wa wi wr wf ph rh (la 0), pgW g ph pa pr pf, rcW g rh ca ci cr_4 cf_13, plW g la lr lf lmx]) H ∧ va_D A (vz_w [woW g h wa wi wr wf ph rh (la 0), pgW g ph pa pr pf, rcW g rh ca ci cr_4 cf_13, plW g la lr lf lmx]) := ⟨(vz_uf cf_9 1 nf12), hP, hD⟩
  refine lv_aload_n hx hb dX8_raise_72 rfl (lv_at hl 2 rfl) ?_
  refine va_get (D := D) (ci := 8) (v := .ref rh) (C := RX8) (T := TX8) (N := 11) hx hb hts inlX8 hown hK hP 0 rfl rfl 6 (by decide) (hts _ q132) (fun _ h => h) rfl dX8_raise_73 ?_
  refine va_get (D := D) (ci := 4) (v := .ref (ca 2)) (C := RX4) (T := TX4) (N := 12) hx hb hts inlX4 hown hK hP 22 rfl rfl 1 (by decide) (hts _ q1103) (fun _ h => h) rfl dX8_raise_76 ?_
  refine lv_iload hx hb dX8_raise_79 (lv_at hl 0 rfl) ?_
  refine lv_iconst (v := 5) hx hb dX8_raise_81 (by decide) ?_
  refine lv_aload_n hx hb dX8_raise_82 rfl (lv_at hl 2 rfl) ?_
  refine va_get (D := D) (ci := 8) (v := .ref (wa 2)) (C := RX8) (T := TX8) (N := 11) hx hb hts inlX8 hown hK hP 0 rfl rfl 1 (by decide) (hts _ q135) (fun _ h => h) rfl dX8_raise_83 ?_
  refine va_get (D := D) (ci := 6) (v := .int (nI (wr 1))) (C := RX6) (T := TX6) (N := 4) hx hb hts inlX6 hown hK hP 3 rfl rfl 3 (by decide) (hts _ q1021) (fun _ h => h) rfl dX8_raise_86 ?_
  refine vz_Vv2 (ws' := fun u : (Nat → Int32) => vz_w [woW g h wa wi wr wf ph rh (la 0), pgW g ph pa pr pf, rcW g rh ca ci cr_4 (vz_uf cf_13 1 u), plW g la lr lf lmx]) (As := [.int v3, .int 5, .int (nI (wr 1))]) (rest := []) hx hb hml hown hts hK hA hP hD hS (c_T_set l D g (ca 2) (ca 3) H.size 7 400 (cr_4 1) 2800 (cf_13 1) v3 5 (nI (wr 1)) ⟨rfl, by decide, by decide, by decide, by decide, hw_cr_4 1⟩) kv_X8_91 ⟨Nat.le_of_ble_eq_true rfl, Nat.le_of_ble_eq_true rfl⟩ (q0 := 25) (ci := 6) rfl rfl rfl [25, 26] rfl (by decide) (fun _ => rfl) (fun _ => rfl) hl.1 (Nat.le_of_ble_eq_true rfl) dX8_raise_89 ⟨Nat.le_refl _, Nat.le_refl _⟩ rfl (fun nf14 H locs _ _ hP hD hS => ?_)
  obtain ⟨cf_15, hP, hD⟩ : ∃ cf_15 : Nat → Nat → Int32, va_P D vwCl (vz_w [woW g h wa wi wr wf ph rh (la 0), pgW g ph pa pr pf, rcW g rh ca ci cr_4 cf_15, plW g la lr lf lmx]) H ∧ va_D A (vz_w [woW g h wa wi wr wf ph rh (la 0), pgW g ph pa pr pf, rcW g rh ca ci cr_4 cf_15, plW g la lr lf lmx]) := ⟨(vz_uf cf_13 1 nf14), hP, hD⟩
  refine lv_aload_n hx hb dX8_raise_92 rfl (lv_at hl 2 rfl) ?_
  refine va_get (D := D) (ci := 8) (v := .ref rh) (C := RX8) (T := TX8) (N := 11) hx hb hts inlX8 hown hK hP 0 rfl rfl 6 (by decide) (hts _ q132) (fun _ h => h) rfl dX8_raise_93 ?_
  refine va_get (D := D) (ci := 4) (v := .ref (ca 2)) (C := RX4) (T := TX4) (N := 12) hx hb hts inlX4 hown hK hP 22 rfl rfl 1 (by decide) (hts _ q1103) (fun _ h => h) rfl dX8_raise_96 ?_
  refine lv_iload hx hb dX8_raise_99 (lv_at hl 0 rfl) ?_
  refine lv_bipush (v := 6) hx hb dX8_raise_101 (by decide) ?_
  refine lv_aload_n hx hb dX8_raise_103 rfl (lv_at hl 2 rfl) ?_
  refine va_get (D := D) (ci := 8) (v := .ref (wa 2)) (C := RX8) (T := TX8) (N := 11) hx hb hts inlX8 hown hK hP 0 rfl rfl 1 (by decide) (hts _ q135) (fun _ h => h) rfl dX8_raise_104 ?_
  refine lv_iload_n hx hb dX8_raise_107 rfl (lv_at hl 1 rfl) ?_
  refine lv_iconst (v := 1) hx hb dX8_raise_108 (by decide) ?_
  refine vz_Vi2 (ws' := fun u : Unit => vz_w [woW g h wa wi wr wf ph rh (la 0), pgW g ph pa pr pf, rcW g rh ca ci cr_4 cf_15, plW g la lr lf lmx]) (As := [.int ((nI (wr 1)) - 1), .int 1]) (rest := [.int 6, .int v3, .ref (ca 2)]) hx hb hml hown hts hK hA hP hD hS (c_T_get l D g (wa 2) (wa 3) H.size 12 12 (wr 1) 144 (wf 1) ((nI (wr 1)) - 1) 1 ⟨rfl, by decide, by decide, by decide, by decide, hw_w 1⟩) kv_X8_110 ⟨Nat.le_of_ble_eq_true rfl, Nat.le_of_ble_eq_true rfl⟩ (q0 := 3) (ci := 6) rfl rfl rfl [3, 4] rfl (by decide) (fun _ => rfl) (fun _ => rfl) hl.1 (Nat.le_of_ble_eq_true rfl) dX8_raise_109 ⟨Nat.le_refl _, Nat.le_refl _⟩ rfl (fun v16 _ H locs he17 _ hP hD hS => ?_)
  refine vz_Vv2 (ws' := fun u : (Nat → Int32) => vz_w [woW g h wa wi wr wf ph rh (la 0), pgW g ph pa pr pf, rcW g rh ca ci cr_4 (vz_uf cf_15 1 u), plW g la lr lf lmx]) (As := [.int v3, .int 6, .int v16]) (rest := []) hx hb hml hown hts hK hA hP hD hS (c_T_set l D g (ca 2) (ca 3) H.size 7 400 (cr_4 1) 2800 (cf_15 1) v3 6 v16 ⟨rfl, by decide, by decide, by decide, by decide, hw_cr_4 1⟩) kv_X8_91 ⟨Nat.le_of_ble_eq_true rfl, Nat.le_of_ble_eq_true rfl⟩ (q0 := 25) (ci := 6) rfl rfl rfl [25, 26] rfl (by decide) (fun _ => rfl) (fun _ => rfl) hl.1 (Nat.le_of_ble_eq_true rfl) dX8_raise_112 ⟨Nat.le_refl _, Nat.le_refl _⟩ rfl (fun nf18 H locs _ _ hP hD hS => ?_)
  obtain ⟨cf_19, hP, hD⟩ : ∃ cf_19 : Nat → Nat → Int32, va_P D vwCl (vz_w [woW g h wa wi wr wf ph rh (la 0), pgW g ph pa pr pf, rcW g rh ca ci cr_4 cf_19, plW g la lr lf lmx]) H ∧ va_D A (vz_w [woW g h wa wi wr wf ph rh (la 0), pgW g ph pa pr pf, rcW g rh ca ci cr_4 cf_19, plW g la lr lf lmx]) := ⟨(vz_uf cf_15 1 nf18), hP, hD⟩
  refine lv_aload_n hx hb dX8_raise_115 rfl (lv_at hl 2 rfl) ?_
  refine lv_iload hx hb dX8_raise_116 (lv_at hl 0 rfl) ?_
  refine va_put (D := D) (ci := 8) (v := .int v3) (ty := .int) (C := RX8) (T := TX8) (N := 11) hx hb hts inlX8 tyX8 tyX8_ok nmX8 hown hK hP hD hS 0 rfl rfl 9 (by decide) (hts _ q139) (fun _ h => h) rfl (by decide +kernel) rfl rfl (Nat.le_of_ble_eq_true rfl) dX8_raise_118 (fun H locs hP hD hS => ?_)
  obtain ⟨wi_20, hwi_20, hP, hD⟩ : ∃ wi_20 : Nat → Int32, (wi_20 = (upd wi 1 v3)) ∧ va_P D vwCl (vz_w [woW g h wa wi_20 wr wf ph rh (la 0), pgW g ph pa pr pf, rcW g rh ca ci cr_4 cf_19, plW g la lr lf lmx]) H ∧ va_D A (vz_w [woW g h wa wi_20 wr wf ph rh (la 0), pgW g ph pa pr pf, rcW g rh ca ci cr_4 cf_19, plW g la lr lf lmx]) := ⟨(upd wi 1 v3), rfl, hP, hD⟩
  rw [hQ]
  exact vz_vret3 hx hb hr hlk hK hP hD hS (wi_20, cr_4, cf_19) hw_cr_4 rfl (Nat.le_refl 0) (Nat.le_refl 0) dX8_raise_121
theorem dX8_suppress_0 : decode cX8_suppress 0 = .ok (.aload_n 0, 1) := by decide +kernel
theorem dX8_suppress_1 : decode cX8_suppress 1 = .ok (.getfield 19, 3) := by decide +kernel
theorem dX8_suppress_4 : decode cX8_suppress 4 = .ok (.getfield 113, 3) := by decide +kernel
theorem dX8_suppress_7 : decode cX8_suppress 7 = .ok (.iload_n 1, 1) := by decide +kernel
theorem dX8_suppress_8 : decode cX8_suppress 8 = .ok (.iconst 2, 1) := by decide +kernel
theorem dX8_suppress_9 : decode cX8_suppress 9 = .ok (.invokevirtual 110, 3) := by decide +kernel
theorem dX8_suppress_12 : decode cX8_suppress 12 = .ok (.istore_n 3, 1) := by decide +kernel
theorem dX8_suppress_13 : decode cX8_suppress 13 = .ok (.iload_n 3, 1) := by decide +kernel
theorem dX8_suppress_14 : decode cX8_suppress 14 = .ok (.bipush (-9), 2) := by decide +kernel
theorem dX8_suppress_16 : decode cX8_suppress 16 = .ok (.if_icmp .ne 17, 3) := by decide +kernel
theorem dX8_suppress_19 : decode cX8_suppress 19 = .ok (.aload_n 0, 1) := by decide +kernel
theorem dX8_suppress_20 : decode cX8_suppress 20 = .ok (.getfield 19, 3) := by decide +kernel
theorem dX8_suppress_23 : decode cX8_suppress 23 = .ok (.getfield 113, 3) := by decide +kernel
theorem dX8_suppress_26 : decode cX8_suppress 26 = .ok (.iload_n 1, 1) := by decide +kernel
theorem dX8_suppress_27 : decode cX8_suppress 27 = .ok (.iconst 2, 1) := by decide +kernel
theorem dX8_suppress_28 : decode cX8_suppress 28 = .ok (.iload_n 2, 1) := by decide +kernel
theorem dX8_suppress_29 : decode cX8_suppress 29 = .ok (.invokevirtual 91, 3) := by decide +kernel
theorem dX8_suppress_32 : decode cX8_suppress 32 = .ok (.return_, 1) := by decide +kernel
theorem dX8_suppress_33 : decode cX8_suppress 33 = .ok (.iconst 0, 1) := by decide +kernel
theorem dX8_suppress_34 : decode cX8_suppress 34 = .ok (.istore 4, 2) := by decide +kernel
theorem dX8_suppress_36 : decode cX8_suppress 36 = .ok (.iload 4, 2) := by decide +kernel
theorem dX8_suppress_38 : decode cX8_suppress 38 = .ok (.sipush 400, 3) := by decide +kernel
theorem dX8_suppress_41 : decode cX8_suppress 41 = .ok (.if_icmp .ge 39, 3) := by decide +kernel
theorem dX8_suppress_44 : decode cX8_suppress 44 = .ok (.aload_n 0, 1) := by decide +kernel
theorem dX8_suppress_45 : decode cX8_suppress 45 = .ok (.getfield 19, 3) := by decide +kernel
theorem dX8_suppress_48 : decode cX8_suppress 48 = .ok (.getfield 113, 3) := by decide +kernel
theorem dX8_suppress_51 : decode cX8_suppress 51 = .ok (.iload_n 3, 1) := by decide +kernel
theorem dX8_suppress_52 : decode cX8_suppress 52 = .ok (.iconst 3, 1) := by decide +kernel
theorem dX8_suppress_53 : decode cX8_suppress 53 = .ok (.invokevirtual 110, 3) := by decide +kernel
theorem dX8_suppress_56 : decode cX8_suppress 56 = .ok (.bipush (-9), 2) := by decide +kernel
theorem dX8_suppress_58 : decode cX8_suppress 58 = .ok (.if_icmp .eq 22, 3) := by decide +kernel
theorem dX8_suppress_61 : decode cX8_suppress 61 = .ok (.aload_n 0, 1) := by decide +kernel
theorem dX8_suppress_62 : decode cX8_suppress 62 = .ok (.getfield 19, 3) := by decide +kernel
theorem dX8_suppress_65 : decode cX8_suppress 65 = .ok (.getfield 113, 3) := by decide +kernel
theorem dX8_suppress_68 : decode cX8_suppress 68 = .ok (.iload_n 3, 1) := by decide +kernel
theorem dX8_suppress_69 : decode cX8_suppress 69 = .ok (.iconst 3, 1) := by decide +kernel
theorem dX8_suppress_70 : decode cX8_suppress 70 = .ok (.invokevirtual 110, 3) := by decide +kernel
theorem dX8_suppress_73 : decode cX8_suppress 73 = .ok (.istore_n 3, 1) := by decide +kernel
theorem dX8_suppress_74 : decode cX8_suppress 74 = .ok (.iinc 4 1, 3) := by decide +kernel
theorem dX8_suppress_77 : decode cX8_suppress 77 = .ok (.goto (-41), 3) := by decide +kernel
theorem dX8_suppress_80 : decode cX8_suppress 80 = .ok (.aload_n 0, 1) := by decide +kernel
theorem dX8_suppress_81 : decode cX8_suppress 81 = .ok (.getfield 19, 3) := by decide +kernel
theorem dX8_suppress_84 : decode cX8_suppress 84 = .ok (.getfield 113, 3) := by decide +kernel
theorem dX8_suppress_87 : decode cX8_suppress 87 = .ok (.iload_n 3, 1) := by decide +kernel
theorem dX8_suppress_88 : decode cX8_suppress 88 = .ok (.iconst 3, 1) := by decide +kernel
theorem dX8_suppress_89 : decode cX8_suppress 89 = .ok (.iload_n 2, 1) := by decide +kernel
theorem dX8_suppress_90 : decode cX8_suppress 90 = .ok (.invokevirtual 91, 3) := by decide +kernel
theorem dX8_suppress_93 : decode cX8_suppress 93 = .ok (.return_, 1) := by decide +kernel
set_option maxHeartbeats 8000000 in
set_option maxRecDepth 100000 in
theorem a_W_suppress (l : Launch) (D : va_G) (g : Nat → ClassId)   (sz : Nat) (h : Nat) (wa : Nat → Nat) (wi : Nat → Int32) (wr : Nat → Nat) (wf : Nat → Nat → Int32) (ph : Nat) (rh : Nat) (la : Nat → Nat) (pa : Nat → Nat) (pr : Nat → Nat) (pf : Nat → Nat → Int32) (ca : Nat → Nat) (ci : Nat → Int32) (cr : Nat → Nat) (cf : Nat → Nat → Int32) (lr : Nat → Nat) (lf : Nat → Nat → Int32) (lmx : Nat) (n1 : Int32) (n2 : Int32) (hw_w : ∀ k, wr k ≤ woW_lim k) (hw_p : ∀ k, pr k ≤ pgW_lim k) (hw_c : ∀ k, cr k ≤ rcW_lim k) (hw_l : ∀ k, lr k ≤ (plW_lim lmx) k) (hmx_l : lmx ≤ 30) : vz_Mv l D (tyG g) yX8_suppress cX8_suppress 5 1 24 0 0 [.ref h, .int n1, .int n2] sz (vz_w [woW g h wa wi wr wf ph rh (la 0), pgW g ph pa pr pf, rcW g rh ca ci cr cf, plW g la lr lf lmx]) (fun u : (Nat → Nat → Int32) => True) (fun u => vz_w [woW g h wa wi wr wf ph rh (la 0), pgW g ph pa pr pf, rcW g rh ca ci cr u, plW g la lr lf lmx]) := by
  refine vz_svQ (by decide) (Nat.le_of_ble_eq_true rfl) (fun p e s m args below meth c hx hb hr hml hts hown hlk hin hK hsz A hA H locs hP hD hS ls hl Q hQ => ?_)
  have hl : lv_has ls 5 [(0, .ref h), (1, .int n1), (2, .int n2)] := hl
  have J80 : ∀ (x3_80 : Int32), ∀ (x4_80 : Int32), ∀ (cf_80 : Nat → Nat → Int32), ∀ (H : Heap) (locs : List Loc) (ls : Array Slot), va_P D vwCl (vz_w [woW g h wa wi wr wf ph rh (la 0), pgW g ph pa pr pf, rcW g rh ca ci cr cf_80, plW g la lr lf lmx]) H → va_D A (vz_w [woW g h wa wi wr wf ph rh (la 0), pgW g ph pa pr pf, rcW g rh ca ci cr cf_80, plW g la lr lf lmx]) → va_S A s.heap H locs → lv_has ls 5 [(0, .ref h), (1, .int n1), (2, .int n2), (3, .int x3_80), (4, .int x4_80)] → W p l e { frames := 1, cells := 0, slots := 0, locals := 24 } s m args below meth c H locs 0 0 Q (F0 m 80 ls []) := by
    intro x3_80 x4_80 cf_80 H locs ls hP hD hS hl
    refine lv_aload_n hx hb dX8_suppress_80 rfl (lv_at hl 0 rfl) ?_
    refine va_get (D := D) (ci := 8) (v := .ref rh) (C := RX8) (T := TX8) (N := 11) hx hb hts inlX8 hown hK hP 0 rfl rfl 6 (by decide) (hts _ q132) (fun _ h => h) rfl dX8_suppress_81 ?_
    refine va_get (D := D) (ci := 4) (v := .ref (ca 2)) (C := RX4) (T := TX4) (N := 12) hx hb hts inlX4 hown hK hP 22 rfl rfl 1 (by decide) (hts _ q1103) (fun _ h => h) rfl dX8_suppress_84 ?_
    refine lv_iload_n hx hb dX8_suppress_87 rfl (lv_at hl 3 rfl) ?_
    refine lv_iconst (v := 3) hx hb dX8_suppress_88 (by decide) ?_
    refine lv_iload_n hx hb dX8_suppress_89 rfl (lv_at hl 2 rfl) ?_
    refine vz_Vv2 (ws' := fun u : (Nat → Int32) => vz_w [woW g h wa wi wr wf ph rh (la 0), pgW g ph pa pr pf, rcW g rh ca ci cr (vz_uf cf_80 1 u), plW g la lr lf lmx]) (As := [.int x3_80, .int 3, .int n2]) (rest := []) hx hb hml hown hts hK hA hP hD hS (c_T_set l D g (ca 2) (ca 3) H.size 7 400 (cr 1) 2800 (cf_80 1) x3_80 3 n2 ⟨rfl, by decide, by decide, by decide, by decide, hw_c 1⟩) kv_X8_91 ⟨Nat.le_of_ble_eq_true rfl, Nat.le_of_ble_eq_true rfl⟩ (q0 := 25) (ci := 6) rfl rfl rfl [25, 26] rfl (by decide) (fun _ => rfl) (fun _ => rfl) hl.1 (Nat.le_of_ble_eq_true rfl) dX8_suppress_90 ⟨Nat.le_refl _, Nat.le_refl _⟩ rfl (fun nf1 H locs _ _ hP hD hS => ?_)
    obtain ⟨cf_2, hP, hD⟩ : ∃ cf_2 : Nat → Nat → Int32, va_P D vwCl (vz_w [woW g h wa wi wr wf ph rh (la 0), pgW g ph pa pr pf, rcW g rh ca ci cr cf_2, plW g la lr lf lmx]) H ∧ va_D A (vz_w [woW g h wa wi wr wf ph rh (la 0), pgW g ph pa pr pf, rcW g rh ca ci cr cf_2, plW g la lr lf lmx]) := ⟨(vz_uf cf_80 1 nf1), hP, hD⟩
    rw [hQ]
    exact vz_vret3 hx hb hr hlk hK hP hD hS cf_2 trivial rfl (Nat.le_refl 0) (Nat.le_refl 0) dX8_suppress_93
  have J36 : ∀ (fu36 n36 : Nat), 400 - n36 < fu36 → n36 ≤ 400 → ∀ (x3_36 : Int32), ∀ (cf_36 : Nat → Nat → Int32), ∀ (H : Heap) (locs : List Loc) (ls : Array Slot), va_P D vwCl (vz_w [woW g h wa wi wr wf ph rh (la 0), pgW g ph pa pr pf, rcW g rh ca ci cr cf_36, plW g la lr lf lmx]) H → va_D A (vz_w [woW g h wa wi wr wf ph rh (la 0), pgW g ph pa pr pf, rcW g rh ca ci cr cf_36, plW g la lr lf lmx]) → va_S A s.heap H locs → lv_has ls 5 [(0, .ref h), (1, .int n1), (2, .int n2), (3, .int x3_36), (4, .int (nI n36))] → W p l e { frames := 1, cells := 0, slots := 0, locals := 24 } s m args below meth c H locs 0 0 Q (F0 m 36 ls []) := by
    intro fu36
    induction fu36 with
    | zero => intro n36 z; omega
    | succ fu36 ih36 =>
      intro n36 hf36 hb36 x3_36 cf_36 H locs ls hP hD hS hl
      refine lv_iload hx hb dX8_suppress_36 (lv_at hl 4 rfl) ?_
      refine lv_sipush (v := 400) hx hb dX8_suppress_38 (by decide) ?_
      refine lv_icmp_ge (tgt := 80) hx hb dX8_suppress_41 (by decide) (fun kc1 => ?_) (fun kc1 => ?_)
      · exact J80 x3_36 (nI n36) cf_36 H locs ls hP hD hS (lv_sub hl [0, 1, 2, 3, 4] rfl)
      · have hn36 : n36 < 400 := vz_ltge (B := 400) (by omega) kc1
        refine lv_aload_n hx hb dX8_suppress_44 rfl (lv_at hl 0 rfl) ?_
        refine va_get (D := D) (ci := 8) (v := .ref rh) (C := RX8) (T := TX8) (N := 11) hx hb hts inlX8 hown hK hP 0 rfl rfl 6 (by decide) (hts _ q132) (fun _ h => h) rfl dX8_suppress_45 ?_
        refine va_get (D := D) (ci := 4) (v := .ref (ca 2)) (C := RX4) (T := TX4) (N := 12) hx hb hts inlX4 hown hK hP 22 rfl rfl 1 (by decide) (hts _ q1103) (fun _ h => h) rfl dX8_suppress_48 ?_
        refine lv_iload_n hx hb dX8_suppress_51 rfl (lv_at hl 3 rfl) ?_
        refine lv_iconst (v := 3) hx hb dX8_suppress_52 (by decide) ?_
        refine vz_Vi2 (ws' := fun u : Unit => vz_w [woW g h wa wi wr wf ph rh (la 0), pgW g ph pa pr pf, rcW g rh ca ci cr cf_36, plW g la lr lf lmx]) (As := [.int x3_36, .int 3]) (rest := []) hx hb hml hown hts hK hA hP hD hS (c_T_get l D g (ca 2) (ca 3) H.size 7 400 (cr 1) 2800 (cf_36 1) x3_36 3 ⟨rfl, by decide, by decide, by decide, by decide, hw_c 1⟩) kv_X8_110 ⟨Nat.le_of_ble_eq_true rfl, Nat.le_of_ble_eq_true rfl⟩ (q0 := 25) (ci := 6) rfl rfl rfl [25, 26] rfl (by decide) (fun _ => rfl) (fun _ => rfl) hl.1 (Nat.le_of_ble_eq_true rfl) dX8_suppress_53 ⟨Nat.le_refl _, Nat.le_refl _⟩ rfl (fun v2 _ H locs he3 _ hP hD hS => ?_)
        refine lv_bipush (v := (-9)) hx hb dX8_suppress_56 (by decide) ?_
        refine lv_icmp_eq (tgt := 80) hx hb dX8_suppress_58 (by decide) (fun kc4 => ?_) (fun kc4 => ?_)
        · exact J80 x3_36 (nI n36) cf_36 H locs ls hP hD hS (lv_sub hl [0, 1, 2, 3, 4] rfl)
        · refine lv_aload_n hx hb dX8_suppress_61 rfl (lv_at hl 0 rfl) ?_
          refine va_get (D := D) (ci := 8) (v := .ref rh) (C := RX8) (T := TX8) (N := 11) hx hb hts inlX8 hown hK hP 0 rfl rfl 6 (by decide) (hts _ q132) (fun _ h => h) rfl dX8_suppress_62 ?_
          refine va_get (D := D) (ci := 4) (v := .ref (ca 2)) (C := RX4) (T := TX4) (N := 12) hx hb hts inlX4 hown hK hP 22 rfl rfl 1 (by decide) (hts _ q1103) (fun _ h => h) rfl dX8_suppress_65 ?_
          refine lv_iload_n hx hb dX8_suppress_68 rfl (lv_at hl 3 rfl) ?_
          refine lv_iconst (v := 3) hx hb dX8_suppress_69 (by decide) ?_
          refine vz_Vi2 (ws' := fun u : Unit => vz_w [woW g h wa wi wr wf ph rh (la 0), pgW g ph pa pr pf, rcW g rh ca ci cr cf_36, plW g la lr lf lmx]) (As := [.int x3_36, .int 3]) (rest := []) hx hb hml hown hts hK hA hP hD hS (c_T_get l D g (ca 2) (ca 3) H.size 7 400 (cr 1) 2800 (cf_36 1) x3_36 3 ⟨rfl, by decide, by decide, by decide, by decide, hw_c 1⟩) kv_X8_110 ⟨Nat.le_of_ble_eq_true rfl, Nat.le_of_ble_eq_true rfl⟩ (q0 := 25) (ci := 6) rfl rfl rfl [25, 26] rfl (by decide) (fun _ => rfl) (fun _ => rfl) hl.1 (Nat.le_of_ble_eq_true rfl) dX8_suppress_70 ⟨Nat.le_refl _, Nat.le_refl _⟩ rfl (fun v5 _ H locs he6 _ hP hD hS => ?_)
          refine lv_istore_n (lv' := [(3, .int v5), (0, .ref h), (1, .int n1), (2, .int n2), (4, .int (nI n36))]) hx hb dX8_suppress_73 rfl hl (by decide) rfl (fun ls hl => ?_)
          refine lv_iinc (v := (nI (n36 + 1))) (lv' := [(4, .int (nI (n36 + 1))), (3, .int v5), (0, .ref h), (1, .int n1), (2, .int n2)]) hx hb dX8_suppress_74 hl (k := 4) rfl (nI_1 n36) (by decide) rfl (fun ls hl => ?_)
          refine lv_goto (tgt := 36) hx hb dX8_suppress_77 (by decide) ?_
          exact ih36 (n36 + 1) (by omega) (by omega) v5 cf_36 H locs ls hP hD hS (lv_sub hl [2, 3, 4, 1, 0] rfl)
  refine lv_aload_n hx hb dX8_suppress_0 rfl (lv_at hl 0 rfl) ?_
  refine va_get (D := D) (ci := 8) (v := .ref rh) (C := RX8) (T := TX8) (N := 11) hx hb hts inlX8 hown hK hP 0 rfl rfl 6 (by decide) (hts _ q132) (fun _ h => h) rfl dX8_suppress_1 ?_
  refine va_get (D := D) (ci := 4) (v := .ref (ca 2)) (C := RX4) (T := TX4) (N := 12) hx hb hts inlX4 hown hK hP 22 rfl rfl 1 (by decide) (hts _ q1103) (fun _ h => h) rfl dX8_suppress_4 ?_
  refine lv_iload_n hx hb dX8_suppress_7 rfl (lv_at hl 1 rfl) ?_
  refine lv_iconst (v := 2) hx hb dX8_suppress_8 (by decide) ?_
  refine vz_Vi2 (ws' := fun u : Unit => vz_w [woW g h wa wi wr wf ph rh (la 0), pgW g ph pa pr pf, rcW g rh ca ci cr cf, plW g la lr lf lmx]) (As := [.int n1, .int 2]) (rest := []) hx hb hml hown hts hK hA hP hD hS (c_T_get l D g (ca 2) (ca 3) H.size 7 400 (cr 1) 2800 (cf 1) n1 2 ⟨rfl, by decide, by decide, by decide, by decide, hw_c 1⟩) kv_X8_110 ⟨Nat.le_of_ble_eq_true rfl, Nat.le_of_ble_eq_true rfl⟩ (q0 := 25) (ci := 6) rfl rfl rfl [25, 26] rfl (by decide) (fun _ => rfl) (fun _ => rfl) hl.1 (Nat.le_of_ble_eq_true rfl) dX8_suppress_9 ⟨Nat.le_refl _, Nat.le_refl _⟩ rfl (fun v1 _ H locs he2 _ hP hD hS => ?_)
  refine lv_istore_n (lv' := [(3, .int v1), (0, .ref h), (1, .int n1), (2, .int n2)]) hx hb dX8_suppress_12 rfl hl (by decide) rfl (fun ls hl => ?_)
  refine lv_iload_n hx hb dX8_suppress_13 rfl (lv_at hl 0 rfl) ?_
  refine lv_bipush (v := (-9)) hx hb dX8_suppress_14 (by decide) ?_
  refine lv_icmp_ne (tgt := 33) hx hb dX8_suppress_16 (by decide) (fun kc3 => ?_) (fun kc3 => ?_)
  · refine lv_iconst (v := 0) hx hb dX8_suppress_33 (by decide) ?_
    refine lv_istore (lv' := [(4, .int 0), (3, .int v1), (0, .ref h), (1, .int n1), (2, .int n2)]) hx hb dX8_suppress_34 hl (by decide) rfl (fun ls hl => ?_)
    exact J36 (401) 0 (by omega) (by omega) v1 cf H locs ls hP hD hS (lv_sub hl [2, 3, 4, 1, 0] rfl)
  · refine lv_aload_n hx hb dX8_suppress_19 rfl (lv_at hl 1 rfl) ?_
    refine va_get (D := D) (ci := 8) (v := .ref rh) (C := RX8) (T := TX8) (N := 11) hx hb hts inlX8 hown hK hP 0 rfl rfl 6 (by decide) (hts _ q132) (fun _ h => h) rfl dX8_suppress_20 ?_
    refine va_get (D := D) (ci := 4) (v := .ref (ca 2)) (C := RX4) (T := TX4) (N := 12) hx hb hts inlX4 hown hK hP 22 rfl rfl 1 (by decide) (hts _ q1103) (fun _ h => h) rfl dX8_suppress_23 ?_
    refine lv_iload_n hx hb dX8_suppress_26 rfl (lv_at hl 2 rfl) ?_
    refine lv_iconst (v := 2) hx hb dX8_suppress_27 (by decide) ?_
    refine lv_iload_n hx hb dX8_suppress_28 rfl (lv_at hl 3 rfl) ?_
    refine vz_Vv2 (ws' := fun u : (Nat → Int32) => vz_w [woW g h wa wi wr wf ph rh (la 0), pgW g ph pa pr pf, rcW g rh ca ci cr (vz_uf cf 1 u), plW g la lr lf lmx]) (As := [.int n1, .int 2, .int n2]) (rest := []) hx hb hml hown hts hK hA hP hD hS (c_T_set l D g (ca 2) (ca 3) H.size 7 400 (cr 1) 2800 (cf 1) n1 2 n2 ⟨rfl, by decide, by decide, by decide, by decide, hw_c 1⟩) kv_X8_91 ⟨Nat.le_of_ble_eq_true rfl, Nat.le_of_ble_eq_true rfl⟩ (q0 := 25) (ci := 6) rfl rfl rfl [25, 26] rfl (by decide) (fun _ => rfl) (fun _ => rfl) hl.1 (Nat.le_of_ble_eq_true rfl) dX8_suppress_29 ⟨Nat.le_refl _, Nat.le_refl _⟩ rfl (fun nf4 H locs _ _ hP hD hS => ?_)
    obtain ⟨cf_5, hP, hD⟩ : ∃ cf_5 : Nat → Nat → Int32, va_P D vwCl (vz_w [woW g h wa wi wr wf ph rh (la 0), pgW g ph pa pr pf, rcW g rh ca ci cr cf_5, plW g la lr lf lmx]) H ∧ va_D A (vz_w [woW g h wa wi wr wf ph rh (la 0), pgW g ph pa pr pf, rcW g rh ca ci cr cf_5, plW g la lr lf lmx]) := ⟨(vz_uf cf 1 nf4), hP, hD⟩
    rw [hQ]
    exact vz_vret3 hx hb hr hlk hK hP hD hS cf_5 trivial rfl (Nat.le_refl 0) (Nat.le_refl 0) dX8_suppress_32
theorem q138 : Cond.fieldLink RX8 40 "WaysAtlas$World" "passed" "LWaysAtlas$Table;" ∈ wsL_law := mT_2 (List.mem_of_getElem? (i := 43) rfl) rfl
theorem q1133 : Cond.fieldLink RX8 116 "WaysAtlas$World" "notesPassings" "Z" ∈ wsL_law := mT_2 (List.mem_of_getElem? (i := 55) rfl) rfl
theorem q134 : Cond.fieldLink RX8 28 "WaysAtlas$World" "passings" "LWaysAtlas$Table;" ∈ wsL_law := mT_2 (List.mem_of_getElem? (i := 38) rfl) rfl
theorem q131 : Cond.fieldLink RX8 15 "WaysAtlas$World" "plan" "LWaysAtlas$Table;" ∈ wsL_law := mT_2 (List.mem_of_getElem? (i := 50) rfl) rfl
theorem dX8_pass_0 : decode cX8_pass 0 = .ok (.aload_n 0, 1) := by decide +kernel
theorem dX8_pass_1 : decode cX8_pass 1 = .ok (.getfield 40, 3) := by decide +kernel
theorem dX8_pass_4 : decode cX8_pass 4 = .ok (.iload_n 1, 1) := by decide +kernel
theorem dX8_pass_5 : decode cX8_pass 5 = .ok (.iload_n 2, 1) := by decide +kernel
theorem dX8_pass_6 : decode cX8_pass 6 = .ok (.invokevirtual 110, 3) := by decide +kernel
theorem dX8_pass_9 : decode cX8_pass 9 = .ok (.iconst 1, 1) := by decide +kernel
theorem dX8_pass_10 : decode cX8_pass 10 = .ok (.iadd, 1) := by decide +kernel
theorem dX8_pass_11 : decode cX8_pass 11 = .ok (.istore_n 3, 1) := by decide +kernel
theorem dX8_pass_12 : decode cX8_pass 12 = .ok (.aload_n 0, 1) := by decide +kernel
theorem dX8_pass_13 : decode cX8_pass 13 = .ok (.getfield 40, 3) := by decide +kernel
theorem dX8_pass_16 : decode cX8_pass 16 = .ok (.iload_n 1, 1) := by decide +kernel
theorem dX8_pass_17 : decode cX8_pass 17 = .ok (.iload_n 2, 1) := by decide +kernel
theorem dX8_pass_18 : decode cX8_pass 18 = .ok (.iload_n 3, 1) := by decide +kernel
theorem dX8_pass_19 : decode cX8_pass 19 = .ok (.invokevirtual 91, 3) := by decide +kernel
theorem dX8_pass_22 : decode cX8_pass 22 = .ok (.aload_n 0, 1) := by decide +kernel
theorem dX8_pass_23 : decode cX8_pass 23 = .ok (.getfield 116, 3) := by decide +kernel
theorem dX8_pass_26 : decode cX8_pass 26 = .ok (.ifCond .eq 45, 3) := by decide +kernel
theorem dX8_pass_29 : decode cX8_pass 29 = .ok (.aload_n 0, 1) := by decide +kernel
theorem dX8_pass_30 : decode cX8_pass 30 = .ok (.getfield 28, 3) := by decide +kernel
theorem dX8_pass_33 : decode cX8_pass 33 = .ok (.invokevirtual 83, 3) := by decide +kernel
theorem dX8_pass_36 : decode cX8_pass 36 = .ok (.istore 4, 2) := by decide +kernel
theorem dX8_pass_38 : decode cX8_pass 38 = .ok (.aload_n 0, 1) := by decide +kernel
theorem dX8_pass_39 : decode cX8_pass 39 = .ok (.getfield 28, 3) := by decide +kernel
theorem dX8_pass_42 : decode cX8_pass 42 = .ok (.iload 4, 2) := by decide +kernel
theorem dX8_pass_44 : decode cX8_pass 44 = .ok (.iconst 0, 1) := by decide +kernel
theorem dX8_pass_45 : decode cX8_pass 45 = .ok (.iload_n 1, 1) := by decide +kernel
theorem dX8_pass_46 : decode cX8_pass 46 = .ok (.invokevirtual 91, 3) := by decide +kernel
theorem dX8_pass_49 : decode cX8_pass 49 = .ok (.aload_n 0, 1) := by decide +kernel
theorem dX8_pass_50 : decode cX8_pass 50 = .ok (.getfield 28, 3) := by decide +kernel
theorem dX8_pass_53 : decode cX8_pass 53 = .ok (.iload 4, 2) := by decide +kernel
theorem dX8_pass_55 : decode cX8_pass 55 = .ok (.iconst 1, 1) := by decide +kernel
theorem dX8_pass_56 : decode cX8_pass 56 = .ok (.iload_n 2, 1) := by decide +kernel
theorem dX8_pass_57 : decode cX8_pass 57 = .ok (.invokevirtual 91, 3) := by decide +kernel
theorem dX8_pass_60 : decode cX8_pass 60 = .ok (.aload_n 0, 1) := by decide +kernel
theorem dX8_pass_61 : decode cX8_pass 61 = .ok (.getfield 28, 3) := by decide +kernel
theorem dX8_pass_64 : decode cX8_pass 64 = .ok (.iload 4, 2) := by decide +kernel
theorem dX8_pass_66 : decode cX8_pass 66 = .ok (.iconst 2, 1) := by decide +kernel
theorem dX8_pass_67 : decode cX8_pass 67 = .ok (.iload_n 3, 1) := by decide +kernel
theorem dX8_pass_68 : decode cX8_pass 68 = .ok (.invokevirtual 91, 3) := by decide +kernel
theorem dX8_pass_71 : decode cX8_pass 71 = .ok (.iconst 0, 1) := by decide +kernel
theorem dX8_pass_72 : decode cX8_pass 72 = .ok (.istore 4, 2) := by decide +kernel
theorem dX8_pass_74 : decode cX8_pass 74 = .ok (.iload 4, 2) := by decide +kernel
theorem dX8_pass_76 : decode cX8_pass 76 = .ok (.aload_n 0, 1) := by decide +kernel
theorem dX8_pass_77 : decode cX8_pass 77 = .ok (.getfield 15, 3) := by decide +kernel
theorem dX8_pass_80 : decode cX8_pass 80 = .ok (.getfield 58, 3) := by decide +kernel
theorem dX8_pass_83 : decode cX8_pass 83 = .ok (.if_icmp .ge 62, 3) := by decide +kernel
theorem dX8_pass_86 : decode cX8_pass 86 = .ok (.aload_n 0, 1) := by decide +kernel
theorem dX8_pass_87 : decode cX8_pass 87 = .ok (.getfield 15, 3) := by decide +kernel
theorem dX8_pass_90 : decode cX8_pass 90 = .ok (.iload 4, 2) := by decide +kernel
theorem dX8_pass_92 : decode cX8_pass 92 = .ok (.iconst 0, 1) := by decide +kernel
theorem dX8_pass_93 : decode cX8_pass 93 = .ok (.invokevirtual 110, 3) := by decide +kernel
theorem dX8_pass_96 : decode cX8_pass 96 = .ok (.iload_n 1, 1) := by decide +kernel
theorem dX8_pass_97 : decode cX8_pass 97 = .ok (.if_icmp .ne 42, 3) := by decide +kernel
theorem dX8_pass_100 : decode cX8_pass 100 = .ok (.aload_n 0, 1) := by decide +kernel
theorem dX8_pass_101 : decode cX8_pass 101 = .ok (.getfield 15, 3) := by decide +kernel
theorem dX8_pass_104 : decode cX8_pass 104 = .ok (.iload 4, 2) := by decide +kernel
theorem dX8_pass_106 : decode cX8_pass 106 = .ok (.iconst 1, 1) := by decide +kernel
theorem dX8_pass_107 : decode cX8_pass 107 = .ok (.invokevirtual 110, 3) := by decide +kernel
theorem dX8_pass_110 : decode cX8_pass 110 = .ok (.iload_n 2, 1) := by decide +kernel
theorem dX8_pass_111 : decode cX8_pass 111 = .ok (.if_icmp .ne 28, 3) := by decide +kernel
theorem dX8_pass_114 : decode cX8_pass 114 = .ok (.aload_n 0, 1) := by decide +kernel
theorem dX8_pass_115 : decode cX8_pass 115 = .ok (.getfield 15, 3) := by decide +kernel
theorem dX8_pass_118 : decode cX8_pass 118 = .ok (.iload 4, 2) := by decide +kernel
theorem dX8_pass_120 : decode cX8_pass 120 = .ok (.iconst 2, 1) := by decide +kernel
theorem dX8_pass_121 : decode cX8_pass 121 = .ok (.invokevirtual 110, 3) := by decide +kernel
theorem dX8_pass_124 : decode cX8_pass 124 = .ok (.iload_n 3, 1) := by decide +kernel
theorem dX8_pass_125 : decode cX8_pass 125 = .ok (.if_icmp .ne 14, 3) := by decide +kernel
theorem dX8_pass_128 : decode cX8_pass 128 = .ok (.aload_n 0, 1) := by decide +kernel
theorem dX8_pass_129 : decode cX8_pass 129 = .ok (.getfield 15, 3) := by decide +kernel
theorem dX8_pass_132 : decode cX8_pass 132 = .ok (.iload 4, 2) := by decide +kernel
theorem dX8_pass_134 : decode cX8_pass 134 = .ok (.iconst 3, 1) := by decide +kernel
theorem dX8_pass_135 : decode cX8_pass 135 = .ok (.invokevirtual 110, 3) := by decide +kernel
theorem dX8_pass_138 : decode cX8_pass 138 = .ok (.ireturn, 1) := by decide +kernel
theorem dX8_pass_139 : decode cX8_pass 139 = .ok (.iinc 4 1, 3) := by decide +kernel
theorem dX8_pass_142 : decode cX8_pass 142 = .ok (.goto (-68), 3) := by decide +kernel
theorem dX8_pass_145 : decode cX8_pass 145 = .ok (.bipush (-9), 2) := by decide +kernel
theorem dX8_pass_147 : decode cX8_pass 147 = .ok (.ireturn, 1) := by decide +kernel
set_option maxHeartbeats 8000000 in
set_option maxRecDepth 100000 in
theorem a_W_pass (l : Launch) (D : va_G) (g : Nat → ClassId)   (sz : Nat) (h : Nat) (wa : Nat → Nat) (wi : Nat → Int32) (wr : Nat → Nat) (wf : Nat → Nat → Int32) (ph : Nat) (rh : Nat) (la : Nat → Nat) (pa : Nat → Nat) (pr : Nat → Nat) (pf : Nat → Nat → Int32) (ca : Nat → Nat) (ci : Nat → Int32) (cr : Nat → Nat) (cf : Nat → Nat → Int32) (lr : Nat → Nat) (lf : Nat → Nat → Int32) (lmx : Nat) (n1 : Int32) (n2 : Int32) (hw_w : ∀ k, wr k ≤ woW_lim k) (hw_p : ∀ k, pr k ≤ pgW_lim k) (hw_c : ∀ k, cr k ≤ rcW_lim k) (hw_l : ∀ k, lr k ≤ (plW_lim lmx) k) (hmx_l : lmx ≤ 30) : vz_Mi l D (tyG g) yX8_pass cX8_pass 5 1 24 0 0 .int [.ref h, .int n1, .int n2] sz (vz_w [woW g h wa wi wr wf ph rh (la 0), pgW g ph pa pr pf, rcW g rh ca ci cr cf, plW g la lr lf lmx]) (fun r (u : (Nat → Nat) × (Nat → Nat → Int32)) => (∀ k, u.1 k ≤ woW_lim k)) (fun u => vz_w [woW g h wa wi u.1 u.2 ph rh (la 0), pgW g ph pa pr pf, rcW g rh ca ci cr cf, plW g la lr lf lmx]) := by
  refine vz_siQ (by decide) (Nat.le_of_ble_eq_true rfl) (fun p e s m args below meth c hx hb hr hml hts hown hlk hin hK hsz A hA H locs hP hD hS ls hl Q hQ => ?_)
  have hl : lv_has ls 5 [(0, .ref h), (1, .int n1), (2, .int n2)] := hl
  have J74 : ∀ fu74 : Nat, ∀ (x3_74 : Int32), ∀ (x4_74 : Int32), ∀ (wr_74 : Nat → Nat), ∀ (wf_74 : Nat → Nat → Int32), ((nI (lr 0)).toInt - x4_74.toInt).toNat < fu74 → (∀ k, wr_74 k ≤ woW_lim k) → ∀ (H : Heap) (locs : List Loc) (ls : Array Slot), va_P D vwCl (vz_w [woW g h wa wi wr_74 wf_74 ph rh (la 0), pgW g ph pa pr pf, rcW g rh ca ci cr cf, plW g la lr lf lmx]) H → va_D A (vz_w [woW g h wa wi wr_74 wf_74 ph rh (la 0), pgW g ph pa pr pf, rcW g rh ca ci cr cf, plW g la lr lf lmx]) → va_S A s.heap H locs → lv_has ls 5 [(0, .ref h), (1, .int n1), (2, .int n2), (3, .int x3_74), (4, .int x4_74)] → W p l e { frames := 1, cells := 0, slots := 0, locals := 24 } s m args below meth c H locs 0 0 Q (F0 m 74 ls []) := by
    intro fu74
    induction fu74 with
    | zero => intro x3_74 x4_74 wr_74 wf_74 hf74 hw_w_74 H locs ls hP hD hS hl; exact absurd hf74 (Nat.not_lt_zero _)
    | succ fu74 ih74 =>
      intro x3_74 x4_74 wr_74 wf_74 hf74 hw_w_74 H locs ls hP hD hS hl
      have J139 : ((nI (lr 0)).toInt - (x4_74 + 1).toInt).toNat < fu74 → ∀ (wr_139 : Nat → Nat), ∀ (wf_139 : Nat → Nat → Int32), (∀ k, wr_139 k ≤ woW_lim k) → ∀ (H : Heap) (locs : List Loc) (ls : Array Slot), va_P D vwCl (vz_w [woW g h wa wi wr_139 wf_139 ph rh (la 0), pgW g ph pa pr pf, rcW g rh ca ci cr cf, plW g la lr lf lmx]) H → va_D A (vz_w [woW g h wa wi wr_139 wf_139 ph rh (la 0), pgW g ph pa pr pf, rcW g rh ca ci cr cf, plW g la lr lf lmx]) → va_S A s.heap H locs → lv_has ls 5 [(0, .ref h), (1, .int n1), (2, .int n2), (3, .int x3_74), (4, .int x4_74)] → W p l e { frames := 1, cells := 0, slots := 0, locals := 24 } s m args below meth c H locs 0 0 Q (F0 m 139 ls []) := by
        intro hn74 wr_139 wf_139 hw_w_139 H locs ls hP hD hS hl
        refine lv_iinc (v := (x4_74 + 1)) (lv' := [(4, .int (x4_74 + 1)), (0, .ref h), (1, .int n1), (2, .int n2), (3, .int x3_74)]) hx hb dX8_pass_139 hl (k := 4) rfl (rfl) (by decide) rfl (fun ls hl => ?_)
        refine lv_goto (tgt := 74) hx hb dX8_pass_142 (by decide) ?_
        exact ih74 x3_74 (x4_74 + 1) wr_139 wf_139 hn74 hw_w_139 H locs ls hP hD hS (lv_sub hl [1, 2, 3, 4, 0] rfl)
      refine lv_iload hx hb dX8_pass_74 (lv_at hl 4 rfl) ?_
      refine lv_aload_n hx hb dX8_pass_76 rfl (lv_at hl 0 rfl) ?_
      refine va_get (D := D) (ci := 8) (v := .ref (la 0)) (C := RX8) (T := TX8) (N := 11) hx hb hts inlX8 hown hK hP 0 rfl rfl 7 (by decide) (hts _ q131) (fun _ h => h) rfl dX8_pass_77 ?_
      refine va_get (D := D) (ci := 6) (v := .int (nI (lr 0))) (C := RX6) (T := TX6) (N := 4) hx hb hts inlX6 hown hK hP 33 rfl rfl 3 (by decide) (hts _ q1021) (fun _ h => h) rfl dX8_pass_80 ?_
      refine lv_icmp_ge (tgt := 145) hx hb dX8_pass_83 (by decide) (fun kc1 => ?_) (fun kc1 => ?_)
      · refine lv_bipush (v := (-9)) hx hb dX8_pass_145 (by decide) ?_
        rw [hQ]
        exact vz_iret3 hx hb hr hlk hK hP hD hS (wr_74, wf_74) hw_w_74 rfl (Nat.le_refl 0) (Nat.le_refl 0) dX8_pass_147
      · have hn74 : ((nI (lr 0)).toInt - (x4_74 + 1).toInt).toNat < fu74 := by have hq := vz_up kc1; omega
        refine lv_aload_n hx hb dX8_pass_86 rfl (lv_at hl 0 rfl) ?_
        refine va_get (D := D) (ci := 8) (v := .ref (la 0)) (C := RX8) (T := TX8) (N := 11) hx hb hts inlX8 hown hK hP 0 rfl rfl 7 (by decide) (hts _ q131) (fun _ h => h) rfl dX8_pass_87 ?_
        refine lv_iload hx hb dX8_pass_90 (lv_at hl 4 rfl) ?_
        refine lv_iconst (v := 0) hx hb dX8_pass_92 (by decide) ?_
        refine vz_Vi2 (ws' := fun u : Unit => vz_w [woW g h wa wi wr_74 wf_74 ph rh (la 0), pgW g ph pa pr pf, rcW g rh ca ci cr cf, plW g la lr lf lmx]) (As := [.int x4_74, .int 0]) (rest := []) hx hb hml hown hts hK hA hP hD hS (c_T_get l D g (la 0) (la 1) H.size 4 lmx (lr 0) (lmx * 4) (lf 0) x4_74 0 ⟨rfl, by omega, by omega, by decide, by decide, hw_l 0⟩) kv_X8_110 ⟨Nat.le_of_ble_eq_true rfl, Nat.le_of_ble_eq_true rfl⟩ (q0 := 33) (ci := 6) rfl rfl rfl [33, 34] rfl (by decide) (fun _ => rfl) (fun _ => rfl) hl.1 (Nat.le_of_ble_eq_true rfl) dX8_pass_93 ⟨Nat.le_refl _, Nat.le_refl _⟩ rfl (fun v2 _ H locs he3 _ hP hD hS => ?_)
        refine lv_iload_n hx hb dX8_pass_96 rfl (lv_at hl 1 rfl) ?_
        refine lv_icmp_ne (tgt := 139) hx hb dX8_pass_97 (by decide) (fun kc4 => ?_) (fun kc4 => ?_)
        · exact J139 hn74 wr_74 wf_74 hw_w_74 H locs ls hP hD hS (lv_sub hl [0, 1, 2, 3, 4] rfl)
        · refine lv_aload_n hx hb dX8_pass_100 rfl (lv_at hl 0 rfl) ?_
          refine va_get (D := D) (ci := 8) (v := .ref (la 0)) (C := RX8) (T := TX8) (N := 11) hx hb hts inlX8 hown hK hP 0 rfl rfl 7 (by decide) (hts _ q131) (fun _ h => h) rfl dX8_pass_101 ?_
          refine lv_iload hx hb dX8_pass_104 (lv_at hl 4 rfl) ?_
          refine lv_iconst (v := 1) hx hb dX8_pass_106 (by decide) ?_
          refine vz_Vi2 (ws' := fun u : Unit => vz_w [woW g h wa wi wr_74 wf_74 ph rh (la 0), pgW g ph pa pr pf, rcW g rh ca ci cr cf, plW g la lr lf lmx]) (As := [.int x4_74, .int 1]) (rest := []) hx hb hml hown hts hK hA hP hD hS (c_T_get l D g (la 0) (la 1) H.size 4 lmx (lr 0) (lmx * 4) (lf 0) x4_74 1 ⟨rfl, by omega, by omega, by decide, by decide, hw_l 0⟩) kv_X8_110 ⟨Nat.le_of_ble_eq_true rfl, Nat.le_of_ble_eq_true rfl⟩ (q0 := 33) (ci := 6) rfl rfl rfl [33, 34] rfl (by decide) (fun _ => rfl) (fun _ => rfl) hl.1 (Nat.le_of_ble_eq_true rfl) dX8_pass_107 ⟨Nat.le_refl _, Nat.le_refl _⟩ rfl (fun v5 _ H locs he6 _ hP hD hS => ?_)
          refine lv_iload_n hx hb dX8_pass_110 rfl (lv_at hl 2 rfl) ?_
          refine lv_icmp_ne (tgt := 139) hx hb dX8_pass_111 (by decide) (fun kc7 => ?_) (fun kc7 => ?_)
          · exact J139 hn74 wr_74 wf_74 hw_w_74 H locs ls hP hD hS (lv_sub hl [0, 1, 2, 3, 4] rfl)
          · refine lv_aload_n hx hb dX8_pass_114 rfl (lv_at hl 0 rfl) ?_
            refine va_get (D := D) (ci := 8) (v := .ref (la 0)) (C := RX8) (T := TX8) (N := 11) hx hb hts inlX8 hown hK hP 0 rfl rfl 7 (by decide) (hts _ q131) (fun _ h => h) rfl dX8_pass_115 ?_
            refine lv_iload hx hb dX8_pass_118 (lv_at hl 4 rfl) ?_
            refine lv_iconst (v := 2) hx hb dX8_pass_120 (by decide) ?_
            refine vz_Vi2 (ws' := fun u : Unit => vz_w [woW g h wa wi wr_74 wf_74 ph rh (la 0), pgW g ph pa pr pf, rcW g rh ca ci cr cf, plW g la lr lf lmx]) (As := [.int x4_74, .int 2]) (rest := []) hx hb hml hown hts hK hA hP hD hS (c_T_get l D g (la 0) (la 1) H.size 4 lmx (lr 0) (lmx * 4) (lf 0) x4_74 2 ⟨rfl, by omega, by omega, by decide, by decide, hw_l 0⟩) kv_X8_110 ⟨Nat.le_of_ble_eq_true rfl, Nat.le_of_ble_eq_true rfl⟩ (q0 := 33) (ci := 6) rfl rfl rfl [33, 34] rfl (by decide) (fun _ => rfl) (fun _ => rfl) hl.1 (Nat.le_of_ble_eq_true rfl) dX8_pass_121 ⟨Nat.le_refl _, Nat.le_refl _⟩ rfl (fun v8 _ H locs he9 _ hP hD hS => ?_)
            refine lv_iload_n hx hb dX8_pass_124 rfl (lv_at hl 3 rfl) ?_
            refine lv_icmp_ne (tgt := 139) hx hb dX8_pass_125 (by decide) (fun kc10 => ?_) (fun kc10 => ?_)
            · exact J139 hn74 wr_74 wf_74 hw_w_74 H locs ls hP hD hS (lv_sub hl [0, 1, 2, 3, 4] rfl)
            · refine lv_aload_n hx hb dX8_pass_128 rfl (lv_at hl 0 rfl) ?_
              refine va_get (D := D) (ci := 8) (v := .ref (la 0)) (C := RX8) (T := TX8) (N := 11) hx hb hts inlX8 hown hK hP 0 rfl rfl 7 (by decide) (hts _ q131) (fun _ h => h) rfl dX8_pass_129 ?_
              refine lv_iload hx hb dX8_pass_132 (lv_at hl 4 rfl) ?_
              refine lv_iconst (v := 3) hx hb dX8_pass_134 (by decide) ?_
              refine vz_Vi2 (ws' := fun u : Unit => vz_w [woW g h wa wi wr_74 wf_74 ph rh (la 0), pgW g ph pa pr pf, rcW g rh ca ci cr cf, plW g la lr lf lmx]) (As := [.int x4_74, .int 3]) (rest := []) hx hb hml hown hts hK hA hP hD hS (c_T_get l D g (la 0) (la 1) H.size 4 lmx (lr 0) (lmx * 4) (lf 0) x4_74 3 ⟨rfl, by omega, by omega, by decide, by decide, hw_l 0⟩) kv_X8_110 ⟨Nat.le_of_ble_eq_true rfl, Nat.le_of_ble_eq_true rfl⟩ (q0 := 33) (ci := 6) rfl rfl rfl [33, 34] rfl (by decide) (fun _ => rfl) (fun _ => rfl) hl.1 (Nat.le_of_ble_eq_true rfl) dX8_pass_135 ⟨Nat.le_refl _, Nat.le_refl _⟩ rfl (fun v11 _ H locs he12 _ hP hD hS => ?_)
              rw [hQ]
              exact vz_iret3 hx hb hr hlk hK hP hD hS (wr_74, wf_74) hw_w_74 rfl (Nat.le_refl 0) (Nat.le_refl 0) dX8_pass_138
  have J71 : ∀ (x3_71 : Int32), ∀ (wr_71 : Nat → Nat), ∀ (wf_71 : Nat → Nat → Int32), (∀ k, wr_71 k ≤ woW_lim k) → ∀ (H : Heap) (locs : List Loc) (ls : Array Slot), va_P D vwCl (vz_w [woW g h wa wi wr_71 wf_71 ph rh (la 0), pgW g ph pa pr pf, rcW g rh ca ci cr cf, plW g la lr lf lmx]) H → va_D A (vz_w [woW g h wa wi wr_71 wf_71 ph rh (la 0), pgW g ph pa pr pf, rcW g rh ca ci cr cf, plW g la lr lf lmx]) → va_S A s.heap H locs → lv_has ls 5 [(0, .ref h), (1, .int n1), (2, .int n2), (3, .int x3_71)] → W p l e { frames := 1, cells := 0, slots := 0, locals := 24 } s m args below meth c H locs 0 0 Q (F0 m 71 ls []) := by
    intro x3_71 wr_71 wf_71 hw_w_71 H locs ls hP hD hS hl
    refine lv_iconst (v := 0) hx hb dX8_pass_71 (by decide) ?_
    refine lv_istore (lv' := [(4, .int 0), (0, .ref h), (1, .int n1), (2, .int n2), (3, .int x3_71)]) hx hb dX8_pass_72 hl (by decide) rfl (fun ls hl => ?_)
    exact J74 (2 ^ 34) x3_71 0 wr_71 wf_71 (vz_mb _ _) hw_w_71 H locs ls hP hD hS (lv_sub hl [1, 2, 3, 4, 0] rfl)
  refine lv_aload_n hx hb dX8_pass_0 rfl (lv_at hl 0 rfl) ?_
  refine va_get (D := D) (ci := 8) (v := .ref (wa 8)) (C := RX8) (T := TX8) (N := 11) hx hb hts inlX8 hown hK hP 0 rfl rfl 4 (by decide) (hts _ q138) (fun _ h => h) rfl dX8_pass_1 ?_
  refine lv_iload_n hx hb dX8_pass_4 rfl (lv_at hl 1 rfl) ?_
  refine lv_iload_n hx hb dX8_pass_5 rfl (lv_at hl 2 rfl) ?_
  refine vz_Vi2 (ws' := fun u : Unit => vz_w [woW g h wa wi wr wf ph rh (la 0), pgW g ph pa pr pf, rcW g rh ca ci cr cf, plW g la lr lf lmx]) (As := [.int n1, .int n2]) (rest := []) hx hb hml hown hts hK hA hP hD hS (c_T_get l D g (wa 8) (wa 9) H.size 7 80 (wr 4) 560 (wf 4) n1 n2 ⟨rfl, by decide, by decide, by decide, by decide, hw_w 4⟩) kv_X8_110 ⟨Nat.le_of_ble_eq_true rfl, Nat.le_of_ble_eq_true rfl⟩ (q0 := 9) (ci := 6) rfl rfl rfl [9, 10] rfl (by decide) (fun _ => rfl) (fun _ => rfl) hl.1 (Nat.le_of_ble_eq_true rfl) dX8_pass_6 ⟨Nat.le_refl _, Nat.le_refl _⟩ rfl (fun v1 _ H locs he2 _ hP hD hS => ?_)
  refine lv_iconst (v := 1) hx hb dX8_pass_9 (by decide) ?_
  refine lv_iadd hx hb dX8_pass_10 ?_
  refine lv_istore_n (lv' := [(3, .int (v1 + 1)), (0, .ref h), (1, .int n1), (2, .int n2)]) hx hb dX8_pass_11 rfl hl (by decide) rfl (fun ls hl => ?_)
  refine lv_aload_n hx hb dX8_pass_12 rfl (lv_at hl 1 rfl) ?_
  refine va_get (D := D) (ci := 8) (v := .ref (wa 8)) (C := RX8) (T := TX8) (N := 11) hx hb hts inlX8 hown hK hP 0 rfl rfl 4 (by decide) (hts _ q138) (fun _ h => h) rfl dX8_pass_13 ?_
  refine lv_iload_n hx hb dX8_pass_16 rfl (lv_at hl 2 rfl) ?_
  refine lv_iload_n hx hb dX8_pass_17 rfl (lv_at hl 3 rfl) ?_
  refine lv_iload_n hx hb dX8_pass_18 rfl (lv_at hl 0 rfl) ?_
  refine vz_Vv2 (ws' := fun u : (Nat → Int32) => vz_w [woW g h wa wi wr (vz_uf wf 4 u) ph rh (la 0), pgW g ph pa pr pf, rcW g rh ca ci cr cf, plW g la lr lf lmx]) (As := [.int n1, .int n2, .int (v1 + 1)]) (rest := []) hx hb hml hown hts hK hA hP hD hS (c_T_set l D g (wa 8) (wa 9) H.size 7 80 (wr 4) 560 (wf 4) n1 n2 (v1 + 1) ⟨rfl, by decide, by decide, by decide, by decide, hw_w 4⟩) kv_X8_91 ⟨Nat.le_of_ble_eq_true rfl, Nat.le_of_ble_eq_true rfl⟩ (q0 := 9) (ci := 6) rfl rfl rfl [9, 10] rfl (by decide) (fun _ => rfl) (fun _ => rfl) hl.1 (Nat.le_of_ble_eq_true rfl) dX8_pass_19 ⟨Nat.le_refl _, Nat.le_refl _⟩ rfl (fun nf3 H locs _ _ hP hD hS => ?_)
  obtain ⟨wf_4, hP, hD⟩ : ∃ wf_4 : Nat → Nat → Int32, va_P D vwCl (vz_w [woW g h wa wi wr wf_4 ph rh (la 0), pgW g ph pa pr pf, rcW g rh ca ci cr cf, plW g la lr lf lmx]) H ∧ va_D A (vz_w [woW g h wa wi wr wf_4 ph rh (la 0), pgW g ph pa pr pf, rcW g rh ca ci cr cf, plW g la lr lf lmx]) := ⟨(vz_uf wf 4 nf3), hP, hD⟩
  refine lv_aload_n hx hb dX8_pass_22 rfl (lv_at hl 1 rfl) ?_
  refine va_get (D := D) (ci := 8) (v := .int (wi 2)) (C := RX8) (T := TX8) (N := 11) hx hb hts inlX8 hown hK hP 0 rfl rfl 10 (by decide) (hts _ q1133) (fun _ h => h) rfl dX8_pass_23 ?_
  refine lv_if_eq (tgt := 71) hx hb dX8_pass_26 (by decide) (fun kc5 => ?_) (fun kc5 => ?_)
  · exact J71 (v1 + 1) wr wf_4 hw_w H locs ls hP hD hS (lv_sub hl [1, 2, 3, 0] rfl)
  · refine lv_aload_n hx hb dX8_pass_29 rfl (lv_at hl 1 rfl) ?_
    refine va_get (D := D) (ci := 8) (v := .ref (wa 0)) (C := RX8) (T := TX8) (N := 11) hx hb hts inlX8 hown hK hP 0 rfl rfl 0 (by decide) (hts _ q134) (fun _ h => h) rfl dX8_pass_30 ?_
    refine vz_Vi2 (ws' := fun u : (Nat × (Nat → Int32)) => vz_w [woW g h wa wi (vz_un wr 0 u.1) (vz_uf wf_4 0 u.2) ph rh (la 0), pgW g ph pa pr pf, rcW g rh ca ci cr cf, plW g la lr lf lmx]) (As := []) (rest := []) hx hb hml hown hts hK hA hP hD hS (c_T_add l D g (wa 0) (wa 1) H.size 3 60 (wr 0) 180 (wf_4 0) ⟨rfl, by decide, by decide, by decide, by decide, hw_w 0⟩) kv_X8_83 ⟨Nat.le_of_ble_eq_true rfl, Nat.le_of_ble_eq_true rfl⟩ (q0 := 1) (ci := 6) rfl rfl rfl [1, 2] rfl (by decide) (fun _ => rfl) (fun _ => rfl) hl.1 (Nat.le_of_ble_eq_true rfl) dX8_pass_33 ⟨Nat.le_refl _, Nat.le_refl _⟩ rfl (fun v8 ⟨u6R, u6f⟩ H locs ha7 _ hP hD hS => ?_)
    have hq : (wr 0) ≤ 60 := hw_w 0
    replace ha7 : u6R ≤ 60 := by rcases ha7 with ⟨z1, -, z2, -⟩ | ⟨z1, -, z2, -⟩ <;> (dsimp only at z2; omega)
    obtain ⟨wr_9, hw_wr_9, wf_10, hP, hD⟩ : ∃ wr_9 : Nat → Nat, (∀ k, wr_9 k ≤ woW_lim k) ∧ ∃ wf_10 : Nat → Nat → Int32, va_P D vwCl (vz_w [woW g h wa wi wr_9 wf_10 ph rh (la 0), pgW g ph pa pr pf, rcW g rh ca ci cr cf, plW g la lr lf lmx]) H ∧ va_D A (vz_w [woW g h wa wi wr_9 wf_10 ph rh (la 0), pgW g ph pa pr pf, rcW g rh ca ci cr cf, plW g la lr lf lmx]) := ⟨(vz_un wr 0 u6R), (vz_wf hw_w (t := 0) (v := u6R) (ha7)), (vz_uf wf_4 0 u6f), hP, hD⟩
    refine lv_istore (lv' := [(4, .int v8), (3, .int (v1 + 1)), (0, .ref h), (1, .int n1), (2, .int n2)]) hx hb dX8_pass_36 hl (by decide) rfl (fun ls hl => ?_)
    refine lv_aload_n hx hb dX8_pass_38 rfl (lv_at hl 2 rfl) ?_
    refine va_get (D := D) (ci := 8) (v := .ref (wa 0)) (C := RX8) (T := TX8) (N := 11) hx hb hts inlX8 hown hK hP 0 rfl rfl 0 (by decide) (hts _ q134) (fun _ h => h) rfl dX8_pass_39 ?_
    refine lv_iload hx hb dX8_pass_42 (lv_at hl 0 rfl) ?_
    refine lv_iconst (v := 0) hx hb dX8_pass_44 (by decide) ?_
    refine lv_iload_n hx hb dX8_pass_45 rfl (lv_at hl 3 rfl) ?_
    refine vz_Vv2 (ws' := fun u : (Nat → Int32) => vz_w [woW g h wa wi wr_9 (vz_uf wf_10 0 u) ph rh (la 0), pgW g ph pa pr pf, rcW g rh ca ci cr cf, plW g la lr lf lmx]) (As := [.int v8, .int 0, .int n1]) (rest := []) hx hb hml hown hts hK hA hP hD hS (c_T_set l D g (wa 0) (wa 1) H.size 3 60 (wr_9 0) 180 (wf_10 0) v8 0 n1 ⟨rfl, by decide, by decide, by decide, by decide, hw_wr_9 0⟩) kv_X8_91 ⟨Nat.le_of_ble_eq_true rfl, Nat.le_of_ble_eq_true rfl⟩ (q0 := 1) (ci := 6) rfl rfl rfl [1, 2] rfl (by decide) (fun _ => rfl) (fun _ => rfl) hl.1 (Nat.le_of_ble_eq_true rfl) dX8_pass_46 ⟨Nat.le_refl _, Nat.le_refl _⟩ rfl (fun nf11 H locs _ _ hP hD hS => ?_)
    obtain ⟨wf_12, hP, hD⟩ : ∃ wf_12 : Nat → Nat → Int32, va_P D vwCl (vz_w [woW g h wa wi wr_9 wf_12 ph rh (la 0), pgW g ph pa pr pf, rcW g rh ca ci cr cf, plW g la lr lf lmx]) H ∧ va_D A (vz_w [woW g h wa wi wr_9 wf_12 ph rh (la 0), pgW g ph pa pr pf, rcW g rh ca ci cr cf, plW g la lr lf lmx]) := ⟨(vz_uf wf_10 0 nf11), hP, hD⟩
    refine lv_aload_n hx hb dX8_pass_49 rfl (lv_at hl 2 rfl) ?_
    refine va_get (D := D) (ci := 8) (v := .ref (wa 0)) (C := RX8) (T := TX8) (N := 11) hx hb hts inlX8 hown hK hP 0 rfl rfl 0 (by decide) (hts _ q134) (fun _ h => h) rfl dX8_pass_50 ?_
    refine lv_iload hx hb dX8_pass_53 (lv_at hl 0 rfl) ?_
    refine lv_iconst (v := 1) hx hb dX8_pass_55 (by decide) ?_
    refine lv_iload_n hx hb dX8_pass_56 rfl (lv_at hl 4 rfl) ?_
    refine vz_Vv2 (ws' := fun u : (Nat → Int32) => vz_w [woW g h wa wi wr_9 (vz_uf wf_12 0 u) ph rh (la 0), pgW g ph pa pr pf, rcW g rh ca ci cr cf, plW g la lr lf lmx]) (As := [.int v8, .int 1, .int n2]) (rest := []) hx hb hml hown hts hK hA hP hD hS (c_T_set l D g (wa 0) (wa 1) H.size 3 60 (wr_9 0) 180 (wf_12 0) v8 1 n2 ⟨rfl, by decide, by decide, by decide, by decide, hw_wr_9 0⟩) kv_X8_91 ⟨Nat.le_of_ble_eq_true rfl, Nat.le_of_ble_eq_true rfl⟩ (q0 := 1) (ci := 6) rfl rfl rfl [1, 2] rfl (by decide) (fun _ => rfl) (fun _ => rfl) hl.1 (Nat.le_of_ble_eq_true rfl) dX8_pass_57 ⟨Nat.le_refl _, Nat.le_refl _⟩ rfl (fun nf13 H locs _ _ hP hD hS => ?_)
    obtain ⟨wf_14, hP, hD⟩ : ∃ wf_14 : Nat → Nat → Int32, va_P D vwCl (vz_w [woW g h wa wi wr_9 wf_14 ph rh (la 0), pgW g ph pa pr pf, rcW g rh ca ci cr cf, plW g la lr lf lmx]) H ∧ va_D A (vz_w [woW g h wa wi wr_9 wf_14 ph rh (la 0), pgW g ph pa pr pf, rcW g rh ca ci cr cf, plW g la lr lf lmx]) := ⟨(vz_uf wf_12 0 nf13), hP, hD⟩
    refine lv_aload_n hx hb dX8_pass_60 rfl (lv_at hl 2 rfl) ?_
    refine va_get (D := D) (ci := 8) (v := .ref (wa 0)) (C := RX8) (T := TX8) (N := 11) hx hb hts inlX8 hown hK hP 0 rfl rfl 0 (by decide) (hts _ q134) (fun _ h => h) rfl dX8_pass_61 ?_
    refine lv_iload hx hb dX8_pass_64 (lv_at hl 0 rfl) ?_
    refine lv_iconst (v := 2) hx hb dX8_pass_66 (by decide) ?_
    refine lv_iload_n hx hb dX8_pass_67 rfl (lv_at hl 1 rfl) ?_
    refine vz_Vv2 (ws' := fun u : (Nat → Int32) => vz_w [woW g h wa wi wr_9 (vz_uf wf_14 0 u) ph rh (la 0), pgW g ph pa pr pf, rcW g rh ca ci cr cf, plW g la lr lf lmx]) (As := [.int v8, .int 2, .int (v1 + 1)]) (rest := []) hx hb hml hown hts hK hA hP hD hS (c_T_set l D g (wa 0) (wa 1) H.size 3 60 (wr_9 0) 180 (wf_14 0) v8 2 (v1 + 1) ⟨rfl, by decide, by decide, by decide, by decide, hw_wr_9 0⟩) kv_X8_91 ⟨Nat.le_of_ble_eq_true rfl, Nat.le_of_ble_eq_true rfl⟩ (q0 := 1) (ci := 6) rfl rfl rfl [1, 2] rfl (by decide) (fun _ => rfl) (fun _ => rfl) hl.1 (Nat.le_of_ble_eq_true rfl) dX8_pass_68 ⟨Nat.le_refl _, Nat.le_refl _⟩ rfl (fun nf15 H locs _ _ hP hD hS => ?_)
    obtain ⟨wf_16, hP, hD⟩ : ∃ wf_16 : Nat → Nat → Int32, va_P D vwCl (vz_w [woW g h wa wi wr_9 wf_16 ph rh (la 0), pgW g ph pa pr pf, rcW g rh ca ci cr cf, plW g la lr lf lmx]) H ∧ va_D A (vz_w [woW g h wa wi wr_9 wf_16 ph rh (la 0), pgW g ph pa pr pf, rcW g rh ca ci cr cf, plW g la lr lf lmx]) := ⟨(vz_uf wf_14 0 nf15), hP, hD⟩
    exact J71 (v1 + 1) wr_9 wf_16 hw_wr_9 H locs ls hP hD hS (lv_sub hl [2, 3, 4, 1] rfl)
theorem q1129 : Cond.methodLink RX8 120 yX8_pass ∈ wsL_law := mT_5 (List.mem_of_getElem? (i := 45) rfl) rfl
theorem q1130 : Cond.instanceMethod yX8_pass ∈ wsL_law := mT_5 (List.mem_of_getElem? (i := 47) rfl) rfl
theorem q1131 : Cond.selects RX8 yX8_pass yX8_pass ∈ wsL_law := mS_5 (q := (yX8_pass, 11)) (List.mem_of_getElem? (i := 8) rfl) rfl
theorem q1132 : Cond.code yX8_pass cX8_pass 5 (some .int) ∈ wsL_law := mT_5 (List.mem_of_getElem? (i := 48) rfl) rfl
theorem kv_X8_120 : vz_cv RX8 120 yX8_pass cX8_pass 5 (some .int) 2 := ⟨q1129, q1130, q1131, q47, q1132, by decide +kernel⟩
theorem q1128 : Cond.fieldLink RX8 123 "WaysAtlas$RunRecord" "tape" "LWaysAtlas$Table;" ∈ wsL_law := mT_1 (List.mem_of_getElem? (i := 208) rfl) rfl
theorem q1099 : Cond.methodLink RX8 126 yX8_raise ∈ wsL_law := mT_5 (List.mem_of_getElem? (i := 17) rfl) rfl
theorem q1100 : Cond.instanceMethod yX8_raise ∈ wsL_law := mT_5 (List.mem_of_getElem? (i := 18) rfl) rfl
theorem q1101 : Cond.selects RX8 yX8_raise yX8_raise ∈ wsL_law := mT_5 (List.mem_of_getElem? (i := 19) rfl) rfl
theorem q1102 : Cond.code yX8_raise cX8_raise 5 none ∈ wsL_law := mT_5 (List.mem_of_getElem? (i := 20) rfl) rfl
theorem kv_X8_126 : vz_cv RX8 126 yX8_raise cX8_raise 5 none 2 := ⟨q1099, q1100, q1101, q47, q1102, by decide +kernel⟩
theorem dX8_append_0 : decode cX8_append 0 = .ok (.aload_n 0, 1) := by decide +kernel
theorem dX8_append_1 : decode cX8_append 1 = .ok (.iload_n 1, 1) := by decide +kernel
theorem dX8_append_2 : decode cX8_append 2 = .ok (.iconst 0, 1) := by decide +kernel
theorem dX8_append_3 : decode cX8_append 3 = .ok (.invokevirtual 120, 3) := by decide +kernel
theorem dX8_append_6 : decode cX8_append 6 = .ok (.istore_n 3, 1) := by decide +kernel
theorem dX8_append_7 : decode cX8_append 7 = .ok (.iload_n 3, 1) := by decide +kernel
theorem dX8_append_8 : decode cX8_append 8 = .ok (.bipush (-9), 2) := by decide +kernel
theorem dX8_append_10 : decode cX8_append 10 = .ok (.if_icmp .ne 28, 3) := by decide +kernel
theorem dX8_append_13 : decode cX8_append 13 = .ok (.aload_n 0, 1) := by decide +kernel
theorem dX8_append_14 : decode cX8_append 14 = .ok (.getfield 19, 3) := by decide +kernel
theorem dX8_append_17 : decode cX8_append 17 = .ok (.getfield 123, 3) := by decide +kernel
theorem dX8_append_20 : decode cX8_append 20 = .ok (.aload_n 0, 1) := by decide +kernel
theorem dX8_append_21 : decode cX8_append 21 = .ok (.getfield 19, 3) := by decide +kernel
theorem dX8_append_24 : decode cX8_append 24 = .ok (.getfield 123, 3) := by decide +kernel
theorem dX8_append_27 : decode cX8_append 27 = .ok (.invokevirtual 83, 3) := by decide +kernel
theorem dX8_append_30 : decode cX8_append 30 = .ok (.iconst 0, 1) := by decide +kernel
theorem dX8_append_31 : decode cX8_append 31 = .ok (.iload_n 2, 1) := by decide +kernel
theorem dX8_append_32 : decode cX8_append 32 = .ok (.invokevirtual 91, 3) := by decide +kernel
theorem dX8_append_35 : decode cX8_append 35 = .ok (.goto 10, 3) := by decide +kernel
theorem dX8_append_38 : decode cX8_append 38 = .ok (.aload_n 0, 1) := by decide +kernel
theorem dX8_append_39 : decode cX8_append 39 = .ok (.iload_n 3, 1) := by decide +kernel
theorem dX8_append_40 : decode cX8_append 40 = .ok (.bipush (-9), 2) := by decide +kernel
theorem dX8_append_42 : decode cX8_append 42 = .ok (.invokevirtual 126, 3) := by decide +kernel
theorem dX8_append_45 : decode cX8_append 45 = .ok (.return_, 1) := by decide +kernel
set_option maxHeartbeats 8000000 in
set_option maxRecDepth 100000 in
theorem a_W_append (l : Launch) (D : va_G) (g : Nat → ClassId)   (sz : Nat) (h : Nat) (wa : Nat → Nat) (wi : Nat → Int32) (wr : Nat → Nat) (wf : Nat → Nat → Int32) (ph : Nat) (rh : Nat) (la : Nat → Nat) (pa : Nat → Nat) (pr : Nat → Nat) (pf : Nat → Nat → Int32) (ca : Nat → Nat) (ci : Nat → Int32) (cr : Nat → Nat) (cf : Nat → Nat → Int32) (lr : Nat → Nat) (lf : Nat → Nat → Int32) (lmx : Nat) (n1 : Int32) (n2 : Int32) (hw_w : ∀ k, wr k ≤ woW_lim k) (hw_p : ∀ k, pr k ≤ pgW_lim k) (hw_c : ∀ k, cr k ≤ rcW_lim k) (hw_l : ∀ k, lr k ≤ (plW_lim lmx) k) (hmx_l : lmx ≤ 30) : vz_Mv l D (tyG g) yX8_append cX8_append 4 2 48 0 0 [.ref h, .int n1, .int n2] sz (vz_w [woW g h wa wi wr wf ph rh (la 0), pgW g ph pa pr pf, rcW g rh ca ci cr cf, plW g la lr lf lmx]) (fun u : (Nat → Int32) × (Nat → Nat) × (Nat → Nat → Int32) × (Nat → Nat) × (Nat → Nat → Int32) => (∀ k, u.2.1 k ≤ woW_lim k) ∧ (∀ k, u.2.2.2.1 k ≤ rcW_lim k)) (fun u => vz_w [woW g h wa u.1 u.2.1 u.2.2.1 ph rh (la 0), pgW g ph pa pr pf, rcW g rh ca ci u.2.2.2.1 u.2.2.2.2, plW g la lr lf lmx]) := by
  refine vz_svQ (by decide) (Nat.le_of_ble_eq_true rfl) (fun p e s m args below meth c hx hb hr hml hts hown hlk hin hK hsz A hA H locs hP hD hS ls hl Q hQ => ?_)
  have hl : lv_has ls 4 [(0, .ref h), (1, .int n1), (2, .int n2)] := hl
  have J45 : ∀ (x3_45 : Int32), ∀ (wi_45 : Nat → Int32), ∀ (wr_45 : Nat → Nat), ∀ (wf_45 : Nat → Nat → Int32), ∀ (cr_45 : Nat → Nat), ∀ (cf_45 : Nat → Nat → Int32), (∀ k, wr_45 k ≤ woW_lim k) → (∀ k, cr_45 k ≤ rcW_lim k) → ∀ (H : Heap) (locs : List Loc) (ls : Array Slot), va_P D vwCl (vz_w [woW g h wa wi_45 wr_45 wf_45 ph rh (la 0), pgW g ph pa pr pf, rcW g rh ca ci cr_45 cf_45, plW g la lr lf lmx]) H → va_D A (vz_w [woW g h wa wi_45 wr_45 wf_45 ph rh (la 0), pgW g ph pa pr pf, rcW g rh ca ci cr_45 cf_45, plW g la lr lf lmx]) → va_S A s.heap H locs → lv_has ls 4 [(0, .ref h), (1, .int n1), (2, .int n2), (3, .int x3_45)] → W p l e { frames := 2, cells := 0, slots := 0, locals := 48 } s m args below meth c H locs 0 0 Q (F0 m 45 ls []) := by
    intro x3_45 wi_45 wr_45 wf_45 cr_45 cf_45 hw_w_45 hw_c_45 H locs ls hP hD hS hl
    rw [hQ]
    exact vz_vret3 hx hb hr hlk hK hP hD hS (wi_45, wr_45, wf_45, cr_45, cf_45) (⟨hw_w_45, hw_c_45⟩) rfl (Nat.le_refl 0) (Nat.le_refl 0) dX8_append_45
  refine lv_aload_n hx hb dX8_append_0 rfl (lv_at hl 0 rfl) ?_
  refine lv_iload_n hx hb dX8_append_1 rfl (lv_at hl 1 rfl) ?_
  refine lv_iconst (v := 0) hx hb dX8_append_2 (by decide) ?_
  refine vz_Vi3 (As := [.int n1, .int 0]) (rest := []) hx hb hml hown hts hK hA hP hD hS (a_W_pass l D g H.size h wa wi wr wf ph rh la pa pr pf ca ci cr cf lr lf lmx n1 0 hw_w hw_p hw_c hw_l hmx_l) kv_X8_120 ⟨Nat.le_of_ble_eq_true rfl, Nat.le_of_ble_eq_true rfl⟩ (q0 := 0) (ci := 8) rfl rfl rfl  hl.1 (Nat.le_of_ble_eq_true rfl) dX8_append_3 ⟨Nat.le_refl _, Nat.le_refl _⟩ rfl (fun v4 ⟨wr_1, wf_2⟩ H locs hw_3 _ hP hD hS => ?_)
  try dsimp only at hw_3
  replace hP : va_P D vwCl (vz_w [woW g h wa wi wr_1 wf_2 ph rh (la 0), pgW g ph pa pr pf, rcW g rh ca ci cr cf, plW g la lr lf lmx]) H := hP
  replace hD : va_D A (vz_w [woW g h wa wi wr_1 wf_2 ph rh (la 0), pgW g ph pa pr pf, rcW g rh ca ci cr cf, plW g la lr lf lmx]) := hD
  refine lv_istore_n (lv' := [(3, .int v4), (0, .ref h), (1, .int n1), (2, .int n2)]) hx hb dX8_append_6 rfl hl (by decide) rfl (fun ls hl => ?_)
  refine lv_iload_n hx hb dX8_append_7 rfl (lv_at hl 0 rfl) ?_
  refine lv_bipush (v := (-9)) hx hb dX8_append_8 (by decide) ?_
  refine lv_icmp_ne (tgt := 38) hx hb dX8_append_10 (by decide) (fun kc5 => ?_) (fun kc5 => ?_)
  · refine lv_aload_n hx hb dX8_append_38 rfl (lv_at hl 1 rfl) ?_
    refine lv_iload_n hx hb dX8_append_39 rfl (lv_at hl 0 rfl) ?_
    refine lv_bipush (v := (-9)) hx hb dX8_append_40 (by decide) ?_
    refine vz_Vv3 (As := [.int v4, .int (-9)]) (rest := []) hx hb hml hown hts hK hA hP hD hS (a_W_raise l D g H.size h wa wi wr_1 wf_2 ph rh la pa pr pf ca ci cr cf lr lf lmx v4 (-9) hw_3 hw_p hw_c hw_l hmx_l) kv_X8_126 ⟨Nat.le_of_ble_eq_true rfl, Nat.le_of_ble_eq_true rfl⟩ (q0 := 0) (ci := 8) rfl rfl rfl  hl.1 (Nat.le_of_ble_eq_true rfl) dX8_append_42 ⟨Nat.le_refl _, Nat.le_refl _⟩ rfl (fun ⟨wi_6, cr_7, cf_8⟩ H locs hw_9 _ hP hD hS => ?_)
    try dsimp only at hw_9
    replace hP : va_P D vwCl (vz_w [woW g h wa wi_6 wr_1 wf_2 ph rh (la 0), pgW g ph pa pr pf, rcW g rh ca ci cr_7 cf_8, plW g la lr lf lmx]) H := hP
    replace hD : va_D A (vz_w [woW g h wa wi_6 wr_1 wf_2 ph rh (la 0), pgW g ph pa pr pf, rcW g rh ca ci cr_7 cf_8, plW g la lr lf lmx]) := hD
    exact J45 v4 wi_6 wr_1 wf_2 cr_7 cf_8 hw_3 hw_9 H locs ls hP hD hS (lv_sub hl [1, 2, 3, 0] rfl)
  · refine lv_aload_n hx hb dX8_append_13 rfl (lv_at hl 1 rfl) ?_
    refine va_get (D := D) (ci := 8) (v := .ref rh) (C := RX8) (T := TX8) (N := 11) hx hb hts inlX8 hown hK hP 0 rfl rfl 6 (by decide) (hts _ q132) (fun _ h => h) rfl dX8_append_14 ?_
    refine va_get (D := D) (ci := 4) (v := .ref (ca 0)) (C := RX4) (T := TX4) (N := 12) hx hb hts inlX4 hown hK hP 22 rfl rfl 0 (by decide) (hts _ q1128) (fun _ h => h) rfl dX8_append_17 ?_
    refine lv_aload_n hx hb dX8_append_20 rfl (lv_at hl 1 rfl) ?_
    refine va_get (D := D) (ci := 8) (v := .ref rh) (C := RX8) (T := TX8) (N := 11) hx hb hts inlX8 hown hK hP 0 rfl rfl 6 (by decide) (hts _ q132) (fun _ h => h) rfl dX8_append_21 ?_
    refine va_get (D := D) (ci := 4) (v := .ref (ca 0)) (C := RX4) (T := TX4) (N := 12) hx hb hts inlX4 hown hK hP 22 rfl rfl 0 (by decide) (hts _ q1128) (fun _ h => h) rfl dX8_append_24 ?_
    refine vz_Vi2 (ws' := fun u : (Nat × (Nat → Int32)) => vz_w [woW g h wa wi wr_1 wf_2 ph rh (la 0), pgW g ph pa pr pf, rcW g rh ca ci (vz_un cr 0 u.1) (vz_uf cf 0 u.2), plW g la lr lf lmx]) (As := []) (rest := [.ref (ca 0)]) hx hb hml hown hts hK hA hP hD hS (c_T_add l D g (ca 0) (ca 1) H.size 1 400 (cr 0) 400 (cf 0) ⟨rfl, by decide, by decide, by decide, by decide, hw_c 0⟩) kv_X8_83 ⟨Nat.le_of_ble_eq_true rfl, Nat.le_of_ble_eq_true rfl⟩ (q0 := 23) (ci := 6) rfl rfl rfl [23, 24] rfl (by decide) (fun _ => rfl) (fun _ => rfl) hl.1 (Nat.le_of_ble_eq_true rfl) dX8_append_27 ⟨Nat.le_refl _, Nat.le_refl _⟩ rfl (fun v12 ⟨u10R, u10f⟩ H locs ha11 _ hP hD hS => ?_)
    have hq : (cr 0) ≤ 400 := hw_c 0
    replace ha11 : u10R ≤ 400 := by rcases ha11 with ⟨z1, -, z2, -⟩ | ⟨z1, -, z2, -⟩ <;> (dsimp only at z2; omega)
    obtain ⟨cr_13, hw_cr_13, cf_14, hP, hD⟩ : ∃ cr_13 : Nat → Nat, (∀ k, cr_13 k ≤ rcW_lim k) ∧ ∃ cf_14 : Nat → Nat → Int32, va_P D vwCl (vz_w [woW g h wa wi wr_1 wf_2 ph rh (la 0), pgW g ph pa pr pf, rcW g rh ca ci cr_13 cf_14, plW g la lr lf lmx]) H ∧ va_D A (vz_w [woW g h wa wi wr_1 wf_2 ph rh (la 0), pgW g ph pa pr pf, rcW g rh ca ci cr_13 cf_14, plW g la lr lf lmx]) := ⟨(vz_un cr 0 u10R), (vz_wf hw_c (t := 0) (v := u10R) (ha11)), (vz_uf cf 0 u10f), hP, hD⟩
    refine lv_iconst (v := 0) hx hb dX8_append_30 (by decide) ?_
    refine lv_iload_n hx hb dX8_append_31 rfl (lv_at hl 3 rfl) ?_
    refine vz_Vv2 (ws' := fun u : (Nat → Int32) => vz_w [woW g h wa wi wr_1 wf_2 ph rh (la 0), pgW g ph pa pr pf, rcW g rh ca ci cr_13 (vz_uf cf_14 0 u), plW g la lr lf lmx]) (As := [.int v12, .int 0, .int n2]) (rest := []) hx hb hml hown hts hK hA hP hD hS (c_T_set l D g (ca 0) (ca 1) H.size 1 400 (cr_13 0) 400 (cf_14 0) v12 0 n2 ⟨rfl, by decide, by decide, by decide, by decide, hw_cr_13 0⟩) kv_X8_91 ⟨Nat.le_of_ble_eq_true rfl, Nat.le_of_ble_eq_true rfl⟩ (q0 := 23) (ci := 6) rfl rfl rfl [23, 24] rfl (by decide) (fun _ => rfl) (fun _ => rfl) hl.1 (Nat.le_of_ble_eq_true rfl) dX8_append_32 ⟨Nat.le_refl _, Nat.le_refl _⟩ rfl (fun nf15 H locs _ _ hP hD hS => ?_)
    obtain ⟨cf_16, hP, hD⟩ : ∃ cf_16 : Nat → Nat → Int32, va_P D vwCl (vz_w [woW g h wa wi wr_1 wf_2 ph rh (la 0), pgW g ph pa pr pf, rcW g rh ca ci cr_13 cf_16, plW g la lr lf lmx]) H ∧ va_D A (vz_w [woW g h wa wi wr_1 wf_2 ph rh (la 0), pgW g ph pa pr pf, rcW g rh ca ci cr_13 cf_16, plW g la lr lf lmx]) := ⟨(vz_uf cf_14 0 nf15), hP, hD⟩
    refine lv_goto (tgt := 45) hx hb dX8_append_35 (by decide) ?_
    exact J45 v4 wi wr_1 wf_2 cr_13 cf_16 hw_3 hw_cr_13 H locs ls hP hD hS (lv_sub hl [1, 2, 3, 0] rfl)
theorem q130 : Cond.fieldLink RX8 9 "WaysAtlas$World" "program" "LWaysAtlas$Program;" ∈ wsL_law := mT_2 (List.mem_of_getElem? (i := 44) rfl) rfl
theorem q1020 : Cond.fieldLink RX8 53 "WaysAtlas$Program" "statements" "LWaysAtlas$Table;" ∈ wsL_law := mT_1 (List.mem_of_getElem? (i := 81) rfl) rfl
theorem q1215 : Cond.fieldLink RX8 129 "WaysAtlas$RunRecord" "opened" "I" ∈ wsL_law := mT_1 (List.mem_of_getElem? (i := 230) rfl) rfl
theorem q1216 : Cond.methodLink RX8 132 yX8_setSlot ∈ wsL_law := mT_5 (List.mem_of_getElem? (i := 127) rfl) rfl
theorem q1165 : Cond.instanceMethod yX8_setSlot ∈ wsL_law := mT_5 (List.mem_of_getElem? (i := 79) rfl) rfl
theorem q1166 : Cond.selects RX8 yX8_setSlot yX8_setSlot ∈ wsL_law := mT_5 (List.mem_of_getElem? (i := 80) rfl) rfl
theorem q1167 : Cond.code yX8_setSlot cX8_setSlot 4 none ∈ wsL_law := mT_5 (List.mem_of_getElem? (i := 81) rfl) rfl
theorem kv_X8_132 : vz_cv RX8 132 yX8_setSlot cX8_setSlot 4 none 3 := ⟨q1216, q1165, q1166, q47, q1167, by decide +kernel⟩
theorem dX8_open_0 : decode cX8_open 0 = .ok (.aload_n 0, 1) := by decide +kernel
theorem dX8_open_1 : decode cX8_open 1 = .ok (.iload_n 1, 1) := by decide +kernel
theorem dX8_open_2 : decode cX8_open 2 = .ok (.iconst 1, 1) := by decide +kernel
theorem dX8_open_3 : decode cX8_open 3 = .ok (.iload_n 2, 1) := by decide +kernel
theorem dX8_open_4 : decode cX8_open 4 = .ok (.iadd, 1) := by decide +kernel
theorem dX8_open_5 : decode cX8_open 5 = .ok (.invokevirtual 120, 3) := by decide +kernel
theorem dX8_open_8 : decode cX8_open 8 = .ok (.istore_n 3, 1) := by decide +kernel
theorem dX8_open_9 : decode cX8_open 9 = .ok (.iload_n 3, 1) := by decide +kernel
theorem dX8_open_10 : decode cX8_open 10 = .ok (.bipush (-9), 2) := by decide +kernel
theorem dX8_open_12 : decode cX8_open 12 = .ok (.if_icmp .ne 47, 3) := by decide +kernel
theorem dX8_open_15 : decode cX8_open 15 = .ok (.aload_n 0, 1) := by decide +kernel
theorem dX8_open_16 : decode cX8_open 16 = .ok (.aload_n 0, 1) := by decide +kernel
theorem dX8_open_17 : decode cX8_open 17 = .ok (.getfield 9, 3) := by decide +kernel
theorem dX8_open_20 : decode cX8_open 20 = .ok (.getfield 53, 3) := by decide +kernel
theorem dX8_open_23 : decode cX8_open 23 = .ok (.iload_n 1, 1) := by decide +kernel
theorem dX8_open_24 : decode cX8_open 24 = .ok (.bipush 9, 2) := by decide +kernel
theorem dX8_open_26 : decode cX8_open 26 = .ok (.invokevirtual 110, 3) := by decide +kernel
theorem dX8_open_29 : decode cX8_open 29 = .ok (.bipush 8, 2) := by decide +kernel
theorem dX8_open_31 : decode cX8_open 31 = .ok (.iload_n 2, 1) := by decide +kernel
theorem dX8_open_32 : decode cX8_open 32 = .ok (.iadd, 1) := by decide +kernel
theorem dX8_open_33 : decode cX8_open 33 = .ok (.aload_n 0, 1) := by decide +kernel
theorem dX8_open_34 : decode cX8_open 34 = .ok (.getfield 19, 3) := by decide +kernel
theorem dX8_open_37 : decode cX8_open 37 = .ok (.getfield 129, 3) := by decide +kernel
theorem dX8_open_40 : decode cX8_open 40 = .ok (.invokevirtual 132, 3) := by decide +kernel
theorem dX8_open_43 : decode cX8_open 43 = .ok (.aload_n 0, 1) := by decide +kernel
theorem dX8_open_44 : decode cX8_open 44 = .ok (.getfield 19, 3) := by decide +kernel
theorem dX8_open_47 : decode cX8_open 47 = .ok (.dup, 1) := by decide +kernel
theorem dX8_open_48 : decode cX8_open 48 = .ok (.getfield 129, 3) := by decide +kernel
theorem dX8_open_51 : decode cX8_open 51 = .ok (.iconst 1, 1) := by decide +kernel
theorem dX8_open_52 : decode cX8_open 52 = .ok (.iadd, 1) := by decide +kernel
theorem dX8_open_53 : decode cX8_open 53 = .ok (.putfield 129, 3) := by decide +kernel
theorem dX8_open_56 : decode cX8_open 56 = .ok (.goto 10, 3) := by decide +kernel
theorem dX8_open_59 : decode cX8_open 59 = .ok (.aload_n 0, 1) := by decide +kernel
theorem dX8_open_60 : decode cX8_open 60 = .ok (.iload_n 3, 1) := by decide +kernel
theorem dX8_open_61 : decode cX8_open 61 = .ok (.bipush (-9), 2) := by decide +kernel
theorem dX8_open_63 : decode cX8_open 63 = .ok (.invokevirtual 126, 3) := by decide +kernel
theorem dX8_open_66 : decode cX8_open 66 = .ok (.return_, 1) := by decide +kernel
set_option maxHeartbeats 8000000 in
set_option maxRecDepth 100000 in
theorem a_W_open (l : Launch) (D : va_G) (g : Nat → ClassId)   (sz : Nat) (h : Nat) (wa : Nat → Nat) (wi : Nat → Int32) (wr : Nat → Nat) (wf : Nat → Nat → Int32) (ph : Nat) (rh : Nat) (la : Nat → Nat) (pa : Nat → Nat) (pr : Nat → Nat) (pf : Nat → Nat → Int32) (ca : Nat → Nat) (ci : Nat → Int32) (cr : Nat → Nat) (cf : Nat → Nat → Int32) (lr : Nat → Nat) (lf : Nat → Nat → Int32) (lmx : Nat) (n1 : Int32) (n2 : Int32) (hw_w : ∀ k, wr k ≤ woW_lim k) (hw_p : ∀ k, pr k ≤ pgW_lim k) (hw_c : ∀ k, cr k ≤ rcW_lim k) (hw_l : ∀ k, lr k ≤ (plW_lim lmx) k) (hmx_l : lmx ≤ 30) : vz_Mv l D (tyG g) yX8_open cX8_open 4 2 48 0 0 [.ref h, .int n1, .int n2] sz (vz_w [woW g h wa wi wr wf ph rh (la 0), pgW g ph pa pr pf, rcW g rh ca ci cr cf, plW g la lr lf lmx]) (fun u : (Nat → Int32) × (Nat → Nat) × (Nat → Nat → Int32) × (Nat → Int32) × (Nat → Nat) × (Nat → Nat → Int32) => (∀ k, u.2.1 k ≤ woW_lim k) ∧ (∀ k, u.2.2.2.2.1 k ≤ rcW_lim k)) (fun u => vz_w [woW g h wa u.1 u.2.1 u.2.2.1 ph rh (la 0), pgW g ph pa pr pf, rcW g rh ca u.2.2.2.1 u.2.2.2.2.1 u.2.2.2.2.2, plW g la lr lf lmx]) := by
  refine vz_svQ (by decide) (Nat.le_of_ble_eq_true rfl) (fun p e s m args below meth c hx hb hr hml hts hown hlk hin hK hsz A hA H locs hP hD hS ls hl Q hQ => ?_)
  have hl : lv_has ls 4 [(0, .ref h), (1, .int n1), (2, .int n2)] := hl
  have J66 : ∀ (x3_66 : Int32), ∀ (wi_66 : Nat → Int32), ∀ (wr_66 : Nat → Nat), ∀ (wf_66 : Nat → Nat → Int32), ∀ (ci_66 : Nat → Int32), ∀ (cr_66 : Nat → Nat), ∀ (cf_66 : Nat → Nat → Int32), (∀ k, wr_66 k ≤ woW_lim k) → (∀ k, cr_66 k ≤ rcW_lim k) → ∀ (H : Heap) (locs : List Loc) (ls : Array Slot), va_P D vwCl (vz_w [woW g h wa wi_66 wr_66 wf_66 ph rh (la 0), pgW g ph pa pr pf, rcW g rh ca ci_66 cr_66 cf_66, plW g la lr lf lmx]) H → va_D A (vz_w [woW g h wa wi_66 wr_66 wf_66 ph rh (la 0), pgW g ph pa pr pf, rcW g rh ca ci_66 cr_66 cf_66, plW g la lr lf lmx]) → va_S A s.heap H locs → lv_has ls 4 [(0, .ref h), (1, .int n1), (2, .int n2), (3, .int x3_66)] → W p l e { frames := 2, cells := 0, slots := 0, locals := 48 } s m args below meth c H locs 0 0 Q (F0 m 66 ls []) := by
    intro x3_66 wi_66 wr_66 wf_66 ci_66 cr_66 cf_66 hw_w_66 hw_c_66 H locs ls hP hD hS hl
    rw [hQ]
    exact vz_vret3 hx hb hr hlk hK hP hD hS (wi_66, wr_66, wf_66, ci_66, cr_66, cf_66) (⟨hw_w_66, hw_c_66⟩) rfl (Nat.le_refl 0) (Nat.le_refl 0) dX8_open_66
  refine lv_aload_n hx hb dX8_open_0 rfl (lv_at hl 0 rfl) ?_
  refine lv_iload_n hx hb dX8_open_1 rfl (lv_at hl 1 rfl) ?_
  refine lv_iconst (v := 1) hx hb dX8_open_2 (by decide) ?_
  refine lv_iload_n hx hb dX8_open_3 rfl (lv_at hl 2 rfl) ?_
  refine lv_iadd hx hb dX8_open_4 ?_
  refine vz_Vi3 (As := [.int n1, .int (1 + n2)]) (rest := []) hx hb hml hown hts hK hA hP hD hS (a_W_pass l D g H.size h wa wi wr wf ph rh la pa pr pf ca ci cr cf lr lf lmx n1 (1 + n2) hw_w hw_p hw_c hw_l hmx_l) kv_X8_120 ⟨Nat.le_of_ble_eq_true rfl, Nat.le_of_ble_eq_true rfl⟩ (q0 := 0) (ci := 8) rfl rfl rfl  hl.1 (Nat.le_of_ble_eq_true rfl) dX8_open_5 ⟨Nat.le_refl _, Nat.le_refl _⟩ rfl (fun v4 ⟨wr_1, wf_2⟩ H locs hw_3 _ hP hD hS => ?_)
  try dsimp only at hw_3
  replace hP : va_P D vwCl (vz_w [woW g h wa wi wr_1 wf_2 ph rh (la 0), pgW g ph pa pr pf, rcW g rh ca ci cr cf, plW g la lr lf lmx]) H := hP
  replace hD : va_D A (vz_w [woW g h wa wi wr_1 wf_2 ph rh (la 0), pgW g ph pa pr pf, rcW g rh ca ci cr cf, plW g la lr lf lmx]) := hD
  refine lv_istore_n (lv' := [(3, .int v4), (0, .ref h), (1, .int n1), (2, .int n2)]) hx hb dX8_open_8 rfl hl (by decide) rfl (fun ls hl => ?_)
  refine lv_iload_n hx hb dX8_open_9 rfl (lv_at hl 0 rfl) ?_
  refine lv_bipush (v := (-9)) hx hb dX8_open_10 (by decide) ?_
  refine lv_icmp_ne (tgt := 59) hx hb dX8_open_12 (by decide) (fun kc5 => ?_) (fun kc5 => ?_)
  · refine lv_aload_n hx hb dX8_open_59 rfl (lv_at hl 1 rfl) ?_
    refine lv_iload_n hx hb dX8_open_60 rfl (lv_at hl 0 rfl) ?_
    refine lv_bipush (v := (-9)) hx hb dX8_open_61 (by decide) ?_
    refine vz_Vv3 (As := [.int v4, .int (-9)]) (rest := []) hx hb hml hown hts hK hA hP hD hS (a_W_raise l D g H.size h wa wi wr_1 wf_2 ph rh la pa pr pf ca ci cr cf lr lf lmx v4 (-9) hw_3 hw_p hw_c hw_l hmx_l) kv_X8_126 ⟨Nat.le_of_ble_eq_true rfl, Nat.le_of_ble_eq_true rfl⟩ (q0 := 0) (ci := 8) rfl rfl rfl  hl.1 (Nat.le_of_ble_eq_true rfl) dX8_open_63 ⟨Nat.le_refl _, Nat.le_refl _⟩ rfl (fun ⟨wi_6, cr_7, cf_8⟩ H locs hw_9 _ hP hD hS => ?_)
    try dsimp only at hw_9
    replace hP : va_P D vwCl (vz_w [woW g h wa wi_6 wr_1 wf_2 ph rh (la 0), pgW g ph pa pr pf, rcW g rh ca ci cr_7 cf_8, plW g la lr lf lmx]) H := hP
    replace hD : va_D A (vz_w [woW g h wa wi_6 wr_1 wf_2 ph rh (la 0), pgW g ph pa pr pf, rcW g rh ca ci cr_7 cf_8, plW g la lr lf lmx]) := hD
    exact J66 v4 wi_6 wr_1 wf_2 ci cr_7 cf_8 hw_3 hw_9 H locs ls hP hD hS (lv_sub hl [1, 2, 3, 0] rfl)
  · refine lv_aload_n hx hb dX8_open_15 rfl (lv_at hl 1 rfl) ?_
    refine lv_aload_n hx hb dX8_open_16 rfl (lv_at hl 1 rfl) ?_
    refine va_get (D := D) (ci := 8) (v := .ref ph) (C := RX8) (T := TX8) (N := 11) hx hb hts inlX8 hown hK hP 0 rfl rfl 5 (by decide) (hts _ q130) (fun _ h => h) rfl dX8_open_17 ?_
    refine va_get (D := D) (ci := 2) (v := .ref (pa 0)) (C := RX2) (T := TX2) (N := 5) hx hb hts inlX2 hown hK hP 11 rfl rfl 0 (by decide) (hts _ q1020) (fun _ h => h) rfl dX8_open_20 ?_
    refine lv_iload_n hx hb dX8_open_23 rfl (lv_at hl 2 rfl) ?_
    refine lv_bipush (v := 9) hx hb dX8_open_24 (by decide) ?_
    refine vz_Vi2 (ws' := fun u : Unit => vz_w [woW g h wa wi wr_1 wf_2 ph rh (la 0), pgW g ph pa pr pf, rcW g rh ca ci cr cf, plW g la lr lf lmx]) (As := [.int n1, .int 9]) (rest := [.ref h]) hx hb hml hown hts hK hA hP hD hS (c_T_get l D g (pa 0) (pa 1) H.size 12 80 (pr 0) 960 (pf 0) n1 9 ⟨rfl, by decide, by decide, by decide, by decide, hw_p 0⟩) kv_X8_110 ⟨Nat.le_of_ble_eq_true rfl, Nat.le_of_ble_eq_true rfl⟩ (q0 := 12) (ci := 6) rfl rfl rfl [12, 13] rfl (by decide) (fun _ => rfl) (fun _ => rfl) hl.1 (Nat.le_of_ble_eq_true rfl) dX8_open_26 ⟨Nat.le_refl _, Nat.le_refl _⟩ rfl (fun v10 _ H locs he11 _ hP hD hS => ?_)
    refine lv_bipush (v := 8) hx hb dX8_open_29 (by decide) ?_
    refine lv_iload_n hx hb dX8_open_31 rfl (lv_at hl 3 rfl) ?_
    refine lv_iadd hx hb dX8_open_32 ?_
    refine lv_aload_n hx hb dX8_open_33 rfl (lv_at hl 1 rfl) ?_
    refine va_get (D := D) (ci := 8) (v := .ref rh) (C := RX8) (T := TX8) (N := 11) hx hb hts inlX8 hown hK hP 0 rfl rfl 6 (by decide) (hts _ q132) (fun _ h => h) rfl dX8_open_34 ?_
    refine va_get (D := D) (ci := 4) (v := .int (ci 3)) (C := RX4) (T := TX4) (N := 12) hx hb hts inlX4 hown hK hP 22 rfl rfl 8 (by decide) (hts _ q1215) (fun _ h => h) rfl dX8_open_37 ?_
    refine vz_Vv3 (As := [.int v10, .int (8 + n2), .int (ci 3)]) (rest := []) hx hb hml hown hts hK hA hP hD hS (a_W_setSlot l D g H.size h wa wi wr_1 wf_2 ph rh la pa pr pf ca ci cr cf lr lf lmx v10 (8 + n2) (ci 3) hw_3 hw_p hw_c hw_l hmx_l) kv_X8_132 ⟨Nat.le_of_ble_eq_true rfl, Nat.le_of_ble_eq_true rfl⟩ (q0 := 0) (ci := 8) rfl rfl rfl  hl.1 (Nat.le_of_ble_eq_true rfl) dX8_open_40 ⟨Nat.le_refl _, Nat.le_refl _⟩ rfl (fun wf_12 H locs _ _ hP hD hS => ?_)
    replace hP : va_P D vwCl (vz_w [woW g h wa wi wr_1 wf_12 ph rh (la 0), pgW g ph pa pr pf, rcW g rh ca ci cr cf, plW g la lr lf lmx]) H := hP
    replace hD : va_D A (vz_w [woW g h wa wi wr_1 wf_12 ph rh (la 0), pgW g ph pa pr pf, rcW g rh ca ci cr cf, plW g la lr lf lmx]) := hD
    refine lv_aload_n hx hb dX8_open_43 rfl (lv_at hl 1 rfl) ?_
    refine va_get (D := D) (ci := 8) (v := .ref rh) (C := RX8) (T := TX8) (N := 11) hx hb hts inlX8 hown hK hP 0 rfl rfl 6 (by decide) (hts _ q132) (fun _ h => h) rfl dX8_open_44 ?_
    refine lv_dup hx hb dX8_open_47 rfl ?_
    refine va_get (D := D) (ci := 4) (v := .int (ci 3)) (C := RX4) (T := TX4) (N := 12) hx hb hts inlX4 hown hK hP 22 rfl rfl 8 (by decide) (hts _ q1215) (fun _ h => h) rfl dX8_open_48 ?_
    refine lv_iconst (v := 1) hx hb dX8_open_51 (by decide) ?_
    refine lv_iadd hx hb dX8_open_52 ?_
    refine va_put (D := D) (ci := 4) (v := .int ((ci 3) + 1)) (ty := .int) (C := RX4) (T := TX4) (N := 12) hx hb hts inlX4 tyX4 tyX4_ok nmX4 hown hK hP hD hS 22 rfl rfl 8 (by decide) (hts _ q1215) (fun _ h => h) rfl (by decide +kernel) rfl rfl (Nat.le_of_ble_eq_true rfl) dX8_open_53 (fun H locs hP hD hS => ?_)
    obtain ⟨ci_13, hci_13, hP, hD⟩ : ∃ ci_13 : Nat → Int32, (ci_13 = (upd ci 3 ((ci 3) + 1))) ∧ va_P D vwCl (vz_w [woW g h wa wi wr_1 wf_12 ph rh (la 0), pgW g ph pa pr pf, rcW g rh ca ci_13 cr cf, plW g la lr lf lmx]) H ∧ va_D A (vz_w [woW g h wa wi wr_1 wf_12 ph rh (la 0), pgW g ph pa pr pf, rcW g rh ca ci_13 cr cf, plW g la lr lf lmx]) := ⟨(upd ci 3 ((ci 3) + 1)), rfl, hP, hD⟩
    refine lv_goto (tgt := 66) hx hb dX8_open_56 (by decide) ?_
    exact J66 v4 wi wr_1 wf_12 ci_13 cr cf hw_3 hw_c H locs ls hP hD hS (lv_sub hl [1, 2, 3, 0] rfl)
theorem q1226 : Cond.methodLink RX8 135 yX8_slot ∈ wsL_law := mT_5 (List.mem_of_getElem? (i := 136) rfl) rfl
theorem q1177 : Cond.instanceMethod yX8_slot ∈ wsL_law := mT_5 (List.mem_of_getElem? (i := 91) rfl) rfl
theorem q1178 : Cond.selects RX8 yX8_slot yX8_slot ∈ wsL_law := mT_5 (List.mem_of_getElem? (i := 92) rfl) rfl
theorem q1179 : Cond.code yX8_slot cX8_slot 3 (some .int) ∈ wsL_law := mT_5 (List.mem_of_getElem? (i := 93) rfl) rfl
theorem kv_X8_135 : vz_cv RX8 135 yX8_slot cX8_slot 3 (some .int) 2 := ⟨q1226, q1177, q1178, q47, q1179, by decide +kernel⟩
theorem q1225 : Cond.fieldLink RX8 138 "WaysAtlas$RunRecord" "closings" "LWaysAtlas$Table;" ∈ wsL_law := mT_1 (List.mem_of_getElem? (i := 216) rfl) rfl
theorem dX8_close_0 : decode cX8_close 0 = .ok (.aload_n 0, 1) := by decide +kernel
theorem dX8_close_1 : decode cX8_close 1 = .ok (.aload_n 0, 1) := by decide +kernel
theorem dX8_close_2 : decode cX8_close 2 = .ok (.getfield 9, 3) := by decide +kernel
theorem dX8_close_5 : decode cX8_close 5 = .ok (.getfield 53, 3) := by decide +kernel
theorem dX8_close_8 : decode cX8_close 8 = .ok (.iload_n 1, 1) := by decide +kernel
theorem dX8_close_9 : decode cX8_close 9 = .ok (.bipush 9, 2) := by decide +kernel
theorem dX8_close_11 : decode cX8_close 11 = .ok (.invokevirtual 110, 3) := by decide +kernel
theorem dX8_close_14 : decode cX8_close 14 = .ok (.bipush 8, 2) := by decide +kernel
theorem dX8_close_16 : decode cX8_close 16 = .ok (.iload_n 2, 1) := by decide +kernel
theorem dX8_close_17 : decode cX8_close 17 = .ok (.iadd, 1) := by decide +kernel
theorem dX8_close_18 : decode cX8_close 18 = .ok (.invokevirtual 135, 3) := by decide +kernel
theorem dX8_close_21 : decode cX8_close 21 = .ok (.istore_n 3, 1) := by decide +kernel
theorem dX8_close_22 : decode cX8_close 22 = .ok (.aload_n 0, 1) := by decide +kernel
theorem dX8_close_23 : decode cX8_close 23 = .ok (.getfield 19, 3) := by decide +kernel
theorem dX8_close_26 : decode cX8_close 26 = .ok (.getfield 138, 3) := by decide +kernel
theorem dX8_close_29 : decode cX8_close 29 = .ok (.aload_n 0, 1) := by decide +kernel
theorem dX8_close_30 : decode cX8_close 30 = .ok (.getfield 19, 3) := by decide +kernel
theorem dX8_close_33 : decode cX8_close 33 = .ok (.getfield 138, 3) := by decide +kernel
theorem dX8_close_36 : decode cX8_close 36 = .ok (.invokevirtual 83, 3) := by decide +kernel
theorem dX8_close_39 : decode cX8_close 39 = .ok (.iconst 0, 1) := by decide +kernel
theorem dX8_close_40 : decode cX8_close 40 = .ok (.iload_n 3, 1) := by decide +kernel
theorem dX8_close_41 : decode cX8_close 41 = .ok (.invokevirtual 91, 3) := by decide +kernel
theorem dX8_close_44 : decode cX8_close 44 = .ok (.aload_n 0, 1) := by decide +kernel
theorem dX8_close_45 : decode cX8_close 45 = .ok (.iconst 0, 1) := by decide +kernel
theorem dX8_close_46 : decode cX8_close 46 = .ok (.iload_n 1, 1) := by decide +kernel
theorem dX8_close_47 : decode cX8_close 47 = .ok (.invokevirtual 95, 3) := by decide +kernel
theorem dX8_close_50 : decode cX8_close 50 = .ok (.aload_n 0, 1) := by decide +kernel
theorem dX8_close_51 : decode cX8_close 51 = .ok (.iload_n 1, 1) := by decide +kernel
theorem dX8_close_52 : decode cX8_close 52 = .ok (.iconst 4, 1) := by decide +kernel
theorem dX8_close_53 : decode cX8_close 53 = .ok (.iload_n 2, 1) := by decide +kernel
theorem dX8_close_54 : decode cX8_close 54 = .ok (.iadd, 1) := by decide +kernel
theorem dX8_close_55 : decode cX8_close 55 = .ok (.invokevirtual 120, 3) := by decide +kernel
theorem dX8_close_58 : decode cX8_close 58 = .ok (.istore 4, 2) := by decide +kernel
theorem dX8_close_60 : decode cX8_close 60 = .ok (.iload 4, 2) := by decide +kernel
theorem dX8_close_62 : decode cX8_close 62 = .ok (.bipush (-9), 2) := by decide +kernel
theorem dX8_close_64 : decode cX8_close 64 = .ok (.if_icmp .eq 11, 3) := by decide +kernel
theorem dX8_close_67 : decode cX8_close 67 = .ok (.aload_n 0, 1) := by decide +kernel
theorem dX8_close_68 : decode cX8_close 68 = .ok (.iload 4, 2) := by decide +kernel
theorem dX8_close_70 : decode cX8_close 70 = .ok (.bipush (-9), 2) := by decide +kernel
theorem dX8_close_72 : decode cX8_close 72 = .ok (.invokevirtual 126, 3) := by decide +kernel
theorem dX8_close_75 : decode cX8_close 75 = .ok (.return_, 1) := by decide +kernel
set_option maxHeartbeats 8000000 in
set_option maxRecDepth 100000 in
theorem a_W_close (l : Launch) (D : va_G) (g : Nat → ClassId)   (sz : Nat) (h : Nat) (wa : Nat → Nat) (wi : Nat → Int32) (wr : Nat → Nat) (wf : Nat → Nat → Int32) (ph : Nat) (rh : Nat) (la : Nat → Nat) (pa : Nat → Nat) (pr : Nat → Nat) (pf : Nat → Nat → Int32) (ca : Nat → Nat) (ci : Nat → Int32) (cr : Nat → Nat) (cf : Nat → Nat → Int32) (lr : Nat → Nat) (lf : Nat → Nat → Int32) (lmx : Nat) (n1 : Int32) (n2 : Int32) (hw_w : ∀ k, wr k ≤ woW_lim k) (hw_p : ∀ k, pr k ≤ pgW_lim k) (hw_c : ∀ k, cr k ≤ rcW_lim k) (hw_l : ∀ k, lr k ≤ (plW_lim lmx) k) (hmx_l : lmx ≤ 30) : vz_Mv l D (tyG g) yX8_close cX8_close 5 2 48 0 0 [.ref h, .int n1, .int n2] sz (vz_w [woW g h wa wi wr wf ph rh (la 0), pgW g ph pa pr pf, rcW g rh ca ci cr cf, plW g la lr lf lmx]) (fun u : (Nat → Int32) × (Nat → Nat) × (Nat → Nat → Int32) × (Nat → Nat) × (Nat → Nat → Int32) => (∀ k, u.2.1 k ≤ woW_lim k) ∧ (∀ k, u.2.2.2.1 k ≤ rcW_lim k)) (fun u => vz_w [woW g h wa u.1 u.2.1 u.2.2.1 ph rh (la 0), pgW g ph pa pr pf, rcW g rh ca ci u.2.2.2.1 u.2.2.2.2, plW g la lr lf lmx]) := by
  refine vz_svQ (by decide) (Nat.le_of_ble_eq_true rfl) (fun p e s m args below meth c hx hb hr hml hts hown hlk hin hK hsz A hA H locs hP hD hS ls hl Q hQ => ?_)
  have hl : lv_has ls 5 [(0, .ref h), (1, .int n1), (2, .int n2)] := hl
  have J75 : ∀ (x3_75 : Int32), ∀ (x4_75 : Int32), ∀ (wi_75 : Nat → Int32), ∀ (wr_75 : Nat → Nat), ∀ (wf_75 : Nat → Nat → Int32), ∀ (cr_75 : Nat → Nat), ∀ (cf_75 : Nat → Nat → Int32), (∀ k, wr_75 k ≤ woW_lim k) → (∀ k, cr_75 k ≤ rcW_lim k) → ∀ (H : Heap) (locs : List Loc) (ls : Array Slot), va_P D vwCl (vz_w [woW g h wa wi_75 wr_75 wf_75 ph rh (la 0), pgW g ph pa pr pf, rcW g rh ca ci cr_75 cf_75, plW g la lr lf lmx]) H → va_D A (vz_w [woW g h wa wi_75 wr_75 wf_75 ph rh (la 0), pgW g ph pa pr pf, rcW g rh ca ci cr_75 cf_75, plW g la lr lf lmx]) → va_S A s.heap H locs → lv_has ls 5 [(0, .ref h), (1, .int n1), (2, .int n2), (3, .int x3_75), (4, .int x4_75)] → W p l e { frames := 2, cells := 0, slots := 0, locals := 48 } s m args below meth c H locs 0 0 Q (F0 m 75 ls []) := by
    intro x3_75 x4_75 wi_75 wr_75 wf_75 cr_75 cf_75 hw_w_75 hw_c_75 H locs ls hP hD hS hl
    rw [hQ]
    exact vz_vret3 hx hb hr hlk hK hP hD hS (wi_75, wr_75, wf_75, cr_75, cf_75) (⟨hw_w_75, hw_c_75⟩) rfl (Nat.le_refl 0) (Nat.le_refl 0) dX8_close_75
  refine lv_aload_n hx hb dX8_close_0 rfl (lv_at hl 0 rfl) ?_
  refine lv_aload_n hx hb dX8_close_1 rfl (lv_at hl 0 rfl) ?_
  refine va_get (D := D) (ci := 8) (v := .ref ph) (C := RX8) (T := TX8) (N := 11) hx hb hts inlX8 hown hK hP 0 rfl rfl 5 (by decide) (hts _ q130) (fun _ h => h) rfl dX8_close_2 ?_
  refine va_get (D := D) (ci := 2) (v := .ref (pa 0)) (C := RX2) (T := TX2) (N := 5) hx hb hts inlX2 hown hK hP 11 rfl rfl 0 (by decide) (hts _ q1020) (fun _ h => h) rfl dX8_close_5 ?_
  refine lv_iload_n hx hb dX8_close_8 rfl (lv_at hl 1 rfl) ?_
  refine lv_bipush (v := 9) hx hb dX8_close_9 (by decide) ?_
  refine vz_Vi2 (ws' := fun u : Unit => vz_w [woW g h wa wi wr wf ph rh (la 0), pgW g ph pa pr pf, rcW g rh ca ci cr cf, plW g la lr lf lmx]) (As := [.int n1, .int 9]) (rest := [.ref h]) hx hb hml hown hts hK hA hP hD hS (c_T_get l D g (pa 0) (pa 1) H.size 12 80 (pr 0) 960 (pf 0) n1 9 ⟨rfl, by decide, by decide, by decide, by decide, hw_p 0⟩) kv_X8_110 ⟨Nat.le_of_ble_eq_true rfl, Nat.le_of_ble_eq_true rfl⟩ (q0 := 12) (ci := 6) rfl rfl rfl [12, 13] rfl (by decide) (fun _ => rfl) (fun _ => rfl) hl.1 (Nat.le_of_ble_eq_true rfl) dX8_close_11 ⟨Nat.le_refl _, Nat.le_refl _⟩ rfl (fun v1 _ H locs he2 _ hP hD hS => ?_)
  refine lv_bipush (v := 8) hx hb dX8_close_14 (by decide) ?_
  refine lv_iload_n hx hb dX8_close_16 rfl (lv_at hl 2 rfl) ?_
  refine lv_iadd hx hb dX8_close_17 ?_
  refine vz_Vi3 (As := [.int v1, .int (8 + n2)]) (rest := []) hx hb hml hown hts hK hA hP hD hS (a_W_slot l D g H.size h wa wi wr wf ph rh la pa pr pf ca ci cr cf lr lf lmx v1 (8 + n2) hw_w hw_p hw_c hw_l hmx_l) kv_X8_135 ⟨Nat.le_of_ble_eq_true rfl, Nat.le_of_ble_eq_true rfl⟩ (q0 := 0) (ci := 8) rfl rfl rfl  hl.1 (Nat.le_of_ble_eq_true rfl) dX8_close_18 ⟨Nat.le_refl _, Nat.le_refl _⟩ rfl (fun v3 _ H locs _ _ hP hD hS => ?_)
  refine lv_istore_n (lv' := [(3, .int v3), (0, .ref h), (1, .int n1), (2, .int n2)]) hx hb dX8_close_21 rfl hl (by decide) rfl (fun ls hl => ?_)
  refine lv_aload_n hx hb dX8_close_22 rfl (lv_at hl 1 rfl) ?_
  refine va_get (D := D) (ci := 8) (v := .ref rh) (C := RX8) (T := TX8) (N := 11) hx hb hts inlX8 hown hK hP 0 rfl rfl 6 (by decide) (hts _ q132) (fun _ h => h) rfl dX8_close_23 ?_
  refine va_get (D := D) (ci := 4) (v := .ref (ca 6)) (C := RX4) (T := TX4) (N := 12) hx hb hts inlX4 hown hK hP 22 rfl rfl 3 (by decide) (hts _ q1225) (fun _ h => h) rfl dX8_close_26 ?_
  refine lv_aload_n hx hb dX8_close_29 rfl (lv_at hl 1 rfl) ?_
  refine va_get (D := D) (ci := 8) (v := .ref rh) (C := RX8) (T := TX8) (N := 11) hx hb hts inlX8 hown hK hP 0 rfl rfl 6 (by decide) (hts _ q132) (fun _ h => h) rfl dX8_close_30 ?_
  refine va_get (D := D) (ci := 4) (v := .ref (ca 6)) (C := RX4) (T := TX4) (N := 12) hx hb hts inlX4 hown hK hP 22 rfl rfl 3 (by decide) (hts _ q1225) (fun _ h => h) rfl dX8_close_33 ?_
  refine vz_Vi2 (ws' := fun u : (Nat × (Nat → Int32)) => vz_w [woW g h wa wi wr wf ph rh (la 0), pgW g ph pa pr pf, rcW g rh ca ci (vz_un cr 3 u.1) (vz_uf cf 3 u.2), plW g la lr lf lmx]) (As := []) (rest := [.ref (ca 6)]) hx hb hml hown hts hK hA hP hD hS (c_T_add l D g (ca 6) (ca 7) H.size 1 400 (cr 3) 400 (cf 3) ⟨rfl, by decide, by decide, by decide, by decide, hw_c 3⟩) kv_X8_83 ⟨Nat.le_of_ble_eq_true rfl, Nat.le_of_ble_eq_true rfl⟩ (q0 := 29) (ci := 6) rfl rfl rfl [29, 30] rfl (by decide) (fun _ => rfl) (fun _ => rfl) hl.1 (Nat.le_of_ble_eq_true rfl) dX8_close_36 ⟨Nat.le_refl _, Nat.le_refl _⟩ rfl (fun v6 ⟨u4R, u4f⟩ H locs ha5 _ hP hD hS => ?_)
  have hq : (cr 3) ≤ 400 := hw_c 3
  replace ha5 : u4R ≤ 400 := by rcases ha5 with ⟨z1, -, z2, -⟩ | ⟨z1, -, z2, -⟩ <;> (dsimp only at z2; omega)
  obtain ⟨cr_7, hw_cr_7, cf_8, hP, hD⟩ : ∃ cr_7 : Nat → Nat, (∀ k, cr_7 k ≤ rcW_lim k) ∧ ∃ cf_8 : Nat → Nat → Int32, va_P D vwCl (vz_w [woW g h wa wi wr wf ph rh (la 0), pgW g ph pa pr pf, rcW g rh ca ci cr_7 cf_8, plW g la lr lf lmx]) H ∧ va_D A (vz_w [woW g h wa wi wr wf ph rh (la 0), pgW g ph pa pr pf, rcW g rh ca ci cr_7 cf_8, plW g la lr lf lmx]) := ⟨(vz_un cr 3 u4R), (vz_wf hw_c (t := 3) (v := u4R) (ha5)), (vz_uf cf 3 u4f), hP, hD⟩
  refine lv_iconst (v := 0) hx hb dX8_close_39 (by decide) ?_
  refine lv_iload_n hx hb dX8_close_40 rfl (lv_at hl 0 rfl) ?_
  refine vz_Vv2 (ws' := fun u : (Nat → Int32) => vz_w [woW g h wa wi wr wf ph rh (la 0), pgW g ph pa pr pf, rcW g rh ca ci cr_7 (vz_uf cf_8 3 u), plW g la lr lf lmx]) (As := [.int v6, .int 0, .int v3]) (rest := []) hx hb hml hown hts hK hA hP hD hS (c_T_set l D g (ca 6) (ca 7) H.size 1 400 (cr_7 3) 400 (cf_8 3) v6 0 v3 ⟨rfl, by decide, by decide, by decide, by decide, hw_cr_7 3⟩) kv_X8_91 ⟨Nat.le_of_ble_eq_true rfl, Nat.le_of_ble_eq_true rfl⟩ (q0 := 29) (ci := 6) rfl rfl rfl [29, 30] rfl (by decide) (fun _ => rfl) (fun _ => rfl) hl.1 (Nat.le_of_ble_eq_true rfl) dX8_close_41 ⟨Nat.le_refl _, Nat.le_refl _⟩ rfl (fun nf9 H locs _ _ hP hD hS => ?_)
  obtain ⟨cf_10, hP, hD⟩ : ∃ cf_10 : Nat → Nat → Int32, va_P D vwCl (vz_w [woW g h wa wi wr wf ph rh (la 0), pgW g ph pa pr pf, rcW g rh ca ci cr_7 cf_10, plW g la lr lf lmx]) H ∧ va_D A (vz_w [woW g h wa wi wr wf ph rh (la 0), pgW g ph pa pr pf, rcW g rh ca ci cr_7 cf_10, plW g la lr lf lmx]) := ⟨(vz_uf cf_8 3 nf9), hP, hD⟩
  refine lv_aload_n hx hb dX8_close_44 rfl (lv_at hl 1 rfl) ?_
  refine lv_iconst (v := 0) hx hb dX8_close_45 (by decide) ?_
  refine lv_iload_n hx hb dX8_close_46 rfl (lv_at hl 2 rfl) ?_
  refine vz_Vv3 (As := [.int 0, .int n1]) (rest := []) hx hb hml hown hts hK hA hP hD hS (a_W_setNow l D g H.size h wa wi wr wf ph rh la pa pr pf ca ci cr_7 cf_10 lr lf lmx 0 n1 hw_w hw_p hw_cr_7 hw_l hmx_l) kv_X8_95 ⟨Nat.le_of_ble_eq_true rfl, Nat.le_of_ble_eq_true rfl⟩ (q0 := 0) (ci := 8) rfl rfl rfl  hl.1 (Nat.le_of_ble_eq_true rfl) dX8_close_47 ⟨Nat.le_refl _, Nat.le_refl _⟩ rfl (fun wf_11 H locs _ _ hP hD hS => ?_)
  replace hP : va_P D vwCl (vz_w [woW g h wa wi wr wf_11 ph rh (la 0), pgW g ph pa pr pf, rcW g rh ca ci cr_7 cf_10, plW g la lr lf lmx]) H := hP
  replace hD : va_D A (vz_w [woW g h wa wi wr wf_11 ph rh (la 0), pgW g ph pa pr pf, rcW g rh ca ci cr_7 cf_10, plW g la lr lf lmx]) := hD
  refine lv_aload_n hx hb dX8_close_50 rfl (lv_at hl 1 rfl) ?_
  refine lv_iload_n hx hb dX8_close_51 rfl (lv_at hl 2 rfl) ?_
  refine lv_iconst (v := 4) hx hb dX8_close_52 (by decide) ?_
  refine lv_iload_n hx hb dX8_close_53 rfl (lv_at hl 3 rfl) ?_
  refine lv_iadd hx hb dX8_close_54 ?_
  refine vz_Vi3 (As := [.int n1, .int (4 + n2)]) (rest := []) hx hb hml hown hts hK hA hP hD hS (a_W_pass l D g H.size h wa wi wr wf_11 ph rh la pa pr pf ca ci cr_7 cf_10 lr lf lmx n1 (4 + n2) hw_w hw_p hw_cr_7 hw_l hmx_l) kv_X8_120 ⟨Nat.le_of_ble_eq_true rfl, Nat.le_of_ble_eq_true rfl⟩ (q0 := 0) (ci := 8) rfl rfl rfl  hl.1 (Nat.le_of_ble_eq_true rfl) dX8_close_55 ⟨Nat.le_refl _, Nat.le_refl _⟩ rfl (fun v15 ⟨wr_12, wf_13⟩ H locs hw_14 _ hP hD hS => ?_)
  try dsimp only at hw_14
  replace hP : va_P D vwCl (vz_w [woW g h wa wi wr_12 wf_13 ph rh (la 0), pgW g ph pa pr pf, rcW g rh ca ci cr_7 cf_10, plW g la lr lf lmx]) H := hP
  replace hD : va_D A (vz_w [woW g h wa wi wr_12 wf_13 ph rh (la 0), pgW g ph pa pr pf, rcW g rh ca ci cr_7 cf_10, plW g la lr lf lmx]) := hD
  refine lv_istore (lv' := [(4, .int v15), (3, .int v3), (0, .ref h), (1, .int n1), (2, .int n2)]) hx hb dX8_close_58 hl (by decide) rfl (fun ls hl => ?_)
  refine lv_iload hx hb dX8_close_60 (lv_at hl 0 rfl) ?_
  refine lv_bipush (v := (-9)) hx hb dX8_close_62 (by decide) ?_
  refine lv_icmp_eq (tgt := 75) hx hb dX8_close_64 (by decide) (fun kc16 => ?_) (fun kc16 => ?_)
  · exact J75 v3 v15 wi wr_12 wf_13 cr_7 cf_10 hw_14 hw_cr_7 H locs ls hP hD hS (lv_sub hl [2, 3, 4, 1, 0] rfl)
  · refine lv_aload_n hx hb dX8_close_67 rfl (lv_at hl 2 rfl) ?_
    refine lv_iload hx hb dX8_close_68 (lv_at hl 0 rfl) ?_
    refine lv_bipush (v := (-9)) hx hb dX8_close_70 (by decide) ?_
    refine vz_Vv3 (As := [.int v15, .int (-9)]) (rest := []) hx hb hml hown hts hK hA hP hD hS (a_W_raise l D g H.size h wa wi wr_12 wf_13 ph rh la pa pr pf ca ci cr_7 cf_10 lr lf lmx v15 (-9) hw_14 hw_p hw_cr_7 hw_l hmx_l) kv_X8_126 ⟨Nat.le_of_ble_eq_true rfl, Nat.le_of_ble_eq_true rfl⟩ (q0 := 0) (ci := 8) rfl rfl rfl  hl.1 (Nat.le_of_ble_eq_true rfl) dX8_close_72 ⟨Nat.le_refl _, Nat.le_refl _⟩ rfl (fun ⟨wi_17, cr_18, cf_19⟩ H locs hw_20 _ hP hD hS => ?_)
    try dsimp only at hw_20
    replace hP : va_P D vwCl (vz_w [woW g h wa wi_17 wr_12 wf_13 ph rh (la 0), pgW g ph pa pr pf, rcW g rh ca ci cr_18 cf_19, plW g la lr lf lmx]) H := hP
    replace hD : va_D A (vz_w [woW g h wa wi_17 wr_12 wf_13 ph rh (la 0), pgW g ph pa pr pf, rcW g rh ca ci cr_18 cf_19, plW g la lr lf lmx]) := hD
    exact J75 v3 v15 wi_17 wr_12 wf_13 cr_18 cf_19 hw_14 hw_20 H locs ls hP hD hS (lv_sub hl [2, 3, 4, 1, 0] rfl)
theorem q1249 : Cond.fieldLink RX8 141 "WaysAtlas$RunRecord" "entries" "LWaysAtlas$Table;" ∈ wsL_law := mT_1 (List.mem_of_getElem? (i := 219) rfl) rfl
theorem dX8_finish_0 : decode cX8_finish 0 = .ok (.aload_n 0, 1) := by decide +kernel
theorem dX8_finish_1 : decode cX8_finish 1 = .ok (.getfield 19, 3) := by decide +kernel
theorem dX8_finish_4 : decode cX8_finish 4 = .ok (.getfield 141, 3) := by decide +kernel
theorem dX8_finish_7 : decode cX8_finish 7 = .ok (.iload_n 1, 1) := by decide +kernel
theorem dX8_finish_8 : decode cX8_finish 8 = .ok (.iconst 0, 1) := by decide +kernel
theorem dX8_finish_9 : decode cX8_finish 9 = .ok (.aload_n 0, 1) := by decide +kernel
theorem dX8_finish_10 : decode cX8_finish 10 = .ok (.getfield 19, 3) := by decide +kernel
theorem dX8_finish_13 : decode cX8_finish 13 = .ok (.getfield 141, 3) := by decide +kernel
theorem dX8_finish_16 : decode cX8_finish 16 = .ok (.iload_n 1, 1) := by decide +kernel
theorem dX8_finish_17 : decode cX8_finish 17 = .ok (.iconst 0, 1) := by decide +kernel
theorem dX8_finish_18 : decode cX8_finish 18 = .ok (.invokevirtual 110, 3) := by decide +kernel
theorem dX8_finish_21 : decode cX8_finish 21 = .ok (.iconst 1, 1) := by decide +kernel
theorem dX8_finish_22 : decode cX8_finish 22 = .ok (.iadd, 1) := by decide +kernel
theorem dX8_finish_23 : decode cX8_finish 23 = .ok (.invokevirtual 91, 3) := by decide +kernel
theorem dX8_finish_26 : decode cX8_finish 26 = .ok (.return_, 1) := by decide +kernel
set_option maxHeartbeats 8000000 in
set_option maxRecDepth 100000 in
theorem a_W_finish (l : Launch) (D : va_G) (g : Nat → ClassId)   (sz : Nat) (h : Nat) (wa : Nat → Nat) (wi : Nat → Int32) (wr : Nat → Nat) (wf : Nat → Nat → Int32) (ph : Nat) (rh : Nat) (la : Nat → Nat) (pa : Nat → Nat) (pr : Nat → Nat) (pf : Nat → Nat → Int32) (ca : Nat → Nat) (ci : Nat → Int32) (cr : Nat → Nat) (cf : Nat → Nat → Int32) (lr : Nat → Nat) (lf : Nat → Nat → Int32) (lmx : Nat) (n1 : Int32) (hw_w : ∀ k, wr k ≤ woW_lim k) (hw_p : ∀ k, pr k ≤ pgW_lim k) (hw_c : ∀ k, cr k ≤ rcW_lim k) (hw_l : ∀ k, lr k ≤ (plW_lim lmx) k) (hmx_l : lmx ≤ 30) : vz_Mv l D (tyG g) yX8_finish cX8_finish 2 1 24 0 0 [.ref h, .int n1] sz (vz_w [woW g h wa wi wr wf ph rh (la 0), pgW g ph pa pr pf, rcW g rh ca ci cr cf, plW g la lr lf lmx]) (fun u : (Nat → Nat → Int32) => True) (fun u => vz_w [woW g h wa wi wr wf ph rh (la 0), pgW g ph pa pr pf, rcW g rh ca ci cr u, plW g la lr lf lmx]) := by
  refine vz_svQ (by decide) (Nat.le_of_ble_eq_true rfl) (fun p e s m args below meth c hx hb hr hml hts hown hlk hin hK hsz A hA H locs hP hD hS ls hl Q hQ => ?_)
  have hl : lv_has ls 2 [(0, .ref h), (1, .int n1)] := hl
  refine lv_aload_n hx hb dX8_finish_0 rfl (lv_at hl 0 rfl) ?_
  refine va_get (D := D) (ci := 8) (v := .ref rh) (C := RX8) (T := TX8) (N := 11) hx hb hts inlX8 hown hK hP 0 rfl rfl 6 (by decide) (hts _ q132) (fun _ h => h) rfl dX8_finish_1 ?_
  refine va_get (D := D) (ci := 4) (v := .ref (ca 8)) (C := RX4) (T := TX4) (N := 12) hx hb hts inlX4 hown hK hP 22 rfl rfl 4 (by decide) (hts _ q1249) (fun _ h => h) rfl dX8_finish_4 ?_
  refine lv_iload_n hx hb dX8_finish_7 rfl (lv_at hl 1 rfl) ?_
  refine lv_iconst (v := 0) hx hb dX8_finish_8 (by decide) ?_
  refine lv_aload_n hx hb dX8_finish_9 rfl (lv_at hl 0 rfl) ?_
  refine va_get (D := D) (ci := 8) (v := .ref rh) (C := RX8) (T := TX8) (N := 11) hx hb hts inlX8 hown hK hP 0 rfl rfl 6 (by decide) (hts _ q132) (fun _ h => h) rfl dX8_finish_10 ?_
  refine va_get (D := D) (ci := 4) (v := .ref (ca 8)) (C := RX4) (T := TX4) (N := 12) hx hb hts inlX4 hown hK hP 22 rfl rfl 4 (by decide) (hts _ q1249) (fun _ h => h) rfl dX8_finish_13 ?_
  refine lv_iload_n hx hb dX8_finish_16 rfl (lv_at hl 1 rfl) ?_
  refine lv_iconst (v := 0) hx hb dX8_finish_17 (by decide) ?_
  refine vz_Vi2 (ws' := fun u : Unit => vz_w [woW g h wa wi wr wf ph rh (la 0), pgW g ph pa pr pf, rcW g rh ca ci cr cf, plW g la lr lf lmx]) (As := [.int n1, .int 0]) (rest := [.int 0, .int n1, .ref (ca 8)]) hx hb hml hown hts hK hA hP hD hS (c_T_get l D g (ca 8) (ca 9) H.size 1 80 (cr 4) 80 (cf 4) n1 0 ⟨rfl, by decide, by decide, by decide, by decide, hw_c 4⟩) kv_X8_110 ⟨Nat.le_of_ble_eq_true rfl, Nat.le_of_ble_eq_true rfl⟩ (q0 := 31) (ci := 6) rfl rfl rfl [31, 32] rfl (by decide) (fun _ => rfl) (fun _ => rfl) hl.1 (Nat.le_of_ble_eq_true rfl) dX8_finish_18 ⟨Nat.le_refl _, Nat.le_refl _⟩ rfl (fun v1 _ H locs he2 _ hP hD hS => ?_)
  refine lv_iconst (v := 1) hx hb dX8_finish_21 (by decide) ?_
  refine lv_iadd hx hb dX8_finish_22 ?_
  refine vz_Vv2 (ws' := fun u : (Nat → Int32) => vz_w [woW g h wa wi wr wf ph rh (la 0), pgW g ph pa pr pf, rcW g rh ca ci cr (vz_uf cf 4 u), plW g la lr lf lmx]) (As := [.int n1, .int 0, .int (v1 + 1)]) (rest := []) hx hb hml hown hts hK hA hP hD hS (c_T_set l D g (ca 8) (ca 9) H.size 1 80 (cr 4) 80 (cf 4) n1 0 (v1 + 1) ⟨rfl, by decide, by decide, by decide, by decide, hw_c 4⟩) kv_X8_91 ⟨Nat.le_of_ble_eq_true rfl, Nat.le_of_ble_eq_true rfl⟩ (q0 := 31) (ci := 6) rfl rfl rfl [31, 32] rfl (by decide) (fun _ => rfl) (fun _ => rfl) hl.1 (Nat.le_of_ble_eq_true rfl) dX8_finish_23 ⟨Nat.le_refl _, Nat.le_refl _⟩ rfl (fun nf3 H locs _ _ hP hD hS => ?_)
  obtain ⟨cf_4, hP, hD⟩ : ∃ cf_4 : Nat → Nat → Int32, va_P D vwCl (vz_w [woW g h wa wi wr wf ph rh (la 0), pgW g ph pa pr pf, rcW g rh ca ci cr cf_4, plW g la lr lf lmx]) H ∧ va_D A (vz_w [woW g h wa wi wr wf ph rh (la 0), pgW g ph pa pr pf, rcW g rh ca ci cr cf_4, plW g la lr lf lmx]) := ⟨(vz_uf cf 4 nf3), hP, hD⟩
  rw [hQ]
  exact vz_vret3 hx hb hr hlk hK hP hD hS cf_4 trivial rfl (Nat.le_refl 0) (Nat.le_refl 0) dX8_finish_26
theorem dX8_apply_0 : decode cX8_apply 0 = .ok (.iload_n 1, 1) := by decide +kernel
theorem dX8_apply_1 : decode cX8_apply 1 = .ok (.tableswitch 43 42 45 #[39, 31, 43, 35], 31) := by decide +kernel
theorem dX8_apply_32 : decode cX8_apply 32 = .ok (.iload_n 2, 1) := by decide +kernel
theorem dX8_apply_33 : decode cX8_apply 33 = .ok (.iload_n 3, 1) := by decide +kernel
theorem dX8_apply_34 : decode cX8_apply 34 = .ok (.iadd, 1) := by decide +kernel
theorem dX8_apply_35 : decode cX8_apply 35 = .ok (.ireturn, 1) := by decide +kernel
theorem dX8_apply_36 : decode cX8_apply 36 = .ok (.iload_n 2, 1) := by decide +kernel
theorem dX8_apply_37 : decode cX8_apply 37 = .ok (.iload_n 3, 1) := by decide +kernel
theorem dX8_apply_38 : decode cX8_apply 38 = .ok (.isub, 1) := by decide +kernel
theorem dX8_apply_39 : decode cX8_apply 39 = .ok (.ireturn, 1) := by decide +kernel
theorem dX8_apply_40 : decode cX8_apply 40 = .ok (.iload_n 2, 1) := by decide +kernel
theorem dX8_apply_41 : decode cX8_apply 41 = .ok (.iload_n 3, 1) := by decide +kernel
theorem dX8_apply_42 : decode cX8_apply 42 = .ok (.imul, 1) := by decide +kernel
theorem dX8_apply_43 : decode cX8_apply 43 = .ok (.ireturn, 1) := by decide +kernel
theorem dX8_apply_44 : decode cX8_apply 44 = .ok (.iload_n 3, 1) := by decide +kernel
theorem dX8_apply_45 : decode cX8_apply 45 = .ok (.ifCond .ne 12, 3) := by decide +kernel
theorem dX8_apply_48 : decode cX8_apply 48 = .ok (.aload_n 0, 1) := by decide +kernel
theorem dX8_apply_49 : decode cX8_apply 49 = .ok (.iconst 2, 1) := by decide +kernel
theorem dX8_apply_50 : decode cX8_apply 50 = .ok (.bipush (-9), 2) := by decide +kernel
theorem dX8_apply_52 : decode cX8_apply 52 = .ok (.invokevirtual 126, 3) := by decide +kernel
theorem dX8_apply_55 : decode cX8_apply 55 = .ok (.iconst 0, 1) := by decide +kernel
theorem dX8_apply_56 : decode cX8_apply 56 = .ok (.ireturn, 1) := by decide +kernel
theorem dX8_apply_57 : decode cX8_apply 57 = .ok (.iload_n 1, 1) := by decide +kernel
theorem dX8_apply_58 : decode cX8_apply 58 = .ok (.bipush 47, 2) := by decide +kernel
theorem dX8_apply_60 : decode cX8_apply 60 = .ok (.if_icmp .ne 9, 3) := by decide +kernel
theorem dX8_apply_63 : decode cX8_apply 63 = .ok (.iload_n 2, 1) := by decide +kernel
theorem dX8_apply_64 : decode cX8_apply 64 = .ok (.iload_n 3, 1) := by decide +kernel
theorem dX8_apply_65 : decode cX8_apply 65 = .ok (.idiv, 1) := by decide +kernel
theorem dX8_apply_66 : decode cX8_apply 66 = .ok (.goto 6, 3) := by decide +kernel
theorem dX8_apply_69 : decode cX8_apply 69 = .ok (.iload_n 2, 1) := by decide +kernel
theorem dX8_apply_70 : decode cX8_apply 70 = .ok (.iload_n 3, 1) := by decide +kernel
theorem dX8_apply_71 : decode cX8_apply 71 = .ok (.irem, 1) := by decide +kernel
theorem dX8_apply_72 : decode cX8_apply 72 = .ok (.ireturn, 1) := by decide +kernel
set_option maxHeartbeats 8000000 in
set_option maxRecDepth 100000 in
theorem a_W_apply (l : Launch) (D : va_G) (g : Nat → ClassId)   (sz : Nat) (h : Nat) (wa : Nat → Nat) (wi : Nat → Int32) (wr : Nat → Nat) (wf : Nat → Nat → Int32) (ph : Nat) (rh : Nat) (la : Nat → Nat) (pa : Nat → Nat) (pr : Nat → Nat) (pf : Nat → Nat → Int32) (ca : Nat → Nat) (ci : Nat → Int32) (cr : Nat → Nat) (cf : Nat → Nat → Int32) (lr : Nat → Nat) (lf : Nat → Nat → Int32) (lmx : Nat) (n1 : Int32) (n2 : Int32) (n3 : Int32) (hw_w : ∀ k, wr k ≤ woW_lim k) (hw_p : ∀ k, pr k ≤ pgW_lim k) (hw_c : ∀ k, cr k ≤ rcW_lim k) (hw_l : ∀ k, lr k ≤ (plW_lim lmx) k) (hmx_l : lmx ≤ 30) : vz_Mi l D (tyG g) yX8_apply cX8_apply 4 2 48 0 0 .int [.ref h, .int n1, .int n2, .int n3] sz (vz_w [woW g h wa wi wr wf ph rh (la 0), pgW g ph pa pr pf, rcW g rh ca ci cr cf, plW g la lr lf lmx]) (fun r (u : (Nat → Int32) × (Nat → Nat) × (Nat → Nat → Int32)) => (∀ k, u.2.1 k ≤ rcW_lim k)) (fun u => vz_w [woW g h wa u.1 wr wf ph rh (la 0), pgW g ph pa pr pf, rcW g rh ca ci u.2.1 u.2.2, plW g la lr lf lmx]) := by
  refine vz_siQ (by decide) (Nat.le_of_ble_eq_true rfl) (fun p e s m args below meth c hx hb hr hml hts hown hlk hin hK hsz A hA H locs hP hD hS ls hl Q hQ => ?_)
  have hl : lv_has ls 4 [(0, .ref h), (1, .int n1), (2, .int n2), (3, .int n3)] := hl
  have J72 : ∀ (y0_72 : Int32), ∀ (wi_72 : Nat → Int32), ∀ (cr_72 : Nat → Nat), ∀ (cf_72 : Nat → Nat → Int32), (∀ k, cr_72 k ≤ rcW_lim k) → ∀ (H : Heap) (locs : List Loc) (ls : Array Slot), va_P D vwCl (vz_w [woW g h wa wi_72 wr wf ph rh (la 0), pgW g ph pa pr pf, rcW g rh ca ci cr_72 cf_72, plW g la lr lf lmx]) H → va_D A (vz_w [woW g h wa wi_72 wr wf ph rh (la 0), pgW g ph pa pr pf, rcW g rh ca ci cr_72 cf_72, plW g la lr lf lmx]) → va_S A s.heap H locs → lv_has ls 4 [(0, .ref h), (1, .int n1), (2, .int n2), (3, .int n3)] → W p l e { frames := 2, cells := 0, slots := 0, locals := 48 } s m args below meth c H locs 0 0 Q (F0 m 72 ls [.int y0_72]) := by
    intro y0_72 wi_72 cr_72 cf_72 hw_c_72 H locs ls hP hD hS hl
    rw [hQ]
    exact vz_iret3 hx hb hr hlk hK hP hD hS (wi_72, cr_72, cf_72) hw_c_72 rfl (Nat.le_refl 0) (Nat.le_refl 0) dX8_apply_72
  refine lv_iload_n hx hb dX8_apply_0 rfl (lv_at hl 1 rfl) ?_
  have S1_32 : W p l e { frames := 2, cells := 0, slots := 0, locals := 48 } s m args below meth c H locs 0 0 Q (F0 m 32 ls []) := by
    refine lv_iload_n hx hb dX8_apply_32 rfl (lv_at hl 2 rfl) ?_
    refine lv_iload_n hx hb dX8_apply_33 rfl (lv_at hl 3 rfl) ?_
    refine lv_iadd hx hb dX8_apply_34 ?_
    rw [hQ]
    exact vz_iret3 hx hb hr hlk hK hP hD hS (wi, cr, cf) hw_c rfl (Nat.le_refl 0) (Nat.le_refl 0) dX8_apply_35
  have S1_36 : W p l e { frames := 2, cells := 0, slots := 0, locals := 48 } s m args below meth c H locs 0 0 Q (F0 m 36 ls []) := by
    refine lv_iload_n hx hb dX8_apply_36 rfl (lv_at hl 2 rfl) ?_
    refine lv_iload_n hx hb dX8_apply_37 rfl (lv_at hl 3 rfl) ?_
    refine lv_isub hx hb dX8_apply_38 ?_
    rw [hQ]
    exact vz_iret3 hx hb hr hlk hK hP hD hS (wi, cr, cf) hw_c rfl (Nat.le_refl 0) (Nat.le_refl 0) dX8_apply_39
  have S1_40 : W p l e { frames := 2, cells := 0, slots := 0, locals := 48 } s m args below meth c H locs 0 0 Q (F0 m 40 ls []) := by
    refine lv_iload_n hx hb dX8_apply_40 rfl (lv_at hl 2 rfl) ?_
    refine lv_iload_n hx hb dX8_apply_41 rfl (lv_at hl 3 rfl) ?_
    refine lv_imul hx hb dX8_apply_42 ?_
    rw [hQ]
    exact vz_iret3 hx hb hr hlk hK hP hD hS (wi, cr, cf) hw_c rfl (Nat.le_refl 0) (Nat.le_refl 0) dX8_apply_43
  have S1_44 : W p l e { frames := 2, cells := 0, slots := 0, locals := 48 } s m args below meth c H locs 0 0 Q (F0 m 44 ls []) := by
    refine lv_iload_n hx hb dX8_apply_44 rfl (lv_at hl 3 rfl) ?_
    refine lv_if_ne (tgt := 57) hx hb dX8_apply_45 (by decide) (fun kc1 => ?_) (fun kc1 => ?_)
    · refine lv_iload_n hx hb dX8_apply_57 rfl (lv_at hl 1 rfl) ?_
      refine lv_bipush (v := 47) hx hb dX8_apply_58 (by decide) ?_
      refine lv_icmp_ne (tgt := 69) hx hb dX8_apply_60 (by decide) (fun kc2 => ?_) (fun kc2 => ?_)
      · refine lv_iload_n hx hb dX8_apply_69 rfl (lv_at hl 2 rfl) ?_
        refine lv_iload_n hx hb dX8_apply_70 rfl (lv_at hl 3 rfl) ?_
        refine lv_irem hx hb dX8_apply_71 (kc1) ?_
        exact J72 (n2 - n2 / n3 * n3) wi cr cf hw_c H locs ls hP hD hS (lv_sub hl [0, 1, 2, 3] rfl)
      · refine lv_iload_n hx hb dX8_apply_63 rfl (lv_at hl 2 rfl) ?_
        refine lv_iload_n hx hb dX8_apply_64 rfl (lv_at hl 3 rfl) ?_
        refine lv_idiv hx hb dX8_apply_65 (kc1) ?_
        refine lv_goto (tgt := 72) hx hb dX8_apply_66 (by decide) ?_
        exact J72 (n2 / n3) wi cr cf hw_c H locs ls hP hD hS (lv_sub hl [0, 1, 2, 3] rfl)
    · refine lv_aload_n hx hb dX8_apply_48 rfl (lv_at hl 0 rfl) ?_
      refine lv_iconst (v := 2) hx hb dX8_apply_49 (by decide) ?_
      refine lv_bipush (v := (-9)) hx hb dX8_apply_50 (by decide) ?_
      refine vz_Vv3 (As := [.int 2, .int (-9)]) (rest := []) hx hb hml hown hts hK hA hP hD hS (a_W_raise l D g H.size h wa wi wr wf ph rh la pa pr pf ca ci cr cf lr lf lmx 2 (-9) hw_w hw_p hw_c hw_l hmx_l) kv_X8_126 ⟨Nat.le_of_ble_eq_true rfl, Nat.le_of_ble_eq_true rfl⟩ (q0 := 0) (ci := 8) rfl rfl rfl  hl.1 (Nat.le_of_ble_eq_true rfl) dX8_apply_52 ⟨Nat.le_refl _, Nat.le_refl _⟩ rfl (fun ⟨wi_3, cr_4, cf_5⟩ H locs hw_6 _ hP hD hS => ?_)
      try dsimp only at hw_6
      replace hP : va_P D vwCl (vz_w [woW g h wa wi_3 wr wf ph rh (la 0), pgW g ph pa pr pf, rcW g rh ca ci cr_4 cf_5, plW g la lr lf lmx]) H := hP
      replace hD : va_D A (vz_w [woW g h wa wi_3 wr wf ph rh (la 0), pgW g ph pa pr pf, rcW g rh ca ci cr_4 cf_5, plW g la lr lf lmx]) := hD
      refine lv_iconst (v := 0) hx hb dX8_apply_55 (by decide) ?_
      rw [hQ]
      exact vz_iret3 hx hb hr hlk hK hP hD hS (wi_3, cr_4, cf_5) hw_6 rfl (Nat.le_refl 0) (Nat.le_refl 0) dX8_apply_56
  refine vz_tsw (td := 44) hx hb dX8_apply_1 (by decide) [40, 32, 44, 36] (by decide) (by decide) (fun hv => ?_) (fun k t hk hv => ?_)
  · exact S1_44
  · have hm := List.mem_of_getElem? hk
    simp only [List.mem_cons, List.not_mem_nil, or_false] at hm
    rcases hm with rfl | rfl | rfl | rfl
    · exact S1_40
    · exact S1_32
    · exact S1_44
    · exact S1_36
theorem dX8_compares_0 : decode cX8_compares 0 = .ok (.iload_n 1, 1) := by decide +kernel
theorem dX8_compares_1 : decode cX8_compares 1 = .ok (.bipush 61, 2) := by decide +kernel
theorem dX8_compares_3 : decode cX8_compares 3 = .ok (.if_icmp .ne 16, 3) := by decide +kernel
theorem dX8_compares_6 : decode cX8_compares 6 = .ok (.iload_n 2, 1) := by decide +kernel
theorem dX8_compares_7 : decode cX8_compares 7 = .ok (.iload_n 3, 1) := by decide +kernel
theorem dX8_compares_8 : decode cX8_compares 8 = .ok (.if_icmp .ne 7, 3) := by decide +kernel
theorem dX8_compares_11 : decode cX8_compares 11 = .ok (.iconst 1, 1) := by decide +kernel
theorem dX8_compares_12 : decode cX8_compares 12 = .ok (.goto 36, 3) := by decide +kernel
theorem dX8_compares_15 : decode cX8_compares 15 = .ok (.iconst 0, 1) := by decide +kernel
theorem dX8_compares_16 : decode cX8_compares 16 = .ok (.goto 32, 3) := by decide +kernel
theorem dX8_compares_19 : decode cX8_compares 19 = .ok (.iload_n 1, 1) := by decide +kernel
theorem dX8_compares_20 : decode cX8_compares 20 = .ok (.bipush 60, 2) := by decide +kernel
theorem dX8_compares_22 : decode cX8_compares 22 = .ok (.if_icmp .ne 16, 3) := by decide +kernel
theorem dX8_compares_25 : decode cX8_compares 25 = .ok (.iload_n 2, 1) := by decide +kernel
theorem dX8_compares_26 : decode cX8_compares 26 = .ok (.iload_n 3, 1) := by decide +kernel
theorem dX8_compares_27 : decode cX8_compares 27 = .ok (.if_icmp .ge 7, 3) := by decide +kernel
theorem dX8_compares_30 : decode cX8_compares 30 = .ok (.iconst 1, 1) := by decide +kernel
theorem dX8_compares_31 : decode cX8_compares 31 = .ok (.goto 17, 3) := by decide +kernel
theorem dX8_compares_34 : decode cX8_compares 34 = .ok (.iconst 0, 1) := by decide +kernel
theorem dX8_compares_35 : decode cX8_compares 35 = .ok (.goto 13, 3) := by decide +kernel
theorem dX8_compares_38 : decode cX8_compares 38 = .ok (.iload_n 2, 1) := by decide +kernel
theorem dX8_compares_39 : decode cX8_compares 39 = .ok (.iload_n 3, 1) := by decide +kernel
theorem dX8_compares_40 : decode cX8_compares 40 = .ok (.if_icmp .le 7, 3) := by decide +kernel
theorem dX8_compares_43 : decode cX8_compares 43 = .ok (.iconst 1, 1) := by decide +kernel
theorem dX8_compares_44 : decode cX8_compares 44 = .ok (.goto 4, 3) := by decide +kernel
theorem dX8_compares_47 : decode cX8_compares 47 = .ok (.iconst 0, 1) := by decide +kernel
theorem dX8_compares_48 : decode cX8_compares 48 = .ok (.ireturn, 1) := by decide +kernel
set_option maxHeartbeats 8000000 in
set_option maxRecDepth 100000 in
theorem a_W_compares (l : Launch) (D : va_G) (g : Nat → ClassId)   (sz : Nat) (h : Nat) (wa : Nat → Nat) (wi : Nat → Int32) (wr : Nat → Nat) (wf : Nat → Nat → Int32) (ph : Nat) (rh : Nat) (la : Nat → Nat) (pa : Nat → Nat) (pr : Nat → Nat) (pf : Nat → Nat → Int32) (ca : Nat → Nat) (ci : Nat → Int32) (cr : Nat → Nat) (cf : Nat → Nat → Int32) (lr : Nat → Nat) (lf : Nat → Nat → Int32) (lmx : Nat) (n1 : Int32) (n2 : Int32) (n3 : Int32) (hw_w : ∀ k, wr k ≤ woW_lim k) (hw_p : ∀ k, pr k ≤ pgW_lim k) (hw_c : ∀ k, cr k ≤ rcW_lim k) (hw_l : ∀ k, lr k ≤ (plW_lim lmx) k) (hmx_l : lmx ≤ 30) : vz_Mi l D (tyG g) yX8_compares cX8_compares 4 0 0 0 0 .boolean [.ref h, .int n1, .int n2, .int n3] sz (vz_w [woW g h wa wi wr wf ph rh (la 0), pgW g ph pa pr pf, rcW g rh ca ci cr cf, plW g la lr lf lmx]) (fun r (u : Unit) => (r = 0 ∨ r = 1)) (fun u => vz_w [woW g h wa wi wr wf ph rh (la 0), pgW g ph pa pr pf, rcW g rh ca ci cr cf, plW g la lr lf lmx]) := by
  refine vz_siQ (by decide) (Nat.le_of_ble_eq_true rfl) (fun p e s m args below meth c hx hb hr hml hts hown hlk hin hK hsz A hA H locs hP hD hS ls hl Q hQ => ?_)
  have hl : lv_has ls 4 [(0, .ref h), (1, .int n1), (2, .int n2), (3, .int n3)] := hl
  have J48 : ∀ (y0_48 : Int32), (y0_48 = 0 ∨ y0_48 = 1) → ∀ (H : Heap) (locs : List Loc) (ls : Array Slot), va_P D vwCl (vz_w [woW g h wa wi wr wf ph rh (la 0), pgW g ph pa pr pf, rcW g rh ca ci cr cf, plW g la lr lf lmx]) H → va_D A (vz_w [woW g h wa wi wr wf ph rh (la 0), pgW g ph pa pr pf, rcW g rh ca ci cr cf, plW g la lr lf lmx]) → va_S A s.heap H locs → lv_has ls 4 [(0, .ref h), (1, .int n1), (2, .int n2), (3, .int n3)] → W p l e { frames := 0, cells := 0, slots := 0, locals := 0 } s m args below meth c H locs 0 0 Q (F0 m 48 ls [.int y0_48]) := by
    intro y0_48 hz_y0_48 H locs ls hP hD hS hl
    rw [hQ]
    exact vz_zret3 hx hb hr hlk hK hP hD hS () hz_y0_48 rfl (Nat.le_refl 0) (Nat.le_refl 0) (vz_nb hz_y0_48) dX8_compares_48
  refine lv_iload_n hx hb dX8_compares_0 rfl (lv_at hl 1 rfl) ?_
  refine lv_bipush (v := 61) hx hb dX8_compares_1 (by decide) ?_
  refine lv_icmp_ne (tgt := 19) hx hb dX8_compares_3 (by decide) (fun kc1 => ?_) (fun kc1 => ?_)
  · refine lv_iload_n hx hb dX8_compares_19 rfl (lv_at hl 1 rfl) ?_
    refine lv_bipush (v := 60) hx hb dX8_compares_20 (by decide) ?_
    refine lv_icmp_ne (tgt := 38) hx hb dX8_compares_22 (by decide) (fun kc2 => ?_) (fun kc2 => ?_)
    · refine lv_iload_n hx hb dX8_compares_38 rfl (lv_at hl 2 rfl) ?_
      refine lv_iload_n hx hb dX8_compares_39 rfl (lv_at hl 3 rfl) ?_
      refine lv_icmp_le (tgt := 47) hx hb dX8_compares_40 (by decide) (fun kc3 => ?_) (fun kc3 => ?_)
      · refine lv_iconst (v := 0) hx hb dX8_compares_47 (by decide) ?_
        exact J48 0 (Or.inl rfl) H locs ls hP hD hS (lv_sub hl [0, 1, 2, 3] rfl)
      · refine lv_iconst (v := 1) hx hb dX8_compares_43 (by decide) ?_
        refine lv_goto (tgt := 48) hx hb dX8_compares_44 (by decide) ?_
        exact J48 1 (Or.inr rfl) H locs ls hP hD hS (lv_sub hl [0, 1, 2, 3] rfl)
    · refine lv_iload_n hx hb dX8_compares_25 rfl (lv_at hl 2 rfl) ?_
      refine lv_iload_n hx hb dX8_compares_26 rfl (lv_at hl 3 rfl) ?_
      refine lv_icmp_ge (tgt := 34) hx hb dX8_compares_27 (by decide) (fun kc4 => ?_) (fun kc4 => ?_)
      · refine lv_iconst (v := 0) hx hb dX8_compares_34 (by decide) ?_
        refine lv_goto (tgt := 48) hx hb dX8_compares_35 (by decide) ?_
        exact J48 0 (Or.inl rfl) H locs ls hP hD hS (lv_sub hl [0, 1, 2, 3] rfl)
      · refine lv_iconst (v := 1) hx hb dX8_compares_30 (by decide) ?_
        refine lv_goto (tgt := 48) hx hb dX8_compares_31 (by decide) ?_
        exact J48 1 (Or.inr rfl) H locs ls hP hD hS (lv_sub hl [0, 1, 2, 3] rfl)
  · refine lv_iload_n hx hb dX8_compares_6 rfl (lv_at hl 2 rfl) ?_
    refine lv_iload_n hx hb dX8_compares_7 rfl (lv_at hl 3 rfl) ?_
    refine lv_icmp_ne (tgt := 15) hx hb dX8_compares_8 (by decide) (fun kc5 => ?_) (fun kc5 => ?_)
    · refine lv_iconst (v := 0) hx hb dX8_compares_15 (by decide) ?_
      refine lv_goto (tgt := 48) hx hb dX8_compares_16 (by decide) ?_
      exact J48 0 (Or.inl rfl) H locs ls hP hD hS (lv_sub hl [0, 1, 2, 3] rfl)
    · refine lv_iconst (v := 1) hx hb dX8_compares_11 (by decide) ?_
      refine lv_goto (tgt := 48) hx hb dX8_compares_12 (by decide) ?_
      exact J48 1 (Or.inr rfl) H locs ls hP hD hS (lv_sub hl [0, 1, 2, 3] rfl)
theorem q137 : Cond.fieldLink RX8 37 "WaysAtlas$World" "arrays" "LWaysAtlas$Table;" ∈ wsL_law := mT_2 (List.mem_of_getElem? (i := 42) rfl) rfl
theorem dX8_newRow_0 : decode cX8_newRow 0 = .ok (.iload_n 2, 1) := by decide +kernel
theorem dX8_newRow_1 : decode cX8_newRow 1 = .ok (.ifCond .lt 9, 3) := by decide +kernel
theorem dX8_newRow_4 : decode cX8_newRow 4 = .ok (.iload_n 2, 1) := by decide +kernel
theorem dX8_newRow_5 : decode cX8_newRow 5 = .ok (.bipush 8, 2) := by decide +kernel
theorem dX8_newRow_7 : decode cX8_newRow 7 = .ok (.if_icmp .le 11, 3) := by decide +kernel
theorem dX8_newRow_10 : decode cX8_newRow 10 = .ok (.aload_n 0, 1) := by decide +kernel
theorem dX8_newRow_11 : decode cX8_newRow 11 = .ok (.iconst 5, 1) := by decide +kernel
theorem dX8_newRow_12 : decode cX8_newRow 12 = .ok (.bipush (-9), 2) := by decide +kernel
theorem dX8_newRow_14 : decode cX8_newRow 14 = .ok (.invokevirtual 126, 3) := by decide +kernel
theorem dX8_newRow_17 : decode cX8_newRow 17 = .ok (.return_, 1) := by decide +kernel
theorem dX8_newRow_18 : decode cX8_newRow 18 = .ok (.aload_n 0, 1) := by decide +kernel
theorem dX8_newRow_19 : decode cX8_newRow 19 = .ok (.getfield 37, 3) := by decide +kernel
theorem dX8_newRow_22 : decode cX8_newRow 22 = .ok (.invokevirtual 83, 3) := by decide +kernel
theorem dX8_newRow_25 : decode cX8_newRow 25 = .ok (.istore_n 3, 1) := by decide +kernel
theorem dX8_newRow_26 : decode cX8_newRow 26 = .ok (.aload_n 0, 1) := by decide +kernel
theorem dX8_newRow_27 : decode cX8_newRow 27 = .ok (.getfield 37, 3) := by decide +kernel
theorem dX8_newRow_30 : decode cX8_newRow 30 = .ok (.iload_n 3, 1) := by decide +kernel
theorem dX8_newRow_31 : decode cX8_newRow 31 = .ok (.iconst 0, 1) := by decide +kernel
theorem dX8_newRow_32 : decode cX8_newRow 32 = .ok (.iload_n 2, 1) := by decide +kernel
theorem dX8_newRow_33 : decode cX8_newRow 33 = .ok (.invokevirtual 91, 3) := by decide +kernel
theorem dX8_newRow_36 : decode cX8_newRow 36 = .ok (.iconst 1, 1) := by decide +kernel
theorem dX8_newRow_37 : decode cX8_newRow 37 = .ok (.istore 4, 2) := by decide +kernel
theorem dX8_newRow_39 : decode cX8_newRow 39 = .ok (.iload 4, 2) := by decide +kernel
theorem dX8_newRow_41 : decode cX8_newRow 41 = .ok (.iload_n 2, 1) := by decide +kernel
theorem dX8_newRow_42 : decode cX8_newRow 42 = .ok (.if_icmp .gt 20, 3) := by decide +kernel
theorem dX8_newRow_45 : decode cX8_newRow 45 = .ok (.aload_n 0, 1) := by decide +kernel
theorem dX8_newRow_46 : decode cX8_newRow 46 = .ok (.getfield 37, 3) := by decide +kernel
theorem dX8_newRow_49 : decode cX8_newRow 49 = .ok (.iload_n 3, 1) := by decide +kernel
theorem dX8_newRow_50 : decode cX8_newRow 50 = .ok (.iload 4, 2) := by decide +kernel
theorem dX8_newRow_52 : decode cX8_newRow 52 = .ok (.iconst 0, 1) := by decide +kernel
theorem dX8_newRow_53 : decode cX8_newRow 53 = .ok (.invokevirtual 91, 3) := by decide +kernel
theorem dX8_newRow_56 : decode cX8_newRow 56 = .ok (.iinc 4 1, 3) := by decide +kernel
theorem dX8_newRow_59 : decode cX8_newRow 59 = .ok (.goto (-20), 3) := by decide +kernel
theorem dX8_newRow_62 : decode cX8_newRow 62 = .ok (.aload_n 0, 1) := by decide +kernel
theorem dX8_newRow_63 : decode cX8_newRow 63 = .ok (.bipush 9, 2) := by decide +kernel
theorem dX8_newRow_65 : decode cX8_newRow 65 = .ok (.iload_n 1, 1) := by decide +kernel
theorem dX8_newRow_66 : decode cX8_newRow 66 = .ok (.iadd, 1) := by decide +kernel
theorem dX8_newRow_67 : decode cX8_newRow 67 = .ok (.iload_n 3, 1) := by decide +kernel
theorem dX8_newRow_68 : decode cX8_newRow 68 = .ok (.invokevirtual 95, 3) := by decide +kernel
theorem dX8_newRow_71 : decode cX8_newRow 71 = .ok (.return_, 1) := by decide +kernel
set_option maxHeartbeats 8000000 in
set_option maxRecDepth 100000 in
theorem a_W_newRow (l : Launch) (D : va_G) (g : Nat → ClassId)   (sz : Nat) (h : Nat) (wa : Nat → Nat) (wi : Nat → Int32) (wr : Nat → Nat) (wf : Nat → Nat → Int32) (ph : Nat) (rh : Nat) (la : Nat → Nat) (pa : Nat → Nat) (pr : Nat → Nat) (pf : Nat → Nat → Int32) (ca : Nat → Nat) (ci : Nat → Int32) (cr : Nat → Nat) (cf : Nat → Nat → Int32) (lr : Nat → Nat) (lf : Nat → Nat → Int32) (lmx : Nat) (n1 : Int32) (n2 : Int32) (hw_w : ∀ k, wr k ≤ woW_lim k) (hw_p : ∀ k, pr k ≤ pgW_lim k) (hw_c : ∀ k, cr k ≤ rcW_lim k) (hw_l : ∀ k, lr k ≤ (plW_lim lmx) k) (hmx_l : lmx ≤ 30) : vz_Mv l D (tyG g) yX8_newRow cX8_newRow 5 2 48 0 0 [.ref h, .int n1, .int n2] sz (vz_w [woW g h wa wi wr wf ph rh (la 0), pgW g ph pa pr pf, rcW g rh ca ci cr cf, plW g la lr lf lmx]) (fun u : (Nat → Int32) × (Nat → Nat) × (Nat → Nat → Int32) × (Nat → Nat) × (Nat → Nat → Int32) => (∀ k, u.2.1 k ≤ woW_lim k) ∧ (∀ k, u.2.2.2.1 k ≤ rcW_lim k)) (fun u => vz_w [woW g h wa u.1 u.2.1 u.2.2.1 ph rh (la 0), pgW g ph pa pr pf, rcW g rh ca ci u.2.2.2.1 u.2.2.2.2, plW g la lr lf lmx]) := by
  refine vz_svQ (by decide) (Nat.le_of_ble_eq_true rfl) (fun p e s m args below meth c hx hb hr hml hts hown hlk hin hK hsz A hA H locs hP hD hS ls hl Q hQ => ?_)
  have hl : lv_has ls 5 [(0, .ref h), (1, .int n1), (2, .int n2)] := hl
  have J39 : ∀ (fu39 n39 : Nat), 9 - n39 < fu39 → n39 ≤ 9 → ∀ (x3_39 : Int32), ∀ (wi_39 : Nat → Int32), ∀ (wr_39 : Nat → Nat), ∀ (wf_39 : Nat → Nat → Int32), ∀ (cr_39 : Nat → Nat), ∀ (cf_39 : Nat → Nat → Int32), (∀ k, wr_39 k ≤ woW_lim k) → (∀ k, cr_39 k ≤ rcW_lim k) → (n2 ≤ 8) → ∀ (H : Heap) (locs : List Loc) (ls : Array Slot), va_P D vwCl (vz_w [woW g h wa wi_39 wr_39 wf_39 ph rh (la 0), pgW g ph pa pr pf, rcW g rh ca ci cr_39 cf_39, plW g la lr lf lmx]) H → va_D A (vz_w [woW g h wa wi_39 wr_39 wf_39 ph rh (la 0), pgW g ph pa pr pf, rcW g rh ca ci cr_39 cf_39, plW g la lr lf lmx]) → va_S A s.heap H locs → lv_has ls 5 [(0, .ref h), (1, .int n1), (2, .int n2), (3, .int x3_39), (4, .int (nI n39))] → W p l e { frames := 2, cells := 0, slots := 0, locals := 48 } s m args below meth c H locs 0 0 Q (F0 m 39 ls []) := by
    intro fu39
    induction fu39 with
    | zero => intro n39 z; omega
    | succ fu39 ih39 =>
      intro n39 hf39 hb39 x3_39 wi_39 wr_39 wf_39 cr_39 cf_39 hw_w_39 hw_c_39 hj39_0 H locs ls hP hD hS hl
      refine lv_iload hx hb dX8_newRow_39 (lv_at hl 4 rfl) ?_
      refine lv_iload_n hx hb dX8_newRow_41 rfl (lv_at hl 2 rfl) ?_
      refine lv_icmp_gt (tgt := 62) hx hb dX8_newRow_42 (by decide) (fun kc1 => ?_) (fun kc1 => ?_)
      · refine lv_aload_n hx hb dX8_newRow_62 rfl (lv_at hl 0 rfl) ?_
        refine lv_bipush (v := 9) hx hb dX8_newRow_63 (by decide) ?_
        refine lv_iload_n hx hb dX8_newRow_65 rfl (lv_at hl 1 rfl) ?_
        refine lv_iadd hx hb dX8_newRow_66 ?_
        refine lv_iload_n hx hb dX8_newRow_67 rfl (lv_at hl 3 rfl) ?_
        refine vz_Vv3 (As := [.int (9 + n1), .int x3_39]) (rest := []) hx hb hml hown hts hK hA hP hD hS (a_W_setNow l D g H.size h wa wi_39 wr_39 wf_39 ph rh la pa pr pf ca ci cr_39 cf_39 lr lf lmx (9 + n1) x3_39 hw_w_39 hw_p hw_c_39 hw_l hmx_l) kv_X8_95 ⟨Nat.le_of_ble_eq_true rfl, Nat.le_of_ble_eq_true rfl⟩ (q0 := 0) (ci := 8) rfl rfl rfl  hl.1 (Nat.le_of_ble_eq_true rfl) dX8_newRow_68 ⟨Nat.le_refl _, Nat.le_refl _⟩ rfl (fun wf_2 H locs _ _ hP hD hS => ?_)
        replace hP : va_P D vwCl (vz_w [woW g h wa wi_39 wr_39 wf_2 ph rh (la 0), pgW g ph pa pr pf, rcW g rh ca ci cr_39 cf_39, plW g la lr lf lmx]) H := hP
        replace hD : va_D A (vz_w [woW g h wa wi_39 wr_39 wf_2 ph rh (la 0), pgW g ph pa pr pf, rcW g rh ca ci cr_39 cf_39, plW g la lr lf lmx]) := hD
        rw [hQ]
        exact vz_vret3 hx hb hr hlk hK hP hD hS (wi_39, wr_39, wf_2, cr_39, cf_39) (⟨hw_w_39, hw_c_39⟩) rfl (Nat.le_refl 0) (Nat.le_refl 0) dX8_newRow_71
      · have hn39 : n39 < 9 := vz_lt9 hj39_0 (by omega) kc1
        refine lv_aload_n hx hb dX8_newRow_45 rfl (lv_at hl 0 rfl) ?_
        refine va_get (D := D) (ci := 8) (v := .ref (wa 6)) (C := RX8) (T := TX8) (N := 11) hx hb hts inlX8 hown hK hP 0 rfl rfl 3 (by decide) (hts _ q137) (fun _ h => h) rfl dX8_newRow_46 ?_
        refine lv_iload_n hx hb dX8_newRow_49 rfl (lv_at hl 3 rfl) ?_
        refine lv_iload hx hb dX8_newRow_50 (lv_at hl 4 rfl) ?_
        refine lv_iconst (v := 0) hx hb dX8_newRow_52 (by decide) ?_
        refine vz_Vv2 (ws' := fun u : (Nat → Int32) => vz_w [woW g h wa wi_39 wr_39 (vz_uf wf_39 3 u) ph rh (la 0), pgW g ph pa pr pf, rcW g rh ca ci cr_39 cf_39, plW g la lr lf lmx]) (As := [.int x3_39, .int (nI n39), .int 0]) (rest := []) hx hb hml hown hts hK hA hP hD hS (c_T_set l D g (wa 6) (wa 7) H.size 9 400 (wr_39 3) 3600 (wf_39 3) x3_39 (nI n39) 0 ⟨rfl, by decide, by decide, by decide, by decide, hw_w_39 3⟩) kv_X8_91 ⟨Nat.le_of_ble_eq_true rfl, Nat.le_of_ble_eq_true rfl⟩ (q0 := 7) (ci := 6) rfl rfl rfl [7, 8] rfl (by decide) (fun _ => rfl) (fun _ => rfl) hl.1 (Nat.le_of_ble_eq_true rfl) dX8_newRow_53 ⟨Nat.le_refl _, Nat.le_refl _⟩ rfl (fun nf3 H locs _ _ hP hD hS => ?_)
        obtain ⟨wf_4, hP, hD⟩ : ∃ wf_4 : Nat → Nat → Int32, va_P D vwCl (vz_w [woW g h wa wi_39 wr_39 wf_4 ph rh (la 0), pgW g ph pa pr pf, rcW g rh ca ci cr_39 cf_39, plW g la lr lf lmx]) H ∧ va_D A (vz_w [woW g h wa wi_39 wr_39 wf_4 ph rh (la 0), pgW g ph pa pr pf, rcW g rh ca ci cr_39 cf_39, plW g la lr lf lmx]) := ⟨(vz_uf wf_39 3 nf3), hP, hD⟩
        refine lv_iinc (v := (nI (n39 + 1))) (lv' := [(4, .int (nI (n39 + 1))), (0, .ref h), (1, .int n1), (2, .int n2), (3, .int x3_39)]) hx hb dX8_newRow_56 hl (k := 4) rfl (nI_1 n39) (by decide) rfl (fun ls hl => ?_)
        refine lv_goto (tgt := 39) hx hb dX8_newRow_59 (by decide) ?_
        exact ih39 (n39 + 1) (by omega) (by omega) x3_39 wi_39 wr_39 wf_4 cr_39 cf_39 hw_w_39 hw_c_39 (hj39_0) H locs ls hP hD hS (lv_sub hl [1, 2, 3, 4, 0] rfl)
  have J10 : ∀ (wi_10 : Nat → Int32), ∀ (wr_10 : Nat → Nat), ∀ (wf_10 : Nat → Nat → Int32), ∀ (cr_10 : Nat → Nat), ∀ (cf_10 : Nat → Nat → Int32), (∀ k, wr_10 k ≤ woW_lim k) → (∀ k, cr_10 k ≤ rcW_lim k) → ∀ (H : Heap) (locs : List Loc) (ls : Array Slot), va_P D vwCl (vz_w [woW g h wa wi_10 wr_10 wf_10 ph rh (la 0), pgW g ph pa pr pf, rcW g rh ca ci cr_10 cf_10, plW g la lr lf lmx]) H → va_D A (vz_w [woW g h wa wi_10 wr_10 wf_10 ph rh (la 0), pgW g ph pa pr pf, rcW g rh ca ci cr_10 cf_10, plW g la lr lf lmx]) → va_S A s.heap H locs → lv_has ls 5 [(0, .ref h), (1, .int n1), (2, .int n2)] → W p l e { frames := 2, cells := 0, slots := 0, locals := 48 } s m args below meth c H locs 0 0 Q (F0 m 10 ls []) := by
    intro wi_10 wr_10 wf_10 cr_10 cf_10 hw_w_10 hw_c_10 H locs ls hP hD hS hl
    refine lv_aload_n hx hb dX8_newRow_10 rfl (lv_at hl 0 rfl) ?_
    refine lv_iconst (v := 5) hx hb dX8_newRow_11 (by decide) ?_
    refine lv_bipush (v := (-9)) hx hb dX8_newRow_12 (by decide) ?_
    refine vz_Vv3 (As := [.int 5, .int (-9)]) (rest := []) hx hb hml hown hts hK hA hP hD hS (a_W_raise l D g H.size h wa wi_10 wr_10 wf_10 ph rh la pa pr pf ca ci cr_10 cf_10 lr lf lmx 5 (-9) hw_w_10 hw_p hw_c_10 hw_l hmx_l) kv_X8_126 ⟨Nat.le_of_ble_eq_true rfl, Nat.le_of_ble_eq_true rfl⟩ (q0 := 0) (ci := 8) rfl rfl rfl  hl.1 (Nat.le_of_ble_eq_true rfl) dX8_newRow_14 ⟨Nat.le_refl _, Nat.le_refl _⟩ rfl (fun ⟨wi_1, cr_2, cf_3⟩ H locs hw_4 _ hP hD hS => ?_)
    try dsimp only at hw_4
    replace hP : va_P D vwCl (vz_w [woW g h wa wi_1 wr_10 wf_10 ph rh (la 0), pgW g ph pa pr pf, rcW g rh ca ci cr_2 cf_3, plW g la lr lf lmx]) H := hP
    replace hD : va_D A (vz_w [woW g h wa wi_1 wr_10 wf_10 ph rh (la 0), pgW g ph pa pr pf, rcW g rh ca ci cr_2 cf_3, plW g la lr lf lmx]) := hD
    rw [hQ]
    exact vz_vret3 hx hb hr hlk hK hP hD hS (wi_1, wr_10, wf_10, cr_2, cf_3) (⟨hw_w_10, hw_4⟩) rfl (Nat.le_refl 0) (Nat.le_refl 0) dX8_newRow_17
  refine lv_iload_n hx hb dX8_newRow_0 rfl (lv_at hl 2 rfl) ?_
  refine lv_if_lt (tgt := 10) hx hb dX8_newRow_1 (by decide) (fun kc1 => ?_) (fun kc1 => ?_)
  · exact J10 wi wr wf cr cf hw_w hw_c H locs ls hP hD hS (lv_sub hl [0, 1, 2] rfl)
  · refine lv_iload_n hx hb dX8_newRow_4 rfl (lv_at hl 2 rfl) ?_
    refine lv_bipush (v := 8) hx hb dX8_newRow_5 (by decide) ?_
    refine lv_icmp_le (tgt := 18) hx hb dX8_newRow_7 (by decide) (fun kc2 => ?_) (fun kc2 => ?_)
    · refine lv_aload_n hx hb dX8_newRow_18 rfl (lv_at hl 0 rfl) ?_
      refine va_get (D := D) (ci := 8) (v := .ref (wa 6)) (C := RX8) (T := TX8) (N := 11) hx hb hts inlX8 hown hK hP 0 rfl rfl 3 (by decide) (hts _ q137) (fun _ h => h) rfl dX8_newRow_19 ?_
      refine vz_Vi2 (ws' := fun u : (Nat × (Nat → Int32)) => vz_w [woW g h wa wi (vz_un wr 3 u.1) (vz_uf wf 3 u.2) ph rh (la 0), pgW g ph pa pr pf, rcW g rh ca ci cr cf, plW g la lr lf lmx]) (As := []) (rest := []) hx hb hml hown hts hK hA hP hD hS (c_T_add l D g (wa 6) (wa 7) H.size 9 400 (wr 3) 3600 (wf 3) ⟨rfl, by decide, by decide, by decide, by decide, hw_w 3⟩) kv_X8_83 ⟨Nat.le_of_ble_eq_true rfl, Nat.le_of_ble_eq_true rfl⟩ (q0 := 7) (ci := 6) rfl rfl rfl [7, 8] rfl (by decide) (fun _ => rfl) (fun _ => rfl) hl.1 (Nat.le_of_ble_eq_true rfl) dX8_newRow_22 ⟨Nat.le_refl _, Nat.le_refl _⟩ rfl (fun v5 ⟨u3R, u3f⟩ H locs ha4 _ hP hD hS => ?_)
      have hq : (wr 3) ≤ 400 := hw_w 3
      replace ha4 : u3R ≤ 400 := by rcases ha4 with ⟨z1, -, z2, -⟩ | ⟨z1, -, z2, -⟩ <;> (dsimp only at z2; omega)
      obtain ⟨wr_6, hw_wr_6, wf_7, hP, hD⟩ : ∃ wr_6 : Nat → Nat, (∀ k, wr_6 k ≤ woW_lim k) ∧ ∃ wf_7 : Nat → Nat → Int32, va_P D vwCl (vz_w [woW g h wa wi wr_6 wf_7 ph rh (la 0), pgW g ph pa pr pf, rcW g rh ca ci cr cf, plW g la lr lf lmx]) H ∧ va_D A (vz_w [woW g h wa wi wr_6 wf_7 ph rh (la 0), pgW g ph pa pr pf, rcW g rh ca ci cr cf, plW g la lr lf lmx]) := ⟨(vz_un wr 3 u3R), (vz_wf hw_w (t := 3) (v := u3R) (ha4)), (vz_uf wf 3 u3f), hP, hD⟩
      refine lv_istore_n (lv' := [(3, .int v5), (0, .ref h), (1, .int n1), (2, .int n2)]) hx hb dX8_newRow_25 rfl hl (by decide) rfl (fun ls hl => ?_)
      refine lv_aload_n hx hb dX8_newRow_26 rfl (lv_at hl 1 rfl) ?_
      refine va_get (D := D) (ci := 8) (v := .ref (wa 6)) (C := RX8) (T := TX8) (N := 11) hx hb hts inlX8 hown hK hP 0 rfl rfl 3 (by decide) (hts _ q137) (fun _ h => h) rfl dX8_newRow_27 ?_
      refine lv_iload_n hx hb dX8_newRow_30 rfl (lv_at hl 0 rfl) ?_
      refine lv_iconst (v := 0) hx hb dX8_newRow_31 (by decide) ?_
      refine lv_iload_n hx hb dX8_newRow_32 rfl (lv_at hl 3 rfl) ?_
      refine vz_Vv2 (ws' := fun u : (Nat → Int32) => vz_w [woW g h wa wi wr_6 (vz_uf wf_7 3 u) ph rh (la 0), pgW g ph pa pr pf, rcW g rh ca ci cr cf, plW g la lr lf lmx]) (As := [.int v5, .int 0, .int n2]) (rest := []) hx hb hml hown hts hK hA hP hD hS (c_T_set l D g (wa 6) (wa 7) H.size 9 400 (wr_6 3) 3600 (wf_7 3) v5 0 n2 ⟨rfl, by decide, by decide, by decide, by decide, hw_wr_6 3⟩) kv_X8_91 ⟨Nat.le_of_ble_eq_true rfl, Nat.le_of_ble_eq_true rfl⟩ (q0 := 7) (ci := 6) rfl rfl rfl [7, 8] rfl (by decide) (fun _ => rfl) (fun _ => rfl) hl.1 (Nat.le_of_ble_eq_true rfl) dX8_newRow_33 ⟨Nat.le_refl _, Nat.le_refl _⟩ rfl (fun nf8 H locs _ _ hP hD hS => ?_)
      obtain ⟨wf_9, hP, hD⟩ : ∃ wf_9 : Nat → Nat → Int32, va_P D vwCl (vz_w [woW g h wa wi wr_6 wf_9 ph rh (la 0), pgW g ph pa pr pf, rcW g rh ca ci cr cf, plW g la lr lf lmx]) H ∧ va_D A (vz_w [woW g h wa wi wr_6 wf_9 ph rh (la 0), pgW g ph pa pr pf, rcW g rh ca ci cr cf, plW g la lr lf lmx]) := ⟨(vz_uf wf_7 3 nf8), hP, hD⟩
      refine lv_iconst (v := 1) hx hb dX8_newRow_36 (by decide) ?_
      refine lv_istore (lv' := [(4, .int 1), (3, .int v5), (0, .ref h), (1, .int n1), (2, .int n2)]) hx hb dX8_newRow_37 hl (by decide) rfl (fun ls hl => ?_)
      exact J39 (10) 1 (by omega) (by omega) v5 wi wr_6 wf_9 cr cf hw_wr_6 hw_c (kc2) H locs ls hP hD hS (lv_sub hl [2, 3, 4, 1, 0] rfl)
    · exact J10 wi wr wf cr cf hw_w hw_c H locs ls hP hD hS (lv_sub hl [0, 1, 2] rfl)
theorem dX8_lacking_0 : decode cX8_lacking 0 = .ok (.iload_n 1, 1) := by decide +kernel
theorem dX8_lacking_1 : decode cX8_lacking 1 = .ok (.bipush (-9), 2) := by decide +kernel
theorem dX8_lacking_3 : decode cX8_lacking 3 = .ok (.if_icmp .ne 5, 3) := by decide +kernel
theorem dX8_lacking_6 : decode cX8_lacking 6 = .ok (.iconst 4, 1) := by decide +kernel
theorem dX8_lacking_7 : decode cX8_lacking 7 = .ok (.ireturn, 1) := by decide +kernel
theorem dX8_lacking_8 : decode cX8_lacking 8 = .ok (.iload_n 2, 1) := by decide +kernel
theorem dX8_lacking_9 : decode cX8_lacking 9 = .ok (.ifCond .lt 16, 3) := by decide +kernel
theorem dX8_lacking_12 : decode cX8_lacking 12 = .ok (.iload_n 2, 1) := by decide +kernel
theorem dX8_lacking_13 : decode cX8_lacking 13 = .ok (.aload_n 0, 1) := by decide +kernel
theorem dX8_lacking_14 : decode cX8_lacking 14 = .ok (.getfield 37, 3) := by decide +kernel
theorem dX8_lacking_17 : decode cX8_lacking 17 = .ok (.iload_n 1, 1) := by decide +kernel
theorem dX8_lacking_18 : decode cX8_lacking 18 = .ok (.iconst 0, 1) := by decide +kernel
theorem dX8_lacking_19 : decode cX8_lacking 19 = .ok (.invokevirtual 110, 3) := by decide +kernel
theorem dX8_lacking_22 : decode cX8_lacking 22 = .ok (.if_icmp .lt 7, 3) := by decide +kernel
theorem dX8_lacking_25 : decode cX8_lacking 25 = .ok (.iconst 3, 1) := by decide +kernel
theorem dX8_lacking_26 : decode cX8_lacking 26 = .ok (.goto 5, 3) := by decide +kernel
theorem dX8_lacking_29 : decode cX8_lacking 29 = .ok (.bipush (-9), 2) := by decide +kernel
theorem dX8_lacking_31 : decode cX8_lacking 31 = .ok (.ireturn, 1) := by decide +kernel
set_option maxHeartbeats 8000000 in
set_option maxRecDepth 100000 in
theorem a_W_lacking (l : Launch) (D : va_G) (g : Nat → ClassId)   (sz : Nat) (h : Nat) (wa : Nat → Nat) (wi : Nat → Int32) (wr : Nat → Nat) (wf : Nat → Nat → Int32) (ph : Nat) (rh : Nat) (la : Nat → Nat) (pa : Nat → Nat) (pr : Nat → Nat) (pf : Nat → Nat → Int32) (ca : Nat → Nat) (ci : Nat → Int32) (cr : Nat → Nat) (cf : Nat → Nat → Int32) (lr : Nat → Nat) (lf : Nat → Nat → Int32) (lmx : Nat) (n1 : Int32) (n2 : Int32) (hw_w : ∀ k, wr k ≤ woW_lim k) (hw_p : ∀ k, pr k ≤ pgW_lim k) (hw_c : ∀ k, cr k ≤ rcW_lim k) (hw_l : ∀ k, lr k ≤ (plW_lim lmx) k) (hmx_l : lmx ≤ 30) : vz_Mi l D (tyG g) yX8_lacking cX8_lacking 3 1 23 0 0 .int [.ref h, .int n1, .int n2] sz (vz_w [woW g h wa wi wr wf ph rh (la 0), pgW g ph pa pr pf, rcW g rh ca ci cr cf, plW g la lr lf lmx]) (fun r (u : Unit) => True) (fun u => vz_w [woW g h wa wi wr wf ph rh (la 0), pgW g ph pa pr pf, rcW g rh ca ci cr cf, plW g la lr lf lmx]) := by
  refine vz_siQ (by decide) (Nat.le_of_ble_eq_true rfl) (fun p e s m args below meth c hx hb hr hml hts hown hlk hin hK hsz A hA H locs hP hD hS ls hl Q hQ => ?_)
  have hl : lv_has ls 3 [(0, .ref h), (1, .int n1), (2, .int n2)] := hl
  have J31 : ∀ (y0_31 : Int32), ∀ (H : Heap) (locs : List Loc) (ls : Array Slot), va_P D vwCl (vz_w [woW g h wa wi wr wf ph rh (la 0), pgW g ph pa pr pf, rcW g rh ca ci cr cf, plW g la lr lf lmx]) H → va_D A (vz_w [woW g h wa wi wr wf ph rh (la 0), pgW g ph pa pr pf, rcW g rh ca ci cr cf, plW g la lr lf lmx]) → va_S A s.heap H locs → lv_has ls 3 [(0, .ref h), (1, .int n1), (2, .int n2)] → W p l e { frames := 1, cells := 0, slots := 0, locals := 23 } s m args below meth c H locs 0 0 Q (F0 m 31 ls [.int y0_31]) := by
    intro y0_31 H locs ls hP hD hS hl
    rw [hQ]
    exact vz_iret3 hx hb hr hlk hK hP hD hS () trivial rfl (Nat.le_refl 0) (Nat.le_refl 0) dX8_lacking_31
  have J25 : ∀ (H : Heap) (locs : List Loc) (ls : Array Slot), va_P D vwCl (vz_w [woW g h wa wi wr wf ph rh (la 0), pgW g ph pa pr pf, rcW g rh ca ci cr cf, plW g la lr lf lmx]) H → va_D A (vz_w [woW g h wa wi wr wf ph rh (la 0), pgW g ph pa pr pf, rcW g rh ca ci cr cf, plW g la lr lf lmx]) → va_S A s.heap H locs → lv_has ls 3 [(0, .ref h), (1, .int n1), (2, .int n2)] → W p l e { frames := 1, cells := 0, slots := 0, locals := 23 } s m args below meth c H locs 0 0 Q (F0 m 25 ls []) := by
    intro H locs ls hP hD hS hl
    refine lv_iconst (v := 3) hx hb dX8_lacking_25 (by decide) ?_
    refine lv_goto (tgt := 31) hx hb dX8_lacking_26 (by decide) ?_
    exact J31 3 H locs ls hP hD hS (lv_sub hl [0, 1, 2] rfl)
  refine lv_iload_n hx hb dX8_lacking_0 rfl (lv_at hl 1 rfl) ?_
  refine lv_bipush (v := (-9)) hx hb dX8_lacking_1 (by decide) ?_
  refine lv_icmp_ne (tgt := 8) hx hb dX8_lacking_3 (by decide) (fun kc1 => ?_) (fun kc1 => ?_)
  · refine lv_iload_n hx hb dX8_lacking_8 rfl (lv_at hl 2 rfl) ?_
    refine lv_if_lt (tgt := 25) hx hb dX8_lacking_9 (by decide) (fun kc2 => ?_) (fun kc2 => ?_)
    · exact J25 H locs ls hP hD hS (lv_sub hl [0, 1, 2] rfl)
    · refine lv_iload_n hx hb dX8_lacking_12 rfl (lv_at hl 2 rfl) ?_
      refine lv_aload_n hx hb dX8_lacking_13 rfl (lv_at hl 0 rfl) ?_
      refine va_get (D := D) (ci := 8) (v := .ref (wa 6)) (C := RX8) (T := TX8) (N := 11) hx hb hts inlX8 hown hK hP 0 rfl rfl 3 (by decide) (hts _ q137) (fun _ h => h) rfl dX8_lacking_14 ?_
      refine lv_iload_n hx hb dX8_lacking_17 rfl (lv_at hl 1 rfl) ?_
      refine lv_iconst (v := 0) hx hb dX8_lacking_18 (by decide) ?_
      refine vz_Vi2 (ws' := fun u : Unit => vz_w [woW g h wa wi wr wf ph rh (la 0), pgW g ph pa pr pf, rcW g rh ca ci cr cf, plW g la lr lf lmx]) (As := [.int n1, .int 0]) (rest := [.int n2]) hx hb hml hown hts hK hA hP hD hS (c_T_get l D g (wa 6) (wa 7) H.size 9 400 (wr 3) 3600 (wf 3) n1 0 ⟨rfl, by decide, by decide, by decide, by decide, hw_w 3⟩) kv_X8_110 ⟨Nat.le_of_ble_eq_true rfl, Nat.le_of_ble_eq_true rfl⟩ (q0 := 7) (ci := 6) rfl rfl rfl [7, 8] rfl (by decide) (fun _ => rfl) (fun _ => rfl) hl.1 (Nat.le_of_ble_eq_true rfl) dX8_lacking_19 ⟨Nat.le_refl _, Nat.le_refl _⟩ rfl (fun v3 _ H locs he4 _ hP hD hS => ?_)
      refine lv_icmp_lt (tgt := 29) hx hb dX8_lacking_22 (by decide) (fun kc5 => ?_) (fun kc5 => ?_)
      · refine lv_bipush (v := (-9)) hx hb dX8_lacking_29 (by decide) ?_
        exact J31 (-9) H locs ls hP hD hS (lv_sub hl [0, 1, 2] rfl)
      · exact J25 H locs ls hP hD hS (lv_sub hl [0, 1, 2] rfl)
  · refine lv_iconst (v := 4) hx hb dX8_lacking_6 (by decide) ?_
    rw [hQ]
    exact vz_iret3 hx hb hr hlk hK hP hD hS () trivial rfl (Nat.le_refl 0) (Nat.le_refl 0) dX8_lacking_7
theorem q1111 : Cond.methodLink RX8 144 yX8_lacking ∈ wsL_law := mT_5 (List.mem_of_getElem? (i := 33) rfl) rfl
theorem q1112 : Cond.instanceMethod yX8_lacking ∈ wsL_law := mT_5 (List.mem_of_getElem? (i := 35) rfl) rfl
theorem q1113 : Cond.selects RX8 yX8_lacking yX8_lacking ∈ wsL_law := mS_5 (q := (yX8_lacking, 11)) (List.mem_of_getElem? (i := 6) rfl) rfl
theorem q1114 : Cond.code yX8_lacking cX8_lacking 3 (some .int) ∈ wsL_law := mT_5 (List.mem_of_getElem? (i := 36) rfl) rfl
theorem kv_X8_144 : vz_cv RX8 144 yX8_lacking cX8_lacking 3 (some .int) 2 := ⟨q1111, q1112, q1113, q47, q1114, by decide +kernel⟩
theorem dX8_element_0 : decode cX8_element 0 = .ok (.aload_n 0, 1) := by decide +kernel
theorem dX8_element_1 : decode cX8_element 1 = .ok (.bipush 9, 2) := by decide +kernel
theorem dX8_element_3 : decode cX8_element 3 = .ok (.iload_n 1, 1) := by decide +kernel
theorem dX8_element_4 : decode cX8_element 4 = .ok (.iadd, 1) := by decide +kernel
theorem dX8_element_5 : decode cX8_element 5 = .ok (.invokevirtual 87, 3) := by decide +kernel
theorem dX8_element_8 : decode cX8_element 8 = .ok (.istore_n 3, 1) := by decide +kernel
theorem dX8_element_9 : decode cX8_element 9 = .ok (.aload_n 0, 1) := by decide +kernel
theorem dX8_element_10 : decode cX8_element 10 = .ok (.iload_n 3, 1) := by decide +kernel
theorem dX8_element_11 : decode cX8_element 11 = .ok (.iload_n 2, 1) := by decide +kernel
theorem dX8_element_12 : decode cX8_element 12 = .ok (.invokevirtual 144, 3) := by decide +kernel
theorem dX8_element_15 : decode cX8_element 15 = .ok (.istore 4, 2) := by decide +kernel
theorem dX8_element_17 : decode cX8_element 17 = .ok (.iload 4, 2) := by decide +kernel
theorem dX8_element_19 : decode cX8_element 19 = .ok (.bipush (-9), 2) := by decide +kernel
theorem dX8_element_21 : decode cX8_element 21 = .ok (.if_icmp .eq 13, 3) := by decide +kernel
theorem dX8_element_24 : decode cX8_element 24 = .ok (.aload_n 0, 1) := by decide +kernel
theorem dX8_element_25 : decode cX8_element 25 = .ok (.iload 4, 2) := by decide +kernel
theorem dX8_element_27 : decode cX8_element 27 = .ok (.bipush (-9), 2) := by decide +kernel
theorem dX8_element_29 : decode cX8_element 29 = .ok (.invokevirtual 126, 3) := by decide +kernel
theorem dX8_element_32 : decode cX8_element 32 = .ok (.iconst 0, 1) := by decide +kernel
theorem dX8_element_33 : decode cX8_element 33 = .ok (.ireturn, 1) := by decide +kernel
theorem dX8_element_34 : decode cX8_element 34 = .ok (.aload_n 0, 1) := by decide +kernel
theorem dX8_element_35 : decode cX8_element 35 = .ok (.getfield 37, 3) := by decide +kernel
theorem dX8_element_38 : decode cX8_element 38 = .ok (.iload_n 3, 1) := by decide +kernel
theorem dX8_element_39 : decode cX8_element 39 = .ok (.iconst 1, 1) := by decide +kernel
theorem dX8_element_40 : decode cX8_element 40 = .ok (.iload_n 2, 1) := by decide +kernel
theorem dX8_element_41 : decode cX8_element 41 = .ok (.iadd, 1) := by decide +kernel
theorem dX8_element_42 : decode cX8_element 42 = .ok (.invokevirtual 110, 3) := by decide +kernel
theorem dX8_element_45 : decode cX8_element 45 = .ok (.ireturn, 1) := by decide +kernel
set_option maxHeartbeats 8000000 in
set_option maxRecDepth 100000 in
theorem a_W_element (l : Launch) (D : va_G) (g : Nat → ClassId)   (sz : Nat) (h : Nat) (wa : Nat → Nat) (wi : Nat → Int32) (wr : Nat → Nat) (wf : Nat → Nat → Int32) (ph : Nat) (rh : Nat) (la : Nat → Nat) (pa : Nat → Nat) (pr : Nat → Nat) (pf : Nat → Nat → Int32) (ca : Nat → Nat) (ci : Nat → Int32) (cr : Nat → Nat) (cf : Nat → Nat → Int32) (lr : Nat → Nat) (lf : Nat → Nat → Int32) (lmx : Nat) (n1 : Int32) (n2 : Int32) (hw_w : ∀ k, wr k ≤ woW_lim k) (hw_p : ∀ k, pr k ≤ pgW_lim k) (hw_c : ∀ k, cr k ≤ rcW_lim k) (hw_l : ∀ k, lr k ≤ (plW_lim lmx) k) (hmx_l : lmx ≤ 30) : vz_Mi l D (tyG g) yX8_element cX8_element 5 2 48 0 0 .int [.ref h, .int n1, .int n2] sz (vz_w [woW g h wa wi wr wf ph rh (la 0), pgW g ph pa pr pf, rcW g rh ca ci cr cf, plW g la lr lf lmx]) (fun r (u : (Nat → Int32) × (Nat → Nat) × (Nat → Nat → Int32)) => (∀ k, u.2.1 k ≤ rcW_lim k)) (fun u => vz_w [woW g h wa u.1 wr wf ph rh (la 0), pgW g ph pa pr pf, rcW g rh ca ci u.2.1 u.2.2, plW g la lr lf lmx]) := by
  refine vz_siQ (by decide) (Nat.le_of_ble_eq_true rfl) (fun p e s m args below meth c hx hb hr hml hts hown hlk hin hK hsz A hA H locs hP hD hS ls hl Q hQ => ?_)
  have hl : lv_has ls 5 [(0, .ref h), (1, .int n1), (2, .int n2)] := hl
  refine lv_aload_n hx hb dX8_element_0 rfl (lv_at hl 0 rfl) ?_
  refine lv_bipush (v := 9) hx hb dX8_element_1 (by decide) ?_
  refine lv_iload_n hx hb dX8_element_3 rfl (lv_at hl 1 rfl) ?_
  refine lv_iadd hx hb dX8_element_4 ?_
  refine vz_Vi3 (As := [.int (9 + n1)]) (rest := []) hx hb hml hown hts hK hA hP hD hS (a_W_now l D g H.size h wa wi wr wf ph rh la pa pr pf ca ci cr cf lr lf lmx (9 + n1) hw_w hw_p hw_c hw_l hmx_l) kv_X8_87 ⟨Nat.le_of_ble_eq_true rfl, Nat.le_of_ble_eq_true rfl⟩ (q0 := 0) (ci := 8) rfl rfl rfl  hl.1 (Nat.le_of_ble_eq_true rfl) dX8_element_5 ⟨Nat.le_refl _, Nat.le_refl _⟩ rfl (fun v1 _ H locs _ _ hP hD hS => ?_)
  refine lv_istore_n (lv' := [(3, .int v1), (0, .ref h), (1, .int n1), (2, .int n2)]) hx hb dX8_element_8 rfl hl (by decide) rfl (fun ls hl => ?_)
  refine lv_aload_n hx hb dX8_element_9 rfl (lv_at hl 1 rfl) ?_
  refine lv_iload_n hx hb dX8_element_10 rfl (lv_at hl 0 rfl) ?_
  refine lv_iload_n hx hb dX8_element_11 rfl (lv_at hl 3 rfl) ?_
  refine vz_Vi3 (As := [.int v1, .int n2]) (rest := []) hx hb hml hown hts hK hA hP hD hS (a_W_lacking l D g H.size h wa wi wr wf ph rh la pa pr pf ca ci cr cf lr lf lmx v1 n2 hw_w hw_p hw_c hw_l hmx_l) kv_X8_144 ⟨Nat.le_of_ble_eq_true rfl, Nat.le_of_ble_eq_true rfl⟩ (q0 := 0) (ci := 8) rfl rfl rfl  hl.1 (Nat.le_of_ble_eq_true rfl) dX8_element_12 ⟨Nat.le_refl _, Nat.le_refl _⟩ rfl (fun v2 _ H locs _ _ hP hD hS => ?_)
  refine lv_istore (lv' := [(4, .int v2), (3, .int v1), (0, .ref h), (1, .int n1), (2, .int n2)]) hx hb dX8_element_15 hl (by decide) rfl (fun ls hl => ?_)
  refine lv_iload hx hb dX8_element_17 (lv_at hl 0 rfl) ?_
  refine lv_bipush (v := (-9)) hx hb dX8_element_19 (by decide) ?_
  refine lv_icmp_eq (tgt := 34) hx hb dX8_element_21 (by decide) (fun kc3 => ?_) (fun kc3 => ?_)
  · refine lv_aload_n hx hb dX8_element_34 rfl (lv_at hl 2 rfl) ?_
    refine va_get (D := D) (ci := 8) (v := .ref (wa 6)) (C := RX8) (T := TX8) (N := 11) hx hb hts inlX8 hown hK hP 0 rfl rfl 3 (by decide) (hts _ q137) (fun _ h => h) rfl dX8_element_35 ?_
    refine lv_iload_n hx hb dX8_element_38 rfl (lv_at hl 1 rfl) ?_
    refine lv_iconst (v := 1) hx hb dX8_element_39 (by decide) ?_
    refine lv_iload_n hx hb dX8_element_40 rfl (lv_at hl 4 rfl) ?_
    refine lv_iadd hx hb dX8_element_41 ?_
    refine vz_Vi2 (ws' := fun u : Unit => vz_w [woW g h wa wi wr wf ph rh (la 0), pgW g ph pa pr pf, rcW g rh ca ci cr cf, plW g la lr lf lmx]) (As := [.int v1, .int (1 + n2)]) (rest := []) hx hb hml hown hts hK hA hP hD hS (c_T_get l D g (wa 6) (wa 7) H.size 9 400 (wr 3) 3600 (wf 3) v1 (1 + n2) ⟨rfl, by decide, by decide, by decide, by decide, hw_w 3⟩) kv_X8_110 ⟨Nat.le_of_ble_eq_true rfl, Nat.le_of_ble_eq_true rfl⟩ (q0 := 7) (ci := 6) rfl rfl rfl [7, 8] rfl (by decide) (fun _ => rfl) (fun _ => rfl) hl.1 (Nat.le_of_ble_eq_true rfl) dX8_element_42 ⟨Nat.le_refl _, Nat.le_refl _⟩ rfl (fun v4 _ H locs he5 _ hP hD hS => ?_)
    rw [hQ]
    exact vz_iret3 hx hb hr hlk hK hP hD hS (wi, cr, cf) hw_c rfl (Nat.le_refl 0) (Nat.le_refl 0) dX8_element_45
  · refine lv_aload_n hx hb dX8_element_24 rfl (lv_at hl 2 rfl) ?_
    refine lv_iload hx hb dX8_element_25 (lv_at hl 0 rfl) ?_
    refine lv_bipush (v := (-9)) hx hb dX8_element_27 (by decide) ?_
    refine vz_Vv3 (As := [.int v2, .int (-9)]) (rest := []) hx hb hml hown hts hK hA hP hD hS (a_W_raise l D g H.size h wa wi wr wf ph rh la pa pr pf ca ci cr cf lr lf lmx v2 (-9) hw_w hw_p hw_c hw_l hmx_l) kv_X8_126 ⟨Nat.le_of_ble_eq_true rfl, Nat.le_of_ble_eq_true rfl⟩ (q0 := 0) (ci := 8) rfl rfl rfl  hl.1 (Nat.le_of_ble_eq_true rfl) dX8_element_29 ⟨Nat.le_refl _, Nat.le_refl _⟩ rfl (fun ⟨wi_6, cr_7, cf_8⟩ H locs hw_9 _ hP hD hS => ?_)
    try dsimp only at hw_9
    replace hP : va_P D vwCl (vz_w [woW g h wa wi_6 wr wf ph rh (la 0), pgW g ph pa pr pf, rcW g rh ca ci cr_7 cf_8, plW g la lr lf lmx]) H := hP
    replace hD : va_D A (vz_w [woW g h wa wi_6 wr wf ph rh (la 0), pgW g ph pa pr pf, rcW g rh ca ci cr_7 cf_8, plW g la lr lf lmx]) := hD
    refine lv_iconst (v := 0) hx hb dX8_element_32 (by decide) ?_
    rw [hQ]
    exact vz_iret3 hx hb hr hlk hK hP hD hS (wi_6, cr_7, cf_8) hw_9 rfl (Nat.le_refl 0) (Nat.le_refl 0) dX8_element_33
theorem dX8_store_0 : decode cX8_store 0 = .ok (.aload_n 0, 1) := by decide +kernel
theorem dX8_store_1 : decode cX8_store 1 = .ok (.bipush 9, 2) := by decide +kernel
theorem dX8_store_3 : decode cX8_store 3 = .ok (.iload_n 1, 1) := by decide +kernel
theorem dX8_store_4 : decode cX8_store 4 = .ok (.iadd, 1) := by decide +kernel
theorem dX8_store_5 : decode cX8_store 5 = .ok (.invokevirtual 87, 3) := by decide +kernel
theorem dX8_store_8 : decode cX8_store 8 = .ok (.istore 4, 2) := by decide +kernel
theorem dX8_store_10 : decode cX8_store 10 = .ok (.aload_n 0, 1) := by decide +kernel
theorem dX8_store_11 : decode cX8_store 11 = .ok (.iload 4, 2) := by decide +kernel
theorem dX8_store_13 : decode cX8_store 13 = .ok (.iload_n 2, 1) := by decide +kernel
theorem dX8_store_14 : decode cX8_store 14 = .ok (.invokevirtual 144, 3) := by decide +kernel
theorem dX8_store_17 : decode cX8_store 17 = .ok (.istore 5, 2) := by decide +kernel
theorem dX8_store_19 : decode cX8_store 19 = .ok (.iload 5, 2) := by decide +kernel
theorem dX8_store_21 : decode cX8_store 21 = .ok (.bipush (-9), 2) := by decide +kernel
theorem dX8_store_23 : decode cX8_store 23 = .ok (.if_icmp .eq 14, 3) := by decide +kernel
theorem dX8_store_26 : decode cX8_store 26 = .ok (.aload_n 0, 1) := by decide +kernel
theorem dX8_store_27 : decode cX8_store 27 = .ok (.iload 5, 2) := by decide +kernel
theorem dX8_store_29 : decode cX8_store 29 = .ok (.bipush (-9), 2) := by decide +kernel
theorem dX8_store_31 : decode cX8_store 31 = .ok (.invokevirtual 126, 3) := by decide +kernel
theorem dX8_store_34 : decode cX8_store 34 = .ok (.goto 16, 3) := by decide +kernel
theorem dX8_store_37 : decode cX8_store 37 = .ok (.aload_n 0, 1) := by decide +kernel
theorem dX8_store_38 : decode cX8_store 38 = .ok (.getfield 37, 3) := by decide +kernel
theorem dX8_store_41 : decode cX8_store 41 = .ok (.iload 4, 2) := by decide +kernel
theorem dX8_store_43 : decode cX8_store 43 = .ok (.iconst 1, 1) := by decide +kernel
theorem dX8_store_44 : decode cX8_store 44 = .ok (.iload_n 2, 1) := by decide +kernel
theorem dX8_store_45 : decode cX8_store 45 = .ok (.iadd, 1) := by decide +kernel
theorem dX8_store_46 : decode cX8_store 46 = .ok (.iload_n 3, 1) := by decide +kernel
theorem dX8_store_47 : decode cX8_store 47 = .ok (.invokevirtual 91, 3) := by decide +kernel
theorem dX8_store_50 : decode cX8_store 50 = .ok (.return_, 1) := by decide +kernel
set_option maxHeartbeats 8000000 in
set_option maxRecDepth 100000 in
theorem a_W_store (l : Launch) (D : va_G) (g : Nat → ClassId)   (sz : Nat) (h : Nat) (wa : Nat → Nat) (wi : Nat → Int32) (wr : Nat → Nat) (wf : Nat → Nat → Int32) (ph : Nat) (rh : Nat) (la : Nat → Nat) (pa : Nat → Nat) (pr : Nat → Nat) (pf : Nat → Nat → Int32) (ca : Nat → Nat) (ci : Nat → Int32) (cr : Nat → Nat) (cf : Nat → Nat → Int32) (lr : Nat → Nat) (lf : Nat → Nat → Int32) (lmx : Nat) (n1 : Int32) (n2 : Int32) (n3 : Int32) (hw_w : ∀ k, wr k ≤ woW_lim k) (hw_p : ∀ k, pr k ≤ pgW_lim k) (hw_c : ∀ k, cr k ≤ rcW_lim k) (hw_l : ∀ k, lr k ≤ (plW_lim lmx) k) (hmx_l : lmx ≤ 30) : vz_Mv l D (tyG g) yX8_store cX8_store 6 2 48 0 0 [.ref h, .int n1, .int n2, .int n3] sz (vz_w [woW g h wa wi wr wf ph rh (la 0), pgW g ph pa pr pf, rcW g rh ca ci cr cf, plW g la lr lf lmx]) (fun u : (Nat → Int32) × (Nat → Nat → Int32) × (Nat → Nat) × (Nat → Nat → Int32) => (∀ k, u.2.2.1 k ≤ rcW_lim k)) (fun u => vz_w [woW g h wa u.1 wr u.2.1 ph rh (la 0), pgW g ph pa pr pf, rcW g rh ca ci u.2.2.1 u.2.2.2, plW g la lr lf lmx]) := by
  refine vz_svQ (by decide) (Nat.le_of_ble_eq_true rfl) (fun p e s m args below meth c hx hb hr hml hts hown hlk hin hK hsz A hA H locs hP hD hS ls hl Q hQ => ?_)
  have hl : lv_has ls 6 [(0, .ref h), (1, .int n1), (2, .int n2), (3, .int n3)] := hl
  have J50 : ∀ (x4_50 : Int32), ∀ (x5_50 : Int32), ∀ (wi_50 : Nat → Int32), ∀ (wf_50 : Nat → Nat → Int32), ∀ (cr_50 : Nat → Nat), ∀ (cf_50 : Nat → Nat → Int32), (∀ k, cr_50 k ≤ rcW_lim k) → ∀ (H : Heap) (locs : List Loc) (ls : Array Slot), va_P D vwCl (vz_w [woW g h wa wi_50 wr wf_50 ph rh (la 0), pgW g ph pa pr pf, rcW g rh ca ci cr_50 cf_50, plW g la lr lf lmx]) H → va_D A (vz_w [woW g h wa wi_50 wr wf_50 ph rh (la 0), pgW g ph pa pr pf, rcW g rh ca ci cr_50 cf_50, plW g la lr lf lmx]) → va_S A s.heap H locs → lv_has ls 6 [(0, .ref h), (1, .int n1), (2, .int n2), (3, .int n3), (4, .int x4_50), (5, .int x5_50)] → W p l e { frames := 2, cells := 0, slots := 0, locals := 48 } s m args below meth c H locs 0 0 Q (F0 m 50 ls []) := by
    intro x4_50 x5_50 wi_50 wf_50 cr_50 cf_50 hw_c_50 H locs ls hP hD hS hl
    rw [hQ]
    exact vz_vret3 hx hb hr hlk hK hP hD hS (wi_50, wf_50, cr_50, cf_50) hw_c_50 rfl (Nat.le_refl 0) (Nat.le_refl 0) dX8_store_50
  refine lv_aload_n hx hb dX8_store_0 rfl (lv_at hl 0 rfl) ?_
  refine lv_bipush (v := 9) hx hb dX8_store_1 (by decide) ?_
  refine lv_iload_n hx hb dX8_store_3 rfl (lv_at hl 1 rfl) ?_
  refine lv_iadd hx hb dX8_store_4 ?_
  refine vz_Vi3 (As := [.int (9 + n1)]) (rest := []) hx hb hml hown hts hK hA hP hD hS (a_W_now l D g H.size h wa wi wr wf ph rh la pa pr pf ca ci cr cf lr lf lmx (9 + n1) hw_w hw_p hw_c hw_l hmx_l) kv_X8_87 ⟨Nat.le_of_ble_eq_true rfl, Nat.le_of_ble_eq_true rfl⟩ (q0 := 0) (ci := 8) rfl rfl rfl  hl.1 (Nat.le_of_ble_eq_true rfl) dX8_store_5 ⟨Nat.le_refl _, Nat.le_refl _⟩ rfl (fun v1 _ H locs _ _ hP hD hS => ?_)
  refine lv_istore (lv' := [(4, .int v1), (0, .ref h), (1, .int n1), (2, .int n2), (3, .int n3)]) hx hb dX8_store_8 hl (by decide) rfl (fun ls hl => ?_)
  refine lv_aload_n hx hb dX8_store_10 rfl (lv_at hl 1 rfl) ?_
  refine lv_iload hx hb dX8_store_11 (lv_at hl 0 rfl) ?_
  refine lv_iload_n hx hb dX8_store_13 rfl (lv_at hl 3 rfl) ?_
  refine vz_Vi3 (As := [.int v1, .int n2]) (rest := []) hx hb hml hown hts hK hA hP hD hS (a_W_lacking l D g H.size h wa wi wr wf ph rh la pa pr pf ca ci cr cf lr lf lmx v1 n2 hw_w hw_p hw_c hw_l hmx_l) kv_X8_144 ⟨Nat.le_of_ble_eq_true rfl, Nat.le_of_ble_eq_true rfl⟩ (q0 := 0) (ci := 8) rfl rfl rfl  hl.1 (Nat.le_of_ble_eq_true rfl) dX8_store_14 ⟨Nat.le_refl _, Nat.le_refl _⟩ rfl (fun v2 _ H locs _ _ hP hD hS => ?_)
  refine lv_istore (lv' := [(5, .int v2), (4, .int v1), (0, .ref h), (1, .int n1), (2, .int n2), (3, .int n3)]) hx hb dX8_store_17 hl (by decide) rfl (fun ls hl => ?_)
  refine lv_iload hx hb dX8_store_19 (lv_at hl 0 rfl) ?_
  refine lv_bipush (v := (-9)) hx hb dX8_store_21 (by decide) ?_
  refine lv_icmp_eq (tgt := 37) hx hb dX8_store_23 (by decide) (fun kc3 => ?_) (fun kc3 => ?_)
  · refine lv_aload_n hx hb dX8_store_37 rfl (lv_at hl 2 rfl) ?_
    refine va_get (D := D) (ci := 8) (v := .ref (wa 6)) (C := RX8) (T := TX8) (N := 11) hx hb hts inlX8 hown hK hP 0 rfl rfl 3 (by decide) (hts _ q137) (fun _ h => h) rfl dX8_store_38 ?_
    refine lv_iload hx hb dX8_store_41 (lv_at hl 1 rfl) ?_
    refine lv_iconst (v := 1) hx hb dX8_store_43 (by decide) ?_
    refine lv_iload_n hx hb dX8_store_44 rfl (lv_at hl 4 rfl) ?_
    refine lv_iadd hx hb dX8_store_45 ?_
    refine lv_iload_n hx hb dX8_store_46 rfl (lv_at hl 5 rfl) ?_
    refine vz_Vv2 (ws' := fun u : (Nat → Int32) => vz_w [woW g h wa wi wr (vz_uf wf 3 u) ph rh (la 0), pgW g ph pa pr pf, rcW g rh ca ci cr cf, plW g la lr lf lmx]) (As := [.int v1, .int (1 + n2), .int n3]) (rest := []) hx hb hml hown hts hK hA hP hD hS (c_T_set l D g (wa 6) (wa 7) H.size 9 400 (wr 3) 3600 (wf 3) v1 (1 + n2) n3 ⟨rfl, by decide, by decide, by decide, by decide, hw_w 3⟩) kv_X8_91 ⟨Nat.le_of_ble_eq_true rfl, Nat.le_of_ble_eq_true rfl⟩ (q0 := 7) (ci := 6) rfl rfl rfl [7, 8] rfl (by decide) (fun _ => rfl) (fun _ => rfl) hl.1 (Nat.le_of_ble_eq_true rfl) dX8_store_47 ⟨Nat.le_refl _, Nat.le_refl _⟩ rfl (fun nf4 H locs _ _ hP hD hS => ?_)
    obtain ⟨wf_5, hP, hD⟩ : ∃ wf_5 : Nat → Nat → Int32, va_P D vwCl (vz_w [woW g h wa wi wr wf_5 ph rh (la 0), pgW g ph pa pr pf, rcW g rh ca ci cr cf, plW g la lr lf lmx]) H ∧ va_D A (vz_w [woW g h wa wi wr wf_5 ph rh (la 0), pgW g ph pa pr pf, rcW g rh ca ci cr cf, plW g la lr lf lmx]) := ⟨(vz_uf wf 3 nf4), hP, hD⟩
    exact J50 v1 v2 wi wf_5 cr cf hw_c H locs ls hP hD hS (lv_sub hl [2, 3, 4, 5, 1, 0] rfl)
  · refine lv_aload_n hx hb dX8_store_26 rfl (lv_at hl 2 rfl) ?_
    refine lv_iload hx hb dX8_store_27 (lv_at hl 0 rfl) ?_
    refine lv_bipush (v := (-9)) hx hb dX8_store_29 (by decide) ?_
    refine vz_Vv3 (As := [.int v2, .int (-9)]) (rest := []) hx hb hml hown hts hK hA hP hD hS (a_W_raise l D g H.size h wa wi wr wf ph rh la pa pr pf ca ci cr cf lr lf lmx v2 (-9) hw_w hw_p hw_c hw_l hmx_l) kv_X8_126 ⟨Nat.le_of_ble_eq_true rfl, Nat.le_of_ble_eq_true rfl⟩ (q0 := 0) (ci := 8) rfl rfl rfl  hl.1 (Nat.le_of_ble_eq_true rfl) dX8_store_31 ⟨Nat.le_refl _, Nat.le_refl _⟩ rfl (fun ⟨wi_6, cr_7, cf_8⟩ H locs hw_9 _ hP hD hS => ?_)
    try dsimp only at hw_9
    replace hP : va_P D vwCl (vz_w [woW g h wa wi_6 wr wf ph rh (la 0), pgW g ph pa pr pf, rcW g rh ca ci cr_7 cf_8, plW g la lr lf lmx]) H := hP
    replace hD : va_D A (vz_w [woW g h wa wi_6 wr wf ph rh (la 0), pgW g ph pa pr pf, rcW g rh ca ci cr_7 cf_8, plW g la lr lf lmx]) := hD
    refine lv_goto (tgt := 50) hx hb dX8_store_34 (by decide) ?_
    exact J50 v1 v2 wi_6 wf cr_7 cf_8 hw_9 H locs ls hP hD hS (lv_sub hl [2, 3, 4, 5, 1, 0] rfl)
theorem dX8_size_0 : decode cX8_size 0 = .ok (.aload_n 0, 1) := by decide +kernel
theorem dX8_size_1 : decode cX8_size 1 = .ok (.bipush 9, 2) := by decide +kernel
theorem dX8_size_3 : decode cX8_size 3 = .ok (.iload_n 1, 1) := by decide +kernel
theorem dX8_size_4 : decode cX8_size 4 = .ok (.iadd, 1) := by decide +kernel
theorem dX8_size_5 : decode cX8_size 5 = .ok (.invokevirtual 87, 3) := by decide +kernel
theorem dX8_size_8 : decode cX8_size 8 = .ok (.istore_n 2, 1) := by decide +kernel
theorem dX8_size_9 : decode cX8_size 9 = .ok (.iload_n 2, 1) := by decide +kernel
theorem dX8_size_10 : decode cX8_size 10 = .ok (.bipush (-9), 2) := by decide +kernel
theorem dX8_size_12 : decode cX8_size 12 = .ok (.if_icmp .ne 12, 3) := by decide +kernel
theorem dX8_size_15 : decode cX8_size 15 = .ok (.aload_n 0, 1) := by decide +kernel
theorem dX8_size_16 : decode cX8_size 16 = .ok (.iconst 4, 1) := by decide +kernel
theorem dX8_size_17 : decode cX8_size 17 = .ok (.bipush (-9), 2) := by decide +kernel
theorem dX8_size_19 : decode cX8_size 19 = .ok (.invokevirtual 126, 3) := by decide +kernel
theorem dX8_size_22 : decode cX8_size 22 = .ok (.iconst 0, 1) := by decide +kernel
theorem dX8_size_23 : decode cX8_size 23 = .ok (.ireturn, 1) := by decide +kernel
theorem dX8_size_24 : decode cX8_size 24 = .ok (.aload_n 0, 1) := by decide +kernel
theorem dX8_size_25 : decode cX8_size 25 = .ok (.getfield 37, 3) := by decide +kernel
theorem dX8_size_28 : decode cX8_size 28 = .ok (.iload_n 2, 1) := by decide +kernel
theorem dX8_size_29 : decode cX8_size 29 = .ok (.iconst 0, 1) := by decide +kernel
theorem dX8_size_30 : decode cX8_size 30 = .ok (.invokevirtual 110, 3) := by decide +kernel
theorem dX8_size_33 : decode cX8_size 33 = .ok (.ireturn, 1) := by decide +kernel
set_option maxHeartbeats 8000000 in
set_option maxRecDepth 100000 in
theorem a_W_size (l : Launch) (D : va_G) (g : Nat → ClassId)   (sz : Nat) (h : Nat) (wa : Nat → Nat) (wi : Nat → Int32) (wr : Nat → Nat) (wf : Nat → Nat → Int32) (ph : Nat) (rh : Nat) (la : Nat → Nat) (pa : Nat → Nat) (pr : Nat → Nat) (pf : Nat → Nat → Int32) (ca : Nat → Nat) (ci : Nat → Int32) (cr : Nat → Nat) (cf : Nat → Nat → Int32) (lr : Nat → Nat) (lf : Nat → Nat → Int32) (lmx : Nat) (n1 : Int32) (hw_w : ∀ k, wr k ≤ woW_lim k) (hw_p : ∀ k, pr k ≤ pgW_lim k) (hw_c : ∀ k, cr k ≤ rcW_lim k) (hw_l : ∀ k, lr k ≤ (plW_lim lmx) k) (hmx_l : lmx ≤ 30) : vz_Mi l D (tyG g) yX8_size cX8_size 3 2 48 0 0 .int [.ref h, .int n1] sz (vz_w [woW g h wa wi wr wf ph rh (la 0), pgW g ph pa pr pf, rcW g rh ca ci cr cf, plW g la lr lf lmx]) (fun r (u : (Nat → Int32) × (Nat → Nat) × (Nat → Nat → Int32)) => (∀ k, u.2.1 k ≤ rcW_lim k)) (fun u => vz_w [woW g h wa u.1 wr wf ph rh (la 0), pgW g ph pa pr pf, rcW g rh ca ci u.2.1 u.2.2, plW g la lr lf lmx]) := by
  refine vz_siQ (by decide) (Nat.le_of_ble_eq_true rfl) (fun p e s m args below meth c hx hb hr hml hts hown hlk hin hK hsz A hA H locs hP hD hS ls hl Q hQ => ?_)
  have hl : lv_has ls 3 [(0, .ref h), (1, .int n1)] := hl
  refine lv_aload_n hx hb dX8_size_0 rfl (lv_at hl 0 rfl) ?_
  refine lv_bipush (v := 9) hx hb dX8_size_1 (by decide) ?_
  refine lv_iload_n hx hb dX8_size_3 rfl (lv_at hl 1 rfl) ?_
  refine lv_iadd hx hb dX8_size_4 ?_
  refine vz_Vi3 (As := [.int (9 + n1)]) (rest := []) hx hb hml hown hts hK hA hP hD hS (a_W_now l D g H.size h wa wi wr wf ph rh la pa pr pf ca ci cr cf lr lf lmx (9 + n1) hw_w hw_p hw_c hw_l hmx_l) kv_X8_87 ⟨Nat.le_of_ble_eq_true rfl, Nat.le_of_ble_eq_true rfl⟩ (q0 := 0) (ci := 8) rfl rfl rfl  hl.1 (Nat.le_of_ble_eq_true rfl) dX8_size_5 ⟨Nat.le_refl _, Nat.le_refl _⟩ rfl (fun v1 _ H locs _ _ hP hD hS => ?_)
  refine lv_istore_n (lv' := [(2, .int v1), (0, .ref h), (1, .int n1)]) hx hb dX8_size_8 rfl hl (by decide) rfl (fun ls hl => ?_)
  refine lv_iload_n hx hb dX8_size_9 rfl (lv_at hl 0 rfl) ?_
  refine lv_bipush (v := (-9)) hx hb dX8_size_10 (by decide) ?_
  refine lv_icmp_ne (tgt := 24) hx hb dX8_size_12 (by decide) (fun kc2 => ?_) (fun kc2 => ?_)
  · refine lv_aload_n hx hb dX8_size_24 rfl (lv_at hl 1 rfl) ?_
    refine va_get (D := D) (ci := 8) (v := .ref (wa 6)) (C := RX8) (T := TX8) (N := 11) hx hb hts inlX8 hown hK hP 0 rfl rfl 3 (by decide) (hts _ q137) (fun _ h => h) rfl dX8_size_25 ?_
    refine lv_iload_n hx hb dX8_size_28 rfl (lv_at hl 0 rfl) ?_
    refine lv_iconst (v := 0) hx hb dX8_size_29 (by decide) ?_
    refine vz_Vi2 (ws' := fun u : Unit => vz_w [woW g h wa wi wr wf ph rh (la 0), pgW g ph pa pr pf, rcW g rh ca ci cr cf, plW g la lr lf lmx]) (As := [.int v1, .int 0]) (rest := []) hx hb hml hown hts hK hA hP hD hS (c_T_get l D g (wa 6) (wa 7) H.size 9 400 (wr 3) 3600 (wf 3) v1 0 ⟨rfl, by decide, by decide, by decide, by decide, hw_w 3⟩) kv_X8_110 ⟨Nat.le_of_ble_eq_true rfl, Nat.le_of_ble_eq_true rfl⟩ (q0 := 7) (ci := 6) rfl rfl rfl [7, 8] rfl (by decide) (fun _ => rfl) (fun _ => rfl) hl.1 (Nat.le_of_ble_eq_true rfl) dX8_size_30 ⟨Nat.le_refl _, Nat.le_refl _⟩ rfl (fun v3 _ H locs he4 _ hP hD hS => ?_)
    rw [hQ]
    exact vz_iret3 hx hb hr hlk hK hP hD hS (wi, cr, cf) hw_c rfl (Nat.le_refl 0) (Nat.le_refl 0) dX8_size_33
  · refine lv_aload_n hx hb dX8_size_15 rfl (lv_at hl 1 rfl) ?_
    refine lv_iconst (v := 4) hx hb dX8_size_16 (by decide) ?_
    refine lv_bipush (v := (-9)) hx hb dX8_size_17 (by decide) ?_
    refine vz_Vv3 (As := [.int 4, .int (-9)]) (rest := []) hx hb hml hown hts hK hA hP hD hS (a_W_raise l D g H.size h wa wi wr wf ph rh la pa pr pf ca ci cr cf lr lf lmx 4 (-9) hw_w hw_p hw_c hw_l hmx_l) kv_X8_126 ⟨Nat.le_of_ble_eq_true rfl, Nat.le_of_ble_eq_true rfl⟩ (q0 := 0) (ci := 8) rfl rfl rfl  hl.1 (Nat.le_of_ble_eq_true rfl) dX8_size_19 ⟨Nat.le_refl _, Nat.le_refl _⟩ rfl (fun ⟨wi_5, cr_6, cf_7⟩ H locs hw_8 _ hP hD hS => ?_)
    try dsimp only at hw_8
    replace hP : va_P D vwCl (vz_w [woW g h wa wi_5 wr wf ph rh (la 0), pgW g ph pa pr pf, rcW g rh ca ci cr_6 cf_7, plW g la lr lf lmx]) H := hP
    replace hD : va_D A (vz_w [woW g h wa wi_5 wr wf ph rh (la 0), pgW g ph pa pr pf, rcW g rh ca ci cr_6 cf_7, plW g la lr lf lmx]) := hD
    refine lv_iconst (v := 0) hx hb dX8_size_22 (by decide) ?_
    rw [hQ]
    exact vz_iret3 hx hb hr hlk hK hP hD hS (wi_5, cr_6, cf_7) hw_8 rfl (Nat.le_refl 0) (Nat.le_refl 0) dX8_size_23
