theorem q132 : Cond.fieldLink RX8 19 "WaysAtlas$World" "record" "LWaysAtlas$RunRecord;" ∈ wsL_law := mT_2 (List.mem_of_getElem? (i := 47) rfl) rfl
theorem q1071 : Cond.fieldLink RX8 70 "WaysAtlas$RunRecord" "ended" "I" ∈ wsL_law := mT_1 (List.mem_of_getElem? (i := 221) rfl) rfl
theorem dX8_isRunning_0 : decode cX8_isRunning 0 = .ok (.aload_n 0, 1) := by decide +kernel
theorem dX8_isRunning_1 : decode cX8_isRunning 1 = .ok (.getfield 19, 3) := by decide +kernel
theorem dX8_isRunning_4 : decode cX8_isRunning 4 = .ok (.getfield 70, 3) := by decide +kernel
theorem dX8_isRunning_7 : decode cX8_isRunning 7 = .ok (.bipush (-9), 2) := by decide +kernel
theorem dX8_isRunning_9 : decode cX8_isRunning 9 = .ok (.if_icmp .ne 7, 3) := by decide +kernel
theorem dX8_isRunning_12 : decode cX8_isRunning 12 = .ok (.iconst 1, 1) := by decide +kernel
theorem dX8_isRunning_13 : decode cX8_isRunning 13 = .ok (.goto 4, 3) := by decide +kernel
theorem dX8_isRunning_16 : decode cX8_isRunning 16 = .ok (.iconst 0, 1) := by decide +kernel
theorem dX8_isRunning_17 : decode cX8_isRunning 17 = .ok (.ireturn, 1) := by decide +kernel
set_option maxHeartbeats 8000000 in
set_option maxRecDepth 100000 in
theorem a_W_isRunning (l : Launch) (D : va_G) (g : Nat → ClassId)  (sz : Nat) (h : Nat) (wa : Nat → Nat) (wi : Nat → Int32) (wr : Nat → Nat) (wf : Nat → Nat → Int32) (ph : Nat) (rh : Nat) (la : Nat → Nat) (pa : Nat → Nat) (pr : Nat → Nat) (pf : Nat → Nat → Int32) (ca : Nat → Nat) (ci : Nat → Int32) (cr : Nat → Nat) (cf : Nat → Nat → Int32) (lr : Nat → Nat) (lf : Nat → Nat → Int32) (lmx : Nat) (hw_w : ∀ k, wr k ≤ woW_lim k) (hw_p : ∀ k, pr k ≤ pgW_lim k) (hw_c : ∀ k, cr k ≤ rcW_lim k) (hw_l : ∀ k, lr k ≤ (plW_lim lmx) k) (hmx_l : lmx ≤ 30) : vz_Mi l D (tyG g) yX8_isRunning cX8_isRunning 1 0 0 0 0 .boolean [.ref h] sz ((woW g h wa wi wr wf ph rh (la 0)) ++ (pgW g ph pa pr pf) ++ (rcW g rh ca ci cr cf) ++ (plW g la lr lf lmx)) (fun r (u : Unit) => (r = 0 ∨ r = 1)) (fun u => (woW g h wa wi wr wf ph rh (la 0)) ++ (pgW g ph pa pr pf) ++ (rcW g rh ca ci cr cf) ++ (plW g la lr lf lmx)) := by
  refine vz_siQ (by decide) (Nat.le_of_ble_eq_true rfl) (fun p e s m args below meth c hx hb hr hml hts hown hlk hin hK hsz A hA H locs hP hD hS ls hl Q hQ => ?_)
  have hl : lv_has ls 1 [(0, .ref h)] := hl
  have J17 : ∀ (y0_17 : Int32), (y0_17 = 0 ∨ y0_17 = 1) → ∀ (H : Heap) (locs : List Loc) (ls : Array Slot), va_P D vwCl ((woW g h wa wi wr wf ph rh (la 0)) ++ (pgW g ph pa pr pf) ++ (rcW g rh ca ci cr cf) ++ (plW g la lr lf lmx)) H → va_D A ((woW g h wa wi wr wf ph rh (la 0)) ++ (pgW g ph pa pr pf) ++ (rcW g rh ca ci cr cf) ++ (plW g la lr lf lmx)) → va_S A s.heap H locs → lv_has ls 1 [(0, .ref h)] → W p l e { frames := 0, cells := 0, slots := 0, locals := 0 } s m args below meth c H locs 0 0 Q (F0 m 17 ls [.int y0_17]) := by
    intro y0_17 hz_y0_17 H locs ls hP hD hS hl
    rw [hQ]
    exact vz_zret3 hx hb hr hlk hK hP hD hS () hz_y0_17 rfl (Nat.le_refl 0) (Nat.le_refl 0) (vz_nb hz_y0_17) dX8_isRunning_17
  refine lv_aload_n hx hb dX8_isRunning_0 rfl (lv_at hl 0 rfl) ?_
  refine va_get (D := D) (ci := 8) (v := .ref rh) (C := RX8) (T := TX8) (N := 11) hx hb hts inlX8 hown hK hP 0 rfl rfl 6 (by decide) (hts _ q132) (fun _ h => h) rfl dX8_isRunning_1 ?_
  refine va_get (D := D) (ci := 4) (v := .int (ci 0)) (C := RX4) (T := TX4) (N := 12) hx hb hts inlX4 hown hK hP 22 rfl rfl 5 (by decide) (hts _ q1071) (fun _ h => h) rfl dX8_isRunning_4 ?_
  refine lv_bipush (v := (-9)) hx hb dX8_isRunning_7 (by decide) ?_
  refine lv_icmp_ne (tgt := 16) hx hb dX8_isRunning_9 (by decide) (fun kc1 => ?_) (fun kc1 => ?_)
  · refine lv_iconst (v := 0) hx hb dX8_isRunning_16 (by decide) ?_
    exact J17 0 (Or.inl rfl) H locs ls hP hD hS (lv_sub hl [0] rfl)
  · refine lv_iconst (v := 1) hx hb dX8_isRunning_12 (by decide) ?_
    refine lv_goto (tgt := 17) hx hb dX8_isRunning_13 (by decide) ?_
    exact J17 1 (Or.inr rfl) H locs ls hP hD hS (lv_sub hl [0] rfl)
theorem q1082 : Cond.fieldLink RX8 73 "WaysAtlas$RunRecord" "steps" "I" ∈ wsL_law := mT_1 (List.mem_of_getElem? (i := 237) rfl) rfl
theorem q1019 : Cond.fieldLink RX8 50 "WaysAtlas$World" "limit" "I" ∈ wsL_law := mT_2 (List.mem_of_getElem? (i := 51) rfl) rfl
theorem dX8_takeStep_0 : decode cX8_takeStep 0 = .ok (.aload_n 0, 1) := by decide +kernel
theorem dX8_takeStep_1 : decode cX8_takeStep 1 = .ok (.getfield 19, 3) := by decide +kernel
theorem dX8_takeStep_4 : decode cX8_takeStep 4 = .ok (.getfield 73, 3) := by decide +kernel
theorem dX8_takeStep_7 : decode cX8_takeStep 7 = .ok (.aload_n 0, 1) := by decide +kernel
theorem dX8_takeStep_8 : decode cX8_takeStep 8 = .ok (.getfield 50, 3) := by decide +kernel
theorem dX8_takeStep_11 : decode cX8_takeStep 11 = .ok (.if_icmp .lt 13, 3) := by decide +kernel
theorem dX8_takeStep_14 : decode cX8_takeStep 14 = .ok (.aload_n 0, 1) := by decide +kernel
theorem dX8_takeStep_15 : decode cX8_takeStep 15 = .ok (.getfield 19, 3) := by decide +kernel
theorem dX8_takeStep_18 : decode cX8_takeStep 18 = .ok (.iconst 2, 1) := by decide +kernel
theorem dX8_takeStep_19 : decode cX8_takeStep 19 = .ok (.putfield 70, 3) := by decide +kernel
theorem dX8_takeStep_22 : decode cX8_takeStep 22 = .ok (.iconst 0, 1) := by decide +kernel
theorem dX8_takeStep_23 : decode cX8_takeStep 23 = .ok (.ireturn, 1) := by decide +kernel
theorem dX8_takeStep_24 : decode cX8_takeStep 24 = .ok (.aload_n 0, 1) := by decide +kernel
theorem dX8_takeStep_25 : decode cX8_takeStep 25 = .ok (.getfield 19, 3) := by decide +kernel
theorem dX8_takeStep_28 : decode cX8_takeStep 28 = .ok (.dup, 1) := by decide +kernel
theorem dX8_takeStep_29 : decode cX8_takeStep 29 = .ok (.getfield 73, 3) := by decide +kernel
theorem dX8_takeStep_32 : decode cX8_takeStep 32 = .ok (.iconst 1, 1) := by decide +kernel
theorem dX8_takeStep_33 : decode cX8_takeStep 33 = .ok (.iadd, 1) := by decide +kernel
theorem dX8_takeStep_34 : decode cX8_takeStep 34 = .ok (.putfield 73, 3) := by decide +kernel
theorem dX8_takeStep_37 : decode cX8_takeStep 37 = .ok (.iconst 1, 1) := by decide +kernel
theorem dX8_takeStep_38 : decode cX8_takeStep 38 = .ok (.ireturn, 1) := by decide +kernel
set_option maxHeartbeats 8000000 in
set_option maxRecDepth 100000 in
theorem a_W_takeStep (l : Launch) (D : va_G) (g : Nat → ClassId)  (sz : Nat) (h : Nat) (wa : Nat → Nat) (wi : Nat → Int32) (wr : Nat → Nat) (wf : Nat → Nat → Int32) (ph : Nat) (rh : Nat) (la : Nat → Nat) (pa : Nat → Nat) (pr : Nat → Nat) (pf : Nat → Nat → Int32) (ca : Nat → Nat) (ci : Nat → Int32) (cr : Nat → Nat) (cf : Nat → Nat → Int32) (lr : Nat → Nat) (lf : Nat → Nat → Int32) (lmx : Nat) (hw_w : ∀ k, wr k ≤ woW_lim k) (hw_p : ∀ k, pr k ≤ pgW_lim k) (hw_c : ∀ k, cr k ≤ rcW_lim k) (hw_l : ∀ k, lr k ≤ (plW_lim lmx) k) (hmx_l : lmx ≤ 30) : vz_Mi l D (tyG g) yX8_takeStep cX8_takeStep 1 0 0 0 0 .boolean [.ref h] sz ((woW g h wa wi wr wf ph rh (la 0)) ++ (pgW g ph pa pr pf) ++ (rcW g rh ca ci cr cf) ++ (plW g la lr lf lmx)) (fun r (u : (Nat → Int32)) => (r = 0 ∨ r = 1)) (fun u => (woW g h wa wi wr wf ph rh (la 0)) ++ (pgW g ph pa pr pf) ++ (rcW g rh ca u cr cf) ++ (plW g la lr lf lmx)) := by
  refine vz_siQ (by decide) (Nat.le_of_ble_eq_true rfl) (fun p e s m args below meth c hx hb hr hml hts hown hlk hin hK hsz A hA H locs hP hD hS ls hl Q hQ => ?_)
  have hl : lv_has ls 1 [(0, .ref h)] := hl
  refine lv_aload_n hx hb dX8_takeStep_0 rfl (lv_at hl 0 rfl) ?_
  refine va_get (D := D) (ci := 8) (v := .ref rh) (C := RX8) (T := TX8) (N := 11) hx hb hts inlX8 hown hK hP 0 rfl rfl 6 (by decide) (hts _ q132) (fun _ h => h) rfl dX8_takeStep_1 ?_
  refine va_get (D := D) (ci := 4) (v := .int (ci 6)) (C := RX4) (T := TX4) (N := 12) hx hb hts inlX4 hown hK hP 22 rfl rfl 11 (by decide) (hts _ q1082) (fun _ h => h) rfl dX8_takeStep_4 ?_
  refine lv_aload_n hx hb dX8_takeStep_7 rfl (lv_at hl 0 rfl) ?_
  refine va_get (D := D) (ci := 8) (v := .int (wi 0)) (C := RX8) (T := TX8) (N := 11) hx hb hts inlX8 hown hK hP 0 rfl rfl 8 (by decide) (hts _ q1019) (fun _ h => h) rfl dX8_takeStep_8 ?_
  refine lv_icmp_lt (tgt := 24) hx hb dX8_takeStep_11 (by decide) (fun kc1 => ?_) (fun kc1 => ?_)
  · refine lv_aload_n hx hb dX8_takeStep_24 rfl (lv_at hl 0 rfl) ?_
    refine va_get (D := D) (ci := 8) (v := .ref rh) (C := RX8) (T := TX8) (N := 11) hx hb hts inlX8 hown hK hP 0 rfl rfl 6 (by decide) (hts _ q132) (fun _ h => h) rfl dX8_takeStep_25 ?_
    refine lv_dup hx hb dX8_takeStep_28 rfl ?_
    refine va_get (D := D) (ci := 4) (v := .int (ci 6)) (C := RX4) (T := TX4) (N := 12) hx hb hts inlX4 hown hK hP 22 rfl rfl 11 (by decide) (hts _ q1082) (fun _ h => h) rfl dX8_takeStep_29 ?_
    refine lv_iconst (v := 1) hx hb dX8_takeStep_32 (by decide) ?_
    refine lv_iadd hx hb dX8_takeStep_33 ?_
    refine va_put (D := D) (ci := 4) (v := .int ((ci 6) + 1)) (ty := .int) (C := RX4) (T := TX4) (N := 12) hx hb hts inlX4 tyX4 tyX4_ok nmX4 hown hK hP hD hS 22 rfl rfl 11 (by decide) (hts _ q1082) (fun _ h => h) rfl (by decide +kernel) rfl rfl (Nat.le_of_ble_eq_true rfl) dX8_takeStep_34 (fun H locs hP hD hS => ?_)
    obtain ⟨ci_2, hci_2, hP, hD⟩ : ∃ ci_2 : Nat → Int32, (ci_2 = (upd ci 6 ((ci 6) + 1))) ∧ va_P D vwCl ((woW g h wa wi wr wf ph rh (la 0)) ++ (pgW g ph pa pr pf) ++ (rcW g rh ca ci_2 cr cf) ++ (plW g la lr lf lmx)) H ∧ va_D A ((woW g h wa wi wr wf ph rh (la 0)) ++ (pgW g ph pa pr pf) ++ (rcW g rh ca ci_2 cr cf) ++ (plW g la lr lf lmx)) := ⟨(upd ci 6 ((ci 6) + 1)), rfl, hP, hD⟩
    refine lv_iconst (v := 1) hx hb dX8_takeStep_37 (by decide) ?_
    rw [hQ]
    exact vz_zret3 hx hb hr hlk hK hP hD hS ci_2 (Or.inr rfl) rfl (Nat.le_refl 0) (Nat.le_refl 0) (by decide) dX8_takeStep_38
  · refine lv_aload_n hx hb dX8_takeStep_14 rfl (lv_at hl 0 rfl) ?_
    refine va_get (D := D) (ci := 8) (v := .ref rh) (C := RX8) (T := TX8) (N := 11) hx hb hts inlX8 hown hK hP 0 rfl rfl 6 (by decide) (hts _ q132) (fun _ h => h) rfl dX8_takeStep_15 ?_
    refine lv_iconst (v := 2) hx hb dX8_takeStep_18 (by decide) ?_
    refine va_put (D := D) (ci := 4) (v := .int 2) (ty := .int) (C := RX4) (T := TX4) (N := 12) hx hb hts inlX4 tyX4 tyX4_ok nmX4 hown hK hP hD hS 22 rfl rfl 5 (by decide) (hts _ q1071) (fun _ h => h) rfl (by decide +kernel) rfl rfl (Nat.le_of_ble_eq_true rfl) dX8_takeStep_19 (fun H locs hP hD hS => ?_)
    obtain ⟨ci_3, hci_3, hP, hD⟩ : ∃ ci_3 : Nat → Int32, (ci_3 = (upd ci 0 2)) ∧ va_P D vwCl ((woW g h wa wi wr wf ph rh (la 0)) ++ (pgW g ph pa pr pf) ++ (rcW g rh ca ci_3 cr cf) ++ (plW g la lr lf lmx)) H ∧ va_D A ((woW g h wa wi wr wf ph rh (la 0)) ++ (pgW g ph pa pr pf) ++ (rcW g rh ca ci_3 cr cf) ++ (plW g la lr lf lmx)) := ⟨(upd ci 0 2), rfl, hP, hD⟩
    refine lv_iconst (v := 0) hx hb dX8_takeStep_22 (by decide) ?_
    rw [hQ]
    exact vz_zret3 hx hb hr hlk hK hP hD hS ci_3 (Or.inl rfl) rfl (Nat.le_refl 0) (Nat.le_refl 0) (by decide) dX8_takeStep_23
theorem q1201 : Cond.fieldLink RX8 76 "WaysAtlas$RunRecord" "returned" "I" ∈ wsL_law := mT_1 (List.mem_of_getElem? (i := 224) rfl) rfl
theorem q1202 : Cond.fieldLink RX8 79 "WaysAtlas$RunRecord" "ender" "I" ∈ wsL_law := mT_1 (List.mem_of_getElem? (i := 227) rfl) rfl
theorem dX8_end_0 : decode cX8_end 0 = .ok (.aload_n 0, 1) := by decide +kernel
theorem dX8_end_1 : decode cX8_end 1 = .ok (.getfield 19, 3) := by decide +kernel
theorem dX8_end_4 : decode cX8_end 4 = .ok (.iload_n 1, 1) := by decide +kernel
theorem dX8_end_5 : decode cX8_end 5 = .ok (.putfield 70, 3) := by decide +kernel
theorem dX8_end_8 : decode cX8_end 8 = .ok (.iload_n 1, 1) := by decide +kernel
theorem dX8_end_9 : decode cX8_end 9 = .ok (.ifCond .ne 14, 3) := by decide +kernel
theorem dX8_end_12 : decode cX8_end 12 = .ok (.aload_n 0, 1) := by decide +kernel
theorem dX8_end_13 : decode cX8_end 13 = .ok (.getfield 19, 3) := by decide +kernel
theorem dX8_end_16 : decode cX8_end 16 = .ok (.iload_n 2, 1) := by decide +kernel
theorem dX8_end_17 : decode cX8_end 17 = .ok (.putfield 76, 3) := by decide +kernel
theorem dX8_end_20 : decode cX8_end 20 = .ok (.goto 11, 3) := by decide +kernel
theorem dX8_end_23 : decode cX8_end 23 = .ok (.aload_n 0, 1) := by decide +kernel
theorem dX8_end_24 : decode cX8_end 24 = .ok (.getfield 19, 3) := by decide +kernel
theorem dX8_end_27 : decode cX8_end 27 = .ok (.iload_n 2, 1) := by decide +kernel
theorem dX8_end_28 : decode cX8_end 28 = .ok (.putfield 79, 3) := by decide +kernel
theorem dX8_end_31 : decode cX8_end 31 = .ok (.return_, 1) := by decide +kernel
set_option maxHeartbeats 8000000 in
set_option maxRecDepth 100000 in
theorem a_W_end (l : Launch) (D : va_G) (g : Nat → ClassId)  (sz : Nat) (h : Nat) (wa : Nat → Nat) (wi : Nat → Int32) (wr : Nat → Nat) (wf : Nat → Nat → Int32) (ph : Nat) (rh : Nat) (la : Nat → Nat) (pa : Nat → Nat) (pr : Nat → Nat) (pf : Nat → Nat → Int32) (ca : Nat → Nat) (ci : Nat → Int32) (cr : Nat → Nat) (cf : Nat → Nat → Int32) (lr : Nat → Nat) (lf : Nat → Nat → Int32) (lmx : Nat) (n1 : Int32) (n2 : Int32) (hw_w : ∀ k, wr k ≤ woW_lim k) (hw_p : ∀ k, pr k ≤ pgW_lim k) (hw_c : ∀ k, cr k ≤ rcW_lim k) (hw_l : ∀ k, lr k ≤ (plW_lim lmx) k) (hmx_l : lmx ≤ 30) : vz_Mv l D (tyG g) yX8_end cX8_end 3 0 0 0 0 [.ref h, .int n1, .int n2] sz ((woW g h wa wi wr wf ph rh (la 0)) ++ (pgW g ph pa pr pf) ++ (rcW g rh ca ci cr cf) ++ (plW g la lr lf lmx)) (fun u : (Nat → Int32) => True) (fun u => (woW g h wa wi wr wf ph rh (la 0)) ++ (pgW g ph pa pr pf) ++ (rcW g rh ca u cr cf) ++ (plW g la lr lf lmx)) := by
  refine vz_svQ (by decide) (Nat.le_of_ble_eq_true rfl) (fun p e s m args below meth c hx hb hr hml hts hown hlk hin hK hsz A hA H locs hP hD hS ls hl Q hQ => ?_)
  have hl : lv_has ls 3 [(0, .ref h), (1, .int n1), (2, .int n2)] := hl
  have J31 : ∀ (ci_31 : Nat → Int32), ∀ (H : Heap) (locs : List Loc) (ls : Array Slot), va_P D vwCl ((woW g h wa wi wr wf ph rh (la 0)) ++ (pgW g ph pa pr pf) ++ (rcW g rh ca ci_31 cr cf) ++ (plW g la lr lf lmx)) H → va_D A ((woW g h wa wi wr wf ph rh (la 0)) ++ (pgW g ph pa pr pf) ++ (rcW g rh ca ci_31 cr cf) ++ (plW g la lr lf lmx)) → va_S A s.heap H locs → lv_has ls 3 [(0, .ref h), (1, .int n1), (2, .int n2)] → W p l e { frames := 0, cells := 0, slots := 0, locals := 0 } s m args below meth c H locs 0 0 Q (F0 m 31 ls []) := by
    intro ci_31 H locs ls hP hD hS hl
    rw [hQ]
    exact vz_vret3 hx hb hr hlk hK hP hD hS ci_31 trivial rfl (Nat.le_refl 0) (Nat.le_refl 0) dX8_end_31
  refine lv_aload_n hx hb dX8_end_0 rfl (lv_at hl 0 rfl) ?_
  refine va_get (D := D) (ci := 8) (v := .ref rh) (C := RX8) (T := TX8) (N := 11) hx hb hts inlX8 hown hK hP 0 rfl rfl 6 (by decide) (hts _ q132) (fun _ h => h) rfl dX8_end_1 ?_
  refine lv_iload_n hx hb dX8_end_4 rfl (lv_at hl 1 rfl) ?_
  refine va_put (D := D) (ci := 4) (v := .int n1) (ty := .int) (C := RX4) (T := TX4) (N := 12) hx hb hts inlX4 tyX4 tyX4_ok nmX4 hown hK hP hD hS 22 rfl rfl 5 (by decide) (hts _ q1071) (fun _ h => h) rfl (by decide +kernel) rfl rfl (Nat.le_of_ble_eq_true rfl) dX8_end_5 (fun H locs hP hD hS => ?_)
  obtain ⟨ci_1, hci_1, hP, hD⟩ : ∃ ci_1 : Nat → Int32, (ci_1 = (upd ci 0 n1)) ∧ va_P D vwCl ((woW g h wa wi wr wf ph rh (la 0)) ++ (pgW g ph pa pr pf) ++ (rcW g rh ca ci_1 cr cf) ++ (plW g la lr lf lmx)) H ∧ va_D A ((woW g h wa wi wr wf ph rh (la 0)) ++ (pgW g ph pa pr pf) ++ (rcW g rh ca ci_1 cr cf) ++ (plW g la lr lf lmx)) := ⟨(upd ci 0 n1), rfl, hP, hD⟩
  refine lv_iload_n hx hb dX8_end_8 rfl (lv_at hl 1 rfl) ?_
  refine lv_if_ne (tgt := 23) hx hb dX8_end_9 (by decide) (fun kc2 => ?_) (fun kc2 => ?_)
  · refine lv_aload_n hx hb dX8_end_23 rfl (lv_at hl 0 rfl) ?_
    refine va_get (D := D) (ci := 8) (v := .ref rh) (C := RX8) (T := TX8) (N := 11) hx hb hts inlX8 hown hK hP 0 rfl rfl 6 (by decide) (hts _ q132) (fun _ h => h) rfl dX8_end_24 ?_
    refine lv_iload_n hx hb dX8_end_27 rfl (lv_at hl 2 rfl) ?_
    refine va_put (D := D) (ci := 4) (v := .int n2) (ty := .int) (C := RX4) (T := TX4) (N := 12) hx hb hts inlX4 tyX4 tyX4_ok nmX4 hown hK hP hD hS 22 rfl rfl 7 (by decide) (hts _ q1202) (fun _ h => h) rfl (by decide +kernel) rfl rfl (Nat.le_of_ble_eq_true rfl) dX8_end_28 (fun H locs hP hD hS => ?_)
    obtain ⟨ci_3, hci_3, hP, hD⟩ : ∃ ci_3 : Nat → Int32, (ci_3 = (upd ci_1 2 n2)) ∧ va_P D vwCl ((woW g h wa wi wr wf ph rh (la 0)) ++ (pgW g ph pa pr pf) ++ (rcW g rh ca ci_3 cr cf) ++ (plW g la lr lf lmx)) H ∧ va_D A ((woW g h wa wi wr wf ph rh (la 0)) ++ (pgW g ph pa pr pf) ++ (rcW g rh ca ci_3 cr cf) ++ (plW g la lr lf lmx)) := ⟨(upd ci_1 2 n2), rfl, hP, hD⟩
    exact J31 ci_3 H locs ls hP hD hS (lv_sub hl [0, 1, 2] rfl)
  · refine lv_aload_n hx hb dX8_end_12 rfl (lv_at hl 0 rfl) ?_
    refine va_get (D := D) (ci := 8) (v := .ref rh) (C := RX8) (T := TX8) (N := 11) hx hb hts inlX8 hown hK hP 0 rfl rfl 6 (by decide) (hts _ q132) (fun _ h => h) rfl dX8_end_13 ?_
    refine lv_iload_n hx hb dX8_end_16 rfl (lv_at hl 2 rfl) ?_
    refine va_put (D := D) (ci := 4) (v := .int n2) (ty := .int) (C := RX4) (T := TX4) (N := 12) hx hb hts inlX4 tyX4 tyX4_ok nmX4 hown hK hP hD hS 22 rfl rfl 6 (by decide) (hts _ q1201) (fun _ h => h) rfl (by decide +kernel) rfl rfl (Nat.le_of_ble_eq_true rfl) dX8_end_17 (fun H locs hP hD hS => ?_)
    obtain ⟨ci_4, hci_4, hP, hD⟩ : ∃ ci_4 : Nat → Int32, (ci_4 = (upd ci_1 1 n2)) ∧ va_P D vwCl ((woW g h wa wi wr wf ph rh (la 0)) ++ (pgW g ph pa pr pf) ++ (rcW g rh ca ci_4 cr cf) ++ (plW g la lr lf lmx)) H ∧ va_D A ((woW g h wa wi wr wf ph rh (la 0)) ++ (pgW g ph pa pr pf) ++ (rcW g rh ca ci_4 cr cf) ++ (plW g la lr lf lmx)) := ⟨(upd ci_1 1 n2), rfl, hP, hD⟩
    refine lv_goto (tgt := 31) hx hb dX8_end_20 (by decide) ?_
    exact J31 ci_4 H locs ls hP hD hS (lv_sub hl [0, 1, 2] rfl)
theorem q135 : Cond.fieldLink RX8 31 "WaysAtlas$World" "activations" "LWaysAtlas$Table;" ∈ wsL_law := mT_2 (List.mem_of_getElem? (i := 40) rfl) rfl
theorem q1021 : Cond.fieldLink RX8 58 "WaysAtlas$Table" "rows" "I" ∈ wsL_law := mT_1 (List.mem_of_getElem? (i := 41) rfl) rfl
theorem dX8_active_0 : decode cX8_active 0 = .ok (.aload_n 0, 1) := by decide +kernel
theorem dX8_active_1 : decode cX8_active 1 = .ok (.getfield 31, 3) := by decide +kernel
theorem dX8_active_4 : decode cX8_active 4 = .ok (.getfield 58, 3) := by decide +kernel
theorem dX8_active_7 : decode cX8_active 7 = .ok (.ireturn, 1) := by decide +kernel
set_option maxHeartbeats 8000000 in
set_option maxRecDepth 100000 in
theorem a_W_active (l : Launch) (D : va_G) (g : Nat → ClassId)  (sz : Nat) (h : Nat) (wa : Nat → Nat) (wi : Nat → Int32) (wr : Nat → Nat) (wf : Nat → Nat → Int32) (ph : Nat) (rh : Nat) (la : Nat → Nat) (pa : Nat → Nat) (pr : Nat → Nat) (pf : Nat → Nat → Int32) (ca : Nat → Nat) (ci : Nat → Int32) (cr : Nat → Nat) (cf : Nat → Nat → Int32) (lr : Nat → Nat) (lf : Nat → Nat → Int32) (lmx : Nat) (hw_w : ∀ k, wr k ≤ woW_lim k) (hw_p : ∀ k, pr k ≤ pgW_lim k) (hw_c : ∀ k, cr k ≤ rcW_lim k) (hw_l : ∀ k, lr k ≤ (plW_lim lmx) k) (hmx_l : lmx ≤ 30) : vz_Mi l D (tyG g) yX8_active cX8_active 1 0 0 0 0 .int [.ref h] sz ((woW g h wa wi wr wf ph rh (la 0)) ++ (pgW g ph pa pr pf) ++ (rcW g rh ca ci cr cf) ++ (plW g la lr lf lmx)) (fun r (u : Unit) => True) (fun u => (woW g h wa wi wr wf ph rh (la 0)) ++ (pgW g ph pa pr pf) ++ (rcW g rh ca ci cr cf) ++ (plW g la lr lf lmx)) := by
  refine vz_siQ (by decide) (Nat.le_of_ble_eq_true rfl) (fun p e s m args below meth c hx hb hr hml hts hown hlk hin hK hsz A hA H locs hP hD hS ls hl Q hQ => ?_)
  have hl : lv_has ls 1 [(0, .ref h)] := hl
  refine lv_aload_n hx hb dX8_active_0 rfl (lv_at hl 0 rfl) ?_
  refine va_get (D := D) (ci := 8) (v := .ref (wa 2)) (C := RX8) (T := TX8) (N := 11) hx hb hts inlX8 hown hK hP 0 rfl rfl 1 (by decide) (hts _ q135) (fun _ h => h) rfl dX8_active_1 ?_
  refine va_get (D := D) (ci := 6) (v := .int (nI (wr 1))) (C := RX6) (T := TX6) (N := 4) hx hb hts inlX6 hown hK hP 3 rfl rfl 3 (by decide) (hts _ q1021) (fun _ h => h) rfl dX8_active_4 ?_
  rw [hQ]
  exact vz_iret3 hx hb hr hlk hK hP hD hS () trivial rfl (Nat.le_refl 0) (Nat.le_refl 0) dX8_active_7
theorem q1060 : Cond.methodLink RX8 110 yX6_get ∈ wsL_law := mT_4 (List.mem_of_getElem? (i := 222) rfl) rfl
theorem kv_X8_110 : vz_cv RX8 110 yX6_get cX6_get 4 (some .int) 2 := ⟨q1060, q294, q295, q15, q296, by decide +kernel⟩
theorem dX8_now_0 : decode cX8_now 0 = .ok (.aload_n 0, 1) := by decide +kernel
theorem dX8_now_1 : decode cX8_now 1 = .ok (.getfield 31, 3) := by decide +kernel
theorem dX8_now_4 : decode cX8_now 4 = .ok (.aload_n 0, 1) := by decide +kernel
theorem dX8_now_5 : decode cX8_now 5 = .ok (.getfield 31, 3) := by decide +kernel
theorem dX8_now_8 : decode cX8_now 8 = .ok (.getfield 58, 3) := by decide +kernel
theorem dX8_now_11 : decode cX8_now 11 = .ok (.iconst 1, 1) := by decide +kernel
theorem dX8_now_12 : decode cX8_now 12 = .ok (.isub, 1) := by decide +kernel
theorem dX8_now_13 : decode cX8_now 13 = .ok (.iload_n 1, 1) := by decide +kernel
theorem dX8_now_14 : decode cX8_now 14 = .ok (.invokevirtual 110, 3) := by decide +kernel
theorem dX8_now_17 : decode cX8_now 17 = .ok (.ireturn, 1) := by decide +kernel
set_option maxHeartbeats 8000000 in
set_option maxRecDepth 100000 in
theorem a_W_now (l : Launch) (D : va_G) (g : Nat → ClassId)  (sz : Nat) (h : Nat) (wa : Nat → Nat) (wi : Nat → Int32) (wr : Nat → Nat) (wf : Nat → Nat → Int32) (ph : Nat) (rh : Nat) (la : Nat → Nat) (pa : Nat → Nat) (pr : Nat → Nat) (pf : Nat → Nat → Int32) (ca : Nat → Nat) (ci : Nat → Int32) (cr : Nat → Nat) (cf : Nat → Nat → Int32) (lr : Nat → Nat) (lf : Nat → Nat → Int32) (lmx : Nat) (n1 : Int32) (hw_w : ∀ k, wr k ≤ woW_lim k) (hw_p : ∀ k, pr k ≤ pgW_lim k) (hw_c : ∀ k, cr k ≤ rcW_lim k) (hw_l : ∀ k, lr k ≤ (plW_lim lmx) k) (hmx_l : lmx ≤ 30) : vz_Mi l D (tyG g) yX8_now cX8_now 2 1 23 0 0 .int [.ref h, .int n1] sz ((woW g h wa wi wr wf ph rh (la 0)) ++ (pgW g ph pa pr pf) ++ (rcW g rh ca ci cr cf) ++ (plW g la lr lf lmx)) (fun r (u : Unit) => True) (fun u => (woW g h wa wi wr wf ph rh (la 0)) ++ (pgW g ph pa pr pf) ++ (rcW g rh ca ci cr cf) ++ (plW g la lr lf lmx)) := by
  refine vz_siQ (by decide) (Nat.le_of_ble_eq_true rfl) (fun p e s m args below meth c hx hb hr hml hts hown hlk hin hK hsz A hA H locs hP hD hS ls hl Q hQ => ?_)
  have hl : lv_has ls 2 [(0, .ref h), (1, .int n1)] := hl
  refine lv_aload_n hx hb dX8_now_0 rfl (lv_at hl 0 rfl) ?_
  refine va_get (D := D) (ci := 8) (v := .ref (wa 2)) (C := RX8) (T := TX8) (N := 11) hx hb hts inlX8 hown hK hP 0 rfl rfl 1 (by decide) (hts _ q135) (fun _ h => h) rfl dX8_now_1 ?_
  refine lv_aload_n hx hb dX8_now_4 rfl (lv_at hl 0 rfl) ?_
  refine va_get (D := D) (ci := 8) (v := .ref (wa 2)) (C := RX8) (T := TX8) (N := 11) hx hb hts inlX8 hown hK hP 0 rfl rfl 1 (by decide) (hts _ q135) (fun _ h => h) rfl dX8_now_5 ?_
  refine va_get (D := D) (ci := 6) (v := .int (nI (wr 1))) (C := RX6) (T := TX6) (N := 4) hx hb hts inlX6 hown hK hP 3 rfl rfl 3 (by decide) (hts _ q1021) (fun _ h => h) rfl dX8_now_8 ?_
  refine lv_iconst (v := 1) hx hb dX8_now_11 (by decide) ?_
  refine lv_isub hx hb dX8_now_12 ?_
  refine lv_iload_n hx hb dX8_now_13 rfl (lv_at hl 1 rfl) ?_
  refine vz_Vi2 (ws' := fun u : Unit => (woW g h wa wi wr wf ph rh (la 0)) ++ (pgW g ph pa pr pf) ++ (rcW g rh ca ci cr cf) ++ (plW g la lr lf lmx)) (As := [.int ((nI (wr 1)) - 1), .int n1]) (rest := []) hx hb hml hown hts hK hA hP hD hS (c_T_get l D g (wa 2) (wa 3) H.size 12 12 (wr 1) 144 (wf 1) ((nI (wr 1)) - 1) n1 ⟨rfl, by decide, by decide, by decide, by decide, hw_w 1⟩) kv_X8_110 ⟨Nat.le_of_ble_eq_true rfl, Nat.le_of_ble_eq_true rfl⟩ (q0 := 3) (ci := 6) rfl rfl rfl [3, 4] rfl (by decide) (fun _ => rfl) (fun _ => rfl) hl.1 (Nat.le_of_ble_eq_true rfl) dX8_now_14 ⟨Nat.le_refl _, Nat.le_refl _⟩ rfl (fun v1 _ H locs he2 _ hP hD hS => ?_)
  rw [hQ]
  exact vz_iret3 hx hb hr hlk hK hP hD hS () trivial rfl (Nat.le_refl 0) (Nat.le_refl 0) dX8_now_17
theorem q1061 : Cond.methodLink RX8 91 yX6_set ∈ wsL_law := mT_4 (List.mem_of_getElem? (i := 223) rfl) rfl
theorem kv_X8_91 : vz_cv RX8 91 yX6_set cX6_set 5 none 3 := ⟨q1061, q265, q266, q15, q267, by decide +kernel⟩
theorem dX8_setNow_0 : decode cX8_setNow 0 = .ok (.aload_n 0, 1) := by decide +kernel
theorem dX8_setNow_1 : decode cX8_setNow 1 = .ok (.getfield 31, 3) := by decide +kernel
theorem dX8_setNow_4 : decode cX8_setNow 4 = .ok (.aload_n 0, 1) := by decide +kernel
theorem dX8_setNow_5 : decode cX8_setNow 5 = .ok (.getfield 31, 3) := by decide +kernel
theorem dX8_setNow_8 : decode cX8_setNow 8 = .ok (.getfield 58, 3) := by decide +kernel
theorem dX8_setNow_11 : decode cX8_setNow 11 = .ok (.iconst 1, 1) := by decide +kernel
theorem dX8_setNow_12 : decode cX8_setNow 12 = .ok (.isub, 1) := by decide +kernel
theorem dX8_setNow_13 : decode cX8_setNow 13 = .ok (.iload_n 1, 1) := by decide +kernel
theorem dX8_setNow_14 : decode cX8_setNow 14 = .ok (.iload_n 2, 1) := by decide +kernel
theorem dX8_setNow_15 : decode cX8_setNow 15 = .ok (.invokevirtual 91, 3) := by decide +kernel
theorem dX8_setNow_18 : decode cX8_setNow 18 = .ok (.return_, 1) := by decide +kernel
set_option maxHeartbeats 8000000 in
set_option maxRecDepth 100000 in
theorem a_W_setNow (l : Launch) (D : va_G) (g : Nat → ClassId)  (sz : Nat) (h : Nat) (wa : Nat → Nat) (wi : Nat → Int32) (wr : Nat → Nat) (wf : Nat → Nat → Int32) (ph : Nat) (rh : Nat) (la : Nat → Nat) (pa : Nat → Nat) (pr : Nat → Nat) (pf : Nat → Nat → Int32) (ca : Nat → Nat) (ci : Nat → Int32) (cr : Nat → Nat) (cf : Nat → Nat → Int32) (lr : Nat → Nat) (lf : Nat → Nat → Int32) (lmx : Nat) (n1 : Int32) (n2 : Int32) (hw_w : ∀ k, wr k ≤ woW_lim k) (hw_p : ∀ k, pr k ≤ pgW_lim k) (hw_c : ∀ k, cr k ≤ rcW_lim k) (hw_l : ∀ k, lr k ≤ (plW_lim lmx) k) (hmx_l : lmx ≤ 30) : vz_Mv l D (tyG g) yX8_setNow cX8_setNow 3 1 24 0 0 [.ref h, .int n1, .int n2] sz ((woW g h wa wi wr wf ph rh (la 0)) ++ (pgW g ph pa pr pf) ++ (rcW g rh ca ci cr cf) ++ (plW g la lr lf lmx)) (fun u : (Nat → Nat → Int32) => True) (fun u => (woW g h wa wi wr u ph rh (la 0)) ++ (pgW g ph pa pr pf) ++ (rcW g rh ca ci cr cf) ++ (plW g la lr lf lmx)) := by
  refine vz_svQ (by decide) (Nat.le_of_ble_eq_true rfl) (fun p e s m args below meth c hx hb hr hml hts hown hlk hin hK hsz A hA H locs hP hD hS ls hl Q hQ => ?_)
  have hl : lv_has ls 3 [(0, .ref h), (1, .int n1), (2, .int n2)] := hl
  refine lv_aload_n hx hb dX8_setNow_0 rfl (lv_at hl 0 rfl) ?_
  refine va_get (D := D) (ci := 8) (v := .ref (wa 2)) (C := RX8) (T := TX8) (N := 11) hx hb hts inlX8 hown hK hP 0 rfl rfl 1 (by decide) (hts _ q135) (fun _ h => h) rfl dX8_setNow_1 ?_
  refine lv_aload_n hx hb dX8_setNow_4 rfl (lv_at hl 0 rfl) ?_
  refine va_get (D := D) (ci := 8) (v := .ref (wa 2)) (C := RX8) (T := TX8) (N := 11) hx hb hts inlX8 hown hK hP 0 rfl rfl 1 (by decide) (hts _ q135) (fun _ h => h) rfl dX8_setNow_5 ?_
  refine va_get (D := D) (ci := 6) (v := .int (nI (wr 1))) (C := RX6) (T := TX6) (N := 4) hx hb hts inlX6 hown hK hP 3 rfl rfl 3 (by decide) (hts _ q1021) (fun _ h => h) rfl dX8_setNow_8 ?_
  refine lv_iconst (v := 1) hx hb dX8_setNow_11 (by decide) ?_
  refine lv_isub hx hb dX8_setNow_12 ?_
  refine lv_iload_n hx hb dX8_setNow_13 rfl (lv_at hl 1 rfl) ?_
  refine lv_iload_n hx hb dX8_setNow_14 rfl (lv_at hl 2 rfl) ?_
  refine vz_Vv2 (ws' := fun u : (Nat → Int32) => (woW g h wa wi wr (vz_uf wf 1 u) ph rh (la 0)) ++ (pgW g ph pa pr pf) ++ (rcW g rh ca ci cr cf) ++ (plW g la lr lf lmx)) (As := [.int ((nI (wr 1)) - 1), .int n1, .int n2]) (rest := []) hx hb hml hown hts hK hA hP hD hS (c_T_set l D g (wa 2) (wa 3) H.size 12 12 (wr 1) 144 (wf 1) ((nI (wr 1)) - 1) n1 n2 ⟨rfl, by decide, by decide, by decide, by decide, hw_w 1⟩) kv_X8_91 ⟨Nat.le_of_ble_eq_true rfl, Nat.le_of_ble_eq_true rfl⟩ (q0 := 3) (ci := 6) rfl rfl rfl [3, 4] rfl (by decide) (fun _ => rfl) (fun _ => rfl) hl.1 (Nat.le_of_ble_eq_true rfl) dX8_setNow_15 ⟨Nat.le_refl _, Nat.le_refl _⟩ rfl (fun nf1 H locs _ _ hP hD hS => ?_)
  obtain ⟨wf_2, hP, hD⟩ : ∃ wf_2 : Nat → Nat → Int32, va_P D vwCl ((woW g h wa wi wr wf_2 ph rh (la 0)) ++ (pgW g ph pa pr pf) ++ (rcW g rh ca ci cr cf) ++ (plW g la lr lf lmx)) H ∧ va_D A ((woW g h wa wi wr wf_2 ph rh (la 0)) ++ (pgW g ph pa pr pf) ++ (rcW g rh ca ci cr cf) ++ (plW g la lr lf lmx)) := ⟨(vz_uf wf 1 nf1), hP, hD⟩
  rw [hQ]
  exact vz_vret3 hx hb hr hlk hK hP hD hS wf_2 trivial rfl (Nat.le_refl 0) (Nat.le_refl 0) dX8_setNow_18
theorem q1196 : Cond.methodLink RX8 107 yX6_drop ∈ wsL_law := mT_5 (List.mem_of_getElem? (i := 110) rfl) rfl
theorem q520 : Cond.instanceMethod yX6_drop ∈ wsL_law := mT_3 (List.mem_of_getElem? (i := 224) rfl) rfl
theorem q521 : Cond.selects RX6 yX6_drop yX6_drop ∈ wsL_law := mT_3 (List.mem_of_getElem? (i := 225) rfl) rfl
theorem q522 : Cond.code yX6_drop cX6_drop 1 none ∈ wsL_law := mT_3 (List.mem_of_getElem? (i := 226) rfl) rfl
theorem kv_X8_107 : vz_cv RX8 107 yX6_drop cX6_drop 1 none 0 := ⟨q1196, q520, q521, q15, q522, by decide +kernel⟩
theorem dX8_leave_0 : decode cX8_leave 0 = .ok (.aload_n 0, 1) := by decide +kernel
theorem dX8_leave_1 : decode cX8_leave 1 = .ok (.getfield 31, 3) := by decide +kernel
theorem dX8_leave_4 : decode cX8_leave 4 = .ok (.invokevirtual 107, 3) := by decide +kernel
theorem dX8_leave_7 : decode cX8_leave 7 = .ok (.return_, 1) := by decide +kernel
set_option maxHeartbeats 8000000 in
set_option maxRecDepth 100000 in
theorem a_W_leave (l : Launch) (D : va_G) (g : Nat → ClassId)  (sz : Nat) (h : Nat) (wa : Nat → Nat) (wi : Nat → Int32) (wr : Nat → Nat) (wf : Nat → Nat → Int32) (ph : Nat) (rh : Nat) (la : Nat → Nat) (pa : Nat → Nat) (pr : Nat → Nat) (pf : Nat → Nat → Int32) (ca : Nat → Nat) (ci : Nat → Int32) (cr : Nat → Nat) (cf : Nat → Nat → Int32) (lr : Nat → Nat) (lf : Nat → Nat → Int32) (lmx : Nat) (hw_w : ∀ k, wr k ≤ woW_lim k) (hw_p : ∀ k, pr k ≤ pgW_lim k) (hw_c : ∀ k, cr k ≤ rcW_lim k) (hw_l : ∀ k, lr k ≤ (plW_lim lmx) k) (hmx_l : lmx ≤ 30) : vz_Mv l D (tyG g) yX8_leave cX8_leave 1 1 20 0 0 [.ref h] sz ((woW g h wa wi wr wf ph rh (la 0)) ++ (pgW g ph pa pr pf) ++ (rcW g rh ca ci cr cf) ++ (plW g la lr lf lmx)) (fun u : (Nat → Nat) => (∀ k, u k ≤ woW_lim k)) (fun u => (woW g h wa wi u wf ph rh (la 0)) ++ (pgW g ph pa pr pf) ++ (rcW g rh ca ci cr cf) ++ (plW g la lr lf lmx)) := by
  refine vz_svQ (by decide) (Nat.le_of_ble_eq_true rfl) (fun p e s m args below meth c hx hb hr hml hts hown hlk hin hK hsz A hA H locs hP hD hS ls hl Q hQ => ?_)
  have hl : lv_has ls 1 [(0, .ref h)] := hl
  refine lv_aload_n hx hb dX8_leave_0 rfl (lv_at hl 0 rfl) ?_
  refine va_get (D := D) (ci := 8) (v := .ref (wa 2)) (C := RX8) (T := TX8) (N := 11) hx hb hts inlX8 hown hK hP 0 rfl rfl 1 (by decide) (hts _ q135) (fun _ h => h) rfl dX8_leave_1 ?_
  refine vz_Vv2 (ws' := fun u : Nat => (woW g h wa wi (vz_un wr 1 u) wf ph rh (la 0)) ++ (pgW g ph pa pr pf) ++ (rcW g rh ca ci cr cf) ++ (plW g la lr lf lmx)) (As := []) (rest := []) hx hb hml hown hts hK hA hP hD hS (c_T_drop l D g (wa 2) (wa 3) H.size (nI 12) (nI 12) (wr 1) (Nat.lt_of_le_of_lt (hw_w 1) (by decide))) kv_X8_107 ⟨Nat.le_of_ble_eq_true rfl, Nat.le_of_ble_eq_true rfl⟩ (q0 := 3) (ci := 6) rfl rfl rfl [3] rfl (by decide) (fun _ => rfl) (fun _ => rfl) hl.1 (Nat.le_of_ble_eq_true rfl) dX8_leave_4 ⟨Nat.le_refl _, Nat.le_refl _⟩ rfl (fun u1 H locs ha2 _ hP hD hS => ?_)
  obtain ⟨wr_3, hw_wr_3, hP, hD⟩ : ∃ wr_3 : Nat → Nat, (∀ k, wr_3 k ≤ woW_lim k) ∧ va_P D vwCl ((woW g h wa wi wr_3 wf ph rh (la 0)) ++ (pgW g ph pa pr pf) ++ (rcW g rh ca ci cr cf) ++ (plW g la lr lf lmx)) H ∧ va_D A ((woW g h wa wi wr_3 wf ph rh (la 0)) ++ (pgW g ph pa pr pf) ++ (rcW g rh ca ci cr cf) ++ (plW g la lr lf lmx)) := ⟨(vz_un wr 1 u1), (vz_wf hw_w (t := 1) (v := u1) (Nat.le_trans ha2 (hw_w 1))), hP, hD⟩
  rw [hQ]
  exact vz_vret3 hx hb hr hlk hK hP hD hS wr_3 hw_wr_3 rfl (Nat.le_refl 0) (Nat.le_refl 0) dX8_leave_7
theorem q136 : Cond.fieldLink RX8 34 "WaysAtlas$World" "slots" "LWaysAtlas$Table;" ∈ wsL_law := mT_2 (List.mem_of_getElem? (i := 41) rfl) rfl
theorem dX8_slot_0 : decode cX8_slot 0 = .ok (.aload_n 0, 1) := by decide +kernel
theorem dX8_slot_1 : decode cX8_slot 1 = .ok (.getfield 34, 3) := by decide +kernel
theorem dX8_slot_4 : decode cX8_slot 4 = .ok (.aload_n 0, 1) := by decide +kernel
theorem dX8_slot_5 : decode cX8_slot 5 = .ok (.getfield 31, 3) := by decide +kernel
theorem dX8_slot_8 : decode cX8_slot 8 = .ok (.getfield 58, 3) := by decide +kernel
theorem dX8_slot_11 : decode cX8_slot 11 = .ok (.iconst 1, 1) := by decide +kernel
theorem dX8_slot_12 : decode cX8_slot 12 = .ok (.isub, 1) := by decide +kernel
theorem dX8_slot_13 : decode cX8_slot 13 = .ok (.bipush 6, 2) := by decide +kernel
theorem dX8_slot_15 : decode cX8_slot 15 = .ok (.imul, 1) := by decide +kernel
theorem dX8_slot_16 : decode cX8_slot 16 = .ok (.iload_n 1, 1) := by decide +kernel
theorem dX8_slot_17 : decode cX8_slot 17 = .ok (.iadd, 1) := by decide +kernel
theorem dX8_slot_18 : decode cX8_slot 18 = .ok (.iload_n 2, 1) := by decide +kernel
theorem dX8_slot_19 : decode cX8_slot 19 = .ok (.invokevirtual 110, 3) := by decide +kernel
theorem dX8_slot_22 : decode cX8_slot 22 = .ok (.ireturn, 1) := by decide +kernel
