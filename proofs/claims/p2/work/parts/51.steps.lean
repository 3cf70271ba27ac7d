theorem q1369 : Cond.fieldLink RX10 469 "WaysAtlasModel" "left" "I" ∈ wsL_law := mT_6 (List.mem_of_getElem? (i := 172) rfl) rfl
theorem q1370 : Cond.fieldLink RX10 472 "WaysAtlasModel" "ended" "I" ∈ wsL_law := mT_6 (List.mem_of_getElem? (i := 173) rfl) rfl
theorem q223 : Cond.fieldLink RX10 142 "WaysAtlasModel" "told" "[I" ∈ wsL_law := mT_6 (List.mem_of_getElem? (i := 161) rfl) rfl
theorem q1359 : Cond.fieldLink RX10 475 "WaysAtlasModel" "slot" "I" ∈ wsL_law := mT_6 (List.mem_of_getElem? (i := 160) rfl) rfl
theorem dX10_takesStep_0 : decode cX10_takesStep 0 = .ok (.aload_n 0, 1) := by decide +kernel
theorem dX10_takesStep_1 : decode cX10_takesStep 1 = .ok (.getfield 469, 3) := by decide +kernel
theorem dX10_takesStep_4 : decode cX10_takesStep 4 = .ok (.ifCond .ne 10, 3) := by decide +kernel
theorem dX10_takesStep_7 : decode cX10_takesStep 7 = .ok (.aload_n 0, 1) := by decide +kernel
theorem dX10_takesStep_8 : decode cX10_takesStep 8 = .ok (.iconst 2, 1) := by decide +kernel
theorem dX10_takesStep_9 : decode cX10_takesStep 9 = .ok (.putfield 472, 3) := by decide +kernel
theorem dX10_takesStep_12 : decode cX10_takesStep 12 = .ok (.iconst 0, 1) := by decide +kernel
theorem dX10_takesStep_13 : decode cX10_takesStep 13 = .ok (.ireturn, 1) := by decide +kernel
theorem dX10_takesStep_14 : decode cX10_takesStep 14 = .ok (.aload_n 0, 1) := by decide +kernel
theorem dX10_takesStep_15 : decode cX10_takesStep 15 = .ok (.dup, 1) := by decide +kernel
theorem dX10_takesStep_16 : decode cX10_takesStep 16 = .ok (.getfield 469, 3) := by decide +kernel
theorem dX10_takesStep_19 : decode cX10_takesStep 19 = .ok (.iconst 1, 1) := by decide +kernel
theorem dX10_takesStep_20 : decode cX10_takesStep 20 = .ok (.isub, 1) := by decide +kernel
theorem dX10_takesStep_21 : decode cX10_takesStep 21 = .ok (.putfield 469, 3) := by decide +kernel
theorem dX10_takesStep_24 : decode cX10_takesStep 24 = .ok (.aload_n 0, 1) := by decide +kernel
theorem dX10_takesStep_25 : decode cX10_takesStep 25 = .ok (.getfield 142, 3) := by decide +kernel
theorem dX10_takesStep_28 : decode cX10_takesStep 28 = .ok (.bipush 10, 2) := by decide +kernel
theorem dX10_takesStep_30 : decode cX10_takesStep 30 = .ok (.aload_n 0, 1) := by decide +kernel
theorem dX10_takesStep_31 : decode cX10_takesStep 31 = .ok (.getfield 475, 3) := by decide +kernel
theorem dX10_takesStep_34 : decode cX10_takesStep 34 = .ok (.imul, 1) := by decide +kernel
theorem dX10_takesStep_35 : decode cX10_takesStep 35 = .ok (.bipush 9, 2) := by decide +kernel
theorem dX10_takesStep_37 : decode cX10_takesStep 37 = .ok (.iadd, 1) := by decide +kernel
theorem dX10_takesStep_38 : decode cX10_takesStep 38 = .ok (.dup2, 1) := by decide +kernel
theorem dX10_takesStep_39 : decode cX10_takesStep 39 = .ok (.iaload, 1) := by decide +kernel
theorem dX10_takesStep_40 : decode cX10_takesStep 40 = .ok (.iconst 1, 1) := by decide +kernel
theorem dX10_takesStep_41 : decode cX10_takesStep 41 = .ok (.iadd, 1) := by decide +kernel
theorem dX10_takesStep_42 : decode cX10_takesStep 42 = .ok (.iastore, 1) := by decide +kernel
theorem dX10_takesStep_43 : decode cX10_takesStep 43 = .ok (.iconst 1, 1) := by decide +kernel
theorem dX10_takesStep_44 : decode cX10_takesStep 44 = .ok (.ireturn, 1) := by decide +kernel
set_option maxHeartbeats 8000000 in
set_option maxRecDepth 100000 in
theorem r_takesStep (l : Launch) (D : va_G) (g : Nat → ClassId)   (sz : Nat) (h : Nat) (a : Nat → Nat) (f_words : Nat → Int64) (f_text : Nat → Int32) (q_size : Nat) (q_at : Nat) (q_token : Int32) (q_tokenAt : Nat) (q_which : Int32) (q_value : Nat) (q_live : Nat) (q_draft : Nat) (q_hasProgram : Int32) (f_stat : Nat → Int32) (f_statements : Nat → Int32) (f_entryKind : Nat → Int32) (f_entryValue : Nat → Int32) (f_firstOf : Nat → Int32) (f_catchOf : Nat → Int32) (f_catchKind : Nat → Int32) (f_catchBlock : Nat → Int32) (f_catches : Nat → Int32) (f_body : Nat → Int32) (f_methods : Nat → Int32) (f_above : Nat → Int32) (f_kinds : Nat → Int32) (q_entries : Nat) (q_blocks : Nat) (q_fault : Int32) (q_faultAt : Int32) (q_faultTold : Int32) (q_checks : Nat) (f_checkHow : Nat → Int32) (f_checkAt : Nat → Int32) (f_checkValue : Nat → Int32) (q_waits : Nat) (f_wait : Nat → Int32) (f_waitValue : Nat → Int32) (q_deep : Int32) (q_isOver : Int32) (q_piled : Nat) (f_pileKind : Nat → Int32) (f_pileStatement : Nat → Int32) (f_pileBlock : Nat → Int32) (f_pileLast : Nat → Int32) (q_planned : Nat) (f_planStatement : Nat → Int32) (f_planPart : Nat → Int32) (f_planTime : Nat → Int32) (f_planKind : Nat → Int32) (f_hasRun : Nat → Int32) (q_slot : Nat) (f_told : Nat → Int32) (f_tape : Nat → Int32) (f_failedKind : Nat → Int32) (f_cause : Nat → Int32) (f_underFirst : Nat → Int32) (f_underNext : Nat → Int32) (f_failedAt : Nat → Int32) (f_underWay : Nat → Int32) (f_traces : Nat → Int32) (f_closings : Nat → Int32) (f_enteredOf : Nat → Int32) (q_left : Nat) (q_ended : Int32) (q_signal : Int32) (q_signalValue : Int32) (q_frames : Nat) (f_frameKind : Nat → Int32) (f_frameStatement : Nat → Int32) (f_frameNow : Nat → Int32) (f_pending : Nat → Int32) (f_pendingValue : Nat → Int32) (f_firstResource : Nat → Int32) (f_openedOf : Nat → Int32) (f_caught : Nat → Int32) (q_acts : Nat) (f_actVar : Nat → Int32) (f_actRow : Nat → Int32) (f_actMethod : Nat → Int32) (f_actStatement : Nat → Int32) (q_rows : Nat) (f_rowSize : Nat → Int32) (f_rowItem : Nat → Int32) (f_passed : Nat → Int32) (q_planning : Int32) (q_aloneStatement : Int32) (q_alonePart : Int32) (q_aloneTime : Int32) (q_quiet : Nat) (f_quietStatement : Nat → Int32) (f_quietPart : Nat → Int32) (f_quietTime : Nat → Int32) (f_stack : Nat → Int32) (q_stacked : Nat) (q_wrong : Int32) (f_wayOut : Nat → Int32) (q_wayOuts : Nat) (hsl : q_slot ≤ 2) : vz_Mi l D (tyG g) yX10_takesStep cX10_takesStep 1 0 0 0 0 .boolean [.ref h] sz (vz_w [rmW g h a f_words f_text q_size q_at q_token q_tokenAt q_which q_value q_live q_draft q_hasProgram f_stat f_statements f_entryKind f_entryValue f_firstOf f_catchOf f_catchKind f_catchBlock f_catches f_body f_methods f_above f_kinds q_entries q_blocks q_fault q_faultAt q_faultTold q_checks f_checkHow f_checkAt f_checkValue q_waits f_wait f_waitValue q_deep q_isOver q_piled f_pileKind f_pileStatement f_pileBlock f_pileLast q_planned f_planStatement f_planPart f_planTime f_planKind f_hasRun q_slot f_told f_tape f_failedKind f_cause f_underFirst f_underNext f_failedAt f_underWay f_traces f_closings f_enteredOf q_left q_ended q_signal q_signalValue q_frames f_frameKind f_frameStatement f_frameNow f_pending f_pendingValue f_firstResource f_openedOf f_caught q_acts f_actVar f_actRow f_actMethod f_actStatement q_rows f_rowSize f_rowItem f_passed q_planning q_aloneStatement q_alonePart q_aloneTime q_quiet f_quietStatement f_quietPart f_quietTime f_stack q_stacked q_wrong f_wayOut q_wayOuts]) (fun r (u : (Nat → Int32) × (Nat) × (Int32)) => ((r = 1 ∧ (u.2.1 + 1 = q_left ∧ u.2.2 = q_ended ∧ ∀ j9, j9 ≠ 10 * q_slot + 9 → u.1 j9 = f_told j9)) ∨ (r = 0 ∧ (u.2.1 = q_left ∧ u.2.2 = 2 ∧ u.1 = f_told)))) (fun u => vz_w [rmW g h a f_words f_text q_size q_at q_token q_tokenAt q_which q_value q_live q_draft q_hasProgram f_stat f_statements f_entryKind f_entryValue f_firstOf f_catchOf f_catchKind f_catchBlock f_catches f_body f_methods f_above f_kinds q_entries q_blocks q_fault q_faultAt q_faultTold q_checks f_checkHow f_checkAt f_checkValue q_waits f_wait f_waitValue q_deep q_isOver q_piled f_pileKind f_pileStatement f_pileBlock f_pileLast q_planned f_planStatement f_planPart f_planTime f_planKind f_hasRun q_slot u.1 f_tape f_failedKind f_cause f_underFirst f_underNext f_failedAt f_underWay f_traces f_closings f_enteredOf u.2.1 u.2.2 q_signal q_signalValue q_frames f_frameKind f_frameStatement f_frameNow f_pending f_pendingValue f_firstResource f_openedOf f_caught q_acts f_actVar f_actRow f_actMethod f_actStatement q_rows f_rowSize f_rowItem f_passed q_planning q_aloneStatement q_alonePart q_aloneTime q_quiet f_quietStatement f_quietPart f_quietTime f_stack q_stacked q_wrong f_wayOut q_wayOuts]) := by
  refine vz_siQ (by decide) (Nat.le_of_ble_eq_true rfl) (fun p e s m args below meth c hx hb hr hml hts hown hlk hin hK hsz A hA H locs hP hD hS ls hl Q hQ => ?_)
  have hl : lv_has ls 1 [(0, .ref h)] := hl
  refine lv_aload_n hx hb dX10_takesStep_0 rfl (lv_at hl 0 rfl) ?_
  refine va_get (D := D) (ci := 10) (v := .int (nI q_left)) (C := RX10) (T := TX10) (N := 96) hx hb hts inlX10 hown hK hP 0 rfl rfl 61 (by decide) (hts _ q1369) (fun _ h => h) rfl dX10_takesStep_1 ?_
  refine lv_if_ne (tgt := 14) hx hb dX10_takesStep_4 (by decide) (fun kc1 => ?_) (fun kc1 => ?_)
  · try (have kn2 : q_left ≠ 0 := fun h9 => kc1 (by rw [h9]; rfl))
    refine lv_aload_n hx hb dX10_takesStep_14 rfl (lv_at hl 0 rfl) ?_
    refine lv_dup hx hb dX10_takesStep_15 rfl ?_
    refine va_get (D := D) (ci := 10) (v := .int (nI q_left)) (C := RX10) (T := TX10) (N := 96) hx hb hts inlX10 hown hK hP 0 rfl rfl 61 (by decide) (hts _ q1369) (fun _ h => h) rfl dX10_takesStep_16 ?_
    refine lv_iconst (v := 1) hx hb dX10_takesStep_19 (by decide) ?_
    refine lv_isub hx hb dX10_takesStep_20 ?_
    refine lv_topi (nm_r (e' := (nI (q_left - 1))) (vr_sub (by first | omega | (clear hP hD hS hl hQ; grind))) ?_)
    refine va_put (D := D) (ci := 10) (v := .int (nI (q_left - 1))) (ty := .int) (C := RX10) (T := TX10) (N := 96) hx hb hts inlX10 tyX10 tyX10_ok nmX10 hown hK hP hD hS 0 rfl rfl 61 (by decide) (hts _ q1369) (fun _ h => h) rfl (by decide +kernel) rfl rfl (Nat.le_of_ble_eq_true rfl) dX10_takesStep_21 (fun H locs hP hD hS => ?_)
    replace hP : va_P D vwCl (vz_w [rmW g h a f_words f_text q_size q_at q_token q_tokenAt q_which q_value q_live q_draft q_hasProgram f_stat f_statements f_entryKind f_entryValue f_firstOf f_catchOf f_catchKind f_catchBlock f_catches f_body f_methods f_above f_kinds q_entries q_blocks q_fault q_faultAt q_faultTold q_checks f_checkHow f_checkAt f_checkValue q_waits f_wait f_waitValue q_deep q_isOver q_piled f_pileKind f_pileStatement f_pileBlock f_pileLast q_planned f_planStatement f_planPart f_planTime f_planKind f_hasRun q_slot f_told f_tape f_failedKind f_cause f_underFirst f_underNext f_failedAt f_underWay f_traces f_closings f_enteredOf (q_left - 1) q_ended q_signal q_signalValue q_frames f_frameKind f_frameStatement f_frameNow f_pending f_pendingValue f_firstResource f_openedOf f_caught q_acts f_actVar f_actRow f_actMethod f_actStatement q_rows f_rowSize f_rowItem f_passed q_planning q_aloneStatement q_alonePart q_aloneTime q_quiet f_quietStatement f_quietPart f_quietTime f_stack q_stacked q_wrong f_wayOut q_wayOuts]) H := hP
    replace hD : va_D A (vz_w [rmW g h a f_words f_text q_size q_at q_token q_tokenAt q_which q_value q_live q_draft q_hasProgram f_stat f_statements f_entryKind f_entryValue f_firstOf f_catchOf f_catchKind f_catchBlock f_catches f_body f_methods f_above f_kinds q_entries q_blocks q_fault q_faultAt q_faultTold q_checks f_checkHow f_checkAt f_checkValue q_waits f_wait f_waitValue q_deep q_isOver q_piled f_pileKind f_pileStatement f_pileBlock f_pileLast q_planned f_planStatement f_planPart f_planTime f_planKind f_hasRun q_slot f_told f_tape f_failedKind f_cause f_underFirst f_underNext f_failedAt f_underWay f_traces f_closings f_enteredOf (q_left - 1) q_ended q_signal q_signalValue q_frames f_frameKind f_frameStatement f_frameNow f_pending f_pendingValue f_firstResource f_openedOf f_caught q_acts f_actVar f_actRow f_actMethod f_actStatement q_rows f_rowSize f_rowItem f_passed q_planning q_aloneStatement q_alonePart q_aloneTime q_quiet f_quietStatement f_quietPart f_quietTime f_stack q_stacked q_wrong f_wayOut q_wayOuts]) := hD
    refine lv_aload_n hx hb dX10_takesStep_24 rfl (lv_at hl 0 rfl) ?_
    refine va_get (D := D) (ci := 10) (v := .ref (a 29)) (C := RX10) (T := TX10) (N := 96) hx hb hts inlX10 hown hK hP 0 rfl rfl 50 (by decide) (hts _ q223) (fun _ h => h) rfl dX10_takesStep_25 ?_
    refine lv_bipush (v := 10) hx hb dX10_takesStep_28 (by decide) ?_
    refine lv_aload_n hx hb dX10_takesStep_30 rfl (lv_at hl 0 rfl) ?_
    refine va_get (D := D) (ci := 10) (v := .int (nI q_slot)) (C := RX10) (T := TX10) (N := 96) hx hb hts inlX10 hown hK hP 0 rfl rfl 49 (by decide) (hts _ q1359) (fun _ h => h) rfl dX10_takesStep_31 ?_
    refine lv_imul hx hb dX10_takesStep_34 ?_
    refine lv_topi (nm_r (e' := (nI (10 * q_slot))) (vz_mul 10 q_slot) ?_)
    refine lv_bipush (v := 9) hx hb dX10_takesStep_35 (by decide) ?_
    refine lv_iadd hx hb dX10_takesStep_37 ?_
    refine lv_topi (nm_r (e' := (nI ((10 * q_slot) + 9))) (nI_add (10 * q_slot) 9) ?_)
    refine lv_dup2_11 hx hb dX10_takesStep_38 rfl rfl ?_
    refine va_iald hx hb hK hP 30 0 rfl rfl (vr_in (by first | omega | (clear hP hD hS hl hQ; grind)) (by decide)) dX10_takesStep_39 ?_
    refine lv_topi (nm_r (e' := (f_told ((10 * q_slot) + 9))) (vr_ld (by first | omega | (clear hP hD hS hl hQ; grind))) ?_)
    refine lv_iconst (v := 1) hx hb dX10_takesStep_40 (by decide) ?_
    refine lv_iadd hx hb dX10_takesStep_41 ?_
    refine va_iast hx hb hK hP hD hS 30 0 rfl rfl (vr_in (by first | omega | (clear hP hD hS hl hQ; grind)) (by decide)) dX10_takesStep_42 (fun H locs hP hD hS => ?_)
    obtain ⟨f_told_3, hf_told_3, hP, hD⟩ : ∃ z : Nat → Int32, z = upd f_told ((10 * q_slot) + 9) ((f_told ((10 * q_slot) + 9)) + 1) ∧ va_P D vwCl (vz_w [rmW g h a f_words f_text q_size q_at q_token q_tokenAt q_which q_value q_live q_draft q_hasProgram f_stat f_statements f_entryKind f_entryValue f_firstOf f_catchOf f_catchKind f_catchBlock f_catches f_body f_methods f_above f_kinds q_entries q_blocks q_fault q_faultAt q_faultTold q_checks f_checkHow f_checkAt f_checkValue q_waits f_wait f_waitValue q_deep q_isOver q_piled f_pileKind f_pileStatement f_pileBlock f_pileLast q_planned f_planStatement f_planPart f_planTime f_planKind f_hasRun q_slot z f_tape f_failedKind f_cause f_underFirst f_underNext f_failedAt f_underWay f_traces f_closings f_enteredOf (q_left - 1) q_ended q_signal q_signalValue q_frames f_frameKind f_frameStatement f_frameNow f_pending f_pendingValue f_firstResource f_openedOf f_caught q_acts f_actVar f_actRow f_actMethod f_actStatement q_rows f_rowSize f_rowItem f_passed q_planning q_aloneStatement q_alonePart q_aloneTime q_quiet f_quietStatement f_quietPart f_quietTime f_stack q_stacked q_wrong f_wayOut q_wayOuts]) H ∧ va_D A (vz_w [rmW g h a f_words f_text q_size q_at q_token q_tokenAt q_which q_value q_live q_draft q_hasProgram f_stat f_statements f_entryKind f_entryValue f_firstOf f_catchOf f_catchKind f_catchBlock f_catches f_body f_methods f_above f_kinds q_entries q_blocks q_fault q_faultAt q_faultTold q_checks f_checkHow f_checkAt f_checkValue q_waits f_wait f_waitValue q_deep q_isOver q_piled f_pileKind f_pileStatement f_pileBlock f_pileLast q_planned f_planStatement f_planPart f_planTime f_planKind f_hasRun q_slot z f_tape f_failedKind f_cause f_underFirst f_underNext f_failedAt f_underWay f_traces f_closings f_enteredOf (q_left - 1) q_ended q_signal q_signalValue q_frames f_frameKind f_frameStatement f_frameNow f_pending f_pendingValue f_firstResource f_openedOf f_caught q_acts f_actVar f_actRow f_actMethod f_actStatement q_rows f_rowSize f_rowItem f_passed q_planning q_aloneStatement q_alonePart q_aloneTime q_quiet f_quietStatement f_quietPart f_quietTime f_stack q_stacked q_wrong f_wayOut q_wayOuts]) := ⟨_, vr_st (by first | omega | (clear hP hD hS hl hQ; grind)), hP, hD⟩
    refine lv_iconst (v := 1) hx hb dX10_takesStep_43 (by decide) ?_
    rw [hQ]
    exact vz_zret3 hx hb hr hlk hK hP hD hS (f_told_3, (q_left - 1), q_ended) (Or.inl ⟨rfl, ⟨(by dsimp only; omega), (by rfl), fun j9 h9 => by (try dsimp only); rw [hf_told_3]; exact upd_ne h9⟩⟩) rfl (Nat.le_refl 0) (Nat.le_refl 0) (by decide) dX10_takesStep_44
  · try (have kn4 : q_left = 0 := (nI_eq (a := q_left) (b := 0) (by first | omega | (clear hP hD hS hl hQ; grind)) (by first | omega | (clear hP hD hS hl hQ; grind))).mp kc1)
    refine lv_aload_n hx hb dX10_takesStep_7 rfl (lv_at hl 0 rfl) ?_
    refine lv_iconst (v := 2) hx hb dX10_takesStep_8 (by decide) ?_
    refine va_put (D := D) (ci := 10) (v := .int 2) (ty := .int) (C := RX10) (T := TX10) (N := 96) hx hb hts inlX10 tyX10 tyX10_ok nmX10 hown hK hP hD hS 0 rfl rfl 62 (by decide) (hts _ q1370) (fun _ h => h) rfl (by decide +kernel) rfl rfl (Nat.le_of_ble_eq_true rfl) dX10_takesStep_9 (fun H locs hP hD hS => ?_)
    replace hP : va_P D vwCl (vz_w [rmW g h a f_words f_text q_size q_at q_token q_tokenAt q_which q_value q_live q_draft q_hasProgram f_stat f_statements f_entryKind f_entryValue f_firstOf f_catchOf f_catchKind f_catchBlock f_catches f_body f_methods f_above f_kinds q_entries q_blocks q_fault q_faultAt q_faultTold q_checks f_checkHow f_checkAt f_checkValue q_waits f_wait f_waitValue q_deep q_isOver q_piled f_pileKind f_pileStatement f_pileBlock f_pileLast q_planned f_planStatement f_planPart f_planTime f_planKind f_hasRun q_slot f_told f_tape f_failedKind f_cause f_underFirst f_underNext f_failedAt f_underWay f_traces f_closings f_enteredOf q_left 2 q_signal q_signalValue q_frames f_frameKind f_frameStatement f_frameNow f_pending f_pendingValue f_firstResource f_openedOf f_caught q_acts f_actVar f_actRow f_actMethod f_actStatement q_rows f_rowSize f_rowItem f_passed q_planning q_aloneStatement q_alonePart q_aloneTime q_quiet f_quietStatement f_quietPart f_quietTime f_stack q_stacked q_wrong f_wayOut q_wayOuts]) H := hP
    replace hD : va_D A (vz_w [rmW g h a f_words f_text q_size q_at q_token q_tokenAt q_which q_value q_live q_draft q_hasProgram f_stat f_statements f_entryKind f_entryValue f_firstOf f_catchOf f_catchKind f_catchBlock f_catches f_body f_methods f_above f_kinds q_entries q_blocks q_fault q_faultAt q_faultTold q_checks f_checkHow f_checkAt f_checkValue q_waits f_wait f_waitValue q_deep q_isOver q_piled f_pileKind f_pileStatement f_pileBlock f_pileLast q_planned f_planStatement f_planPart f_planTime f_planKind f_hasRun q_slot f_told f_tape f_failedKind f_cause f_underFirst f_underNext f_failedAt f_underWay f_traces f_closings f_enteredOf q_left 2 q_signal q_signalValue q_frames f_frameKind f_frameStatement f_frameNow f_pending f_pendingValue f_firstResource f_openedOf f_caught q_acts f_actVar f_actRow f_actMethod f_actStatement q_rows f_rowSize f_rowItem f_passed q_planning q_aloneStatement q_alonePart q_aloneTime q_quiet f_quietStatement f_quietPart f_quietTime f_stack q_stacked q_wrong f_wayOut q_wayOuts]) := hD
    refine lv_iconst (v := 0) hx hb dX10_takesStep_12 (by decide) ?_
    rw [hQ]
    exact vz_zret3 hx hb hr hlk hK hP hD hS (f_told, q_left, 2) (Or.inr ⟨rfl, ⟨rfl, rfl, rfl⟩⟩) rfl (Nat.le_refl 0) (Nat.le_refl 0) (by decide) dX10_takesStep_13
theorem dX10_tell_0 : decode cX10_tell 0 = .ok (.aload_n 0, 1) := by decide +kernel
theorem dX10_tell_1 : decode cX10_tell 1 = .ok (.getfield 142, 3) := by decide +kernel
theorem dX10_tell_4 : decode cX10_tell 4 = .ok (.bipush 10, 2) := by decide +kernel
theorem dX10_tell_6 : decode cX10_tell 6 = .ok (.aload_n 0, 1) := by decide +kernel
theorem dX10_tell_7 : decode cX10_tell 7 = .ok (.getfield 475, 3) := by decide +kernel
theorem dX10_tell_10 : decode cX10_tell 10 = .ok (.imul, 1) := by decide +kernel
theorem dX10_tell_11 : decode cX10_tell 11 = .ok (.iload_n 1, 1) := by decide +kernel
theorem dX10_tell_12 : decode cX10_tell 12 = .ok (.iadd, 1) := by decide +kernel
theorem dX10_tell_13 : decode cX10_tell 13 = .ok (.iaload, 1) := by decide +kernel
theorem dX10_tell_14 : decode cX10_tell 14 = .ok (.ireturn, 1) := by decide +kernel
set_option maxHeartbeats 8000000 in
set_option maxRecDepth 100000 in
theorem r_tell (l : Launch) (D : va_G) (g : Nat → ClassId)   (sz : Nat) (gw : Nat) (h : Nat) (a : Nat → Nat) (f_words : Nat → Int64) (f_text : Nat → Int32) (q_size : Nat) (q_at : Nat) (q_token : Int32) (q_tokenAt : Nat) (q_which : Int32) (q_value : Nat) (q_live : Nat) (q_draft : Nat) (q_hasProgram : Int32) (f_stat : Nat → Int32) (f_statements : Nat → Int32) (f_entryKind : Nat → Int32) (f_entryValue : Nat → Int32) (f_firstOf : Nat → Int32) (f_catchOf : Nat → Int32) (f_catchKind : Nat → Int32) (f_catchBlock : Nat → Int32) (f_catches : Nat → Int32) (f_body : Nat → Int32) (f_methods : Nat → Int32) (f_above : Nat → Int32) (f_kinds : Nat → Int32) (q_entries : Nat) (q_blocks : Nat) (q_fault : Int32) (q_faultAt : Int32) (q_faultTold : Int32) (q_checks : Nat) (f_checkHow : Nat → Int32) (f_checkAt : Nat → Int32) (f_checkValue : Nat → Int32) (q_waits : Nat) (f_wait : Nat → Int32) (f_waitValue : Nat → Int32) (q_deep : Int32) (q_isOver : Int32) (q_piled : Nat) (f_pileKind : Nat → Int32) (f_pileStatement : Nat → Int32) (f_pileBlock : Nat → Int32) (f_pileLast : Nat → Int32) (q_planned : Nat) (f_planStatement : Nat → Int32) (f_planPart : Nat → Int32) (f_planTime : Nat → Int32) (f_planKind : Nat → Int32) (f_hasRun : Nat → Int32) (q_slot : Nat) (f_told : Nat → Int32) (f_tape : Nat → Int32) (f_failedKind : Nat → Int32) (f_cause : Nat → Int32) (f_underFirst : Nat → Int32) (f_underNext : Nat → Int32) (f_failedAt : Nat → Int32) (f_underWay : Nat → Int32) (f_traces : Nat → Int32) (f_closings : Nat → Int32) (f_enteredOf : Nat → Int32) (q_left : Nat) (q_ended : Int32) (q_signal : Int32) (q_signalValue : Int32) (q_frames : Nat) (f_frameKind : Nat → Int32) (f_frameStatement : Nat → Int32) (f_frameNow : Nat → Int32) (f_pending : Nat → Int32) (f_pendingValue : Nat → Int32) (f_firstResource : Nat → Int32) (f_openedOf : Nat → Int32) (f_caught : Nat → Int32) (q_acts : Nat) (f_actVar : Nat → Int32) (f_actRow : Nat → Int32) (f_actMethod : Nat → Int32) (f_actStatement : Nat → Int32) (q_rows : Nat) (f_rowSize : Nat → Int32) (f_rowItem : Nat → Int32) (f_passed : Nat → Int32) (q_planning : Int32) (q_aloneStatement : Int32) (q_alonePart : Int32) (q_aloneTime : Int32) (q_quiet : Nat) (f_quietStatement : Nat → Int32) (f_quietPart : Nat → Int32) (f_quietTime : Nat → Int32) (f_stack : Nat → Int32) (q_stacked : Nat) (q_wrong : Int32) (f_wayOut : Nat → Int32) (q_wayOuts : Nat) (hsl : q_slot ≤ 2) (hw : gw < 10) : vz_Mi l D (tyG g) yX10_tell cX10_tell 2 0 0 0 0 .int [.ref h, .int (nI gw)] sz (vz_w [rmW g h a f_words f_text q_size q_at q_token q_tokenAt q_which q_value q_live q_draft q_hasProgram f_stat f_statements f_entryKind f_entryValue f_firstOf f_catchOf f_catchKind f_catchBlock f_catches f_body f_methods f_above f_kinds q_entries q_blocks q_fault q_faultAt q_faultTold q_checks f_checkHow f_checkAt f_checkValue q_waits f_wait f_waitValue q_deep q_isOver q_piled f_pileKind f_pileStatement f_pileBlock f_pileLast q_planned f_planStatement f_planPart f_planTime f_planKind f_hasRun q_slot f_told f_tape f_failedKind f_cause f_underFirst f_underNext f_failedAt f_underWay f_traces f_closings f_enteredOf q_left q_ended q_signal q_signalValue q_frames f_frameKind f_frameStatement f_frameNow f_pending f_pendingValue f_firstResource f_openedOf f_caught q_acts f_actVar f_actRow f_actMethod f_actStatement q_rows f_rowSize f_rowItem f_passed q_planning q_aloneStatement q_alonePart q_aloneTime q_quiet f_quietStatement f_quietPart f_quietTime f_stack q_stacked q_wrong f_wayOut q_wayOuts]) (fun r (u : Unit) => (r = f_told (10 * q_slot + gw))) (fun u => vz_w [rmW g h a f_words f_text q_size q_at q_token q_tokenAt q_which q_value q_live q_draft q_hasProgram f_stat f_statements f_entryKind f_entryValue f_firstOf f_catchOf f_catchKind f_catchBlock f_catches f_body f_methods f_above f_kinds q_entries q_blocks q_fault q_faultAt q_faultTold q_checks f_checkHow f_checkAt f_checkValue q_waits f_wait f_waitValue q_deep q_isOver q_piled f_pileKind f_pileStatement f_pileBlock f_pileLast q_planned f_planStatement f_planPart f_planTime f_planKind f_hasRun q_slot f_told f_tape f_failedKind f_cause f_underFirst f_underNext f_failedAt f_underWay f_traces f_closings f_enteredOf q_left q_ended q_signal q_signalValue q_frames f_frameKind f_frameStatement f_frameNow f_pending f_pendingValue f_firstResource f_openedOf f_caught q_acts f_actVar f_actRow f_actMethod f_actStatement q_rows f_rowSize f_rowItem f_passed q_planning q_aloneStatement q_alonePart q_aloneTime q_quiet f_quietStatement f_quietPart f_quietTime f_stack q_stacked q_wrong f_wayOut q_wayOuts]) := by
  refine vz_siQ (by decide) (Nat.le_of_ble_eq_true rfl) (fun p e s m args below meth c hx hb hr hml hts hown hlk hin hK hsz A hA H locs hP hD hS ls hl Q hQ => ?_)
  have hl : lv_has ls 2 [(0, .ref h), (1, .int (nI gw))] := hl
  refine lv_aload_n hx hb dX10_tell_0 rfl (lv_at hl 0 rfl) ?_
  refine va_get (D := D) (ci := 10) (v := .ref (a 29)) (C := RX10) (T := TX10) (N := 96) hx hb hts inlX10 hown hK hP 0 rfl rfl 50 (by decide) (hts _ q223) (fun _ h => h) rfl dX10_tell_1 ?_
  refine lv_bipush (v := 10) hx hb dX10_tell_4 (by decide) ?_
  refine lv_aload_n hx hb dX10_tell_6 rfl (lv_at hl 0 rfl) ?_
  refine va_get (D := D) (ci := 10) (v := .int (nI q_slot)) (C := RX10) (T := TX10) (N := 96) hx hb hts inlX10 hown hK hP 0 rfl rfl 49 (by decide) (hts _ q1359) (fun _ h => h) rfl dX10_tell_7 ?_
  refine lv_imul hx hb dX10_tell_10 ?_
  refine lv_topi (nm_r (e' := (nI (10 * q_slot))) (vz_mul 10 q_slot) ?_)
  refine lv_iload_n hx hb dX10_tell_11 rfl (lv_at hl 1 rfl) ?_
  refine lv_iadd hx hb dX10_tell_12 ?_
  refine lv_topi (nm_r (e' := (nI ((10 * q_slot) + gw))) (nI_add (10 * q_slot) gw) ?_)
  refine va_iald hx hb hK hP 30 0 rfl rfl (vr_in (by first | omega | (clear hP hD hS hl hQ; grind)) (by decide)) dX10_tell_13 ?_
  refine lv_topi (nm_r (e' := (f_told ((10 * q_slot) + gw))) (vr_ld (by first | omega | (clear hP hD hS hl hQ; grind))) ?_)
  rw [hQ]
  exact vz_iret3 hx hb hr hlk hK hP hD hS () (rfl) rfl (Nat.le_refl 0) (Nat.le_refl 0) dX10_tell_14
theorem dX10_more_0 : decode cX10_more 0 = .ok (.aload_n 0, 1) := by decide +kernel
theorem dX10_more_1 : decode cX10_more 1 = .ok (.getfield 142, 3) := by decide +kernel
theorem dX10_more_4 : decode cX10_more 4 = .ok (.bipush 10, 2) := by decide +kernel
theorem dX10_more_6 : decode cX10_more 6 = .ok (.aload_n 0, 1) := by decide +kernel
theorem dX10_more_7 : decode cX10_more 7 = .ok (.getfield 475, 3) := by decide +kernel
theorem dX10_more_10 : decode cX10_more 10 = .ok (.imul, 1) := by decide +kernel
theorem dX10_more_11 : decode cX10_more 11 = .ok (.iload_n 1, 1) := by decide +kernel
theorem dX10_more_12 : decode cX10_more 12 = .ok (.iadd, 1) := by decide +kernel
theorem dX10_more_13 : decode cX10_more 13 = .ok (.dup2, 1) := by decide +kernel
theorem dX10_more_14 : decode cX10_more 14 = .ok (.iaload, 1) := by decide +kernel
theorem dX10_more_15 : decode cX10_more 15 = .ok (.iconst 1, 1) := by decide +kernel
theorem dX10_more_16 : decode cX10_more 16 = .ok (.iadd, 1) := by decide +kernel
theorem dX10_more_17 : decode cX10_more 17 = .ok (.iastore, 1) := by decide +kernel
theorem dX10_more_18 : decode cX10_more 18 = .ok (.return_, 1) := by decide +kernel
set_option maxHeartbeats 8000000 in
set_option maxRecDepth 100000 in
theorem r_more (l : Launch) (D : va_G) (g : Nat → ClassId)   (sz : Nat) (gw : Nat) (h : Nat) (a : Nat → Nat) (f_words : Nat → Int64) (f_text : Nat → Int32) (q_size : Nat) (q_at : Nat) (q_token : Int32) (q_tokenAt : Nat) (q_which : Int32) (q_value : Nat) (q_live : Nat) (q_draft : Nat) (q_hasProgram : Int32) (f_stat : Nat → Int32) (f_statements : Nat → Int32) (f_entryKind : Nat → Int32) (f_entryValue : Nat → Int32) (f_firstOf : Nat → Int32) (f_catchOf : Nat → Int32) (f_catchKind : Nat → Int32) (f_catchBlock : Nat → Int32) (f_catches : Nat → Int32) (f_body : Nat → Int32) (f_methods : Nat → Int32) (f_above : Nat → Int32) (f_kinds : Nat → Int32) (q_entries : Nat) (q_blocks : Nat) (q_fault : Int32) (q_faultAt : Int32) (q_faultTold : Int32) (q_checks : Nat) (f_checkHow : Nat → Int32) (f_checkAt : Nat → Int32) (f_checkValue : Nat → Int32) (q_waits : Nat) (f_wait : Nat → Int32) (f_waitValue : Nat → Int32) (q_deep : Int32) (q_isOver : Int32) (q_piled : Nat) (f_pileKind : Nat → Int32) (f_pileStatement : Nat → Int32) (f_pileBlock : Nat → Int32) (f_pileLast : Nat → Int32) (q_planned : Nat) (f_planStatement : Nat → Int32) (f_planPart : Nat → Int32) (f_planTime : Nat → Int32) (f_planKind : Nat → Int32) (f_hasRun : Nat → Int32) (q_slot : Nat) (f_told : Nat → Int32) (f_tape : Nat → Int32) (f_failedKind : Nat → Int32) (f_cause : Nat → Int32) (f_underFirst : Nat → Int32) (f_underNext : Nat → Int32) (f_failedAt : Nat → Int32) (f_underWay : Nat → Int32) (f_traces : Nat → Int32) (f_closings : Nat → Int32) (f_enteredOf : Nat → Int32) (q_left : Nat) (q_ended : Int32) (q_signal : Int32) (q_signalValue : Int32) (q_frames : Nat) (f_frameKind : Nat → Int32) (f_frameStatement : Nat → Int32) (f_frameNow : Nat → Int32) (f_pending : Nat → Int32) (f_pendingValue : Nat → Int32) (f_firstResource : Nat → Int32) (f_openedOf : Nat → Int32) (f_caught : Nat → Int32) (q_acts : Nat) (f_actVar : Nat → Int32) (f_actRow : Nat → Int32) (f_actMethod : Nat → Int32) (f_actStatement : Nat → Int32) (q_rows : Nat) (f_rowSize : Nat → Int32) (f_rowItem : Nat → Int32) (f_passed : Nat → Int32) (q_planning : Int32) (q_aloneStatement : Int32) (q_alonePart : Int32) (q_aloneTime : Int32) (q_quiet : Nat) (f_quietStatement : Nat → Int32) (f_quietPart : Nat → Int32) (f_quietTime : Nat → Int32) (f_stack : Nat → Int32) (q_stacked : Nat) (q_wrong : Int32) (f_wayOut : Nat → Int32) (q_wayOuts : Nat) (hsl : q_slot ≤ 2) (hw : gw < 10) : vz_Mv l D (tyG g) yX10_more cX10_more 2 0 0 0 0 [.ref h, .int (nI gw)] sz (vz_w [rmW g h a f_words f_text q_size q_at q_token q_tokenAt q_which q_value q_live q_draft q_hasProgram f_stat f_statements f_entryKind f_entryValue f_firstOf f_catchOf f_catchKind f_catchBlock f_catches f_body f_methods f_above f_kinds q_entries q_blocks q_fault q_faultAt q_faultTold q_checks f_checkHow f_checkAt f_checkValue q_waits f_wait f_waitValue q_deep q_isOver q_piled f_pileKind f_pileStatement f_pileBlock f_pileLast q_planned f_planStatement f_planPart f_planTime f_planKind f_hasRun q_slot f_told f_tape f_failedKind f_cause f_underFirst f_underNext f_failedAt f_underWay f_traces f_closings f_enteredOf q_left q_ended q_signal q_signalValue q_frames f_frameKind f_frameStatement f_frameNow f_pending f_pendingValue f_firstResource f_openedOf f_caught q_acts f_actVar f_actRow f_actMethod f_actStatement q_rows f_rowSize f_rowItem f_passed q_planning q_aloneStatement q_alonePart q_aloneTime q_quiet f_quietStatement f_quietPart f_quietTime f_stack q_stacked q_wrong f_wayOut q_wayOuts]) (fun u : (Nat → Int32) => (u = upd f_told (10 * q_slot + gw) (f_told (10 * q_slot + gw) + 1))) (fun u => vz_w [rmW g h a f_words f_text q_size q_at q_token q_tokenAt q_which q_value q_live q_draft q_hasProgram f_stat f_statements f_entryKind f_entryValue f_firstOf f_catchOf f_catchKind f_catchBlock f_catches f_body f_methods f_above f_kinds q_entries q_blocks q_fault q_faultAt q_faultTold q_checks f_checkHow f_checkAt f_checkValue q_waits f_wait f_waitValue q_deep q_isOver q_piled f_pileKind f_pileStatement f_pileBlock f_pileLast q_planned f_planStatement f_planPart f_planTime f_planKind f_hasRun q_slot u f_tape f_failedKind f_cause f_underFirst f_underNext f_failedAt f_underWay f_traces f_closings f_enteredOf q_left q_ended q_signal q_signalValue q_frames f_frameKind f_frameStatement f_frameNow f_pending f_pendingValue f_firstResource f_openedOf f_caught q_acts f_actVar f_actRow f_actMethod f_actStatement q_rows f_rowSize f_rowItem f_passed q_planning q_aloneStatement q_alonePart q_aloneTime q_quiet f_quietStatement f_quietPart f_quietTime f_stack q_stacked q_wrong f_wayOut q_wayOuts]) := by
  refine vz_svQ (by decide) (Nat.le_of_ble_eq_true rfl) (fun p e s m args below meth c hx hb hr hml hts hown hlk hin hK hsz A hA H locs hP hD hS ls hl Q hQ => ?_)
  have hl : lv_has ls 2 [(0, .ref h), (1, .int (nI gw))] := hl
  refine lv_aload_n hx hb dX10_more_0 rfl (lv_at hl 0 rfl) ?_
  refine va_get (D := D) (ci := 10) (v := .ref (a 29)) (C := RX10) (T := TX10) (N := 96) hx hb hts inlX10 hown hK hP 0 rfl rfl 50 (by decide) (hts _ q223) (fun _ h => h) rfl dX10_more_1 ?_
  refine lv_bipush (v := 10) hx hb dX10_more_4 (by decide) ?_
  refine lv_aload_n hx hb dX10_more_6 rfl (lv_at hl 0 rfl) ?_
  refine va_get (D := D) (ci := 10) (v := .int (nI q_slot)) (C := RX10) (T := TX10) (N := 96) hx hb hts inlX10 hown hK hP 0 rfl rfl 49 (by decide) (hts _ q1359) (fun _ h => h) rfl dX10_more_7 ?_
  refine lv_imul hx hb dX10_more_10 ?_
  refine lv_topi (nm_r (e' := (nI (10 * q_slot))) (vz_mul 10 q_slot) ?_)
  refine lv_iload_n hx hb dX10_more_11 rfl (lv_at hl 1 rfl) ?_
  refine lv_iadd hx hb dX10_more_12 ?_
  refine lv_topi (nm_r (e' := (nI ((10 * q_slot) + gw))) (nI_add (10 * q_slot) gw) ?_)
  refine lv_dup2_11 hx hb dX10_more_13 rfl rfl ?_
  refine va_iald hx hb hK hP 30 0 rfl rfl (vr_in (by first | omega | (clear hP hD hS hl hQ; grind)) (by decide)) dX10_more_14 ?_
  refine lv_topi (nm_r (e' := (f_told ((10 * q_slot) + gw))) (vr_ld (by first | omega | (clear hP hD hS hl hQ; grind))) ?_)
  refine lv_iconst (v := 1) hx hb dX10_more_15 (by decide) ?_
  refine lv_iadd hx hb dX10_more_16 ?_
  refine va_iast hx hb hK hP hD hS 30 0 rfl rfl (vr_in (by first | omega | (clear hP hD hS hl hQ; grind)) (by decide)) dX10_more_17 (fun H locs hP hD hS => ?_)
  obtain ⟨f_told_1, hf_told_1, hP, hD⟩ : ∃ z : Nat → Int32, z = upd f_told ((10 * q_slot) + gw) ((f_told ((10 * q_slot) + gw)) + 1) ∧ va_P D vwCl (vz_w [rmW g h a f_words f_text q_size q_at q_token q_tokenAt q_which q_value q_live q_draft q_hasProgram f_stat f_statements f_entryKind f_entryValue f_firstOf f_catchOf f_catchKind f_catchBlock f_catches f_body f_methods f_above f_kinds q_entries q_blocks q_fault q_faultAt q_faultTold q_checks f_checkHow f_checkAt f_checkValue q_waits f_wait f_waitValue q_deep q_isOver q_piled f_pileKind f_pileStatement f_pileBlock f_pileLast q_planned f_planStatement f_planPart f_planTime f_planKind f_hasRun q_slot z f_tape f_failedKind f_cause f_underFirst f_underNext f_failedAt f_underWay f_traces f_closings f_enteredOf q_left q_ended q_signal q_signalValue q_frames f_frameKind f_frameStatement f_frameNow f_pending f_pendingValue f_firstResource f_openedOf f_caught q_acts f_actVar f_actRow f_actMethod f_actStatement q_rows f_rowSize f_rowItem f_passed q_planning q_aloneStatement q_alonePart q_aloneTime q_quiet f_quietStatement f_quietPart f_quietTime f_stack q_stacked q_wrong f_wayOut q_wayOuts]) H ∧ va_D A (vz_w [rmW g h a f_words f_text q_size q_at q_token q_tokenAt q_which q_value q_live q_draft q_hasProgram f_stat f_statements f_entryKind f_entryValue f_firstOf f_catchOf f_catchKind f_catchBlock f_catches f_body f_methods f_above f_kinds q_entries q_blocks q_fault q_faultAt q_faultTold q_checks f_checkHow f_checkAt f_checkValue q_waits f_wait f_waitValue q_deep q_isOver q_piled f_pileKind f_pileStatement f_pileBlock f_pileLast q_planned f_planStatement f_planPart f_planTime f_planKind f_hasRun q_slot z f_tape f_failedKind f_cause f_underFirst f_underNext f_failedAt f_underWay f_traces f_closings f_enteredOf q_left q_ended q_signal q_signalValue q_frames f_frameKind f_frameStatement f_frameNow f_pending f_pendingValue f_firstResource f_openedOf f_caught q_acts f_actVar f_actRow f_actMethod f_actStatement q_rows f_rowSize f_rowItem f_passed q_planning q_aloneStatement q_alonePart q_aloneTime q_quiet f_quietStatement f_quietPart f_quietTime f_stack q_stacked q_wrong f_wayOut q_wayOuts]) := ⟨_, vr_st (by first | omega | (clear hP hD hS hl hQ; grind)), hP, hD⟩
  rw [hQ]
  exact vz_vret3 hx hb hr hlk hK hP hD hS f_told_1 (by (try dsimp only) <;> (assumption)) rfl (Nat.le_refl 0) (Nat.le_refl 0) dX10_more_18
theorem q248 : Cond.fieldLink RX10 217 "WaysAtlasModel" "passed" "[I" ∈ wsL_law := mT_6 (List.mem_of_getElem? (i := 193) rfl) rfl
theorem q1360 : Cond.fieldLink RX10 478 "WaysAtlasModel" "planning" "I" ∈ wsL_law := mT_6 (List.mem_of_getElem? (i := 194) rfl) rfl
theorem q1407 : Cond.fieldLink RX10 481 "WaysAtlasModel" "quiet" "I" ∈ wsL_law := mT_6 (List.mem_of_getElem? (i := 198) rfl) rfl
theorem q249 : Cond.fieldLink RX10 220 "WaysAtlasModel" "quietStatement" "[I" ∈ wsL_law := mT_6 (List.mem_of_getElem? (i := 199) rfl) rfl
theorem q250 : Cond.fieldLink RX10 223 "WaysAtlasModel" "quietPart" "[I" ∈ wsL_law := mT_6 (List.mem_of_getElem? (i := 200) rfl) rfl
theorem q251 : Cond.fieldLink RX10 226 "WaysAtlasModel" "quietTime" "[I" ∈ wsL_law := mT_6 (List.mem_of_getElem? (i := 201) rfl) rfl
theorem q1408 : Cond.fieldLink RX10 484 "WaysAtlasModel" "aloneStatement" "I" ∈ wsL_law := mT_6 (List.mem_of_getElem? (i := 195) rfl) rfl
theorem q1409 : Cond.fieldLink RX10 487 "WaysAtlasModel" "alonePart" "I" ∈ wsL_law := mT_6 (List.mem_of_getElem? (i := 196) rfl) rfl
theorem q1410 : Cond.fieldLink RX10 490 "WaysAtlasModel" "aloneTime" "I" ∈ wsL_law := mT_6 (List.mem_of_getElem? (i := 197) rfl) rfl
theorem q217 : Cond.fieldLink RX10 126 "WaysAtlasModel" "planStatement" "[I" ∈ wsL_law := mT_6 (List.mem_of_getElem? (i := 155) rfl) rfl
theorem q218 : Cond.fieldLink RX10 129 "WaysAtlasModel" "planPart" "[I" ∈ wsL_law := mT_6 (List.mem_of_getElem? (i := 156) rfl) rfl
theorem q219 : Cond.fieldLink RX10 132 "WaysAtlasModel" "planTime" "[I" ∈ wsL_law := mT_6 (List.mem_of_getElem? (i := 157) rfl) rfl
theorem q220 : Cond.fieldLink RX10 135 "WaysAtlasModel" "planKind" "[I" ∈ wsL_law := mT_6 (List.mem_of_getElem? (i := 158) rfl) rfl
theorem dX10_passes_0 : decode cX10_passes 0 = .ok (.aload_n 0, 1) := by decide +kernel
theorem dX10_passes_1 : decode cX10_passes 1 = .ok (.getfield 217, 3) := by decide +kernel
theorem dX10_passes_4 : decode cX10_passes 4 = .ok (.bipush 7, 2) := by decide +kernel
theorem dX10_passes_6 : decode cX10_passes 6 = .ok (.iload_n 1, 1) := by decide +kernel
theorem dX10_passes_7 : decode cX10_passes 7 = .ok (.imul, 1) := by decide +kernel
theorem dX10_passes_8 : decode cX10_passes 8 = .ok (.iload_n 2, 1) := by decide +kernel
theorem dX10_passes_9 : decode cX10_passes 9 = .ok (.iadd, 1) := by decide +kernel
theorem dX10_passes_10 : decode cX10_passes 10 = .ok (.dup2, 1) := by decide +kernel
theorem dX10_passes_11 : decode cX10_passes 11 = .ok (.iaload, 1) := by decide +kernel
theorem dX10_passes_12 : decode cX10_passes 12 = .ok (.iconst 1, 1) := by decide +kernel
theorem dX10_passes_13 : decode cX10_passes 13 = .ok (.iadd, 1) := by decide +kernel
theorem dX10_passes_14 : decode cX10_passes 14 = .ok (.iastore, 1) := by decide +kernel
theorem dX10_passes_15 : decode cX10_passes 15 = .ok (.aload_n 0, 1) := by decide +kernel
theorem dX10_passes_16 : decode cX10_passes 16 = .ok (.getfield 217, 3) := by decide +kernel
theorem dX10_passes_19 : decode cX10_passes 19 = .ok (.bipush 7, 2) := by decide +kernel
theorem dX10_passes_21 : decode cX10_passes 21 = .ok (.iload_n 1, 1) := by decide +kernel
theorem dX10_passes_22 : decode cX10_passes 22 = .ok (.imul, 1) := by decide +kernel
theorem dX10_passes_23 : decode cX10_passes 23 = .ok (.iload_n 2, 1) := by decide +kernel
theorem dX10_passes_24 : decode cX10_passes 24 = .ok (.iadd, 1) := by decide +kernel
theorem dX10_passes_25 : decode cX10_passes 25 = .ok (.iaload, 1) := by decide +kernel
theorem dX10_passes_26 : decode cX10_passes 26 = .ok (.istore_n 3, 1) := by decide +kernel
theorem dX10_passes_27 : decode cX10_passes 27 = .ok (.aload_n 0, 1) := by decide +kernel
theorem dX10_passes_28 : decode cX10_passes 28 = .ok (.getfield 478, 3) := by decide +kernel
theorem dX10_passes_31 : decode cX10_passes 31 = .ok (.iconst 1, 1) := by decide +kernel
theorem dX10_passes_32 : decode cX10_passes 32 = .ok (.if_icmp .ne 54, 3) := by decide +kernel
theorem dX10_passes_35 : decode cX10_passes 35 = .ok (.aload_n 0, 1) := by decide +kernel
theorem dX10_passes_36 : decode cX10_passes 36 = .ok (.getfield 481, 3) := by decide +kernel
theorem dX10_passes_39 : decode cX10_passes 39 = .ok (.bipush 60, 2) := by decide +kernel
theorem dX10_passes_41 : decode cX10_passes 41 = .ok (.if_icmp .ge 43, 3) := by decide +kernel
theorem dX10_passes_44 : decode cX10_passes 44 = .ok (.aload_n 0, 1) := by decide +kernel
theorem dX10_passes_45 : decode cX10_passes 45 = .ok (.getfield 220, 3) := by decide +kernel
theorem dX10_passes_48 : decode cX10_passes 48 = .ok (.aload_n 0, 1) := by decide +kernel
theorem dX10_passes_49 : decode cX10_passes 49 = .ok (.getfield 481, 3) := by decide +kernel
theorem dX10_passes_52 : decode cX10_passes 52 = .ok (.iload_n 1, 1) := by decide +kernel
theorem dX10_passes_53 : decode cX10_passes 53 = .ok (.iastore, 1) := by decide +kernel
theorem dX10_passes_54 : decode cX10_passes 54 = .ok (.aload_n 0, 1) := by decide +kernel
theorem dX10_passes_55 : decode cX10_passes 55 = .ok (.getfield 223, 3) := by decide +kernel
theorem dX10_passes_58 : decode cX10_passes 58 = .ok (.aload_n 0, 1) := by decide +kernel
theorem dX10_passes_59 : decode cX10_passes 59 = .ok (.getfield 481, 3) := by decide +kernel
theorem dX10_passes_62 : decode cX10_passes 62 = .ok (.iload_n 2, 1) := by decide +kernel
theorem dX10_passes_63 : decode cX10_passes 63 = .ok (.iastore, 1) := by decide +kernel
theorem dX10_passes_64 : decode cX10_passes 64 = .ok (.aload_n 0, 1) := by decide +kernel
theorem dX10_passes_65 : decode cX10_passes 65 = .ok (.getfield 226, 3) := by decide +kernel
theorem dX10_passes_68 : decode cX10_passes 68 = .ok (.aload_n 0, 1) := by decide +kernel
theorem dX10_passes_69 : decode cX10_passes 69 = .ok (.getfield 481, 3) := by decide +kernel
theorem dX10_passes_72 : decode cX10_passes 72 = .ok (.iload_n 3, 1) := by decide +kernel
theorem dX10_passes_73 : decode cX10_passes 73 = .ok (.iastore, 1) := by decide +kernel
theorem dX10_passes_74 : decode cX10_passes 74 = .ok (.aload_n 0, 1) := by decide +kernel
theorem dX10_passes_75 : decode cX10_passes 75 = .ok (.dup, 1) := by decide +kernel
theorem dX10_passes_76 : decode cX10_passes 76 = .ok (.getfield 481, 3) := by decide +kernel
theorem dX10_passes_79 : decode cX10_passes 79 = .ok (.iconst 1, 1) := by decide +kernel
theorem dX10_passes_80 : decode cX10_passes 80 = .ok (.iadd, 1) := by decide +kernel
theorem dX10_passes_81 : decode cX10_passes 81 = .ok (.putfield 481, 3) := by decide +kernel
theorem dX10_passes_84 : decode cX10_passes 84 = .ok (.iconst (-1), 1) := by decide +kernel
theorem dX10_passes_85 : decode cX10_passes 85 = .ok (.ireturn, 1) := by decide +kernel
theorem dX10_passes_86 : decode cX10_passes 86 = .ok (.aload_n 0, 1) := by decide +kernel
theorem dX10_passes_87 : decode cX10_passes 87 = .ok (.getfield 478, 3) := by decide +kernel
theorem dX10_passes_90 : decode cX10_passes 90 = .ok (.iconst 2, 1) := by decide +kernel
theorem dX10_passes_91 : decode cX10_passes 91 = .ok (.if_icmp .ne 33, 3) := by decide +kernel
theorem dX10_passes_94 : decode cX10_passes 94 = .ok (.iload_n 1, 1) := by decide +kernel
theorem dX10_passes_95 : decode cX10_passes 95 = .ok (.aload_n 0, 1) := by decide +kernel
theorem dX10_passes_96 : decode cX10_passes 96 = .ok (.getfield 484, 3) := by decide +kernel
theorem dX10_passes_99 : decode cX10_passes 99 = .ok (.if_icmp .ne 23, 3) := by decide +kernel
theorem dX10_passes_102 : decode cX10_passes 102 = .ok (.iload_n 2, 1) := by decide +kernel
theorem dX10_passes_103 : decode cX10_passes 103 = .ok (.aload_n 0, 1) := by decide +kernel
theorem dX10_passes_104 : decode cX10_passes 104 = .ok (.getfield 487, 3) := by decide +kernel
theorem dX10_passes_107 : decode cX10_passes 107 = .ok (.if_icmp .ne 15, 3) := by decide +kernel
theorem dX10_passes_110 : decode cX10_passes 110 = .ok (.iload_n 3, 1) := by decide +kernel
theorem dX10_passes_111 : decode cX10_passes 111 = .ok (.aload_n 0, 1) := by decide +kernel
theorem dX10_passes_112 : decode cX10_passes 112 = .ok (.getfield 490, 3) := by decide +kernel
theorem dX10_passes_115 : decode cX10_passes 115 = .ok (.if_icmp .ne 7, 3) := by decide +kernel
theorem dX10_passes_118 : decode cX10_passes 118 = .ok (.iconst 0, 1) := by decide +kernel
theorem dX10_passes_119 : decode cX10_passes 119 = .ok (.goto 4, 3) := by decide +kernel
theorem dX10_passes_122 : decode cX10_passes 122 = .ok (.iconst (-1), 1) := by decide +kernel
theorem dX10_passes_123 : decode cX10_passes 123 = .ok (.ireturn, 1) := by decide +kernel
theorem dX10_passes_124 : decode cX10_passes 124 = .ok (.iconst 0, 1) := by decide +kernel
theorem dX10_passes_125 : decode cX10_passes 125 = .ok (.istore 4, 2) := by decide +kernel
theorem dX10_passes_127 : decode cX10_passes 127 = .ok (.iload 4, 2) := by decide +kernel
theorem dX10_passes_129 : decode cX10_passes 129 = .ok (.aload_n 0, 1) := by decide +kernel
theorem dX10_passes_130 : decode cX10_passes 130 = .ok (.getfield 453, 3) := by decide +kernel
theorem dX10_passes_133 : decode cX10_passes 133 = .ok (.if_icmp .ge 50, 3) := by decide +kernel
theorem dX10_passes_136 : decode cX10_passes 136 = .ok (.aload_n 0, 1) := by decide +kernel
theorem dX10_passes_137 : decode cX10_passes 137 = .ok (.getfield 126, 3) := by decide +kernel
theorem dX10_passes_140 : decode cX10_passes 140 = .ok (.iload 4, 2) := by decide +kernel
theorem dX10_passes_142 : decode cX10_passes 142 = .ok (.iaload, 1) := by decide +kernel
theorem dX10_passes_143 : decode cX10_passes 143 = .ok (.iload_n 1, 1) := by decide +kernel
theorem dX10_passes_144 : decode cX10_passes 144 = .ok (.if_icmp .ne 33, 3) := by decide +kernel
theorem dX10_passes_147 : decode cX10_passes 147 = .ok (.aload_n 0, 1) := by decide +kernel
theorem dX10_passes_148 : decode cX10_passes 148 = .ok (.getfield 129, 3) := by decide +kernel
theorem dX10_passes_151 : decode cX10_passes 151 = .ok (.iload 4, 2) := by decide +kernel
theorem dX10_passes_153 : decode cX10_passes 153 = .ok (.iaload, 1) := by decide +kernel
theorem dX10_passes_154 : decode cX10_passes 154 = .ok (.iload_n 2, 1) := by decide +kernel
theorem dX10_passes_155 : decode cX10_passes 155 = .ok (.if_icmp .ne 22, 3) := by decide +kernel
theorem dX10_passes_158 : decode cX10_passes 158 = .ok (.aload_n 0, 1) := by decide +kernel
theorem dX10_passes_159 : decode cX10_passes 159 = .ok (.getfield 132, 3) := by decide +kernel
theorem dX10_passes_162 : decode cX10_passes 162 = .ok (.iload 4, 2) := by decide +kernel
theorem dX10_passes_164 : decode cX10_passes 164 = .ok (.iaload, 1) := by decide +kernel
theorem dX10_passes_165 : decode cX10_passes 165 = .ok (.iload_n 3, 1) := by decide +kernel
theorem dX10_passes_166 : decode cX10_passes 166 = .ok (.if_icmp .ne 11, 3) := by decide +kernel
theorem dX10_passes_169 : decode cX10_passes 169 = .ok (.aload_n 0, 1) := by decide +kernel
theorem dX10_passes_170 : decode cX10_passes 170 = .ok (.getfield 135, 3) := by decide +kernel
theorem dX10_passes_173 : decode cX10_passes 173 = .ok (.iload 4, 2) := by decide +kernel
theorem dX10_passes_175 : decode cX10_passes 175 = .ok (.iaload, 1) := by decide +kernel
theorem dX10_passes_176 : decode cX10_passes 176 = .ok (.ireturn, 1) := by decide +kernel
theorem dX10_passes_177 : decode cX10_passes 177 = .ok (.iinc 4 1, 3) := by decide +kernel
theorem dX10_passes_180 : decode cX10_passes 180 = .ok (.goto (-53), 3) := by decide +kernel
theorem dX10_passes_183 : decode cX10_passes 183 = .ok (.iconst (-1), 1) := by decide +kernel
theorem dX10_passes_184 : decode cX10_passes 184 = .ok (.ireturn, 1) := by decide +kernel
set_option maxHeartbeats 8000000 in
set_option maxRecDepth 100000 in
theorem r_passes (l : Launch) (D : va_G) (g : Nat → ClassId)   (sz : Nat) (gs : Nat) (gp : Nat) (nk : Nat) (h : Nat) (a : Nat → Nat) (f_words : Nat → Int64) (f_text : Nat → Int32) (q_size : Nat) (q_at : Nat) (q_token : Int32) (q_tokenAt : Nat) (q_which : Int32) (q_value : Nat) (q_live : Nat) (q_draft : Nat) (q_hasProgram : Int32) (f_stat : Nat → Int32) (f_statements : Nat → Int32) (f_entryKind : Nat → Int32) (f_entryValue : Nat → Int32) (f_firstOf : Nat → Int32) (f_catchOf : Nat → Int32) (f_catchKind : Nat → Int32) (f_catchBlock : Nat → Int32) (f_catches : Nat → Int32) (f_body : Nat → Int32) (f_methods : Nat → Int32) (f_above : Nat → Int32) (f_kinds : Nat → Int32) (q_entries : Nat) (q_blocks : Nat) (q_fault : Int32) (q_faultAt : Int32) (q_faultTold : Int32) (q_checks : Nat) (f_checkHow : Nat → Int32) (f_checkAt : Nat → Int32) (f_checkValue : Nat → Int32) (q_waits : Nat) (f_wait : Nat → Int32) (f_waitValue : Nat → Int32) (q_deep : Int32) (q_isOver : Int32) (q_piled : Nat) (f_pileKind : Nat → Int32) (f_pileStatement : Nat → Int32) (f_pileBlock : Nat → Int32) (f_pileLast : Nat → Int32) (q_planned : Nat) (f_planStatement : Nat → Int32) (f_planPart : Nat → Int32) (f_planTime : Nat → Int32) (f_planKind : Nat → Int32) (f_hasRun : Nat → Int32) (q_slot : Nat) (f_told : Nat → Int32) (f_tape : Nat → Int32) (f_failedKind : Nat → Int32) (f_cause : Nat → Int32) (f_underFirst : Nat → Int32) (f_underNext : Nat → Int32) (f_failedAt : Nat → Int32) (f_underWay : Nat → Int32) (f_traces : Nat → Int32) (f_closings : Nat → Int32) (f_enteredOf : Nat → Int32) (q_left : Nat) (q_ended : Int32) (q_signal : Int32) (q_signalValue : Int32) (q_frames : Nat) (f_frameKind : Nat → Int32) (f_frameStatement : Nat → Int32) (f_frameNow : Nat → Int32) (f_pending : Nat → Int32) (f_pendingValue : Nat → Int32) (f_firstResource : Nat → Int32) (f_openedOf : Nat → Int32) (f_caught : Nat → Int32) (q_acts : Nat) (f_actVar : Nat → Int32) (f_actRow : Nat → Int32) (f_actMethod : Nat → Int32) (f_actStatement : Nat → Int32) (q_rows : Nat) (f_rowSize : Nat → Int32) (f_rowItem : Nat → Int32) (f_passed : Nat → Int32) (q_planning : Int32) (q_aloneStatement : Int32) (q_alonePart : Int32) (q_aloneTime : Int32) (q_quiet : Nat) (f_quietStatement : Nat → Int32) (f_quietPart : Nat → Int32) (f_quietTime : Nat → Int32) (f_stack : Nat → Int32) (q_stacked : Nat) (q_wrong : Int32) (f_wayOut : Nat → Int32) (q_wayOuts : Nat) (hs : gs < 80) (hp : gp ≤ 6) (hqu : q_quiet ≤ 60) (hpn : q_planned ≤ 30) (hpk : PLK f_planKind q_planned nk) (h7 : 7 ≤ nk) : vz_Mi l D (tyG g) yX10_passes cX10_passes 5 0 0 0 0 .int [.ref h, .int (nI gs), .int (nI gp)] sz (vz_w [rmW g h a f_words f_text q_size q_at q_token q_tokenAt q_which q_value q_live q_draft q_hasProgram f_stat f_statements f_entryKind f_entryValue f_firstOf f_catchOf f_catchKind f_catchBlock f_catches f_body f_methods f_above f_kinds q_entries q_blocks q_fault q_faultAt q_faultTold q_checks f_checkHow f_checkAt f_checkValue q_waits f_wait f_waitValue q_deep q_isOver q_piled f_pileKind f_pileStatement f_pileBlock f_pileLast q_planned f_planStatement f_planPart f_planTime f_planKind f_hasRun q_slot f_told f_tape f_failedKind f_cause f_underFirst f_underNext f_failedAt f_underWay f_traces f_closings f_enteredOf q_left q_ended q_signal q_signalValue q_frames f_frameKind f_frameStatement f_frameNow f_pending f_pendingValue f_firstResource f_openedOf f_caught q_acts f_actVar f_actRow f_actMethod f_actStatement q_rows f_rowSize f_rowItem f_passed q_planning q_aloneStatement q_alonePart q_aloneTime q_quiet f_quietStatement f_quietPart f_quietTime f_stack q_stacked q_wrong f_wayOut q_wayOuts]) (fun r (u : (Nat → Int32) × (Nat) × (Nat → Int32) × (Nat → Int32) × (Nat → Int32)) => (u.2.1 ≤ 60) ∧ (r = -1 ∨ KOK nk r)) (fun u => vz_w [rmW g h a f_words f_text q_size q_at q_token q_tokenAt q_which q_value q_live q_draft q_hasProgram f_stat f_statements f_entryKind f_entryValue f_firstOf f_catchOf f_catchKind f_catchBlock f_catches f_body f_methods f_above f_kinds q_entries q_blocks q_fault q_faultAt q_faultTold q_checks f_checkHow f_checkAt f_checkValue q_waits f_wait f_waitValue q_deep q_isOver q_piled f_pileKind f_pileStatement f_pileBlock f_pileLast q_planned f_planStatement f_planPart f_planTime f_planKind f_hasRun q_slot f_told f_tape f_failedKind f_cause f_underFirst f_underNext f_failedAt f_underWay f_traces f_closings f_enteredOf q_left q_ended q_signal q_signalValue q_frames f_frameKind f_frameStatement f_frameNow f_pending f_pendingValue f_firstResource f_openedOf f_caught q_acts f_actVar f_actRow f_actMethod f_actStatement q_rows f_rowSize f_rowItem u.1 q_planning q_aloneStatement q_alonePart q_aloneTime u.2.1 u.2.2.1 u.2.2.2.1 u.2.2.2.2 f_stack q_stacked q_wrong f_wayOut q_wayOuts]) := by
  refine vz_siQ (by decide) (Nat.le_of_ble_eq_true rfl) (fun p e s m args below meth c hx hb hr hml hts hown hlk hin hK hsz A hA H locs hP hD hS ls hl Q hQ => ?_)
  have hl : lv_has ls 5 [(0, .ref h), (1, .int (nI gs)), (2, .int (nI gp))] := hl
  have J127 : ∀ fu127 : Nat, ∀ (x3_127 : Int32), ∀ (xn4_127 : Nat), ∀ (mf_passed_127 : Nat → Int32), q_planned - xn4_127 < fu127 → (xn4_127 ≤ q_planned) → ∀ (H : Heap) (locs : List Loc) (ls : Array Slot), va_P D vwCl (vz_w [rmW g h a f_words f_text q_size q_at q_token q_tokenAt q_which q_value q_live q_draft q_hasProgram f_stat f_statements f_entryKind f_entryValue f_firstOf f_catchOf f_catchKind f_catchBlock f_catches f_body f_methods f_above f_kinds q_entries q_blocks q_fault q_faultAt q_faultTold q_checks f_checkHow f_checkAt f_checkValue q_waits f_wait f_waitValue q_deep q_isOver q_piled f_pileKind f_pileStatement f_pileBlock f_pileLast q_planned f_planStatement f_planPart f_planTime f_planKind f_hasRun q_slot f_told f_tape f_failedKind f_cause f_underFirst f_underNext f_failedAt f_underWay f_traces f_closings f_enteredOf q_left q_ended q_signal q_signalValue q_frames f_frameKind f_frameStatement f_frameNow f_pending f_pendingValue f_firstResource f_openedOf f_caught q_acts f_actVar f_actRow f_actMethod f_actStatement q_rows f_rowSize f_rowItem mf_passed_127 q_planning q_aloneStatement q_alonePart q_aloneTime q_quiet f_quietStatement f_quietPart f_quietTime f_stack q_stacked q_wrong f_wayOut q_wayOuts]) H → va_D A (vz_w [rmW g h a f_words f_text q_size q_at q_token q_tokenAt q_which q_value q_live q_draft q_hasProgram f_stat f_statements f_entryKind f_entryValue f_firstOf f_catchOf f_catchKind f_catchBlock f_catches f_body f_methods f_above f_kinds q_entries q_blocks q_fault q_faultAt q_faultTold q_checks f_checkHow f_checkAt f_checkValue q_waits f_wait f_waitValue q_deep q_isOver q_piled f_pileKind f_pileStatement f_pileBlock f_pileLast q_planned f_planStatement f_planPart f_planTime f_planKind f_hasRun q_slot f_told f_tape f_failedKind f_cause f_underFirst f_underNext f_failedAt f_underWay f_traces f_closings f_enteredOf q_left q_ended q_signal q_signalValue q_frames f_frameKind f_frameStatement f_frameNow f_pending f_pendingValue f_firstResource f_openedOf f_caught q_acts f_actVar f_actRow f_actMethod f_actStatement q_rows f_rowSize f_rowItem mf_passed_127 q_planning q_aloneStatement q_alonePart q_aloneTime q_quiet f_quietStatement f_quietPart f_quietTime f_stack q_stacked q_wrong f_wayOut q_wayOuts]) → va_S A s.heap H locs → lv_has ls 5 [(0, .ref h), (1, .int (nI gs)), (2, .int (nI gp)), (3, .int x3_127), (4, .int (nI xn4_127))] → W p l e { frames := 0, cells := 0, slots := 0, locals := 0 } s m args below meth c H locs 0 0 Q (F0 m 127 ls []) := by
    intro fu127
    induction fu127 with
    | zero => intro x3_127 xn4_127 mf_passed_127 hf127 hj127_0 H locs ls hP hD hS hl; exact absurd hf127 (Nat.not_lt_zero _)
    | succ fu127 ih127 =>
      intro x3_127 xn4_127 mf_passed_127 hf127 hj127_0 H locs ls hP hD hS hl
      refine lv_iload hx hb dX10_passes_127 (lv_at hl 4 rfl) ?_
      refine lv_aload_n hx hb dX10_passes_129 rfl (lv_at hl 0 rfl) ?_
      refine va_get (D := D) (ci := 10) (v := .int (nI q_planned)) (C := RX10) (T := TX10) (N := 96) hx hb hts inlX10 hown hK hP 0 rfl rfl 43 (by decide) (hts _ q749) (fun _ h => h) rfl dX10_passes_130 ?_
      refine lv_icmp_ge (tgt := 183) hx hb dX10_passes_133 (by decide) (fun kc1 => ?_) (fun kc1 => ?_)
      · try (have kn2 : q_planned ≤ xn4_127 := (vr_le (a := q_planned) (b := xn4_127) (by first | omega | (clear hP hD hS hl hQ; grind)) (by first | omega | (clear hP hD hS hl hQ; grind))).mp kc1)
        refine lv_iconst (v := (-1)) hx hb dX10_passes_183 (by decide) ?_
        rw [hQ]
        exact vz_iret3 hx hb hr hlk hK hP hD hS (mf_passed_127, q_quiet, f_quietStatement, f_quietPart, f_quietTime) (⟨(by (try dsimp only) <;> (omega)), (by exact Or.inl rfl)⟩) rfl (Nat.le_refl 0) (Nat.le_refl 0) dX10_passes_184
      · try (have kn3 : xn4_127 < q_planned := Nat.not_le.mp (fun h9 => kc1 ((vr_le (a := q_planned) (b := xn4_127) (by first | omega | (clear hP hD hS hl hQ; grind)) (by first | omega | (clear hP hD hS hl hQ; grind))).mpr h9)))
        have hk9 : xn4_127 < q_planned := by omega
        refine lv_aload_n hx hb dX10_passes_136 rfl (lv_at hl 0 rfl) ?_
        refine va_get (D := D) (ci := 10) (v := .ref (a 24)) (C := RX10) (T := TX10) (N := 96) hx hb hts inlX10 hown hK hP 0 rfl rfl 44 (by decide) (hts _ q217) (fun _ h => h) rfl dX10_passes_137 ?_
        refine lv_iload hx hb dX10_passes_140 (lv_at hl 4 rfl) ?_
        refine va_iald hx hb hK hP 25 0 rfl rfl (vr_in (by first | omega | (clear hP hD hS hl hQ; grind)) (by decide)) dX10_passes_142 ?_
        refine lv_topi (nm_r (e' := (f_planStatement xn4_127)) (vr_ld (by first | omega | (clear hP hD hS hl hQ; grind))) ?_)
        refine lv_iload_n hx hb dX10_passes_143 rfl (lv_at hl 1 rfl) ?_
        refine lv_icmp_ne (tgt := 177) hx hb dX10_passes_144 (by decide) (fun kc4 => ?_) (fun kc4 => ?_)
        · try (have kn5 : ¬ (f_planStatement xn4_127).toInt = ((gs : Nat) : Int) := by (have q : ¬ (f_planStatement xn4_127).toInt = (nI gs).toInt := fun q => kc4 (Int32.toInt_inj.mp q)); rw [nI_toInt (n := gs) (by first | omega | (clear hP hD hS hl hQ; grind))] at q; exact q)
          refine lv_iinc (v := (nI (xn4_127 + 1))) (lv' := [(4, .int (nI (xn4_127 + 1))), (0, .ref h), (1, .int (nI gs)), (2, .int (nI gp)), (3, .int x3_127)]) hx hb dX10_passes_177 hl (k := 4) rfl (nI_add xn4_127 1) (by decide) rfl (fun ls hl => ?_)
          refine lv_goto (tgt := 127) hx hb dX10_passes_180 (by decide) ?_
          exact ih127 x3_127 (xn4_127 + 1) mf_passed_127 (by first | omega | (clear hP hD hS hl hQ; grind)) (by first | assumption | omega | (clear hP hD hS hl hQ; grind)) H locs ls hP hD hS (lv_sub hl [1, 2, 3, 4, 0] rfl)
        · try (have kn6 : (f_planStatement xn4_127).toInt = ((gs : Nat) : Int) := by (have q : (f_planStatement xn4_127).toInt = (nI gs).toInt := congrArg Int32.toInt kc4); rw [nI_toInt (n := gs) (by first | omega | (clear hP hD hS hl hQ; grind))] at q; exact q)
          refine lv_aload_n hx hb dX10_passes_147 rfl (lv_at hl 0 rfl) ?_
          refine va_get (D := D) (ci := 10) (v := .ref (a 25)) (C := RX10) (T := TX10) (N := 96) hx hb hts inlX10 hown hK hP 0 rfl rfl 45 (by decide) (hts _ q218) (fun _ h => h) rfl dX10_passes_148 ?_
          refine lv_iload hx hb dX10_passes_151 (lv_at hl 4 rfl) ?_
          refine va_iald hx hb hK hP 26 0 rfl rfl (vr_in (by first | omega | (clear hP hD hS hl hQ; grind)) (by decide)) dX10_passes_153 ?_
          refine lv_topi (nm_r (e' := (f_planPart xn4_127)) (vr_ld (by first | omega | (clear hP hD hS hl hQ; grind))) ?_)
          refine lv_iload_n hx hb dX10_passes_154 rfl (lv_at hl 2 rfl) ?_
          refine lv_icmp_ne (tgt := 177) hx hb dX10_passes_155 (by decide) (fun kc7 => ?_) (fun kc7 => ?_)
          · try (have kn8 : ¬ (f_planPart xn4_127).toInt = ((gp : Nat) : Int) := by (have q : ¬ (f_planPart xn4_127).toInt = (nI gp).toInt := fun q => kc7 (Int32.toInt_inj.mp q)); rw [nI_toInt (n := gp) (by first | omega | (clear hP hD hS hl hQ; grind))] at q; exact q)
            refine lv_iinc (v := (nI (xn4_127 + 1))) (lv' := [(4, .int (nI (xn4_127 + 1))), (0, .ref h), (1, .int (nI gs)), (2, .int (nI gp)), (3, .int x3_127)]) hx hb dX10_passes_177 hl (k := 4) rfl (nI_add xn4_127 1) (by decide) rfl (fun ls hl => ?_)
            refine lv_goto (tgt := 127) hx hb dX10_passes_180 (by decide) ?_
            exact ih127 x3_127 (xn4_127 + 1) mf_passed_127 (by first | omega | (clear hP hD hS hl hQ; grind)) (by first | assumption | omega | (clear hP hD hS hl hQ; grind)) H locs ls hP hD hS (lv_sub hl [1, 2, 3, 4, 0] rfl)
          · try (have kn9 : (f_planPart xn4_127).toInt = ((gp : Nat) : Int) := by (have q : (f_planPart xn4_127).toInt = (nI gp).toInt := congrArg Int32.toInt kc7); rw [nI_toInt (n := gp) (by first | omega | (clear hP hD hS hl hQ; grind))] at q; exact q)
            refine lv_aload_n hx hb dX10_passes_158 rfl (lv_at hl 0 rfl) ?_
            refine va_get (D := D) (ci := 10) (v := .ref (a 26)) (C := RX10) (T := TX10) (N := 96) hx hb hts inlX10 hown hK hP 0 rfl rfl 46 (by decide) (hts _ q219) (fun _ h => h) rfl dX10_passes_159 ?_
            refine lv_iload hx hb dX10_passes_162 (lv_at hl 4 rfl) ?_
            refine va_iald hx hb hK hP 27 0 rfl rfl (vr_in (by first | omega | (clear hP hD hS hl hQ; grind)) (by decide)) dX10_passes_164 ?_
            refine lv_topi (nm_r (e' := (f_planTime xn4_127)) (vr_ld (by first | omega | (clear hP hD hS hl hQ; grind))) ?_)
            refine lv_iload_n hx hb dX10_passes_165 rfl (lv_at hl 3 rfl) ?_
            refine lv_icmp_ne (tgt := 177) hx hb dX10_passes_166 (by decide) (fun kc10 => ?_) (fun kc10 => ?_)
            · have kn11 : ¬ (f_planTime xn4_127).toInt = x3_127.toInt := fun q => kc10 (Int32.toInt_inj.mp q)
              refine lv_iinc (v := (nI (xn4_127 + 1))) (lv' := [(4, .int (nI (xn4_127 + 1))), (0, .ref h), (1, .int (nI gs)), (2, .int (nI gp)), (3, .int x3_127)]) hx hb dX10_passes_177 hl (k := 4) rfl (nI_add xn4_127 1) (by decide) rfl (fun ls hl => ?_)
              refine lv_goto (tgt := 127) hx hb dX10_passes_180 (by decide) ?_
              exact ih127 x3_127 (xn4_127 + 1) mf_passed_127 (by first | omega | (clear hP hD hS hl hQ; grind)) (by first | assumption | omega | (clear hP hD hS hl hQ; grind)) H locs ls hP hD hS (lv_sub hl [1, 2, 3, 4, 0] rfl)
            · have kn12 : (f_planTime xn4_127).toInt = x3_127.toInt := congrArg Int32.toInt kc10
              refine lv_aload_n hx hb dX10_passes_169 rfl (lv_at hl 0 rfl) ?_
              refine va_get (D := D) (ci := 10) (v := .ref (a 27)) (C := RX10) (T := TX10) (N := 96) hx hb hts inlX10 hown hK hP 0 rfl rfl 47 (by decide) (hts _ q220) (fun _ h => h) rfl dX10_passes_170 ?_
              refine lv_iload hx hb dX10_passes_173 (lv_at hl 4 rfl) ?_
              refine va_iald hx hb hK hP 28 0 rfl rfl (vr_in (by first | omega | (clear hP hD hS hl hQ; grind)) (by decide)) dX10_passes_175 ?_
              refine lv_topi (nm_r (e' := (f_planKind xn4_127)) (vr_ld (by first | omega | (clear hP hD hS hl hQ; grind))) ?_)
              rw [hQ]
              exact vz_iret3 hx hb hr hlk hK hP hD hS (mf_passed_127, q_quiet, f_quietStatement, f_quietPart, f_quietTime) (⟨(by (try dsimp only) <;> (omega)), (by exact Or.inr (hpk xn4_127 hk9))⟩) rfl (Nat.le_refl 0) (Nat.le_refl 0) dX10_passes_176
  refine lv_aload_n hx hb dX10_passes_0 rfl (lv_at hl 0 rfl) ?_
  refine va_get (D := D) (ci := 10) (v := .ref (a 54)) (C := RX10) (T := TX10) (N := 96) hx hb hts inlX10 hown hK hP 0 rfl rfl 82 (by decide) (hts _ q248) (fun _ h => h) rfl dX10_passes_1 ?_
  refine lv_bipush (v := 7) hx hb dX10_passes_4 (by decide) ?_
  refine lv_iload_n hx hb dX10_passes_6 rfl (lv_at hl 1 rfl) ?_
  refine lv_imul hx hb dX10_passes_7 ?_
  refine lv_topi (nm_r (e' := (nI (7 * gs))) (vz_mul 7 gs) ?_)
  refine lv_iload_n hx hb dX10_passes_8 rfl (lv_at hl 2 rfl) ?_
  refine lv_iadd hx hb dX10_passes_9 ?_
  refine lv_topi (nm_r (e' := (nI ((7 * gs) + gp))) (nI_add (7 * gs) gp) ?_)
  refine lv_dup2_11 hx hb dX10_passes_10 rfl rfl ?_
  refine va_iald hx hb hK hP 55 0 rfl rfl (vr_in (by first | omega | (clear hP hD hS hl hQ; grind)) (by decide)) dX10_passes_11 ?_
  refine lv_topi (nm_r (e' := (f_passed ((7 * gs) + gp))) (vr_ld (by first | omega | (clear hP hD hS hl hQ; grind))) ?_)
  refine lv_iconst (v := 1) hx hb dX10_passes_12 (by decide) ?_
  refine lv_iadd hx hb dX10_passes_13 ?_
  refine va_iast hx hb hK hP hD hS 55 0 rfl rfl (vr_in (by first | omega | (clear hP hD hS hl hQ; grind)) (by decide)) dX10_passes_14 (fun H locs hP hD hS => ?_)
  obtain ⟨f_passed_1, hf_passed_1, hP, hD⟩ : ∃ z : Nat → Int32, z = upd f_passed ((7 * gs) + gp) ((f_passed ((7 * gs) + gp)) + 1) ∧ va_P D vwCl (vz_w [rmW g h a f_words f_text q_size q_at q_token q_tokenAt q_which q_value q_live q_draft q_hasProgram f_stat f_statements f_entryKind f_entryValue f_firstOf f_catchOf f_catchKind f_catchBlock f_catches f_body f_methods f_above f_kinds q_entries q_blocks q_fault q_faultAt q_faultTold q_checks f_checkHow f_checkAt f_checkValue q_waits f_wait f_waitValue q_deep q_isOver q_piled f_pileKind f_pileStatement f_pileBlock f_pileLast q_planned f_planStatement f_planPart f_planTime f_planKind f_hasRun q_slot f_told f_tape f_failedKind f_cause f_underFirst f_underNext f_failedAt f_underWay f_traces f_closings f_enteredOf q_left q_ended q_signal q_signalValue q_frames f_frameKind f_frameStatement f_frameNow f_pending f_pendingValue f_firstResource f_openedOf f_caught q_acts f_actVar f_actRow f_actMethod f_actStatement q_rows f_rowSize f_rowItem z q_planning q_aloneStatement q_alonePart q_aloneTime q_quiet f_quietStatement f_quietPart f_quietTime f_stack q_stacked q_wrong f_wayOut q_wayOuts]) H ∧ va_D A (vz_w [rmW g h a f_words f_text q_size q_at q_token q_tokenAt q_which q_value q_live q_draft q_hasProgram f_stat f_statements f_entryKind f_entryValue f_firstOf f_catchOf f_catchKind f_catchBlock f_catches f_body f_methods f_above f_kinds q_entries q_blocks q_fault q_faultAt q_faultTold q_checks f_checkHow f_checkAt f_checkValue q_waits f_wait f_waitValue q_deep q_isOver q_piled f_pileKind f_pileStatement f_pileBlock f_pileLast q_planned f_planStatement f_planPart f_planTime f_planKind f_hasRun q_slot f_told f_tape f_failedKind f_cause f_underFirst f_underNext f_failedAt f_underWay f_traces f_closings f_enteredOf q_left q_ended q_signal q_signalValue q_frames f_frameKind f_frameStatement f_frameNow f_pending f_pendingValue f_firstResource f_openedOf f_caught q_acts f_actVar f_actRow f_actMethod f_actStatement q_rows f_rowSize f_rowItem z q_planning q_aloneStatement q_alonePart q_aloneTime q_quiet f_quietStatement f_quietPart f_quietTime f_stack q_stacked q_wrong f_wayOut q_wayOuts]) := ⟨_, vr_st (by first | omega | (clear hP hD hS hl hQ; grind)), hP, hD⟩
  refine lv_aload_n hx hb dX10_passes_15 rfl (lv_at hl 0 rfl) ?_
  refine va_get (D := D) (ci := 10) (v := .ref (a 54)) (C := RX10) (T := TX10) (N := 96) hx hb hts inlX10 hown hK hP 0 rfl rfl 82 (by decide) (hts _ q248) (fun _ h => h) rfl dX10_passes_16 ?_
  refine lv_bipush (v := 7) hx hb dX10_passes_19 (by decide) ?_
  refine lv_iload_n hx hb dX10_passes_21 rfl (lv_at hl 1 rfl) ?_
  refine lv_imul hx hb dX10_passes_22 ?_
  refine lv_topi (nm_r (e' := (nI (7 * gs))) (vz_mul 7 gs) ?_)
  refine lv_iload_n hx hb dX10_passes_23 rfl (lv_at hl 2 rfl) ?_
  refine lv_iadd hx hb dX10_passes_24 ?_
  refine lv_topi (nm_r (e' := (nI ((7 * gs) + gp))) (nI_add (7 * gs) gp) ?_)
  refine va_iald hx hb hK hP 55 0 rfl rfl (vr_in (by first | omega | (clear hP hD hS hl hQ; grind)) (by decide)) dX10_passes_25 ?_
  refine lv_topi (nm_r (e' := (f_passed_1 ((7 * gs) + gp))) (vr_ld (by first | omega | (clear hP hD hS hl hQ; grind))) ?_)
  refine lv_istore_n (lv' := [(3, .int (f_passed_1 ((7 * gs) + gp))), (0, .ref h), (1, .int (nI gs)), (2, .int (nI gp))]) hx hb dX10_passes_26 rfl hl (by decide) rfl (fun ls hl => ?_)
  refine lv_aload_n hx hb dX10_passes_27 rfl (lv_at hl 1 rfl) ?_
  refine va_get (D := D) (ci := 10) (v := .int q_planning) (C := RX10) (T := TX10) (N := 96) hx hb hts inlX10 hown hK hP 0 rfl rfl 83 (by decide) (hts _ q1360) (fun _ h => h) rfl dX10_passes_28 ?_
  refine lv_iconst (v := 1) hx hb dX10_passes_31 (by decide) ?_
  refine lv_icmp_ne (tgt := 86) hx hb dX10_passes_32 (by decide) (fun kc2 => ?_) (fun kc2 => ?_)
  · have kn3 : ¬ q_planning.toInt = 1 := fun q => kc2 (Int32.toInt_inj.mp q)
    refine lv_aload_n hx hb dX10_passes_86 rfl (lv_at hl 1 rfl) ?_
    refine va_get (D := D) (ci := 10) (v := .int q_planning) (C := RX10) (T := TX10) (N := 96) hx hb hts inlX10 hown hK hP 0 rfl rfl 83 (by decide) (hts _ q1360) (fun _ h => h) rfl dX10_passes_87 ?_
    refine lv_iconst (v := 2) hx hb dX10_passes_90 (by decide) ?_
    refine lv_icmp_ne (tgt := 124) hx hb dX10_passes_91 (by decide) (fun kc4 => ?_) (fun kc4 => ?_)
    · have kn5 : ¬ q_planning.toInt = 2 := fun q => kc4 (Int32.toInt_inj.mp q)
      refine lv_iconst (v := 0) hx hb dX10_passes_124 (by decide) ?_
      refine lv_istore (lv' := [(4, .int 0), (3, .int (f_passed_1 ((7 * gs) + gp))), (0, .ref h), (1, .int (nI gs)), (2, .int (nI gp))]) hx hb dX10_passes_125 hl (by decide) rfl (fun ls hl => ?_)
      exact J127 (q_planned - 0 + 1) (f_passed_1 ((7 * gs) + gp)) 0 f_passed_1 (Nat.lt_succ_self _) (by first | assumption | omega | (clear hP hD hS hl hQ; grind)) H locs ls hP hD hS (lv_sub hl [2, 3, 4, 1, 0] rfl)
    · have kn6 : q_planning.toInt = 2 := congrArg Int32.toInt kc4
      refine lv_iload_n hx hb dX10_passes_94 rfl (lv_at hl 2 rfl) ?_
      refine lv_aload_n hx hb dX10_passes_95 rfl (lv_at hl 1 rfl) ?_
      refine va_get (D := D) (ci := 10) (v := .int q_aloneStatement) (C := RX10) (T := TX10) (N := 96) hx hb hts inlX10 hown hK hP 0 rfl rfl 84 (by decide) (hts _ q1408) (fun _ h => h) rfl dX10_passes_96 ?_
      refine lv_icmp_ne (tgt := 122) hx hb dX10_passes_99 (by decide) (fun kc7 => ?_) (fun kc7 => ?_)
      · try (have kn8 : ¬ ((gs : Nat) : Int) = q_aloneStatement.toInt := by (have q : ¬ (nI gs).toInt = q_aloneStatement.toInt := fun q => kc7 (Int32.toInt_inj.mp q)); rw [nI_toInt (n := gs) (by first | omega | (clear hP hD hS hl hQ; grind))] at q; exact q)
        refine lv_iconst (v := (-1)) hx hb dX10_passes_122 (by decide) ?_
        rw [hQ]
        exact vz_iret3 hx hb hr hlk hK hP hD hS (f_passed_1, q_quiet, f_quietStatement, f_quietPart, f_quietTime) (⟨(by (try dsimp only) <;> (omega)), (by exact Or.inl rfl)⟩) rfl (Nat.le_refl 0) (Nat.le_refl 0) dX10_passes_123
      · try (have kn9 : ((gs : Nat) : Int) = q_aloneStatement.toInt := by (have q : (nI gs).toInt = q_aloneStatement.toInt := congrArg Int32.toInt kc7); rw [nI_toInt (n := gs) (by first | omega | (clear hP hD hS hl hQ; grind))] at q; exact q)
        refine lv_iload_n hx hb dX10_passes_102 rfl (lv_at hl 3 rfl) ?_
        refine lv_aload_n hx hb dX10_passes_103 rfl (lv_at hl 1 rfl) ?_
        refine va_get (D := D) (ci := 10) (v := .int q_alonePart) (C := RX10) (T := TX10) (N := 96) hx hb hts inlX10 hown hK hP 0 rfl rfl 85 (by decide) (hts _ q1409) (fun _ h => h) rfl dX10_passes_104 ?_
        refine lv_icmp_ne (tgt := 122) hx hb dX10_passes_107 (by decide) (fun kc10 => ?_) (fun kc10 => ?_)
        · try (have kn11 : ¬ ((gp : Nat) : Int) = q_alonePart.toInt := by (have q : ¬ (nI gp).toInt = q_alonePart.toInt := fun q => kc10 (Int32.toInt_inj.mp q)); rw [nI_toInt (n := gp) (by first | omega | (clear hP hD hS hl hQ; grind))] at q; exact q)
          refine lv_iconst (v := (-1)) hx hb dX10_passes_122 (by decide) ?_
          rw [hQ]
          exact vz_iret3 hx hb hr hlk hK hP hD hS (f_passed_1, q_quiet, f_quietStatement, f_quietPart, f_quietTime) (⟨(by (try dsimp only) <;> (omega)), (by exact Or.inl rfl)⟩) rfl (Nat.le_refl 0) (Nat.le_refl 0) dX10_passes_123
        · try (have kn12 : ((gp : Nat) : Int) = q_alonePart.toInt := by (have q : (nI gp).toInt = q_alonePart.toInt := congrArg Int32.toInt kc10); rw [nI_toInt (n := gp) (by first | omega | (clear hP hD hS hl hQ; grind))] at q; exact q)
          refine lv_iload_n hx hb dX10_passes_110 rfl (lv_at hl 0 rfl) ?_
          refine lv_aload_n hx hb dX10_passes_111 rfl (lv_at hl 1 rfl) ?_
          refine va_get (D := D) (ci := 10) (v := .int q_aloneTime) (C := RX10) (T := TX10) (N := 96) hx hb hts inlX10 hown hK hP 0 rfl rfl 86 (by decide) (hts _ q1410) (fun _ h => h) rfl dX10_passes_112 ?_
          refine lv_icmp_ne (tgt := 122) hx hb dX10_passes_115 (by decide) (fun kc13 => ?_) (fun kc13 => ?_)
          · have kn14 : ¬ (f_passed_1 ((7 * gs) + gp)).toInt = q_aloneTime.toInt := fun q => kc13 (Int32.toInt_inj.mp q)
            refine lv_iconst (v := (-1)) hx hb dX10_passes_122 (by decide) ?_
            rw [hQ]
            exact vz_iret3 hx hb hr hlk hK hP hD hS (f_passed_1, q_quiet, f_quietStatement, f_quietPart, f_quietTime) (⟨(by (try dsimp only) <;> (omega)), (by exact Or.inl rfl)⟩) rfl (Nat.le_refl 0) (Nat.le_refl 0) dX10_passes_123
          · have kn15 : (f_passed_1 ((7 * gs) + gp)).toInt = q_aloneTime.toInt := congrArg Int32.toInt kc13
            refine lv_iconst (v := 0) hx hb dX10_passes_118 (by decide) ?_
            refine lv_goto (tgt := 123) hx hb dX10_passes_119 (by decide) ?_
            rw [hQ]
            exact vz_iret3 hx hb hr hlk hK hP hD hS (f_passed_1, q_quiet, f_quietStatement, f_quietPart, f_quietTime) (⟨(by (try dsimp only) <;> (omega)), (by exact Or.inr ⟨0, Nat.lt_of_lt_of_le (by decide) h7, rfl⟩)⟩) rfl (Nat.le_refl 0) (Nat.le_refl 0) dX10_passes_123
  · have kn16 : q_planning.toInt = 1 := congrArg Int32.toInt kc2
    refine lv_aload_n hx hb dX10_passes_35 rfl (lv_at hl 1 rfl) ?_
    refine va_get (D := D) (ci := 10) (v := .int (nI q_quiet)) (C := RX10) (T := TX10) (N := 96) hx hb hts inlX10 hown hK hP 0 rfl rfl 87 (by decide) (hts _ q1407) (fun _ h => h) rfl dX10_passes_36 ?_
    refine lv_bipush (v := 60) hx hb dX10_passes_39 (by decide) ?_
    refine lv_icmp_ge (tgt := 84) hx hb dX10_passes_41 (by decide) (fun kc17 => ?_) (fun kc17 => ?_)
    · try (have kn18 : 60 ≤ q_quiet := (vr_le (a := 60) (b := q_quiet) (by first | omega | (clear hP hD hS hl hQ; grind)) (by first | omega | (clear hP hD hS hl hQ; grind))).mp kc17)
      refine lv_iconst (v := (-1)) hx hb dX10_passes_84 (by decide) ?_
      rw [hQ]
      exact vz_iret3 hx hb hr hlk hK hP hD hS (f_passed_1, q_quiet, f_quietStatement, f_quietPart, f_quietTime) (⟨(by (try dsimp only) <;> (omega)), (by exact Or.inl rfl)⟩) rfl (Nat.le_refl 0) (Nat.le_refl 0) dX10_passes_85
    · try (have kn19 : q_quiet < 60 := Nat.not_le.mp (fun h9 => kc17 ((vr_le (a := 60) (b := q_quiet) (by first | omega | (clear hP hD hS hl hQ; grind)) (by first | omega | (clear hP hD hS hl hQ; grind))).mpr h9)))
      refine lv_aload_n hx hb dX10_passes_44 rfl (lv_at hl 1 rfl) ?_
      refine va_get (D := D) (ci := 10) (v := .ref (a 55)) (C := RX10) (T := TX10) (N := 96) hx hb hts inlX10 hown hK hP 0 rfl rfl 88 (by decide) (hts _ q249) (fun _ h => h) rfl dX10_passes_45 ?_
      refine lv_aload_n hx hb dX10_passes_48 rfl (lv_at hl 1 rfl) ?_
      refine va_get (D := D) (ci := 10) (v := .int (nI q_quiet)) (C := RX10) (T := TX10) (N := 96) hx hb hts inlX10 hown hK hP 0 rfl rfl 87 (by decide) (hts _ q1407) (fun _ h => h) rfl dX10_passes_49 ?_
      refine lv_iload_n hx hb dX10_passes_52 rfl (lv_at hl 2 rfl) ?_
      refine va_iast hx hb hK hP hD hS 56 0 rfl rfl (vr_in (by first | omega | (clear hP hD hS hl hQ; grind)) (by decide)) dX10_passes_53 (fun H locs hP hD hS => ?_)
      obtain ⟨f_quietStatement_20, hf_quietStatement_20, hP, hD⟩ : ∃ z : Nat → Int32, z = upd f_quietStatement q_quiet (nI gs) ∧ va_P D vwCl (vz_w [rmW g h a f_words f_text q_size q_at q_token q_tokenAt q_which q_value q_live q_draft q_hasProgram f_stat f_statements f_entryKind f_entryValue f_firstOf f_catchOf f_catchKind f_catchBlock f_catches f_body f_methods f_above f_kinds q_entries q_blocks q_fault q_faultAt q_faultTold q_checks f_checkHow f_checkAt f_checkValue q_waits f_wait f_waitValue q_deep q_isOver q_piled f_pileKind f_pileStatement f_pileBlock f_pileLast q_planned f_planStatement f_planPart f_planTime f_planKind f_hasRun q_slot f_told f_tape f_failedKind f_cause f_underFirst f_underNext f_failedAt f_underWay f_traces f_closings f_enteredOf q_left q_ended q_signal q_signalValue q_frames f_frameKind f_frameStatement f_frameNow f_pending f_pendingValue f_firstResource f_openedOf f_caught q_acts f_actVar f_actRow f_actMethod f_actStatement q_rows f_rowSize f_rowItem f_passed_1 q_planning q_aloneStatement q_alonePart q_aloneTime q_quiet z f_quietPart f_quietTime f_stack q_stacked q_wrong f_wayOut q_wayOuts]) H ∧ va_D A (vz_w [rmW g h a f_words f_text q_size q_at q_token q_tokenAt q_which q_value q_live q_draft q_hasProgram f_stat f_statements f_entryKind f_entryValue f_firstOf f_catchOf f_catchKind f_catchBlock f_catches f_body f_methods f_above f_kinds q_entries q_blocks q_fault q_faultAt q_faultTold q_checks f_checkHow f_checkAt f_checkValue q_waits f_wait f_waitValue q_deep q_isOver q_piled f_pileKind f_pileStatement f_pileBlock f_pileLast q_planned f_planStatement f_planPart f_planTime f_planKind f_hasRun q_slot f_told f_tape f_failedKind f_cause f_underFirst f_underNext f_failedAt f_underWay f_traces f_closings f_enteredOf q_left q_ended q_signal q_signalValue q_frames f_frameKind f_frameStatement f_frameNow f_pending f_pendingValue f_firstResource f_openedOf f_caught q_acts f_actVar f_actRow f_actMethod f_actStatement q_rows f_rowSize f_rowItem f_passed_1 q_planning q_aloneStatement q_alonePart q_aloneTime q_quiet z f_quietPart f_quietTime f_stack q_stacked q_wrong f_wayOut q_wayOuts]) := ⟨_, vr_st (by first | omega | (clear hP hD hS hl hQ; grind)), hP, hD⟩
      refine lv_aload_n hx hb dX10_passes_54 rfl (lv_at hl 1 rfl) ?_
      refine va_get (D := D) (ci := 10) (v := .ref (a 56)) (C := RX10) (T := TX10) (N := 96) hx hb hts inlX10 hown hK hP 0 rfl rfl 89 (by decide) (hts _ q250) (fun _ h => h) rfl dX10_passes_55 ?_
      refine lv_aload_n hx hb dX10_passes_58 rfl (lv_at hl 1 rfl) ?_
      refine va_get (D := D) (ci := 10) (v := .int (nI q_quiet)) (C := RX10) (T := TX10) (N := 96) hx hb hts inlX10 hown hK hP 0 rfl rfl 87 (by decide) (hts _ q1407) (fun _ h => h) rfl dX10_passes_59 ?_
      refine lv_iload_n hx hb dX10_passes_62 rfl (lv_at hl 3 rfl) ?_
      refine va_iast hx hb hK hP hD hS 57 0 rfl rfl (vr_in (by first | omega | (clear hP hD hS hl hQ; grind)) (by decide)) dX10_passes_63 (fun H locs hP hD hS => ?_)
      obtain ⟨f_quietPart_21, hf_quietPart_21, hP, hD⟩ : ∃ z : Nat → Int32, z = upd f_quietPart q_quiet (nI gp) ∧ va_P D vwCl (vz_w [rmW g h a f_words f_text q_size q_at q_token q_tokenAt q_which q_value q_live q_draft q_hasProgram f_stat f_statements f_entryKind f_entryValue f_firstOf f_catchOf f_catchKind f_catchBlock f_catches f_body f_methods f_above f_kinds q_entries q_blocks q_fault q_faultAt q_faultTold q_checks f_checkHow f_checkAt f_checkValue q_waits f_wait f_waitValue q_deep q_isOver q_piled f_pileKind f_pileStatement f_pileBlock f_pileLast q_planned f_planStatement f_planPart f_planTime f_planKind f_hasRun q_slot f_told f_tape f_failedKind f_cause f_underFirst f_underNext f_failedAt f_underWay f_traces f_closings f_enteredOf q_left q_ended q_signal q_signalValue q_frames f_frameKind f_frameStatement f_frameNow f_pending f_pendingValue f_firstResource f_openedOf f_caught q_acts f_actVar f_actRow f_actMethod f_actStatement q_rows f_rowSize f_rowItem f_passed_1 q_planning q_aloneStatement q_alonePart q_aloneTime q_quiet f_quietStatement_20 z f_quietTime f_stack q_stacked q_wrong f_wayOut q_wayOuts]) H ∧ va_D A (vz_w [rmW g h a f_words f_text q_size q_at q_token q_tokenAt q_which q_value q_live q_draft q_hasProgram f_stat f_statements f_entryKind f_entryValue f_firstOf f_catchOf f_catchKind f_catchBlock f_catches f_body f_methods f_above f_kinds q_entries q_blocks q_fault q_faultAt q_faultTold q_checks f_checkHow f_checkAt f_checkValue q_waits f_wait f_waitValue q_deep q_isOver q_piled f_pileKind f_pileStatement f_pileBlock f_pileLast q_planned f_planStatement f_planPart f_planTime f_planKind f_hasRun q_slot f_told f_tape f_failedKind f_cause f_underFirst f_underNext f_failedAt f_underWay f_traces f_closings f_enteredOf q_left q_ended q_signal q_signalValue q_frames f_frameKind f_frameStatement f_frameNow f_pending f_pendingValue f_firstResource f_openedOf f_caught q_acts f_actVar f_actRow f_actMethod f_actStatement q_rows f_rowSize f_rowItem f_passed_1 q_planning q_aloneStatement q_alonePart q_aloneTime q_quiet f_quietStatement_20 z f_quietTime f_stack q_stacked q_wrong f_wayOut q_wayOuts]) := ⟨_, vr_st (by first | omega | (clear hP hD hS hl hQ; grind)), hP, hD⟩
      refine lv_aload_n hx hb dX10_passes_64 rfl (lv_at hl 1 rfl) ?_
      refine va_get (D := D) (ci := 10) (v := .ref (a 57)) (C := RX10) (T := TX10) (N := 96) hx hb hts inlX10 hown hK hP 0 rfl rfl 90 (by decide) (hts _ q251) (fun _ h => h) rfl dX10_passes_65 ?_
      refine lv_aload_n hx hb dX10_passes_68 rfl (lv_at hl 1 rfl) ?_
      refine va_get (D := D) (ci := 10) (v := .int (nI q_quiet)) (C := RX10) (T := TX10) (N := 96) hx hb hts inlX10 hown hK hP 0 rfl rfl 87 (by decide) (hts _ q1407) (fun _ h => h) rfl dX10_passes_69 ?_
      refine lv_iload_n hx hb dX10_passes_72 rfl (lv_at hl 0 rfl) ?_
      refine va_iast hx hb hK hP hD hS 58 0 rfl rfl (vr_in (by first | omega | (clear hP hD hS hl hQ; grind)) (by decide)) dX10_passes_73 (fun H locs hP hD hS => ?_)
      obtain ⟨f_quietTime_22, hf_quietTime_22, hP, hD⟩ : ∃ z : Nat → Int32, z = upd f_quietTime q_quiet (f_passed_1 ((7 * gs) + gp)) ∧ va_P D vwCl (vz_w [rmW g h a f_words f_text q_size q_at q_token q_tokenAt q_which q_value q_live q_draft q_hasProgram f_stat f_statements f_entryKind f_entryValue f_firstOf f_catchOf f_catchKind f_catchBlock f_catches f_body f_methods f_above f_kinds q_entries q_blocks q_fault q_faultAt q_faultTold q_checks f_checkHow f_checkAt f_checkValue q_waits f_wait f_waitValue q_deep q_isOver q_piled f_pileKind f_pileStatement f_pileBlock f_pileLast q_planned f_planStatement f_planPart f_planTime f_planKind f_hasRun q_slot f_told f_tape f_failedKind f_cause f_underFirst f_underNext f_failedAt f_underWay f_traces f_closings f_enteredOf q_left q_ended q_signal q_signalValue q_frames f_frameKind f_frameStatement f_frameNow f_pending f_pendingValue f_firstResource f_openedOf f_caught q_acts f_actVar f_actRow f_actMethod f_actStatement q_rows f_rowSize f_rowItem f_passed_1 q_planning q_aloneStatement q_alonePart q_aloneTime q_quiet f_quietStatement_20 f_quietPart_21 z f_stack q_stacked q_wrong f_wayOut q_wayOuts]) H ∧ va_D A (vz_w [rmW g h a f_words f_text q_size q_at q_token q_tokenAt q_which q_value q_live q_draft q_hasProgram f_stat f_statements f_entryKind f_entryValue f_firstOf f_catchOf f_catchKind f_catchBlock f_catches f_body f_methods f_above f_kinds q_entries q_blocks q_fault q_faultAt q_faultTold q_checks f_checkHow f_checkAt f_checkValue q_waits f_wait f_waitValue q_deep q_isOver q_piled f_pileKind f_pileStatement f_pileBlock f_pileLast q_planned f_planStatement f_planPart f_planTime f_planKind f_hasRun q_slot f_told f_tape f_failedKind f_cause f_underFirst f_underNext f_failedAt f_underWay f_traces f_closings f_enteredOf q_left q_ended q_signal q_signalValue q_frames f_frameKind f_frameStatement f_frameNow f_pending f_pendingValue f_firstResource f_openedOf f_caught q_acts f_actVar f_actRow f_actMethod f_actStatement q_rows f_rowSize f_rowItem f_passed_1 q_planning q_aloneStatement q_alonePart q_aloneTime q_quiet f_quietStatement_20 f_quietPart_21 z f_stack q_stacked q_wrong f_wayOut q_wayOuts]) := ⟨_, vr_st (by first | omega | (clear hP hD hS hl hQ; grind)), hP, hD⟩
      refine lv_aload_n hx hb dX10_passes_74 rfl (lv_at hl 1 rfl) ?_
      refine lv_dup hx hb dX10_passes_75 rfl ?_
      refine va_get (D := D) (ci := 10) (v := .int (nI q_quiet)) (C := RX10) (T := TX10) (N := 96) hx hb hts inlX10 hown hK hP 0 rfl rfl 87 (by decide) (hts _ q1407) (fun _ h => h) rfl dX10_passes_76 ?_
      refine lv_iconst (v := 1) hx hb dX10_passes_79 (by decide) ?_
      refine lv_iadd hx hb dX10_passes_80 ?_
      refine lv_topi (nm_r (e' := (nI (q_quiet + 1))) (nI_add q_quiet 1) ?_)
      refine va_put (D := D) (ci := 10) (v := .int (nI (q_quiet + 1))) (ty := .int) (C := RX10) (T := TX10) (N := 96) hx hb hts inlX10 tyX10 tyX10_ok nmX10 hown hK hP hD hS 0 rfl rfl 87 (by decide) (hts _ q1407) (fun _ h => h) rfl (by decide +kernel) rfl rfl (Nat.le_of_ble_eq_true rfl) dX10_passes_81 (fun H locs hP hD hS => ?_)
      replace hP : va_P D vwCl (vz_w [rmW g h a f_words f_text q_size q_at q_token q_tokenAt q_which q_value q_live q_draft q_hasProgram f_stat f_statements f_entryKind f_entryValue f_firstOf f_catchOf f_catchKind f_catchBlock f_catches f_body f_methods f_above f_kinds q_entries q_blocks q_fault q_faultAt q_faultTold q_checks f_checkHow f_checkAt f_checkValue q_waits f_wait f_waitValue q_deep q_isOver q_piled f_pileKind f_pileStatement f_pileBlock f_pileLast q_planned f_planStatement f_planPart f_planTime f_planKind f_hasRun q_slot f_told f_tape f_failedKind f_cause f_underFirst f_underNext f_failedAt f_underWay f_traces f_closings f_enteredOf q_left q_ended q_signal q_signalValue q_frames f_frameKind f_frameStatement f_frameNow f_pending f_pendingValue f_firstResource f_openedOf f_caught q_acts f_actVar f_actRow f_actMethod f_actStatement q_rows f_rowSize f_rowItem f_passed_1 q_planning q_aloneStatement q_alonePart q_aloneTime (q_quiet + 1) f_quietStatement_20 f_quietPart_21 f_quietTime_22 f_stack q_stacked q_wrong f_wayOut q_wayOuts]) H := hP
      replace hD : va_D A (vz_w [rmW g h a f_words f_text q_size q_at q_token q_tokenAt q_which q_value q_live q_draft q_hasProgram f_stat f_statements f_entryKind f_entryValue f_firstOf f_catchOf f_catchKind f_catchBlock f_catches f_body f_methods f_above f_kinds q_entries q_blocks q_fault q_faultAt q_faultTold q_checks f_checkHow f_checkAt f_checkValue q_waits f_wait f_waitValue q_deep q_isOver q_piled f_pileKind f_pileStatement f_pileBlock f_pileLast q_planned f_planStatement f_planPart f_planTime f_planKind f_hasRun q_slot f_told f_tape f_failedKind f_cause f_underFirst f_underNext f_failedAt f_underWay f_traces f_closings f_enteredOf q_left q_ended q_signal q_signalValue q_frames f_frameKind f_frameStatement f_frameNow f_pending f_pendingValue f_firstResource f_openedOf f_caught q_acts f_actVar f_actRow f_actMethod f_actStatement q_rows f_rowSize f_rowItem f_passed_1 q_planning q_aloneStatement q_alonePart q_aloneTime (q_quiet + 1) f_quietStatement_20 f_quietPart_21 f_quietTime_22 f_stack q_stacked q_wrong f_wayOut q_wayOuts]) := hD
      refine lv_iconst (v := (-1)) hx hb dX10_passes_84 (by decide) ?_
      rw [hQ]
      exact vz_iret3 hx hb hr hlk hK hP hD hS (f_passed_1, (q_quiet + 1), f_quietStatement_20, f_quietPart_21, f_quietTime_22) (⟨(by (try dsimp only) <;> (omega)), (by exact Or.inl rfl)⟩) rfl (Nat.le_refl 0) (Nat.le_refl 0) dX10_passes_85
