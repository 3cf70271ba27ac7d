theorem q243 : Cond.fieldLink RX10 202 "WaysAtlasModel" "actRow" "[I" ∈ wsL_law := mT_6 (List.mem_of_getElem? (i := 187) rfl) rfl
theorem dX10_row_0 : decode cX10_row 0 = .ok (.aload_n 0, 1) := by decide +kernel
theorem dX10_row_1 : decode cX10_row 1 = .ok (.getfield 202, 3) := by decide +kernel
theorem dX10_row_4 : decode cX10_row 4 = .ok (.iconst 3, 1) := by decide +kernel
theorem dX10_row_5 : decode cX10_row 5 = .ok (.aload_n 0, 1) := by decide +kernel
theorem dX10_row_6 : decode cX10_row 6 = .ok (.getfield 496, 3) := by decide +kernel
theorem dX10_row_9 : decode cX10_row 9 = .ok (.iconst 1, 1) := by decide +kernel
theorem dX10_row_10 : decode cX10_row 10 = .ok (.isub, 1) := by decide +kernel
theorem dX10_row_11 : decode cX10_row 11 = .ok (.imul, 1) := by decide +kernel
theorem dX10_row_12 : decode cX10_row 12 = .ok (.iload_n 1, 1) := by decide +kernel
theorem dX10_row_13 : decode cX10_row 13 = .ok (.iadd, 1) := by decide +kernel
theorem dX10_row_14 : decode cX10_row 14 = .ok (.iaload, 1) := by decide +kernel
theorem dX10_row_15 : decode cX10_row 15 = .ok (.ireturn, 1) := by decide +kernel
set_option maxHeartbeats 8000000 in
set_option maxRecDepth 100000 in
theorem r_row (l : Launch) (D : va_G) (g : Nat → ClassId)   (sz : Nat) (gr : Nat) (h : Nat) (a : Nat → Nat) (f_words : Nat → Int64) (f_text : Nat → Int32) (q_size : Nat) (q_at : Nat) (q_token : Int32) (q_tokenAt : Nat) (q_which : Int32) (q_value : Nat) (q_live : Nat) (q_draft : Nat) (q_hasProgram : Int32) (f_stat : Nat → Int32) (f_statements : Nat → Int32) (f_entryKind : Nat → Int32) (f_entryValue : Nat → Int32) (f_firstOf : Nat → Int32) (f_catchOf : Nat → Int32) (f_catchKind : Nat → Int32) (f_catchBlock : Nat → Int32) (f_catches : Nat → Int32) (f_body : Nat → Int32) (f_methods : Nat → Int32) (f_above : Nat → Int32) (f_kinds : Nat → Int32) (q_entries : Nat) (q_blocks : Nat) (q_fault : Int32) (q_faultAt : Int32) (q_faultTold : Int32) (q_checks : Nat) (f_checkHow : Nat → Int32) (f_checkAt : Nat → Int32) (f_checkValue : Nat → Int32) (q_waits : Nat) (f_wait : Nat → Int32) (f_waitValue : Nat → Int32) (q_deep : Int32) (q_isOver : Int32) (q_piled : Nat) (f_pileKind : Nat → Int32) (f_pileStatement : Nat → Int32) (f_pileBlock : Nat → Int32) (f_pileLast : Nat → Int32) (q_planned : Nat) (f_planStatement : Nat → Int32) (f_planPart : Nat → Int32) (f_planTime : Nat → Int32) (f_planKind : Nat → Int32) (f_hasRun : Nat → Int32) (q_slot : Nat) (f_told : Nat → Int32) (f_tape : Nat → Int32) (f_failedKind : Nat → Int32) (f_cause : Nat → Int32) (f_underFirst : Nat → Int32) (f_underNext : Nat → Int32) (f_failedAt : Nat → Int32) (f_underWay : Nat → Int32) (f_traces : Nat → Int32) (f_closings : Nat → Int32) (f_enteredOf : Nat → Int32) (q_left : Nat) (q_ended : Int32) (q_signal : Int32) (q_signalValue : Int32) (q_frames : Nat) (f_frameKind : Nat → Int32) (f_frameStatement : Nat → Int32) (f_frameNow : Nat → Int32) (f_pending : Nat → Int32) (f_pendingValue : Nat → Int32) (f_firstResource : Nat → Int32) (f_openedOf : Nat → Int32) (f_caught : Nat → Int32) (q_acts : Nat) (f_actVar : Nat → Int32) (f_actRow : Nat → Int32) (f_actMethod : Nat → Int32) (f_actStatement : Nat → Int32) (q_rows : Nat) (f_rowSize : Nat → Int32) (f_rowItem : Nat → Int32) (f_passed : Nat → Int32) (q_planning : Int32) (q_aloneStatement : Int32) (q_alonePart : Int32) (q_aloneTime : Int32) (q_quiet : Nat) (f_quietStatement : Nat → Int32) (f_quietPart : Nat → Int32) (f_quietTime : Nat → Int32) (f_stack : Nat → Int32) (q_stacked : Nat) (q_wrong : Int32) (f_wayOut : Nat → Int32) (q_wayOuts : Nat) (hac : 1 ≤ q_acts ∧ q_acts ≤ 12) (hgr : gr ≤ 2) : vz_Mi l D (tyG g) yX10_row cX10_row 2 0 0 0 0 .int [.ref h, .int (nI gr)] sz (vz_w [rmW g h a f_words f_text q_size q_at q_token q_tokenAt q_which q_value q_live q_draft q_hasProgram f_stat f_statements f_entryKind f_entryValue f_firstOf f_catchOf f_catchKind f_catchBlock f_catches f_body f_methods f_above f_kinds q_entries q_blocks q_fault q_faultAt q_faultTold q_checks f_checkHow f_checkAt f_checkValue q_waits f_wait f_waitValue q_deep q_isOver q_piled f_pileKind f_pileStatement f_pileBlock f_pileLast q_planned f_planStatement f_planPart f_planTime f_planKind f_hasRun q_slot f_told f_tape f_failedKind f_cause f_underFirst f_underNext f_failedAt f_underWay f_traces f_closings f_enteredOf q_left q_ended q_signal q_signalValue q_frames f_frameKind f_frameStatement f_frameNow f_pending f_pendingValue f_firstResource f_openedOf f_caught q_acts f_actVar f_actRow f_actMethod f_actStatement q_rows f_rowSize f_rowItem f_passed q_planning q_aloneStatement q_alonePart q_aloneTime q_quiet f_quietStatement f_quietPart f_quietTime f_stack q_stacked q_wrong f_wayOut q_wayOuts]) (fun r (u : Unit) => (r = f_actRow (3 * (q_acts - 1) + gr))) (fun u => vz_w [rmW g h a f_words f_text q_size q_at q_token q_tokenAt q_which q_value q_live q_draft q_hasProgram f_stat f_statements f_entryKind f_entryValue f_firstOf f_catchOf f_catchKind f_catchBlock f_catches f_body f_methods f_above f_kinds q_entries q_blocks q_fault q_faultAt q_faultTold q_checks f_checkHow f_checkAt f_checkValue q_waits f_wait f_waitValue q_deep q_isOver q_piled f_pileKind f_pileStatement f_pileBlock f_pileLast q_planned f_planStatement f_planPart f_planTime f_planKind f_hasRun q_slot f_told f_tape f_failedKind f_cause f_underFirst f_underNext f_failedAt f_underWay f_traces f_closings f_enteredOf q_left q_ended q_signal q_signalValue q_frames f_frameKind f_frameStatement f_frameNow f_pending f_pendingValue f_firstResource f_openedOf f_caught q_acts f_actVar f_actRow f_actMethod f_actStatement q_rows f_rowSize f_rowItem f_passed q_planning q_aloneStatement q_alonePart q_aloneTime q_quiet f_quietStatement f_quietPart f_quietTime f_stack q_stacked q_wrong f_wayOut q_wayOuts]) := by
  refine vz_siQ (by decide) (Nat.le_of_ble_eq_true rfl) (fun p e s m args below meth c hx hb hr hml hts hown hlk hin hK hsz A hA H locs hP hD hS ls hl Q hQ => ?_)
  have hl : lv_has ls 2 [(0, .ref h), (1, .int (nI gr))] := hl
  refine lv_aload_n hx hb dX10_row_0 rfl (lv_at hl 0 rfl) ?_
  refine va_get (D := D) (ci := 10) (v := .ref (a 49)) (C := RX10) (T := TX10) (N := 96) hx hb hts inlX10 hown hK hP 0 rfl rfl 76 (by decide) (hts _ q243) (fun _ h => h) rfl dX10_row_1 ?_
  refine lv_iconst (v := 3) hx hb dX10_row_4 (by decide) ?_
  refine lv_aload_n hx hb dX10_row_5 rfl (lv_at hl 0 rfl) ?_
  refine va_get (D := D) (ci := 10) (v := .int (nI q_acts)) (C := RX10) (T := TX10) (N := 96) hx hb hts inlX10 hown hK hP 0 rfl rfl 74 (by decide) (hts _ q1372) (fun _ h => h) rfl dX10_row_6 ?_
  refine lv_iconst (v := 1) hx hb dX10_row_9 (by decide) ?_
  refine lv_isub hx hb dX10_row_10 ?_
  refine lv_topi (nm_r (e' := (nI (q_acts - 1))) (vr_sub (by first | omega | (clear hP hD hS hl hQ; grind))) ?_)
  refine lv_imul hx hb dX10_row_11 ?_
  refine lv_topi (nm_r (e' := (nI (3 * (q_acts - 1)))) (vz_mul 3 (q_acts - 1)) ?_)
  refine lv_iload_n hx hb dX10_row_12 rfl (lv_at hl 1 rfl) ?_
  refine lv_iadd hx hb dX10_row_13 ?_
  refine lv_topi (nm_r (e' := (nI ((3 * (q_acts - 1)) + gr))) (nI_add (3 * (q_acts - 1)) gr) ?_)
  refine va_iald hx hb hK hP 50 0 rfl rfl (vr_in (by first | omega | (clear hP hD hS hl hQ; grind)) (by decide)) dX10_row_14 ?_
  refine lv_topi (nm_r (e' := (f_actRow ((3 * (q_acts - 1)) + gr))) (vr_ld (by first | omega | (clear hP hD hS hl hQ; grind))) ?_)
  rw [hQ]
  exact vz_iret3 hx hb hr hlk hK hP hD hS () (rfl) rfl (Nat.le_refl 0) (Nat.le_refl 0) dX10_row_15
theorem q1430 : Cond.methodLink RX10 517 yX10_row ∈ wsL_law := mT_8 (List.mem_of_getElem? (i := 219) rfl) rfl
theorem q1431 : Cond.instanceMethod yX10_row ∈ wsL_law := mT_8 (List.mem_of_getElem? (i := 221) rfl) rfl
theorem q1432 : Cond.selects RX10 yX10_row yX10_row ∈ wsL_law := mS_11 (q := (yX10_row, 96)) (List.mem_of_getElem? (i := 9) rfl) rfl
theorem q1433 : Cond.code yX10_row cX10_row 2 (some .int) ∈ wsL_law := mT_8 (List.mem_of_getElem? (i := 222) rfl) rfl
theorem kv_X10_517 : vz_cv RX10 517 yX10_row cX10_row 2 (some .int) 1 := ⟨q1430, q1431, q1432, q5, q1433, by decide +kernel⟩
theorem q1429 : Cond.fieldLink RX10 520 "WaysAtlasModel" "wrong" "I" ∈ wsL_law := mT_6 (List.mem_of_getElem? (i := 204) rfl) rfl
theorem q246 : Cond.fieldLink RX10 211 "WaysAtlasModel" "rowSize" "[I" ∈ wsL_law := mT_6 (List.mem_of_getElem? (i := 191) rfl) rfl
theorem q247 : Cond.fieldLink RX10 214 "WaysAtlasModel" "rowItem" "[I" ∈ wsL_law := mT_6 (List.mem_of_getElem? (i := 192) rfl) rfl
theorem dX10_evalRow_0 : decode cX10_evalRow 0 = .ok (.aload_n 0, 1) := by decide +kernel
theorem dX10_evalRow_1 : decode cX10_evalRow 1 = .ok (.iload_n 1, 1) := by decide +kernel
theorem dX10_evalRow_2 : decode cX10_evalRow 2 = .ok (.invokevirtual 517, 3) := by decide +kernel
theorem dX10_evalRow_5 : decode cX10_evalRow 5 = .ok (.ifCond .ge 10, 3) := by decide +kernel
theorem dX10_evalRow_8 : decode cX10_evalRow 8 = .ok (.aload_n 0, 1) := by decide +kernel
theorem dX10_evalRow_9 : decode cX10_evalRow 9 = .ok (.iconst 4, 1) := by decide +kernel
theorem dX10_evalRow_10 : decode cX10_evalRow 10 = .ok (.putfield 520, 3) := by decide +kernel
theorem dX10_evalRow_13 : decode cX10_evalRow 13 = .ok (.iconst 0, 1) := by decide +kernel
theorem dX10_evalRow_14 : decode cX10_evalRow 14 = .ok (.ireturn, 1) := by decide +kernel
theorem dX10_evalRow_15 : decode cX10_evalRow 15 = .ok (.iload_n 2, 1) := by decide +kernel
theorem dX10_evalRow_16 : decode cX10_evalRow 16 = .ok (.iconst 0, 1) := by decide +kernel
theorem dX10_evalRow_17 : decode cX10_evalRow 17 = .ok (.aload_n 0, 1) := by decide +kernel
theorem dX10_evalRow_18 : decode cX10_evalRow 18 = .ok (.getfield 211, 3) := by decide +kernel
theorem dX10_evalRow_21 : decode cX10_evalRow 21 = .ok (.aload_n 0, 1) := by decide +kernel
theorem dX10_evalRow_22 : decode cX10_evalRow 22 = .ok (.iload_n 1, 1) := by decide +kernel
theorem dX10_evalRow_23 : decode cX10_evalRow 23 = .ok (.invokevirtual 517, 3) := by decide +kernel
theorem dX10_evalRow_26 : decode cX10_evalRow 26 = .ok (.iaload, 1) := by decide +kernel
theorem dX10_evalRow_27 : decode cX10_evalRow 27 = .ok (.iconst 1, 1) := by decide +kernel
theorem dX10_evalRow_28 : decode cX10_evalRow 28 = .ok (.isub, 1) := by decide +kernel
theorem dX10_evalRow_29 : decode cX10_evalRow 29 = .ok (.invokestatic 239, 3) := by decide +kernel
theorem dX10_evalRow_32 : decode cX10_evalRow 32 = .ok (.ifCond .ne 10, 3) := by decide +kernel
theorem dX10_evalRow_35 : decode cX10_evalRow 35 = .ok (.aload_n 0, 1) := by decide +kernel
theorem dX10_evalRow_36 : decode cX10_evalRow 36 = .ok (.iconst 3, 1) := by decide +kernel
theorem dX10_evalRow_37 : decode cX10_evalRow 37 = .ok (.putfield 520, 3) := by decide +kernel
theorem dX10_evalRow_40 : decode cX10_evalRow 40 = .ok (.iconst 0, 1) := by decide +kernel
theorem dX10_evalRow_41 : decode cX10_evalRow 41 = .ok (.ireturn, 1) := by decide +kernel
theorem dX10_evalRow_42 : decode cX10_evalRow 42 = .ok (.aload_n 0, 1) := by decide +kernel
theorem dX10_evalRow_43 : decode cX10_evalRow 43 = .ok (.getfield 214, 3) := by decide +kernel
theorem dX10_evalRow_46 : decode cX10_evalRow 46 = .ok (.bipush 8, 2) := by decide +kernel
theorem dX10_evalRow_48 : decode cX10_evalRow 48 = .ok (.aload_n 0, 1) := by decide +kernel
theorem dX10_evalRow_49 : decode cX10_evalRow 49 = .ok (.iload_n 1, 1) := by decide +kernel
theorem dX10_evalRow_50 : decode cX10_evalRow 50 = .ok (.invokevirtual 517, 3) := by decide +kernel
theorem dX10_evalRow_53 : decode cX10_evalRow 53 = .ok (.imul, 1) := by decide +kernel
theorem dX10_evalRow_54 : decode cX10_evalRow 54 = .ok (.iload_n 2, 1) := by decide +kernel
theorem dX10_evalRow_55 : decode cX10_evalRow 55 = .ok (.iadd, 1) := by decide +kernel
theorem dX10_evalRow_56 : decode cX10_evalRow 56 = .ok (.iaload, 1) := by decide +kernel
theorem dX10_evalRow_57 : decode cX10_evalRow 57 = .ok (.ireturn, 1) := by decide +kernel
set_option maxHeartbeats 8000000 in
set_option maxRecDepth 100000 in
theorem r_evalRow (l : Launch) (D : va_G) (g : Nat → ClassId)   (sz : Nat) (gr : Nat) (h : Nat) (a : Nat → Nat) (f_words : Nat → Int64) (f_text : Nat → Int32) (q_size : Nat) (q_at : Nat) (q_token : Int32) (q_tokenAt : Nat) (q_which : Int32) (q_value : Nat) (q_live : Nat) (q_draft : Nat) (q_hasProgram : Int32) (f_stat : Nat → Int32) (f_statements : Nat → Int32) (f_entryKind : Nat → Int32) (f_entryValue : Nat → Int32) (f_firstOf : Nat → Int32) (f_catchOf : Nat → Int32) (f_catchKind : Nat → Int32) (f_catchBlock : Nat → Int32) (f_catches : Nat → Int32) (f_body : Nat → Int32) (f_methods : Nat → Int32) (f_above : Nat → Int32) (f_kinds : Nat → Int32) (q_entries : Nat) (q_blocks : Nat) (q_fault : Int32) (q_faultAt : Int32) (q_faultTold : Int32) (q_checks : Nat) (f_checkHow : Nat → Int32) (f_checkAt : Nat → Int32) (f_checkValue : Nat → Int32) (q_waits : Nat) (f_wait : Nat → Int32) (f_waitValue : Nat → Int32) (q_deep : Int32) (q_isOver : Int32) (q_piled : Nat) (f_pileKind : Nat → Int32) (f_pileStatement : Nat → Int32) (f_pileBlock : Nat → Int32) (f_pileLast : Nat → Int32) (q_planned : Nat) (f_planStatement : Nat → Int32) (f_planPart : Nat → Int32) (f_planTime : Nat → Int32) (f_planKind : Nat → Int32) (f_hasRun : Nat → Int32) (q_slot : Nat) (f_told : Nat → Int32) (f_tape : Nat → Int32) (f_failedKind : Nat → Int32) (f_cause : Nat → Int32) (f_underFirst : Nat → Int32) (f_underNext : Nat → Int32) (f_failedAt : Nat → Int32) (f_underWay : Nat → Int32) (f_traces : Nat → Int32) (f_closings : Nat → Int32) (f_enteredOf : Nat → Int32) (q_left : Nat) (q_ended : Int32) (q_signal : Int32) (q_signalValue : Int32) (q_frames : Nat) (f_frameKind : Nat → Int32) (f_frameStatement : Nat → Int32) (f_frameNow : Nat → Int32) (f_pending : Nat → Int32) (f_pendingValue : Nat → Int32) (f_firstResource : Nat → Int32) (f_openedOf : Nat → Int32) (f_caught : Nat → Int32) (q_acts : Nat) (f_actVar : Nat → Int32) (f_actRow : Nat → Int32) (f_actMethod : Nat → Int32) (f_actStatement : Nat → Int32) (q_rows : Nat) (f_rowSize : Nat → Int32) (f_rowItem : Nat → Int32) (f_passed : Nat → Int32) (q_planning : Int32) (q_aloneStatement : Int32) (q_alonePart : Int32) (q_aloneTime : Int32) (q_quiet : Nat) (f_quietStatement : Nat → Int32) (f_quietPart : Nat → Int32) (f_quietTime : Nat → Int32) (f_stack : Nat → Int32) (q_stacked : Nat) (q_wrong : Int32) (f_wayOut : Nat → Int32) (q_wayOuts : Nat) (n2 : Int32) (hac : 1 ≤ q_acts ∧ q_acts ≤ 12) (hgr : gr ≤ 2) (hacr : ACJ f_actRow (3 * q_acts) q_rows) (hrws : RWS f_rowSize q_rows) (hrw : q_rows ≤ 400) : vz_Mi l D (tyG g) yX10_evalRow cX10_evalRow 3 1 22 0 0 .int [.ref h, .int (nI gr), .int n2] sz (vz_w [rmW g h a f_words f_text q_size q_at q_token q_tokenAt q_which q_value q_live q_draft q_hasProgram f_stat f_statements f_entryKind f_entryValue f_firstOf f_catchOf f_catchKind f_catchBlock f_catches f_body f_methods f_above f_kinds q_entries q_blocks q_fault q_faultAt q_faultTold q_checks f_checkHow f_checkAt f_checkValue q_waits f_wait f_waitValue q_deep q_isOver q_piled f_pileKind f_pileStatement f_pileBlock f_pileLast q_planned f_planStatement f_planPart f_planTime f_planKind f_hasRun q_slot f_told f_tape f_failedKind f_cause f_underFirst f_underNext f_failedAt f_underWay f_traces f_closings f_enteredOf q_left q_ended q_signal q_signalValue q_frames f_frameKind f_frameStatement f_frameNow f_pending f_pendingValue f_firstResource f_openedOf f_caught q_acts f_actVar f_actRow f_actMethod f_actStatement q_rows f_rowSize f_rowItem f_passed q_planning q_aloneStatement q_alonePart q_aloneTime q_quiet f_quietStatement f_quietPart f_quietTime f_stack q_stacked q_wrong f_wayOut q_wayOuts]) (fun r (u : (Int32)) => (u = q_wrong ∨ u = 3 ∨ u = 4)) (fun u => vz_w [rmW g h a f_words f_text q_size q_at q_token q_tokenAt q_which q_value q_live q_draft q_hasProgram f_stat f_statements f_entryKind f_entryValue f_firstOf f_catchOf f_catchKind f_catchBlock f_catches f_body f_methods f_above f_kinds q_entries q_blocks q_fault q_faultAt q_faultTold q_checks f_checkHow f_checkAt f_checkValue q_waits f_wait f_waitValue q_deep q_isOver q_piled f_pileKind f_pileStatement f_pileBlock f_pileLast q_planned f_planStatement f_planPart f_planTime f_planKind f_hasRun q_slot f_told f_tape f_failedKind f_cause f_underFirst f_underNext f_failedAt f_underWay f_traces f_closings f_enteredOf q_left q_ended q_signal q_signalValue q_frames f_frameKind f_frameStatement f_frameNow f_pending f_pendingValue f_firstResource f_openedOf f_caught q_acts f_actVar f_actRow f_actMethod f_actStatement q_rows f_rowSize f_rowItem f_passed q_planning q_aloneStatement q_alonePart q_aloneTime q_quiet f_quietStatement f_quietPart f_quietTime f_stack q_stacked u f_wayOut q_wayOuts]) := by
  refine vz_siQ (by decide) (Nat.le_of_ble_eq_true rfl) (fun p e s m args below meth c hx hb hr hml hts hown hlk hin hK hsz A hA H locs hP hD hS ls hl Q hQ => ?_)
  have hl : lv_has ls 3 [(0, .ref h), (1, .int (nI gr)), (2, .int n2)] := hl
  refine lv_aload_n hx hb dX10_evalRow_0 rfl (lv_at hl 0 rfl) ?_
  refine lv_iload_n hx hb dX10_evalRow_1 rfl (lv_at hl 1 rfl) ?_
  refine vz_Vi3 (As := [.int (nI gr)]) (rest := []) hx hb hml hown hts hK hA hP hD hS (r_row l D g H.size gr h a f_words f_text q_size q_at q_token q_tokenAt q_which q_value q_live q_draft q_hasProgram f_stat f_statements f_entryKind f_entryValue f_firstOf f_catchOf f_catchKind f_catchBlock f_catches f_body f_methods f_above f_kinds q_entries q_blocks q_fault q_faultAt q_faultTold q_checks f_checkHow f_checkAt f_checkValue q_waits f_wait f_waitValue q_deep q_isOver q_piled f_pileKind f_pileStatement f_pileBlock f_pileLast q_planned f_planStatement f_planPart f_planTime f_planKind f_hasRun q_slot f_told f_tape f_failedKind f_cause f_underFirst f_underNext f_failedAt f_underWay f_traces f_closings f_enteredOf q_left q_ended q_signal q_signalValue q_frames f_frameKind f_frameStatement f_frameNow f_pending f_pendingValue f_firstResource f_openedOf f_caught q_acts f_actVar f_actRow f_actMethod f_actStatement q_rows f_rowSize f_rowItem f_passed q_planning q_aloneStatement q_alonePart q_aloneTime q_quiet f_quietStatement f_quietPart f_quietTime f_stack q_stacked q_wrong f_wayOut q_wayOuts (by first | assumption | omega | (clear hP hD hS hl hQ; grind)) (by first | assumption | omega | (clear hP hD hS hl hQ; grind))) kv_X10_517 ⟨Nat.le_of_ble_eq_true rfl, Nat.le_of_ble_eq_true rfl⟩ (q0 := 0) (ci := 10) rfl rfl rfl  hl.1 (Nat.le_of_ble_eq_true rfl) dX10_evalRow_2 ⟨Nat.le_refl _, Nat.le_refl _⟩ rfl (fun v1 _ H locs hp2 _ hP hD hS => ?_)
  try dsimp only at hp2
  subst hp2
  refine lv_if_ge (tgt := 15) hx hb dX10_evalRow_5 (by decide) (fun kc4 => ?_) (fun kc4 => ?_)
  · have kn5 : (f_actRow (3 * (q_acts - 1) + gr)).toInt ≥ 0 := Int32.le_iff_toInt_le.mp kc4
    obtain ⟨r8, hr8, hr9⟩ : ∃ r8 : Nat, r8 < q_rows ∧ f_actRow (3 * (q_acts - 1) + gr) = nI r8 := (hacr (3 * (q_acts - 1) + gr) (by omega)).resolve_left (fun q => by have z := kc4; rw [q] at z; exact absurd z (by decide))
    obtain ⟨z8, hz8, hz9⟩ := hrws r8 hr8
    refine lv_iload_n hx hb dX10_evalRow_15 rfl (lv_at hl 2 rfl) ?_
    refine lv_iconst (v := 0) hx hb dX10_evalRow_16 (by decide) ?_
    refine lv_aload_n hx hb dX10_evalRow_17 rfl (lv_at hl 0 rfl) ?_
    refine va_get (D := D) (ci := 10) (v := .ref (a 52)) (C := RX10) (T := TX10) (N := 96) hx hb hts inlX10 hown hK hP 0 rfl rfl 80 (by decide) (hts _ q246) (fun _ h => h) rfl dX10_evalRow_18 ?_
    refine lv_aload_n hx hb dX10_evalRow_21 rfl (lv_at hl 0 rfl) ?_
    refine lv_iload_n hx hb dX10_evalRow_22 rfl (lv_at hl 1 rfl) ?_
    refine vz_Vi3 (As := [.int (nI gr)]) (rest := [.ref (a 52), .int 0, .int n2]) hx hb hml hown hts hK hA hP hD hS (r_row l D g H.size gr h a f_words f_text q_size q_at q_token q_tokenAt q_which q_value q_live q_draft q_hasProgram f_stat f_statements f_entryKind f_entryValue f_firstOf f_catchOf f_catchKind f_catchBlock f_catches f_body f_methods f_above f_kinds q_entries q_blocks q_fault q_faultAt q_faultTold q_checks f_checkHow f_checkAt f_checkValue q_waits f_wait f_waitValue q_deep q_isOver q_piled f_pileKind f_pileStatement f_pileBlock f_pileLast q_planned f_planStatement f_planPart f_planTime f_planKind f_hasRun q_slot f_told f_tape f_failedKind f_cause f_underFirst f_underNext f_failedAt f_underWay f_traces f_closings f_enteredOf q_left q_ended q_signal q_signalValue q_frames f_frameKind f_frameStatement f_frameNow f_pending f_pendingValue f_firstResource f_openedOf f_caught q_acts f_actVar f_actRow f_actMethod f_actStatement q_rows f_rowSize f_rowItem f_passed q_planning q_aloneStatement q_alonePart q_aloneTime q_quiet f_quietStatement f_quietPart f_quietTime f_stack q_stacked q_wrong f_wayOut q_wayOuts (by first | assumption | omega | (clear hP hD hS hl hQ; grind)) (by first | assumption | omega | (clear hP hD hS hl hQ; grind))) kv_X10_517 ⟨Nat.le_of_ble_eq_true rfl, Nat.le_of_ble_eq_true rfl⟩ (q0 := 0) (ci := 10) rfl rfl rfl  hl.1 (Nat.le_of_ble_eq_true rfl) dX10_evalRow_23 ⟨Nat.le_refl _, Nat.le_refl _⟩ rfl (fun v6 _ H locs hp7 _ hP hD hS => ?_)
    try dsimp only at hp7
    subst hp7
    refine lv_topi (nm_r (e' := (nI r8)) hr9 ?_)
    refine va_iald hx hb hK hP 53 0 rfl rfl (vr_in (by first | omega | (clear hP hD hS hl hQ; grind)) (by decide)) dX10_evalRow_26 ?_
    refine lv_topi (nm_r (e' := (f_rowSize r8)) (vr_ld (by first | omega | (clear hP hD hS hl hQ; grind))) ?_)
    refine lv_topi (nm_r (e' := (nI z8)) hz9 ?_)
    refine lv_iconst (v := 1) hx hb dX10_evalRow_27 (by decide) ?_
    refine lv_isub hx hb dX10_evalRow_28 ?_
    have hz7 := zm1 hz8
    refine vz_Si4 (n9 := 1) (bs2 := fun u : Unit => [rmW g h a f_words f_text q_size q_at q_token q_tokenAt q_which q_value q_live q_draft q_hasProgram f_stat f_statements f_entryKind f_entryValue f_firstOf f_catchOf f_catchKind f_catchBlock f_catches f_body f_methods f_above f_kinds q_entries q_blocks q_fault q_faultAt q_faultTold q_checks f_checkHow f_checkAt f_checkValue q_waits f_wait f_waitValue q_deep q_isOver q_piled f_pileKind f_pileStatement f_pileBlock f_pileLast q_planned f_planStatement f_planPart f_planTime f_planKind f_hasRun q_slot f_told f_tape f_failedKind f_cause f_underFirst f_underNext f_failedAt f_underWay f_traces f_closings f_enteredOf q_left q_ended q_signal q_signalValue q_frames f_frameKind f_frameStatement f_frameNow f_pending f_pendingValue f_firstResource f_openedOf f_caught q_acts f_actVar f_actRow f_actMethod f_actStatement q_rows f_rowSize f_rowItem f_passed q_planning q_aloneStatement q_alonePart q_aloneTime q_quiet f_quietStatement f_quietPart f_quietTime f_stack q_stacked q_wrong f_wayOut q_wayOuts]) (br := [rmW g h a f_words f_text q_size q_at q_token q_tokenAt q_which q_value q_live q_draft q_hasProgram f_stat f_statements f_entryKind f_entryValue f_firstOf f_catchOf f_catchKind f_catchBlock f_catches f_body f_methods f_above f_kinds q_entries q_blocks q_fault q_faultAt q_faultTold q_checks f_checkHow f_checkAt f_checkValue q_waits f_wait f_waitValue q_deep q_isOver q_piled f_pileKind f_pileStatement f_pileBlock f_pileLast q_planned f_planStatement f_planPart f_planTime f_planKind f_hasRun q_slot f_told f_tape f_failedKind f_cause f_underFirst f_underNext f_failedAt f_underWay f_traces f_closings f_enteredOf q_left q_ended q_signal q_signalValue q_frames f_frameKind f_frameStatement f_frameNow f_pending f_pendingValue f_firstResource f_openedOf f_caught q_acts f_actVar f_actRow f_actMethod f_actStatement q_rows f_rowSize f_rowItem f_passed q_planning q_aloneStatement q_alonePart q_aloneTime q_quiet f_quietStatement f_quietPart f_quietTime f_stack q_stacked q_wrong f_wayOut q_wayOuts]) (As := [.int n2, .int 0, .int ((nI z8) - 1)]) (rest := []) hx hb hml hown hts hK hA hP hD hS (r_in l D g H.size n2 0 ((nI z8) - 1)) ks_X10_239 ⟨Nat.le_of_ble_eq_true rfl, Nat.le_of_ble_eq_true rfl⟩ [] [0] rfl (by decide) rfl (fun _ => rfl) (fun _ => rfl) hl.1 (Nat.le_of_ble_eq_true rfl) dX10_evalRow_29 ⟨Nat.le_refl _, Nat.le_refl _⟩ rfl (fun v9 _ H locs hz10 _ hP hD hS => ?_)
    rcases hz10 with ⟨rfl, hb11⟩ | ⟨rfl, hb11⟩
    · refine lv_if_ne (tgt := 42) hx hb dX10_evalRow_32 (by decide) (fun _ => ?_) (fun h9 => absurd h9 (by decide))
      refine lv_aload_n hx hb dX10_evalRow_42 rfl (lv_at hl 0 rfl) ?_
      refine va_get (D := D) (ci := 10) (v := .ref (a 53)) (C := RX10) (T := TX10) (N := 96) hx hb hts inlX10 hown hK hP 0 rfl rfl 81 (by decide) (hts _ q247) (fun _ h => h) rfl dX10_evalRow_43 ?_
      refine lv_bipush (v := 8) hx hb dX10_evalRow_46 (by decide) ?_
      refine lv_aload_n hx hb dX10_evalRow_48 rfl (lv_at hl 0 rfl) ?_
      refine lv_iload_n hx hb dX10_evalRow_49 rfl (lv_at hl 1 rfl) ?_
      refine vz_Vi3 (As := [.int (nI gr)]) (rest := [.int 8, .ref (a 53)]) hx hb hml hown hts hK hA hP hD hS (r_row l D g H.size gr h a f_words f_text q_size q_at q_token q_tokenAt q_which q_value q_live q_draft q_hasProgram f_stat f_statements f_entryKind f_entryValue f_firstOf f_catchOf f_catchKind f_catchBlock f_catches f_body f_methods f_above f_kinds q_entries q_blocks q_fault q_faultAt q_faultTold q_checks f_checkHow f_checkAt f_checkValue q_waits f_wait f_waitValue q_deep q_isOver q_piled f_pileKind f_pileStatement f_pileBlock f_pileLast q_planned f_planStatement f_planPart f_planTime f_planKind f_hasRun q_slot f_told f_tape f_failedKind f_cause f_underFirst f_underNext f_failedAt f_underWay f_traces f_closings f_enteredOf q_left q_ended q_signal q_signalValue q_frames f_frameKind f_frameStatement f_frameNow f_pending f_pendingValue f_firstResource f_openedOf f_caught q_acts f_actVar f_actRow f_actMethod f_actStatement q_rows f_rowSize f_rowItem f_passed q_planning q_aloneStatement q_alonePart q_aloneTime q_quiet f_quietStatement f_quietPart f_quietTime f_stack q_stacked q_wrong f_wayOut q_wayOuts (by first | assumption | omega | (clear hP hD hS hl hQ; grind)) (by first | assumption | omega | (clear hP hD hS hl hQ; grind))) kv_X10_517 ⟨Nat.le_of_ble_eq_true rfl, Nat.le_of_ble_eq_true rfl⟩ (q0 := 0) (ci := 10) rfl rfl rfl  hl.1 (Nat.le_of_ble_eq_true rfl) dX10_evalRow_50 ⟨Nat.le_refl _, Nat.le_refl _⟩ rfl (fun v12 _ H locs hp13 _ hP hD hS => ?_)
      try dsimp only at hp13
      subst hp13
      refine lv_topi (nm_r (e' := (nI r8)) hr9 ?_)
      refine lv_imul hx hb dX10_evalRow_53 ?_
      refine lv_topi (nm_r (e' := (nI (8 * r8))) (vz_mul 8 r8) ?_)
      refine lv_iload_n hx hb dX10_evalRow_54 rfl (lv_at hl 2 rfl) ?_
      have hpl : 0 ≤ n2.toInt ∧ n2.toInt ≤ 7 := by have q := hb11; rw [hz7] at q; have e0 : (0 : Int32).toInt = 0 := rfl; omega
      refine lv_topi (nm_r (e' := (nI (n2.toInt.toNat))) (nI_of9 hpl.1) ?_)
      refine lv_iadd hx hb dX10_evalRow_55 ?_
      refine lv_topi (nm_r (e' := (nI ((8 * r8) + (n2.toInt.toNat)))) (nI_add (8 * r8) (n2.toInt.toNat)) ?_)
      refine va_iald hx hb hK hP 54 0 rfl rfl (vr_in (by first | omega | (clear hP hD hS hl hQ; grind)) (by decide)) dX10_evalRow_56 ?_
      refine lv_topi (nm_r (e' := (f_rowItem ((8 * r8) + (n2.toInt.toNat)))) (vr_ld (by first | omega | (clear hP hD hS hl hQ; grind))) ?_)
      rw [hQ]
      exact vz_iret3 hx hb hr hlk hK hP hD hS q_wrong (by (try dsimp only) <;> (first | exact Or.inl rfl | exact Or.inr (Or.inl rfl) | exact Or.inr (Or.inr rfl))) rfl (Nat.le_refl 0) (Nat.le_refl 0) dX10_evalRow_57
    · refine lv_if_ne (tgt := 42) hx hb dX10_evalRow_32 (by decide) (fun h9 => absurd (by decide) h9) (fun _ => ?_)
      refine lv_aload_n hx hb dX10_evalRow_35 rfl (lv_at hl 0 rfl) ?_
      refine lv_iconst (v := 3) hx hb dX10_evalRow_36 (by decide) ?_
      refine va_put (D := D) (ci := 10) (v := .int 3) (ty := .int) (C := RX10) (T := TX10) (N := 96) hx hb hts inlX10 tyX10 tyX10_ok nmX10 hown hK hP hD hS 0 rfl rfl 93 (by decide) (hts _ q1429) (fun _ h => h) rfl (by decide +kernel) rfl rfl (Nat.le_of_ble_eq_true rfl) dX10_evalRow_37 (fun H locs hP hD hS => ?_)
      replace hP : va_P D vwCl (vz_w [rmW g h a f_words f_text q_size q_at q_token q_tokenAt q_which q_value q_live q_draft q_hasProgram f_stat f_statements f_entryKind f_entryValue f_firstOf f_catchOf f_catchKind f_catchBlock f_catches f_body f_methods f_above f_kinds q_entries q_blocks q_fault q_faultAt q_faultTold q_checks f_checkHow f_checkAt f_checkValue q_waits f_wait f_waitValue q_deep q_isOver q_piled f_pileKind f_pileStatement f_pileBlock f_pileLast q_planned f_planStatement f_planPart f_planTime f_planKind f_hasRun q_slot f_told f_tape f_failedKind f_cause f_underFirst f_underNext f_failedAt f_underWay f_traces f_closings f_enteredOf q_left q_ended q_signal q_signalValue q_frames f_frameKind f_frameStatement f_frameNow f_pending f_pendingValue f_firstResource f_openedOf f_caught q_acts f_actVar f_actRow f_actMethod f_actStatement q_rows f_rowSize f_rowItem f_passed q_planning q_aloneStatement q_alonePart q_aloneTime q_quiet f_quietStatement f_quietPart f_quietTime f_stack q_stacked 3 f_wayOut q_wayOuts]) H := hP
      replace hD : va_D A (vz_w [rmW g h a f_words f_text q_size q_at q_token q_tokenAt q_which q_value q_live q_draft q_hasProgram f_stat f_statements f_entryKind f_entryValue f_firstOf f_catchOf f_catchKind f_catchBlock f_catches f_body f_methods f_above f_kinds q_entries q_blocks q_fault q_faultAt q_faultTold q_checks f_checkHow f_checkAt f_checkValue q_waits f_wait f_waitValue q_deep q_isOver q_piled f_pileKind f_pileStatement f_pileBlock f_pileLast q_planned f_planStatement f_planPart f_planTime f_planKind f_hasRun q_slot f_told f_tape f_failedKind f_cause f_underFirst f_underNext f_failedAt f_underWay f_traces f_closings f_enteredOf q_left q_ended q_signal q_signalValue q_frames f_frameKind f_frameStatement f_frameNow f_pending f_pendingValue f_firstResource f_openedOf f_caught q_acts f_actVar f_actRow f_actMethod f_actStatement q_rows f_rowSize f_rowItem f_passed q_planning q_aloneStatement q_alonePart q_aloneTime q_quiet f_quietStatement f_quietPart f_quietTime f_stack q_stacked 3 f_wayOut q_wayOuts]) := hD
      refine lv_iconst (v := 0) hx hb dX10_evalRow_40 (by decide) ?_
      rw [hQ]
      exact vz_iret3 hx hb hr hlk hK hP hD hS 3 (by (try dsimp only) <;> (first | exact Or.inl rfl | exact Or.inr (Or.inl rfl) | exact Or.inr (Or.inr rfl))) rfl (Nat.le_refl 0) (Nat.le_refl 0) dX10_evalRow_41
  · have kn15 : ¬ (f_actRow (3 * (q_acts - 1) + gr)).toInt ≥ 0 := fun q => kc4 (Int32.le_iff_toInt_le.mpr q)
    refine lv_aload_n hx hb dX10_evalRow_8 rfl (lv_at hl 0 rfl) ?_
    refine lv_iconst (v := 4) hx hb dX10_evalRow_9 (by decide) ?_
    refine va_put (D := D) (ci := 10) (v := .int 4) (ty := .int) (C := RX10) (T := TX10) (N := 96) hx hb hts inlX10 tyX10 tyX10_ok nmX10 hown hK hP hD hS 0 rfl rfl 93 (by decide) (hts _ q1429) (fun _ h => h) rfl (by decide +kernel) rfl rfl (Nat.le_of_ble_eq_true rfl) dX10_evalRow_10 (fun H locs hP hD hS => ?_)
    replace hP : va_P D vwCl (vz_w [rmW g h a f_words f_text q_size q_at q_token q_tokenAt q_which q_value q_live q_draft q_hasProgram f_stat f_statements f_entryKind f_entryValue f_firstOf f_catchOf f_catchKind f_catchBlock f_catches f_body f_methods f_above f_kinds q_entries q_blocks q_fault q_faultAt q_faultTold q_checks f_checkHow f_checkAt f_checkValue q_waits f_wait f_waitValue q_deep q_isOver q_piled f_pileKind f_pileStatement f_pileBlock f_pileLast q_planned f_planStatement f_planPart f_planTime f_planKind f_hasRun q_slot f_told f_tape f_failedKind f_cause f_underFirst f_underNext f_failedAt f_underWay f_traces f_closings f_enteredOf q_left q_ended q_signal q_signalValue q_frames f_frameKind f_frameStatement f_frameNow f_pending f_pendingValue f_firstResource f_openedOf f_caught q_acts f_actVar f_actRow f_actMethod f_actStatement q_rows f_rowSize f_rowItem f_passed q_planning q_aloneStatement q_alonePart q_aloneTime q_quiet f_quietStatement f_quietPart f_quietTime f_stack q_stacked 4 f_wayOut q_wayOuts]) H := hP
    replace hD : va_D A (vz_w [rmW g h a f_words f_text q_size q_at q_token q_tokenAt q_which q_value q_live q_draft q_hasProgram f_stat f_statements f_entryKind f_entryValue f_firstOf f_catchOf f_catchKind f_catchBlock f_catches f_body f_methods f_above f_kinds q_entries q_blocks q_fault q_faultAt q_faultTold q_checks f_checkHow f_checkAt f_checkValue q_waits f_wait f_waitValue q_deep q_isOver q_piled f_pileKind f_pileStatement f_pileBlock f_pileLast q_planned f_planStatement f_planPart f_planTime f_planKind f_hasRun q_slot f_told f_tape f_failedKind f_cause f_underFirst f_underNext f_failedAt f_underWay f_traces f_closings f_enteredOf q_left q_ended q_signal q_signalValue q_frames f_frameKind f_frameStatement f_frameNow f_pending f_pendingValue f_firstResource f_openedOf f_caught q_acts f_actVar f_actRow f_actMethod f_actStatement q_rows f_rowSize f_rowItem f_passed q_planning q_aloneStatement q_alonePart q_aloneTime q_quiet f_quietStatement f_quietPart f_quietTime f_stack q_stacked 4 f_wayOut q_wayOuts]) := hD
    refine lv_iconst (v := 0) hx hb dX10_evalRow_13 (by decide) ?_
    rw [hQ]
    exact vz_iret3 hx hb hr hlk hK hP hD hS 4 (by (try dsimp only) <;> (first | exact Or.inl rfl | exact Or.inr (Or.inl rfl) | exact Or.inr (Or.inr rfl))) rfl (Nat.le_refl 0) (Nat.le_refl 0) dX10_evalRow_14
theorem dX10_sign_0 : decode cX10_sign 0 = .ok (.iload_n 1, 1) := by decide +kernel
theorem dX10_sign_1 : decode cX10_sign 1 = .ok (.bipush 7, 2) := by decide +kernel
theorem dX10_sign_3 : decode cX10_sign 3 = .ok (.if_icmp .le 14, 3) := by decide +kernel
theorem dX10_sign_6 : decode cX10_sign 6 = .ok (.iload_n 3, 1) := by decide +kernel
theorem dX10_sign_7 : decode cX10_sign 7 = .ok (.ifCond .ne 10, 3) := by decide +kernel
theorem dX10_sign_10 : decode cX10_sign 10 = .ok (.aload_n 0, 1) := by decide +kernel
theorem dX10_sign_11 : decode cX10_sign 11 = .ok (.iconst 2, 1) := by decide +kernel
theorem dX10_sign_12 : decode cX10_sign 12 = .ok (.putfield 520, 3) := by decide +kernel
theorem dX10_sign_15 : decode cX10_sign 15 = .ok (.iconst 0, 1) := by decide +kernel
theorem dX10_sign_16 : decode cX10_sign 16 = .ok (.ireturn, 1) := by decide +kernel
theorem dX10_sign_17 : decode cX10_sign 17 = .ok (.iload_n 1, 1) := by decide +kernel
theorem dX10_sign_18 : decode cX10_sign 18 = .ok (.iconst 5, 1) := by decide +kernel
theorem dX10_sign_19 : decode cX10_sign 19 = .ok (.if_icmp .ne 9, 3) := by decide +kernel
theorem dX10_sign_22 : decode cX10_sign 22 = .ok (.iload_n 2, 1) := by decide +kernel
theorem dX10_sign_23 : decode cX10_sign 23 = .ok (.iload_n 3, 1) := by decide +kernel
theorem dX10_sign_24 : decode cX10_sign 24 = .ok (.iadd, 1) := by decide +kernel
theorem dX10_sign_25 : decode cX10_sign 25 = .ok (.goto 42, 3) := by decide +kernel
theorem dX10_sign_28 : decode cX10_sign 28 = .ok (.iload_n 1, 1) := by decide +kernel
theorem dX10_sign_29 : decode cX10_sign 29 = .ok (.bipush 6, 2) := by decide +kernel
theorem dX10_sign_31 : decode cX10_sign 31 = .ok (.if_icmp .ne 9, 3) := by decide +kernel
theorem dX10_sign_34 : decode cX10_sign 34 = .ok (.iload_n 2, 1) := by decide +kernel
theorem dX10_sign_35 : decode cX10_sign 35 = .ok (.iload_n 3, 1) := by decide +kernel
theorem dX10_sign_36 : decode cX10_sign 36 = .ok (.isub, 1) := by decide +kernel
theorem dX10_sign_37 : decode cX10_sign 37 = .ok (.goto 30, 3) := by decide +kernel
theorem dX10_sign_40 : decode cX10_sign 40 = .ok (.iload_n 1, 1) := by decide +kernel
theorem dX10_sign_41 : decode cX10_sign 41 = .ok (.bipush 7, 2) := by decide +kernel
theorem dX10_sign_43 : decode cX10_sign 43 = .ok (.if_icmp .ne 9, 3) := by decide +kernel
theorem dX10_sign_46 : decode cX10_sign 46 = .ok (.iload_n 2, 1) := by decide +kernel
theorem dX10_sign_47 : decode cX10_sign 47 = .ok (.iload_n 3, 1) := by decide +kernel
theorem dX10_sign_48 : decode cX10_sign 48 = .ok (.imul, 1) := by decide +kernel
theorem dX10_sign_49 : decode cX10_sign 49 = .ok (.goto 18, 3) := by decide +kernel
theorem dX10_sign_52 : decode cX10_sign 52 = .ok (.iload_n 1, 1) := by decide +kernel
theorem dX10_sign_53 : decode cX10_sign 53 = .ok (.bipush 8, 2) := by decide +kernel
theorem dX10_sign_55 : decode cX10_sign 55 = .ok (.if_icmp .ne 9, 3) := by decide +kernel
theorem dX10_sign_58 : decode cX10_sign 58 = .ok (.iload_n 2, 1) := by decide +kernel
theorem dX10_sign_59 : decode cX10_sign 59 = .ok (.iload_n 3, 1) := by decide +kernel
theorem dX10_sign_60 : decode cX10_sign 60 = .ok (.idiv, 1) := by decide +kernel
theorem dX10_sign_61 : decode cX10_sign 61 = .ok (.goto 6, 3) := by decide +kernel
theorem dX10_sign_64 : decode cX10_sign 64 = .ok (.iload_n 2, 1) := by decide +kernel
theorem dX10_sign_65 : decode cX10_sign 65 = .ok (.iload_n 3, 1) := by decide +kernel
theorem dX10_sign_66 : decode cX10_sign 66 = .ok (.irem, 1) := by decide +kernel
theorem dX10_sign_67 : decode cX10_sign 67 = .ok (.ireturn, 1) := by decide +kernel
set_option maxHeartbeats 8000000 in
set_option maxRecDepth 100000 in
theorem r_sign (l : Launch) (D : va_G) (g : Nat → ClassId)   (sz : Nat) (h : Nat) (a : Nat → Nat) (f_words : Nat → Int64) (f_text : Nat → Int32) (q_size : Nat) (q_at : Nat) (q_token : Int32) (q_tokenAt : Nat) (q_which : Int32) (q_value : Nat) (q_live : Nat) (q_draft : Nat) (q_hasProgram : Int32) (f_stat : Nat → Int32) (f_statements : Nat → Int32) (f_entryKind : Nat → Int32) (f_entryValue : Nat → Int32) (f_firstOf : Nat → Int32) (f_catchOf : Nat → Int32) (f_catchKind : Nat → Int32) (f_catchBlock : Nat → Int32) (f_catches : Nat → Int32) (f_body : Nat → Int32) (f_methods : Nat → Int32) (f_above : Nat → Int32) (f_kinds : Nat → Int32) (q_entries : Nat) (q_blocks : Nat) (q_fault : Int32) (q_faultAt : Int32) (q_faultTold : Int32) (q_checks : Nat) (f_checkHow : Nat → Int32) (f_checkAt : Nat → Int32) (f_checkValue : Nat → Int32) (q_waits : Nat) (f_wait : Nat → Int32) (f_waitValue : Nat → Int32) (q_deep : Int32) (q_isOver : Int32) (q_piled : Nat) (f_pileKind : Nat → Int32) (f_pileStatement : Nat → Int32) (f_pileBlock : Nat → Int32) (f_pileLast : Nat → Int32) (q_planned : Nat) (f_planStatement : Nat → Int32) (f_planPart : Nat → Int32) (f_planTime : Nat → Int32) (f_planKind : Nat → Int32) (f_hasRun : Nat → Int32) (q_slot : Nat) (f_told : Nat → Int32) (f_tape : Nat → Int32) (f_failedKind : Nat → Int32) (f_cause : Nat → Int32) (f_underFirst : Nat → Int32) (f_underNext : Nat → Int32) (f_failedAt : Nat → Int32) (f_underWay : Nat → Int32) (f_traces : Nat → Int32) (f_closings : Nat → Int32) (f_enteredOf : Nat → Int32) (q_left : Nat) (q_ended : Int32) (q_signal : Int32) (q_signalValue : Int32) (q_frames : Nat) (f_frameKind : Nat → Int32) (f_frameStatement : Nat → Int32) (f_frameNow : Nat → Int32) (f_pending : Nat → Int32) (f_pendingValue : Nat → Int32) (f_firstResource : Nat → Int32) (f_openedOf : Nat → Int32) (f_caught : Nat → Int32) (q_acts : Nat) (f_actVar : Nat → Int32) (f_actRow : Nat → Int32) (f_actMethod : Nat → Int32) (f_actStatement : Nat → Int32) (q_rows : Nat) (f_rowSize : Nat → Int32) (f_rowItem : Nat → Int32) (f_passed : Nat → Int32) (q_planning : Int32) (q_aloneStatement : Int32) (q_alonePart : Int32) (q_aloneTime : Int32) (q_quiet : Nat) (f_quietStatement : Nat → Int32) (f_quietPart : Nat → Int32) (f_quietTime : Nat → Int32) (f_stack : Nat → Int32) (q_stacked : Nat) (q_wrong : Int32) (f_wayOut : Nat → Int32) (q_wayOuts : Nat) (n1 : Int32) (n2 : Int32) (n3 : Int32) (hk : 5 ≤ n1.toInt ∧ n1.toInt ≤ 9) : vz_Mi l D (tyG g) yX10_sign cX10_sign 4 0 0 0 0 .int [.ref h, .int n1, .int n2, .int n3] sz (vz_w [rmW g h a f_words f_text q_size q_at q_token q_tokenAt q_which q_value q_live q_draft q_hasProgram f_stat f_statements f_entryKind f_entryValue f_firstOf f_catchOf f_catchKind f_catchBlock f_catches f_body f_methods f_above f_kinds q_entries q_blocks q_fault q_faultAt q_faultTold q_checks f_checkHow f_checkAt f_checkValue q_waits f_wait f_waitValue q_deep q_isOver q_piled f_pileKind f_pileStatement f_pileBlock f_pileLast q_planned f_planStatement f_planPart f_planTime f_planKind f_hasRun q_slot f_told f_tape f_failedKind f_cause f_underFirst f_underNext f_failedAt f_underWay f_traces f_closings f_enteredOf q_left q_ended q_signal q_signalValue q_frames f_frameKind f_frameStatement f_frameNow f_pending f_pendingValue f_firstResource f_openedOf f_caught q_acts f_actVar f_actRow f_actMethod f_actStatement q_rows f_rowSize f_rowItem f_passed q_planning q_aloneStatement q_alonePart q_aloneTime q_quiet f_quietStatement f_quietPart f_quietTime f_stack q_stacked q_wrong f_wayOut q_wayOuts]) (fun r (u : (Int32)) => (u = q_wrong ∨ u = 2)) (fun u => vz_w [rmW g h a f_words f_text q_size q_at q_token q_tokenAt q_which q_value q_live q_draft q_hasProgram f_stat f_statements f_entryKind f_entryValue f_firstOf f_catchOf f_catchKind f_catchBlock f_catches f_body f_methods f_above f_kinds q_entries q_blocks q_fault q_faultAt q_faultTold q_checks f_checkHow f_checkAt f_checkValue q_waits f_wait f_waitValue q_deep q_isOver q_piled f_pileKind f_pileStatement f_pileBlock f_pileLast q_planned f_planStatement f_planPart f_planTime f_planKind f_hasRun q_slot f_told f_tape f_failedKind f_cause f_underFirst f_underNext f_failedAt f_underWay f_traces f_closings f_enteredOf q_left q_ended q_signal q_signalValue q_frames f_frameKind f_frameStatement f_frameNow f_pending f_pendingValue f_firstResource f_openedOf f_caught q_acts f_actVar f_actRow f_actMethod f_actStatement q_rows f_rowSize f_rowItem f_passed q_planning q_aloneStatement q_alonePart q_aloneTime q_quiet f_quietStatement f_quietPart f_quietTime f_stack q_stacked u f_wayOut q_wayOuts]) := by
  refine vz_siQ (by decide) (Nat.le_of_ble_eq_true rfl) (fun p e s m args below meth c hx hb hr hml hts hown hlk hin hK hsz A hA H locs hP hD hS ls hl Q hQ => ?_)
  have hl : lv_has ls 4 [(0, .ref h), (1, .int n1), (2, .int n2), (3, .int n3)] := hl
  refine lv_iload_n hx hb dX10_sign_0 rfl (lv_at hl 1 rfl) ?_
  refine lv_bipush (v := 7) hx hb dX10_sign_1 (by decide) ?_
  refine lv_icmp_le (tgt := 17) hx hb dX10_sign_3 (by decide) (fun kc1 => ?_) (fun kc1 => ?_)
  · have kn2 : n1.toInt ≤ 7 := Int32.le_iff_toInt_le.mp kc1
    refine lv_iload_n hx hb dX10_sign_17 rfl (lv_at hl 1 rfl) ?_
    refine lv_iconst (v := 5) hx hb dX10_sign_18 (by decide) ?_
    refine lv_icmp_ne (tgt := 28) hx hb dX10_sign_19 (by decide) (fun kc3 => ?_) (fun kc3 => ?_)
    · have kn4 : ¬ n1.toInt = 5 := fun q => kc3 (Int32.toInt_inj.mp q)
      refine lv_iload_n hx hb dX10_sign_28 rfl (lv_at hl 1 rfl) ?_
      refine lv_bipush (v := 6) hx hb dX10_sign_29 (by decide) ?_
      refine lv_icmp_ne (tgt := 40) hx hb dX10_sign_31 (by decide) (fun kc5 => ?_) (fun kc5 => ?_)
      · have kn6 : ¬ n1.toInt = 6 := fun q => kc5 (Int32.toInt_inj.mp q)
        refine lv_iload_n hx hb dX10_sign_40 rfl (lv_at hl 1 rfl) ?_
        refine lv_bipush (v := 7) hx hb dX10_sign_41 (by decide) ?_
        refine lv_icmp_ne (tgt := 52) hx hb dX10_sign_43 (by decide) (fun kc7 => ?_) (fun kc7 => ?_)
        · have kn8 : ¬ n1.toInt = 7 := fun q => kc7 (Int32.toInt_inj.mp q)
          refine lv_iload_n hx hb dX10_sign_52 rfl (lv_at hl 1 rfl) ?_
          refine lv_bipush (v := 8) hx hb dX10_sign_53 (by decide) ?_
          refine lv_icmp_ne (tgt := 64) hx hb dX10_sign_55 (by decide) (fun kc9 => ?_) (fun kc9 => ?_)
          · have kn10 : ¬ n1.toInt = 8 := fun q => kc9 (Int32.toInt_inj.mp q)
            refine lv_iload_n hx hb dX10_sign_64 rfl (lv_at hl 2 rfl) ?_
            refine lv_iload_n hx hb dX10_sign_65 rfl (lv_at hl 3 rfl) ?_
            refine lv_irem hx hb dX10_sign_66 ((by first | exact hk | (exfalso; omega))) ?_
            rw [hQ]
            exact vz_iret3 hx hb hr hlk hK hP hD hS q_wrong (by (try dsimp only) <;> (first | exact Or.inl rfl | exact Or.inr rfl)) rfl (Nat.le_refl 0) (Nat.le_refl 0) dX10_sign_67
          · have kn11 : n1.toInt = 8 := congrArg Int32.toInt kc9
            refine lv_iload_n hx hb dX10_sign_58 rfl (lv_at hl 2 rfl) ?_
            refine lv_iload_n hx hb dX10_sign_59 rfl (lv_at hl 3 rfl) ?_
            refine lv_idiv hx hb dX10_sign_60 ((by first | exact hk | (exfalso; omega))) ?_
            refine lv_goto (tgt := 67) hx hb dX10_sign_61 (by decide) ?_
            rw [hQ]
            exact vz_iret3 hx hb hr hlk hK hP hD hS q_wrong (by (try dsimp only) <;> (first | exact Or.inl rfl | exact Or.inr rfl)) rfl (Nat.le_refl 0) (Nat.le_refl 0) dX10_sign_67
        · have kn12 : n1.toInt = 7 := congrArg Int32.toInt kc7
          refine lv_iload_n hx hb dX10_sign_46 rfl (lv_at hl 2 rfl) ?_
          refine lv_iload_n hx hb dX10_sign_47 rfl (lv_at hl 3 rfl) ?_
          refine lv_imul hx hb dX10_sign_48 ?_
          refine lv_goto (tgt := 67) hx hb dX10_sign_49 (by decide) ?_
          rw [hQ]
          exact vz_iret3 hx hb hr hlk hK hP hD hS q_wrong (by (try dsimp only) <;> (first | exact Or.inl rfl | exact Or.inr rfl)) rfl (Nat.le_refl 0) (Nat.le_refl 0) dX10_sign_67
      · have kn13 : n1.toInt = 6 := congrArg Int32.toInt kc5
        refine lv_iload_n hx hb dX10_sign_34 rfl (lv_at hl 2 rfl) ?_
        refine lv_iload_n hx hb dX10_sign_35 rfl (lv_at hl 3 rfl) ?_
        refine lv_isub hx hb dX10_sign_36 ?_
        refine lv_goto (tgt := 67) hx hb dX10_sign_37 (by decide) ?_
        rw [hQ]
        exact vz_iret3 hx hb hr hlk hK hP hD hS q_wrong (by (try dsimp only) <;> (first | exact Or.inl rfl | exact Or.inr rfl)) rfl (Nat.le_refl 0) (Nat.le_refl 0) dX10_sign_67
    · have kn14 : n1.toInt = 5 := congrArg Int32.toInt kc3
      refine lv_iload_n hx hb dX10_sign_22 rfl (lv_at hl 2 rfl) ?_
      refine lv_iload_n hx hb dX10_sign_23 rfl (lv_at hl 3 rfl) ?_
      refine lv_iadd hx hb dX10_sign_24 ?_
      refine lv_goto (tgt := 67) hx hb dX10_sign_25 (by decide) ?_
      rw [hQ]
      exact vz_iret3 hx hb hr hlk hK hP hD hS q_wrong (by (try dsimp only) <;> (first | exact Or.inl rfl | exact Or.inr rfl)) rfl (Nat.le_refl 0) (Nat.le_refl 0) dX10_sign_67
  · have kn15 : ¬ n1.toInt ≤ 7 := fun q => kc1 (Int32.le_iff_toInt_le.mpr q)
    refine lv_iload_n hx hb dX10_sign_6 rfl (lv_at hl 3 rfl) ?_
    refine lv_if_ne (tgt := 17) hx hb dX10_sign_7 (by decide) (fun kc16 => ?_) (fun kc16 => ?_)
    · have kn17 : ¬ n3.toInt = 0 := fun q => kc16 (Int32.toInt_inj.mp q)
      refine lv_iload_n hx hb dX10_sign_17 rfl (lv_at hl 1 rfl) ?_
      refine lv_iconst (v := 5) hx hb dX10_sign_18 (by decide) ?_
      refine lv_icmp_ne (tgt := 28) hx hb dX10_sign_19 (by decide) (fun kc18 => ?_) (fun kc18 => ?_)
      · have kn19 : ¬ n1.toInt = 5 := fun q => kc18 (Int32.toInt_inj.mp q)
        refine lv_iload_n hx hb dX10_sign_28 rfl (lv_at hl 1 rfl) ?_
        refine lv_bipush (v := 6) hx hb dX10_sign_29 (by decide) ?_
        refine lv_icmp_ne (tgt := 40) hx hb dX10_sign_31 (by decide) (fun kc20 => ?_) (fun kc20 => ?_)
        · have kn21 : ¬ n1.toInt = 6 := fun q => kc20 (Int32.toInt_inj.mp q)
          refine lv_iload_n hx hb dX10_sign_40 rfl (lv_at hl 1 rfl) ?_
          refine lv_bipush (v := 7) hx hb dX10_sign_41 (by decide) ?_
          refine lv_icmp_ne (tgt := 52) hx hb dX10_sign_43 (by decide) (fun kc22 => ?_) (fun kc22 => ?_)
          · have kn23 : ¬ n1.toInt = 7 := fun q => kc22 (Int32.toInt_inj.mp q)
            refine lv_iload_n hx hb dX10_sign_52 rfl (lv_at hl 1 rfl) ?_
            refine lv_bipush (v := 8) hx hb dX10_sign_53 (by decide) ?_
            refine lv_icmp_ne (tgt := 64) hx hb dX10_sign_55 (by decide) (fun kc24 => ?_) (fun kc24 => ?_)
            · have kn25 : ¬ n1.toInt = 8 := fun q => kc24 (Int32.toInt_inj.mp q)
              refine lv_iload_n hx hb dX10_sign_64 rfl (lv_at hl 2 rfl) ?_
              refine lv_iload_n hx hb dX10_sign_65 rfl (lv_at hl 3 rfl) ?_
              refine lv_irem hx hb dX10_sign_66 ((by first | exact kc16 | (exfalso; omega))) ?_
              rw [hQ]
              exact vz_iret3 hx hb hr hlk hK hP hD hS q_wrong (by (try dsimp only) <;> (first | exact Or.inl rfl | exact Or.inr rfl)) rfl (Nat.le_refl 0) (Nat.le_refl 0) dX10_sign_67
            · have kn26 : n1.toInt = 8 := congrArg Int32.toInt kc24
              refine lv_iload_n hx hb dX10_sign_58 rfl (lv_at hl 2 rfl) ?_
              refine lv_iload_n hx hb dX10_sign_59 rfl (lv_at hl 3 rfl) ?_
              refine lv_idiv hx hb dX10_sign_60 ((by first | exact kc16 | (exfalso; omega))) ?_
              refine lv_goto (tgt := 67) hx hb dX10_sign_61 (by decide) ?_
              rw [hQ]
              exact vz_iret3 hx hb hr hlk hK hP hD hS q_wrong (by (try dsimp only) <;> (first | exact Or.inl rfl | exact Or.inr rfl)) rfl (Nat.le_refl 0) (Nat.le_refl 0) dX10_sign_67
          · have kn27 : n1.toInt = 7 := congrArg Int32.toInt kc22
            refine lv_iload_n hx hb dX10_sign_46 rfl (lv_at hl 2 rfl) ?_
            refine lv_iload_n hx hb dX10_sign_47 rfl (lv_at hl 3 rfl) ?_
            refine lv_imul hx hb dX10_sign_48 ?_
            refine lv_goto (tgt := 67) hx hb dX10_sign_49 (by decide) ?_
            rw [hQ]
            exact vz_iret3 hx hb hr hlk hK hP hD hS q_wrong (by (try dsimp only) <;> (first | exact Or.inl rfl | exact Or.inr rfl)) rfl (Nat.le_refl 0) (Nat.le_refl 0) dX10_sign_67
        · have kn28 : n1.toInt = 6 := congrArg Int32.toInt kc20
          refine lv_iload_n hx hb dX10_sign_34 rfl (lv_at hl 2 rfl) ?_
          refine lv_iload_n hx hb dX10_sign_35 rfl (lv_at hl 3 rfl) ?_
          refine lv_isub hx hb dX10_sign_36 ?_
          refine lv_goto (tgt := 67) hx hb dX10_sign_37 (by decide) ?_
          rw [hQ]
          exact vz_iret3 hx hb hr hlk hK hP hD hS q_wrong (by (try dsimp only) <;> (first | exact Or.inl rfl | exact Or.inr rfl)) rfl (Nat.le_refl 0) (Nat.le_refl 0) dX10_sign_67
      · have kn29 : n1.toInt = 5 := congrArg Int32.toInt kc18
        refine lv_iload_n hx hb dX10_sign_22 rfl (lv_at hl 2 rfl) ?_
        refine lv_iload_n hx hb dX10_sign_23 rfl (lv_at hl 3 rfl) ?_
        refine lv_iadd hx hb dX10_sign_24 ?_
        refine lv_goto (tgt := 67) hx hb dX10_sign_25 (by decide) ?_
        rw [hQ]
        exact vz_iret3 hx hb hr hlk hK hP hD hS q_wrong (by (try dsimp only) <;> (first | exact Or.inl rfl | exact Or.inr rfl)) rfl (Nat.le_refl 0) (Nat.le_refl 0) dX10_sign_67
    · have kn30 : n3.toInt = 0 := congrArg Int32.toInt kc16
      refine lv_aload_n hx hb dX10_sign_10 rfl (lv_at hl 0 rfl) ?_
      refine lv_iconst (v := 2) hx hb dX10_sign_11 (by decide) ?_
      refine va_put (D := D) (ci := 10) (v := .int 2) (ty := .int) (C := RX10) (T := TX10) (N := 96) hx hb hts inlX10 tyX10 tyX10_ok nmX10 hown hK hP hD hS 0 rfl rfl 93 (by decide) (hts _ q1429) (fun _ h => h) rfl (by decide +kernel) rfl rfl (Nat.le_of_ble_eq_true rfl) dX10_sign_12 (fun H locs hP hD hS => ?_)
      replace hP : va_P D vwCl (vz_w [rmW g h a f_words f_text q_size q_at q_token q_tokenAt q_which q_value q_live q_draft q_hasProgram f_stat f_statements f_entryKind f_entryValue f_firstOf f_catchOf f_catchKind f_catchBlock f_catches f_body f_methods f_above f_kinds q_entries q_blocks q_fault q_faultAt q_faultTold q_checks f_checkHow f_checkAt f_checkValue q_waits f_wait f_waitValue q_deep q_isOver q_piled f_pileKind f_pileStatement f_pileBlock f_pileLast q_planned f_planStatement f_planPart f_planTime f_planKind f_hasRun q_slot f_told f_tape f_failedKind f_cause f_underFirst f_underNext f_failedAt f_underWay f_traces f_closings f_enteredOf q_left q_ended q_signal q_signalValue q_frames f_frameKind f_frameStatement f_frameNow f_pending f_pendingValue f_firstResource f_openedOf f_caught q_acts f_actVar f_actRow f_actMethod f_actStatement q_rows f_rowSize f_rowItem f_passed q_planning q_aloneStatement q_alonePart q_aloneTime q_quiet f_quietStatement f_quietPart f_quietTime f_stack q_stacked 2 f_wayOut q_wayOuts]) H := hP
      replace hD : va_D A (vz_w [rmW g h a f_words f_text q_size q_at q_token q_tokenAt q_which q_value q_live q_draft q_hasProgram f_stat f_statements f_entryKind f_entryValue f_firstOf f_catchOf f_catchKind f_catchBlock f_catches f_body f_methods f_above f_kinds q_entries q_blocks q_fault q_faultAt q_faultTold q_checks f_checkHow f_checkAt f_checkValue q_waits f_wait f_waitValue q_deep q_isOver q_piled f_pileKind f_pileStatement f_pileBlock f_pileLast q_planned f_planStatement f_planPart f_planTime f_planKind f_hasRun q_slot f_told f_tape f_failedKind f_cause f_underFirst f_underNext f_failedAt f_underWay f_traces f_closings f_enteredOf q_left q_ended q_signal q_signalValue q_frames f_frameKind f_frameStatement f_frameNow f_pending f_pendingValue f_firstResource f_openedOf f_caught q_acts f_actVar f_actRow f_actMethod f_actStatement q_rows f_rowSize f_rowItem f_passed q_planning q_aloneStatement q_alonePart q_aloneTime q_quiet f_quietStatement f_quietPart f_quietTime f_stack q_stacked 2 f_wayOut q_wayOuts]) := hD
      refine lv_iconst (v := 0) hx hb dX10_sign_15 (by decide) ?_
      rw [hQ]
      exact vz_iret3 hx hb hr hlk hK hP hD hS 2 (by (try dsimp only) <;> (first | exact Or.inl rfl | exact Or.inr rfl)) rfl (Nat.le_refl 0) (Nat.le_refl 0) dX10_sign_16
