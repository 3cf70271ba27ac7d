theorem dX10_clear_0 : decode cX10_clear 0 = .ok (.aload_n 0, 1) := by decide +kernel
theorem dX10_clear_1 : decode cX10_clear 1 = .ok (.getfield 453, 3) := by decide +kernel
theorem dX10_clear_4 : decode cX10_clear 4 = .ok (.istore_n 1, 1) := by decide +kernel
theorem dX10_clear_5 : decode cX10_clear 5 = .ok (.aload_n 0, 1) := by decide +kernel
theorem dX10_clear_6 : decode cX10_clear 6 = .ok (.iconst 0, 1) := by decide +kernel
theorem dX10_clear_7 : decode cX10_clear 7 = .ok (.putfield 453, 3) := by decide +kernel
theorem dX10_clear_10 : decode cX10_clear 10 = .ok (.iload_n 1, 1) := by decide +kernel
theorem dX10_clear_11 : decode cX10_clear 11 = .ok (.ireturn, 1) := by decide +kernel
set_option maxHeartbeats 8000000 in
set_option maxRecDepth 100000 in
theorem r_clear (l : Launch) (D : va_G) (g : Nat → ClassId)   (sz : Nat) (h : Nat) (a : Nat → Nat) (f_words : Nat → Int64) (f_text : Nat → Int32) (q_size : Nat) (q_at : Nat) (q_token : Int32) (q_tokenAt : Nat) (q_which : Int32) (q_value : Nat) (q_live : Nat) (q_draft : Nat) (q_hasProgram : Int32) (f_stat : Nat → Int32) (f_statements : Nat → Int32) (f_entryKind : Nat → Int32) (f_entryValue : Nat → Int32) (f_firstOf : Nat → Int32) (f_catchOf : Nat → Int32) (f_catchKind : Nat → Int32) (f_catchBlock : Nat → Int32) (f_catches : Nat → Int32) (f_body : Nat → Int32) (f_methods : Nat → Int32) (f_above : Nat → Int32) (f_kinds : Nat → Int32) (q_entries : Nat) (q_blocks : Nat) (q_fault : Int32) (q_faultAt : Int32) (q_faultTold : Int32) (q_checks : Nat) (f_checkHow : Nat → Int32) (f_checkAt : Nat → Int32) (f_checkValue : Nat → Int32) (q_waits : Nat) (f_wait : Nat → Int32) (f_waitValue : Nat → Int32) (q_deep : Int32) (q_isOver : Int32) (q_piled : Nat) (f_pileKind : Nat → Int32) (f_pileStatement : Nat → Int32) (f_pileBlock : Nat → Int32) (f_pileLast : Nat → Int32) (q_planned : Nat) (f_planStatement : Nat → Int32) (f_planPart : Nat → Int32) (f_planTime : Nat → Int32) (f_planKind : Nat → Int32) (f_hasRun : Nat → Int32) (q_slot : Nat) (f_told : Nat → Int32) (f_tape : Nat → Int32) (f_failedKind : Nat → Int32) (f_cause : Nat → Int32) (f_underFirst : Nat → Int32) (f_underNext : Nat → Int32) (f_failedAt : Nat → Int32) (f_underWay : Nat → Int32) (f_traces : Nat → Int32) (f_closings : Nat → Int32) (f_enteredOf : Nat → Int32) (q_left : Nat) (q_ended : Int32) (q_signal : Int32) (q_signalValue : Int32) (q_frames : Nat) (f_frameKind : Nat → Int32) (f_frameStatement : Nat → Int32) (f_frameNow : Nat → Int32) (f_pending : Nat → Int32) (f_pendingValue : Nat → Int32) (f_firstResource : Nat → Int32) (f_openedOf : Nat → Int32) (f_caught : Nat → Int32) (q_acts : Nat) (f_actVar : Nat → Int32) (f_actRow : Nat → Int32) (f_actMethod : Nat → Int32) (f_actStatement : Nat → Int32) (q_rows : Nat) (f_rowSize : Nat → Int32) (f_rowItem : Nat → Int32) (f_passed : Nat → Int32) (q_planning : Int32) (q_aloneStatement : Int32) (q_alonePart : Int32) (q_aloneTime : Int32) (q_quiet : Nat) (f_quietStatement : Nat → Int32) (f_quietPart : Nat → Int32) (f_quietTime : Nat → Int32) (f_stack : Nat → Int32) (q_stacked : Nat) (q_wrong : Int32) (f_wayOut : Nat → Int32) (q_wayOuts : Nat) (hgi : GI f_words q_size q_value q_live q_hasProgram f_stat f_entryKind f_entryValue f_firstOf f_catchOf f_catchKind f_catchBlock f_body f_above f_statements f_catches f_methods f_kinds q_planned f_planKind f_told f_underWay q_quiet) : vz_Mi l D (tyG g) yX10_clear cX10_clear 2 0 0 0 0 .int [.ref h] sz (vz_w [rmW g h a f_words f_text q_size q_at q_token q_tokenAt q_which q_value q_live q_draft q_hasProgram f_stat f_statements f_entryKind f_entryValue f_firstOf f_catchOf f_catchKind f_catchBlock f_catches f_body f_methods f_above f_kinds q_entries q_blocks q_fault q_faultAt q_faultTold q_checks f_checkHow f_checkAt f_checkValue q_waits f_wait f_waitValue q_deep q_isOver q_piled f_pileKind f_pileStatement f_pileBlock f_pileLast q_planned f_planStatement f_planPart f_planTime f_planKind f_hasRun q_slot f_told f_tape f_failedKind f_cause f_underFirst f_underNext f_failedAt f_underWay f_traces f_closings f_enteredOf q_left q_ended q_signal q_signalValue q_frames f_frameKind f_frameStatement f_frameNow f_pending f_pendingValue f_firstResource f_openedOf f_caught q_acts f_actVar f_actRow f_actMethod f_actStatement q_rows f_rowSize f_rowItem f_passed q_planning q_aloneStatement q_alonePart q_aloneTime q_quiet f_quietStatement f_quietPart f_quietTime f_stack q_stacked q_wrong f_wayOut q_wayOuts]) (fun r (u : (Nat)) => (GI f_words q_size q_value q_live q_hasProgram f_stat f_entryKind f_entryValue f_firstOf f_catchOf f_catchKind f_catchBlock f_body f_above f_statements f_catches f_methods f_kinds u f_planKind f_told f_underWay q_quiet)) (fun u => vz_w [rmW g h a f_words f_text q_size q_at q_token q_tokenAt q_which q_value q_live q_draft q_hasProgram f_stat f_statements f_entryKind f_entryValue f_firstOf f_catchOf f_catchKind f_catchBlock f_catches f_body f_methods f_above f_kinds q_entries q_blocks q_fault q_faultAt q_faultTold q_checks f_checkHow f_checkAt f_checkValue q_waits f_wait f_waitValue q_deep q_isOver q_piled f_pileKind f_pileStatement f_pileBlock f_pileLast u f_planStatement f_planPart f_planTime f_planKind f_hasRun q_slot f_told f_tape f_failedKind f_cause f_underFirst f_underNext f_failedAt f_underWay f_traces f_closings f_enteredOf q_left q_ended q_signal q_signalValue q_frames f_frameKind f_frameStatement f_frameNow f_pending f_pendingValue f_firstResource f_openedOf f_caught q_acts f_actVar f_actRow f_actMethod f_actStatement q_rows f_rowSize f_rowItem f_passed q_planning q_aloneStatement q_alonePart q_aloneTime q_quiet f_quietStatement f_quietPart f_quietTime f_stack q_stacked q_wrong f_wayOut q_wayOuts]) := by
  refine vz_siQ (by decide) (Nat.le_of_ble_eq_true rfl) (fun p e s m args below meth c hx hb hr hml hts hown hlk hin hK hsz A hA H locs hP hD hS ls hl Q hQ => ?_)
  have hl : lv_has ls 2 [(0, .ref h)] := hl
  obtain ⟨hwd, hsz, hva, hlv, hwl, hpl, htt, huw, hqu⟩ := hgi
  refine lv_aload_n hx hb dX10_clear_0 rfl (lv_at hl 0 rfl) ?_
  refine va_get (D := D) (ci := 10) (v := .int (nI q_planned)) (C := RX10) (T := TX10) (N := 96) hx hb hts inlX10 hown hK hP 0 rfl rfl 43 (by decide) (hts _ q749) (fun _ h => h) rfl dX10_clear_1 ?_
  refine lv_istore_n (lv' := [(1, .int (nI q_planned)), (0, .ref h)]) hx hb dX10_clear_4 rfl hl (by decide) rfl (fun ls hl => ?_)
  refine lv_aload_n hx hb dX10_clear_5 rfl (lv_at hl 1 rfl) ?_
  refine lv_iconst (v := 0) hx hb dX10_clear_6 (by decide) ?_
  refine va_put (D := D) (ci := 10) (v := .int 0) (ty := .int) (C := RX10) (T := TX10) (N := 96) hx hb hts inlX10 tyX10 tyX10_ok nmX10 hown hK hP hD hS 0 rfl rfl 43 (by decide) (hts _ q749) (fun _ h => h) rfl (by decide +kernel) rfl rfl (Nat.le_of_ble_eq_true rfl) dX10_clear_7 (fun H locs hP hD hS => ?_)
  replace hP : va_P D vwCl (vz_w [rmW g h a f_words f_text q_size q_at q_token q_tokenAt q_which q_value q_live q_draft q_hasProgram f_stat f_statements f_entryKind f_entryValue f_firstOf f_catchOf f_catchKind f_catchBlock f_catches f_body f_methods f_above f_kinds q_entries q_blocks q_fault q_faultAt q_faultTold q_checks f_checkHow f_checkAt f_checkValue q_waits f_wait f_waitValue q_deep q_isOver q_piled f_pileKind f_pileStatement f_pileBlock f_pileLast 0 f_planStatement f_planPart f_planTime f_planKind f_hasRun q_slot f_told f_tape f_failedKind f_cause f_underFirst f_underNext f_failedAt f_underWay f_traces f_closings f_enteredOf q_left q_ended q_signal q_signalValue q_frames f_frameKind f_frameStatement f_frameNow f_pending f_pendingValue f_firstResource f_openedOf f_caught q_acts f_actVar f_actRow f_actMethod f_actStatement q_rows f_rowSize f_rowItem f_passed q_planning q_aloneStatement q_alonePart q_aloneTime q_quiet f_quietStatement f_quietPart f_quietTime f_stack q_stacked q_wrong f_wayOut q_wayOuts]) H := hP
  replace hD : va_D A (vz_w [rmW g h a f_words f_text q_size q_at q_token q_tokenAt q_which q_value q_live q_draft q_hasProgram f_stat f_statements f_entryKind f_entryValue f_firstOf f_catchOf f_catchKind f_catchBlock f_catches f_body f_methods f_above f_kinds q_entries q_blocks q_fault q_faultAt q_faultTold q_checks f_checkHow f_checkAt f_checkValue q_waits f_wait f_waitValue q_deep q_isOver q_piled f_pileKind f_pileStatement f_pileBlock f_pileLast 0 f_planStatement f_planPart f_planTime f_planKind f_hasRun q_slot f_told f_tape f_failedKind f_cause f_underFirst f_underNext f_failedAt f_underWay f_traces f_closings f_enteredOf q_left q_ended q_signal q_signalValue q_frames f_frameKind f_frameStatement f_frameNow f_pending f_pendingValue f_firstResource f_openedOf f_caught q_acts f_actVar f_actRow f_actMethod f_actStatement q_rows f_rowSize f_rowItem f_passed q_planning q_aloneStatement q_alonePart q_aloneTime q_quiet f_quietStatement f_quietPart f_quietTime f_stack q_stacked q_wrong f_wayOut q_wayOuts]) := hD
  refine lv_iload_n hx hb dX10_clear_10 rfl (lv_at hl 0 rfl) ?_
  rw [hQ]
  exact vz_iret3 hx hb hr hlk hK hP hD hS 0 (by (try dsimp only) <;> (exact ⟨hwd, hsz, hva, hlv, hwl, Or.inl rfl, htt, huw, hqu⟩)) rfl (Nat.le_refl 0) (Nat.le_refl 0) dX10_clear_11
theorem dX10_fault_0 : decode cX10_fault 0 = .ok (.aload_n 0, 1) := by decide +kernel
theorem dX10_fault_1 : decode cX10_fault 1 = .ok (.getfield 447, 3) := by decide +kernel
theorem dX10_fault_4 : decode cX10_fault 4 = .ok (.ireturn, 1) := by decide +kernel
set_option maxHeartbeats 8000000 in
set_option maxRecDepth 100000 in
theorem r_fault (l : Launch) (D : va_G) (g : Nat → ClassId)   (sz : Nat) (h : Nat) (a : Nat → Nat) (f_words : Nat → Int64) (f_text : Nat → Int32) (q_size : Nat) (q_at : Nat) (q_token : Int32) (q_tokenAt : Nat) (q_which : Int32) (q_value : Nat) (q_live : Nat) (q_draft : Nat) (q_hasProgram : Int32) (f_stat : Nat → Int32) (f_statements : Nat → Int32) (f_entryKind : Nat → Int32) (f_entryValue : Nat → Int32) (f_firstOf : Nat → Int32) (f_catchOf : Nat → Int32) (f_catchKind : Nat → Int32) (f_catchBlock : Nat → Int32) (f_catches : Nat → Int32) (f_body : Nat → Int32) (f_methods : Nat → Int32) (f_above : Nat → Int32) (f_kinds : Nat → Int32) (q_entries : Nat) (q_blocks : Nat) (q_fault : Int32) (q_faultAt : Int32) (q_faultTold : Int32) (q_checks : Nat) (f_checkHow : Nat → Int32) (f_checkAt : Nat → Int32) (f_checkValue : Nat → Int32) (q_waits : Nat) (f_wait : Nat → Int32) (f_waitValue : Nat → Int32) (q_deep : Int32) (q_isOver : Int32) (q_piled : Nat) (f_pileKind : Nat → Int32) (f_pileStatement : Nat → Int32) (f_pileBlock : Nat → Int32) (f_pileLast : Nat → Int32) (q_planned : Nat) (f_planStatement : Nat → Int32) (f_planPart : Nat → Int32) (f_planTime : Nat → Int32) (f_planKind : Nat → Int32) (f_hasRun : Nat → Int32) (q_slot : Nat) (f_told : Nat → Int32) (f_tape : Nat → Int32) (f_failedKind : Nat → Int32) (f_cause : Nat → Int32) (f_underFirst : Nat → Int32) (f_underNext : Nat → Int32) (f_failedAt : Nat → Int32) (f_underWay : Nat → Int32) (f_traces : Nat → Int32) (f_closings : Nat → Int32) (f_enteredOf : Nat → Int32) (q_left : Nat) (q_ended : Int32) (q_signal : Int32) (q_signalValue : Int32) (q_frames : Nat) (f_frameKind : Nat → Int32) (f_frameStatement : Nat → Int32) (f_frameNow : Nat → Int32) (f_pending : Nat → Int32) (f_pendingValue : Nat → Int32) (f_firstResource : Nat → Int32) (f_openedOf : Nat → Int32) (f_caught : Nat → Int32) (q_acts : Nat) (f_actVar : Nat → Int32) (f_actRow : Nat → Int32) (f_actMethod : Nat → Int32) (f_actStatement : Nat → Int32) (q_rows : Nat) (f_rowSize : Nat → Int32) (f_rowItem : Nat → Int32) (f_passed : Nat → Int32) (q_planning : Int32) (q_aloneStatement : Int32) (q_alonePart : Int32) (q_aloneTime : Int32) (q_quiet : Nat) (f_quietStatement : Nat → Int32) (f_quietPart : Nat → Int32) (f_quietTime : Nat → Int32) (f_stack : Nat → Int32) (q_stacked : Nat) (q_wrong : Int32) (f_wayOut : Nat → Int32) (q_wayOuts : Nat) (hgi : GI f_words q_size q_value q_live q_hasProgram f_stat f_entryKind f_entryValue f_firstOf f_catchOf f_catchKind f_catchBlock f_body f_above f_statements f_catches f_methods f_kinds q_planned f_planKind f_told f_underWay q_quiet) : vz_Mi l D (tyG g) yX10_fault cX10_fault 1 0 0 0 0 .int [.ref h] sz (vz_w [rmW g h a f_words f_text q_size q_at q_token q_tokenAt q_which q_value q_live q_draft q_hasProgram f_stat f_statements f_entryKind f_entryValue f_firstOf f_catchOf f_catchKind f_catchBlock f_catches f_body f_methods f_above f_kinds q_entries q_blocks q_fault q_faultAt q_faultTold q_checks f_checkHow f_checkAt f_checkValue q_waits f_wait f_waitValue q_deep q_isOver q_piled f_pileKind f_pileStatement f_pileBlock f_pileLast q_planned f_planStatement f_planPart f_planTime f_planKind f_hasRun q_slot f_told f_tape f_failedKind f_cause f_underFirst f_underNext f_failedAt f_underWay f_traces f_closings f_enteredOf q_left q_ended q_signal q_signalValue q_frames f_frameKind f_frameStatement f_frameNow f_pending f_pendingValue f_firstResource f_openedOf f_caught q_acts f_actVar f_actRow f_actMethod f_actStatement q_rows f_rowSize f_rowItem f_passed q_planning q_aloneStatement q_alonePart q_aloneTime q_quiet f_quietStatement f_quietPart f_quietTime f_stack q_stacked q_wrong f_wayOut q_wayOuts]) (fun r (u : Unit) => True) (fun u => vz_w [rmW g h a f_words f_text q_size q_at q_token q_tokenAt q_which q_value q_live q_draft q_hasProgram f_stat f_statements f_entryKind f_entryValue f_firstOf f_catchOf f_catchKind f_catchBlock f_catches f_body f_methods f_above f_kinds q_entries q_blocks q_fault q_faultAt q_faultTold q_checks f_checkHow f_checkAt f_checkValue q_waits f_wait f_waitValue q_deep q_isOver q_piled f_pileKind f_pileStatement f_pileBlock f_pileLast q_planned f_planStatement f_planPart f_planTime f_planKind f_hasRun q_slot f_told f_tape f_failedKind f_cause f_underFirst f_underNext f_failedAt f_underWay f_traces f_closings f_enteredOf q_left q_ended q_signal q_signalValue q_frames f_frameKind f_frameStatement f_frameNow f_pending f_pendingValue f_firstResource f_openedOf f_caught q_acts f_actVar f_actRow f_actMethod f_actStatement q_rows f_rowSize f_rowItem f_passed q_planning q_aloneStatement q_alonePart q_aloneTime q_quiet f_quietStatement f_quietPart f_quietTime f_stack q_stacked q_wrong f_wayOut q_wayOuts]) := by
  refine vz_siQ (by decide) (Nat.le_of_ble_eq_true rfl) (fun p e s m args below meth c hx hb hr hml hts hown hlk hin hK hsz A hA H locs hP hD hS ls hl Q hQ => ?_)
  have hl : lv_has ls 1 [(0, .ref h)] := hl
  obtain ⟨hwd, hsz, hva, hlv, hwl, hpl, htt, huw, hqu⟩ := hgi
  refine lv_aload_n hx hb dX10_fault_0 rfl (lv_at hl 0 rfl) ?_
  refine va_get (D := D) (ci := 10) (v := .int q_faultTold) (C := RX10) (T := TX10) (N := 96) hx hb hts inlX10 hown hK hP 0 rfl rfl 28 (by decide) (hts _ q746) (fun _ h => h) rfl dX10_fault_1 ?_
  rw [hQ]
  exact vz_iret3 hx hb hr hlk hK hP hD hS () trivial rfl (Nat.le_refl 0) (Nat.le_refl 0) dX10_fault_4
theorem dX10_count_0 : decode cX10_count 0 = .ok (.iload_n 1, 1) := by decide +kernel
theorem dX10_count_1 : decode cX10_count 1 = .ok (.iconst 0, 1) := by decide +kernel
theorem dX10_count_2 : decode cX10_count 2 = .ok (.iconst 4, 1) := by decide +kernel
theorem dX10_count_3 : decode cX10_count 3 = .ok (.invokestatic 239, 3) := by decide +kernel
theorem dX10_count_6 : decode cX10_count 6 = .ok (.ifCond .eq 15, 3) := by decide +kernel
theorem dX10_count_9 : decode cX10_count 9 = .ok (.aload_n 0, 1) := by decide +kernel
theorem dX10_count_10 : decode cX10_count 10 = .ok (.getfield 450, 3) := by decide +kernel
theorem dX10_count_13 : decode cX10_count 13 = .ok (.ifCond .ne 10, 3) := by decide +kernel
theorem dX10_count_16 : decode cX10_count 16 = .ok (.iload_n 1, 1) := by decide +kernel
theorem dX10_count_17 : decode cX10_count 17 = .ok (.iconst 4, 1) := by decide +kernel
theorem dX10_count_18 : decode cX10_count 18 = .ok (.if_icmp .ge 5, 3) := by decide +kernel
theorem dX10_count_21 : decode cX10_count 21 = .ok (.iconst (-1), 1) := by decide +kernel
theorem dX10_count_22 : decode cX10_count 22 = .ok (.ireturn, 1) := by decide +kernel
theorem dX10_count_23 : decode cX10_count 23 = .ok (.iload_n 1, 1) := by decide +kernel
theorem dX10_count_24 : decode cX10_count 24 = .ok (.tableswitch 72 0 3 #[32, 42, 52, 62], 32) := by decide +kernel
theorem dX10_count_56 : decode cX10_count 56 = .ok (.aload_n 0, 1) := by decide +kernel
theorem dX10_count_57 : decode cX10_count 57 = .ok (.getfield 63, 3) := by decide +kernel
theorem dX10_count_60 : decode cX10_count 60 = .ok (.aload_n 0, 1) := by decide +kernel
theorem dX10_count_61 : decode cX10_count 61 = .ok (.getfield 235, 3) := by decide +kernel
theorem dX10_count_64 : decode cX10_count 64 = .ok (.iaload, 1) := by decide +kernel
theorem dX10_count_65 : decode cX10_count 65 = .ok (.ireturn, 1) := by decide +kernel
theorem dX10_count_66 : decode cX10_count 66 = .ok (.aload_n 0, 1) := by decide +kernel
theorem dX10_count_67 : decode cX10_count 67 = .ok (.getfield 90, 3) := by decide +kernel
theorem dX10_count_70 : decode cX10_count 70 = .ok (.aload_n 0, 1) := by decide +kernel
theorem dX10_count_71 : decode cX10_count 71 = .ok (.getfield 235, 3) := by decide +kernel
theorem dX10_count_74 : decode cX10_count 74 = .ok (.iaload, 1) := by decide +kernel
theorem dX10_count_75 : decode cX10_count 75 = .ok (.ireturn, 1) := by decide +kernel
theorem dX10_count_76 : decode cX10_count 76 = .ok (.aload_n 0, 1) := by decide +kernel
theorem dX10_count_77 : decode cX10_count 77 = .ok (.getfield 96, 3) := by decide +kernel
theorem dX10_count_80 : decode cX10_count 80 = .ok (.aload_n 0, 1) := by decide +kernel
theorem dX10_count_81 : decode cX10_count 81 = .ok (.getfield 235, 3) := by decide +kernel
theorem dX10_count_84 : decode cX10_count 84 = .ok (.iaload, 1) := by decide +kernel
theorem dX10_count_85 : decode cX10_count 85 = .ok (.ireturn, 1) := by decide +kernel
theorem dX10_count_86 : decode cX10_count 86 = .ok (.aload_n 0, 1) := by decide +kernel
theorem dX10_count_87 : decode cX10_count 87 = .ok (.getfield 84, 3) := by decide +kernel
theorem dX10_count_90 : decode cX10_count 90 = .ok (.aload_n 0, 1) := by decide +kernel
theorem dX10_count_91 : decode cX10_count 91 = .ok (.getfield 235, 3) := by decide +kernel
theorem dX10_count_94 : decode cX10_count 94 = .ok (.iaload, 1) := by decide +kernel
theorem dX10_count_95 : decode cX10_count 95 = .ok (.ireturn, 1) := by decide +kernel
theorem dX10_count_96 : decode cX10_count 96 = .ok (.aload_n 0, 1) := by decide +kernel
theorem dX10_count_97 : decode cX10_count 97 = .ok (.getfield 453, 3) := by decide +kernel
theorem dX10_count_100 : decode cX10_count 100 = .ok (.ireturn, 1) := by decide +kernel
set_option maxHeartbeats 8000000 in
set_option maxRecDepth 100000 in
theorem r_count (l : Launch) (D : va_G) (g : Nat → ClassId)   (sz : Nat) (h : Nat) (a : Nat → Nat) (f_words : Nat → Int64) (f_text : Nat → Int32) (q_size : Nat) (q_at : Nat) (q_token : Int32) (q_tokenAt : Nat) (q_which : Int32) (q_value : Nat) (q_live : Nat) (q_draft : Nat) (q_hasProgram : Int32) (f_stat : Nat → Int32) (f_statements : Nat → Int32) (f_entryKind : Nat → Int32) (f_entryValue : Nat → Int32) (f_firstOf : Nat → Int32) (f_catchOf : Nat → Int32) (f_catchKind : Nat → Int32) (f_catchBlock : Nat → Int32) (f_catches : Nat → Int32) (f_body : Nat → Int32) (f_methods : Nat → Int32) (f_above : Nat → Int32) (f_kinds : Nat → Int32) (q_entries : Nat) (q_blocks : Nat) (q_fault : Int32) (q_faultAt : Int32) (q_faultTold : Int32) (q_checks : Nat) (f_checkHow : Nat → Int32) (f_checkAt : Nat → Int32) (f_checkValue : Nat → Int32) (q_waits : Nat) (f_wait : Nat → Int32) (f_waitValue : Nat → Int32) (q_deep : Int32) (q_isOver : Int32) (q_piled : Nat) (f_pileKind : Nat → Int32) (f_pileStatement : Nat → Int32) (f_pileBlock : Nat → Int32) (f_pileLast : Nat → Int32) (q_planned : Nat) (f_planStatement : Nat → Int32) (f_planPart : Nat → Int32) (f_planTime : Nat → Int32) (f_planKind : Nat → Int32) (f_hasRun : Nat → Int32) (q_slot : Nat) (f_told : Nat → Int32) (f_tape : Nat → Int32) (f_failedKind : Nat → Int32) (f_cause : Nat → Int32) (f_underFirst : Nat → Int32) (f_underNext : Nat → Int32) (f_failedAt : Nat → Int32) (f_underWay : Nat → Int32) (f_traces : Nat → Int32) (f_closings : Nat → Int32) (f_enteredOf : Nat → Int32) (q_left : Nat) (q_ended : Int32) (q_signal : Int32) (q_signalValue : Int32) (q_frames : Nat) (f_frameKind : Nat → Int32) (f_frameStatement : Nat → Int32) (f_frameNow : Nat → Int32) (f_pending : Nat → Int32) (f_pendingValue : Nat → Int32) (f_firstResource : Nat → Int32) (f_openedOf : Nat → Int32) (f_caught : Nat → Int32) (q_acts : Nat) (f_actVar : Nat → Int32) (f_actRow : Nat → Int32) (f_actMethod : Nat → Int32) (f_actStatement : Nat → Int32) (q_rows : Nat) (f_rowSize : Nat → Int32) (f_rowItem : Nat → Int32) (f_passed : Nat → Int32) (q_planning : Int32) (q_aloneStatement : Int32) (q_alonePart : Int32) (q_aloneTime : Int32) (q_quiet : Nat) (f_quietStatement : Nat → Int32) (f_quietPart : Nat → Int32) (f_quietTime : Nat → Int32) (f_stack : Nat → Int32) (q_stacked : Nat) (q_wrong : Int32) (f_wayOut : Nat → Int32) (q_wayOuts : Nat) (n1 : Int32) (hgi : GI f_words q_size q_value q_live q_hasProgram f_stat f_entryKind f_entryValue f_firstOf f_catchOf f_catchKind f_catchBlock f_body f_above f_statements f_catches f_methods f_kinds q_planned f_planKind f_told f_underWay q_quiet) : vz_Mi l D (tyG g) yX10_count cX10_count 2 1 22 0 0 .int [.ref h, .int n1] sz (vz_w [rmW g h a f_words f_text q_size q_at q_token q_tokenAt q_which q_value q_live q_draft q_hasProgram f_stat f_statements f_entryKind f_entryValue f_firstOf f_catchOf f_catchKind f_catchBlock f_catches f_body f_methods f_above f_kinds q_entries q_blocks q_fault q_faultAt q_faultTold q_checks f_checkHow f_checkAt f_checkValue q_waits f_wait f_waitValue q_deep q_isOver q_piled f_pileKind f_pileStatement f_pileBlock f_pileLast q_planned f_planStatement f_planPart f_planTime f_planKind f_hasRun q_slot f_told f_tape f_failedKind f_cause f_underFirst f_underNext f_failedAt f_underWay f_traces f_closings f_enteredOf q_left q_ended q_signal q_signalValue q_frames f_frameKind f_frameStatement f_frameNow f_pending f_pendingValue f_firstResource f_openedOf f_caught q_acts f_actVar f_actRow f_actMethod f_actStatement q_rows f_rowSize f_rowItem f_passed q_planning q_aloneStatement q_alonePart q_aloneTime q_quiet f_quietStatement f_quietPart f_quietTime f_stack q_stacked q_wrong f_wayOut q_wayOuts]) (fun r (u : Unit) => True) (fun u => vz_w [rmW g h a f_words f_text q_size q_at q_token q_tokenAt q_which q_value q_live q_draft q_hasProgram f_stat f_statements f_entryKind f_entryValue f_firstOf f_catchOf f_catchKind f_catchBlock f_catches f_body f_methods f_above f_kinds q_entries q_blocks q_fault q_faultAt q_faultTold q_checks f_checkHow f_checkAt f_checkValue q_waits f_wait f_waitValue q_deep q_isOver q_piled f_pileKind f_pileStatement f_pileBlock f_pileLast q_planned f_planStatement f_planPart f_planTime f_planKind f_hasRun q_slot f_told f_tape f_failedKind f_cause f_underFirst f_underNext f_failedAt f_underWay f_traces f_closings f_enteredOf q_left q_ended q_signal q_signalValue q_frames f_frameKind f_frameStatement f_frameNow f_pending f_pendingValue f_firstResource f_openedOf f_caught q_acts f_actVar f_actRow f_actMethod f_actStatement q_rows f_rowSize f_rowItem f_passed q_planning q_aloneStatement q_alonePart q_aloneTime q_quiet f_quietStatement f_quietPart f_quietTime f_stack q_stacked q_wrong f_wayOut q_wayOuts]) := by
  refine vz_siQ (by decide) (Nat.le_of_ble_eq_true rfl) (fun p e s m args below meth c hx hb hr hml hts hown hlk hin hK hsz A hA H locs hP hD hS ls hl Q hQ => ?_)
  have hl : lv_has ls 2 [(0, .ref h), (1, .int n1)] := hl
  obtain ⟨hwd, hsz, hva, hlv, hwl, hpl, htt, huw, hqu⟩ := hgi
  refine lv_iload_n hx hb dX10_count_0 rfl (lv_at hl 1 rfl) ?_
  refine lv_iconst (v := 0) hx hb dX10_count_1 (by decide) ?_
  refine lv_iconst (v := 4) hx hb dX10_count_2 (by decide) ?_
  refine vz_Si4 (n9 := 1) (bs2 := fun u : Unit => [rmW g h a f_words f_text q_size q_at q_token q_tokenAt q_which q_value q_live q_draft q_hasProgram f_stat f_statements f_entryKind f_entryValue f_firstOf f_catchOf f_catchKind f_catchBlock f_catches f_body f_methods f_above f_kinds q_entries q_blocks q_fault q_faultAt q_faultTold q_checks f_checkHow f_checkAt f_checkValue q_waits f_wait f_waitValue q_deep q_isOver q_piled f_pileKind f_pileStatement f_pileBlock f_pileLast q_planned f_planStatement f_planPart f_planTime f_planKind f_hasRun q_slot f_told f_tape f_failedKind f_cause f_underFirst f_underNext f_failedAt f_underWay f_traces f_closings f_enteredOf q_left q_ended q_signal q_signalValue q_frames f_frameKind f_frameStatement f_frameNow f_pending f_pendingValue f_firstResource f_openedOf f_caught q_acts f_actVar f_actRow f_actMethod f_actStatement q_rows f_rowSize f_rowItem f_passed q_planning q_aloneStatement q_alonePart q_aloneTime q_quiet f_quietStatement f_quietPart f_quietTime f_stack q_stacked q_wrong f_wayOut q_wayOuts]) (br := [rmW g h a f_words f_text q_size q_at q_token q_tokenAt q_which q_value q_live q_draft q_hasProgram f_stat f_statements f_entryKind f_entryValue f_firstOf f_catchOf f_catchKind f_catchBlock f_catches f_body f_methods f_above f_kinds q_entries q_blocks q_fault q_faultAt q_faultTold q_checks f_checkHow f_checkAt f_checkValue q_waits f_wait f_waitValue q_deep q_isOver q_piled f_pileKind f_pileStatement f_pileBlock f_pileLast q_planned f_planStatement f_planPart f_planTime f_planKind f_hasRun q_slot f_told f_tape f_failedKind f_cause f_underFirst f_underNext f_failedAt f_underWay f_traces f_closings f_enteredOf q_left q_ended q_signal q_signalValue q_frames f_frameKind f_frameStatement f_frameNow f_pending f_pendingValue f_firstResource f_openedOf f_caught q_acts f_actVar f_actRow f_actMethod f_actStatement q_rows f_rowSize f_rowItem f_passed q_planning q_aloneStatement q_alonePart q_aloneTime q_quiet f_quietStatement f_quietPart f_quietTime f_stack q_stacked q_wrong f_wayOut q_wayOuts]) (As := [.int n1, .int 0, .int 4]) (rest := []) hx hb hml hown hts hK hA hP hD hS (r_in l D g H.size n1 0 4) ks_X10_239 ⟨Nat.le_of_ble_eq_true rfl, Nat.le_of_ble_eq_true rfl⟩ [] [0] rfl (by decide) rfl (fun _ => rfl) (fun _ => rfl) hl.1 (Nat.le_of_ble_eq_true rfl) dX10_count_3 ⟨Nat.le_refl _, Nat.le_refl _⟩ rfl (fun v1 _ H locs hz2 _ hP hD hS => ?_)
  rcases hz2 with ⟨rfl, hb3⟩ | ⟨rfl, hb3⟩
  · have ei4 : (0 : Int32).toInt = 0 := rfl
    have ei5 : (4 : Int32).toInt = 4 := rfl
    refine lv_if_eq (tgt := 21) hx hb dX10_count_6 (by decide) (fun h9 => absurd h9 (by decide)) (fun _ => ?_)
    refine lv_aload_n hx hb dX10_count_9 rfl (lv_at hl 0 rfl) ?_
    refine va_get (D := D) (ci := 10) (v := .int q_hasProgram) (C := RX10) (T := TX10) (N := 96) hx hb hts inlX10 hown hK hP 0 rfl rfl 10 (by decide) (hts _ q748) (fun _ h => h) rfl dX10_count_10 ?_
    refine lv_if_ne (tgt := 23) hx hb dX10_count_13 (by decide) (fun kc6 => ?_) (fun kc6 => ?_)
    · have kn7 : ¬ q_hasProgram.toInt = 0 := fun q => kc6 (Int32.toInt_inj.mp q)
      refine lv_iload_n hx hb dX10_count_23 rfl (lv_at hl 1 rfl) ?_
      have S24_56 : W p l e { frames := 1, cells := 0, slots := 0, locals := 22 } s m args below meth c H locs 0 0 Q (F0 m 56 ls []) := by
        refine lv_aload_n hx hb dX10_count_56 rfl (lv_at hl 0 rfl) ?_
        refine va_get (D := D) (ci := 10) (v := .ref (a 3)) (C := RX10) (T := TX10) (N := 96) hx hb hts inlX10 hown hK hP 0 rfl rfl 12 (by decide) (hts _ q196) (fun _ h => h) rfl dX10_count_57 ?_
        refine lv_aload_n hx hb dX10_count_60 rfl (lv_at hl 0 rfl) ?_
        refine va_get (D := D) (ci := 10) (v := .int (nI q_live)) (C := RX10) (T := TX10) (N := 96) hx hb hts inlX10 hown hK hP 0 rfl rfl 8 (by decide) (hts _ q254) (fun _ h => h) rfl dX10_count_61 ?_
        refine va_iald hx hb hK hP 4 0 rfl rfl (vr_in (by first | omega | (clear hP hD hS hl hQ; grind)) (by decide)) dX10_count_64 ?_
        refine lv_topi (nm_r (e' := (f_statements q_live)) (vr_ld (by first | omega | (clear hP hD hS hl hQ; grind))) ?_)
        rw [hQ]
        exact vz_iret3 hx hb hr hlk hK hP hD hS () trivial rfl (Nat.le_refl 0) (Nat.le_refl 0) dX10_count_65
      have S24_66 : W p l e { frames := 1, cells := 0, slots := 0, locals := 22 } s m args below meth c H locs 0 0 Q (F0 m 66 ls []) := by
        refine lv_aload_n hx hb dX10_count_66 rfl (lv_at hl 0 rfl) ?_
        refine va_get (D := D) (ci := 10) (v := .ref (a 12)) (C := RX10) (T := TX10) (N := 96) hx hb hts inlX10 hown hK hP 0 rfl rfl 21 (by decide) (hts _ q205) (fun _ h => h) rfl dX10_count_67 ?_
        refine lv_aload_n hx hb dX10_count_70 rfl (lv_at hl 0 rfl) ?_
        refine va_get (D := D) (ci := 10) (v := .int (nI q_live)) (C := RX10) (T := TX10) (N := 96) hx hb hts inlX10 hown hK hP 0 rfl rfl 8 (by decide) (hts _ q254) (fun _ h => h) rfl dX10_count_71 ?_
        refine va_iald hx hb hK hP 13 0 rfl rfl (vr_in (by first | omega | (clear hP hD hS hl hQ; grind)) (by decide)) dX10_count_74 ?_
        refine lv_topi (nm_r (e' := (f_methods q_live)) (vr_ld (by first | omega | (clear hP hD hS hl hQ; grind))) ?_)
        rw [hQ]
        exact vz_iret3 hx hb hr hlk hK hP hD hS () trivial rfl (Nat.le_refl 0) (Nat.le_refl 0) dX10_count_75
      have S24_76 : W p l e { frames := 1, cells := 0, slots := 0, locals := 22 } s m args below meth c H locs 0 0 Q (F0 m 76 ls []) := by
        refine lv_aload_n hx hb dX10_count_76 rfl (lv_at hl 0 rfl) ?_
        refine va_get (D := D) (ci := 10) (v := .ref (a 14)) (C := RX10) (T := TX10) (N := 96) hx hb hts inlX10 hown hK hP 0 rfl rfl 23 (by decide) (hts _ q207) (fun _ h => h) rfl dX10_count_77 ?_
        refine lv_aload_n hx hb dX10_count_80 rfl (lv_at hl 0 rfl) ?_
        refine va_get (D := D) (ci := 10) (v := .int (nI q_live)) (C := RX10) (T := TX10) (N := 96) hx hb hts inlX10 hown hK hP 0 rfl rfl 8 (by decide) (hts _ q254) (fun _ h => h) rfl dX10_count_81 ?_
        refine va_iald hx hb hK hP 15 0 rfl rfl (vr_in (by first | omega | (clear hP hD hS hl hQ; grind)) (by decide)) dX10_count_84 ?_
        refine lv_topi (nm_r (e' := (f_kinds q_live)) (vr_ld (by first | omega | (clear hP hD hS hl hQ; grind))) ?_)
        rw [hQ]
        exact vz_iret3 hx hb hr hlk hK hP hD hS () trivial rfl (Nat.le_refl 0) (Nat.le_refl 0) dX10_count_85
      have S24_86 : W p l e { frames := 1, cells := 0, slots := 0, locals := 22 } s m args below meth c H locs 0 0 Q (F0 m 86 ls []) := by
        refine lv_aload_n hx hb dX10_count_86 rfl (lv_at hl 0 rfl) ?_
        refine va_get (D := D) (ci := 10) (v := .ref (a 10)) (C := RX10) (T := TX10) (N := 96) hx hb hts inlX10 hown hK hP 0 rfl rfl 19 (by decide) (hts _ q203) (fun _ h => h) rfl dX10_count_87 ?_
        refine lv_aload_n hx hb dX10_count_90 rfl (lv_at hl 0 rfl) ?_
        refine va_get (D := D) (ci := 10) (v := .int (nI q_live)) (C := RX10) (T := TX10) (N := 96) hx hb hts inlX10 hown hK hP 0 rfl rfl 8 (by decide) (hts _ q254) (fun _ h => h) rfl dX10_count_91 ?_
        refine va_iald hx hb hK hP 11 0 rfl rfl (vr_in (by first | omega | (clear hP hD hS hl hQ; grind)) (by decide)) dX10_count_94 ?_
        refine lv_topi (nm_r (e' := (f_catches q_live)) (vr_ld (by first | omega | (clear hP hD hS hl hQ; grind))) ?_)
        rw [hQ]
        exact vz_iret3 hx hb hr hlk hK hP hD hS () trivial rfl (Nat.le_refl 0) (Nat.le_refl 0) dX10_count_95
      have S24_96 : W p l e { frames := 1, cells := 0, slots := 0, locals := 22 } s m args below meth c H locs 0 0 Q (F0 m 96 ls []) := by
        refine lv_aload_n hx hb dX10_count_96 rfl (lv_at hl 0 rfl) ?_
        refine va_get (D := D) (ci := 10) (v := .int (nI q_planned)) (C := RX10) (T := TX10) (N := 96) hx hb hts inlX10 hown hK hP 0 rfl rfl 43 (by decide) (hts _ q749) (fun _ h => h) rfl dX10_count_97 ?_
        rw [hQ]
        exact vz_iret3 hx hb hr hlk hK hP hD hS () trivial rfl (Nat.le_refl 0) (Nat.le_refl 0) dX10_count_100
      refine vz_tsw (td := 96) hx hb dX10_count_24 (by decide) [56, 66, 76, 86] (by decide) (by decide) (fun hv => ?_) (fun k t hk hv => ?_)
      · exact S24_96
      · have hm := List.mem_of_getElem? hk
        simp only [List.mem_cons, List.not_mem_nil, or_false] at hm
        rcases hm with rfl | rfl | rfl | rfl
        · exact S24_56
        · exact S24_66
        · exact S24_76
        · exact S24_86
    · have kn8 : q_hasProgram.toInt = 0 := congrArg Int32.toInt kc6
      refine lv_iload_n hx hb dX10_count_16 rfl (lv_at hl 1 rfl) ?_
      refine lv_iconst (v := 4) hx hb dX10_count_17 (by decide) ?_
      refine lv_icmp_ge (tgt := 23) hx hb dX10_count_18 (by decide) (fun kc9 => ?_) (fun kc9 => ?_)
      · have kn10 : n1.toInt ≥ 4 := Int32.le_iff_toInt_le.mp kc9
        refine lv_iload_n hx hb dX10_count_23 rfl (lv_at hl 1 rfl) ?_
        have S24_56 : W p l e { frames := 1, cells := 0, slots := 0, locals := 22 } s m args below meth c H locs 0 0 Q (F0 m 56 ls []) := by
          refine lv_aload_n hx hb dX10_count_56 rfl (lv_at hl 0 rfl) ?_
          refine va_get (D := D) (ci := 10) (v := .ref (a 3)) (C := RX10) (T := TX10) (N := 96) hx hb hts inlX10 hown hK hP 0 rfl rfl 12 (by decide) (hts _ q196) (fun _ h => h) rfl dX10_count_57 ?_
          refine lv_aload_n hx hb dX10_count_60 rfl (lv_at hl 0 rfl) ?_
          refine va_get (D := D) (ci := 10) (v := .int (nI q_live)) (C := RX10) (T := TX10) (N := 96) hx hb hts inlX10 hown hK hP 0 rfl rfl 8 (by decide) (hts _ q254) (fun _ h => h) rfl dX10_count_61 ?_
          refine va_iald hx hb hK hP 4 0 rfl rfl (vr_in (by first | omega | (clear hP hD hS hl hQ; grind)) (by decide)) dX10_count_64 ?_
          refine lv_topi (nm_r (e' := (f_statements q_live)) (vr_ld (by first | omega | (clear hP hD hS hl hQ; grind))) ?_)
          rw [hQ]
          exact vz_iret3 hx hb hr hlk hK hP hD hS () trivial rfl (Nat.le_refl 0) (Nat.le_refl 0) dX10_count_65
        have S24_66 : W p l e { frames := 1, cells := 0, slots := 0, locals := 22 } s m args below meth c H locs 0 0 Q (F0 m 66 ls []) := by
          refine lv_aload_n hx hb dX10_count_66 rfl (lv_at hl 0 rfl) ?_
          refine va_get (D := D) (ci := 10) (v := .ref (a 12)) (C := RX10) (T := TX10) (N := 96) hx hb hts inlX10 hown hK hP 0 rfl rfl 21 (by decide) (hts _ q205) (fun _ h => h) rfl dX10_count_67 ?_
          refine lv_aload_n hx hb dX10_count_70 rfl (lv_at hl 0 rfl) ?_
          refine va_get (D := D) (ci := 10) (v := .int (nI q_live)) (C := RX10) (T := TX10) (N := 96) hx hb hts inlX10 hown hK hP 0 rfl rfl 8 (by decide) (hts _ q254) (fun _ h => h) rfl dX10_count_71 ?_
          refine va_iald hx hb hK hP 13 0 rfl rfl (vr_in (by first | omega | (clear hP hD hS hl hQ; grind)) (by decide)) dX10_count_74 ?_
          refine lv_topi (nm_r (e' := (f_methods q_live)) (vr_ld (by first | omega | (clear hP hD hS hl hQ; grind))) ?_)
          rw [hQ]
          exact vz_iret3 hx hb hr hlk hK hP hD hS () trivial rfl (Nat.le_refl 0) (Nat.le_refl 0) dX10_count_75
        have S24_76 : W p l e { frames := 1, cells := 0, slots := 0, locals := 22 } s m args below meth c H locs 0 0 Q (F0 m 76 ls []) := by
          refine lv_aload_n hx hb dX10_count_76 rfl (lv_at hl 0 rfl) ?_
          refine va_get (D := D) (ci := 10) (v := .ref (a 14)) (C := RX10) (T := TX10) (N := 96) hx hb hts inlX10 hown hK hP 0 rfl rfl 23 (by decide) (hts _ q207) (fun _ h => h) rfl dX10_count_77 ?_
          refine lv_aload_n hx hb dX10_count_80 rfl (lv_at hl 0 rfl) ?_
          refine va_get (D := D) (ci := 10) (v := .int (nI q_live)) (C := RX10) (T := TX10) (N := 96) hx hb hts inlX10 hown hK hP 0 rfl rfl 8 (by decide) (hts _ q254) (fun _ h => h) rfl dX10_count_81 ?_
          refine va_iald hx hb hK hP 15 0 rfl rfl (vr_in (by first | omega | (clear hP hD hS hl hQ; grind)) (by decide)) dX10_count_84 ?_
          refine lv_topi (nm_r (e' := (f_kinds q_live)) (vr_ld (by first | omega | (clear hP hD hS hl hQ; grind))) ?_)
          rw [hQ]
          exact vz_iret3 hx hb hr hlk hK hP hD hS () trivial rfl (Nat.le_refl 0) (Nat.le_refl 0) dX10_count_85
        have S24_86 : W p l e { frames := 1, cells := 0, slots := 0, locals := 22 } s m args below meth c H locs 0 0 Q (F0 m 86 ls []) := by
          refine lv_aload_n hx hb dX10_count_86 rfl (lv_at hl 0 rfl) ?_
          refine va_get (D := D) (ci := 10) (v := .ref (a 10)) (C := RX10) (T := TX10) (N := 96) hx hb hts inlX10 hown hK hP 0 rfl rfl 19 (by decide) (hts _ q203) (fun _ h => h) rfl dX10_count_87 ?_
          refine lv_aload_n hx hb dX10_count_90 rfl (lv_at hl 0 rfl) ?_
          refine va_get (D := D) (ci := 10) (v := .int (nI q_live)) (C := RX10) (T := TX10) (N := 96) hx hb hts inlX10 hown hK hP 0 rfl rfl 8 (by decide) (hts _ q254) (fun _ h => h) rfl dX10_count_91 ?_
          refine va_iald hx hb hK hP 11 0 rfl rfl (vr_in (by first | omega | (clear hP hD hS hl hQ; grind)) (by decide)) dX10_count_94 ?_
          refine lv_topi (nm_r (e' := (f_catches q_live)) (vr_ld (by first | omega | (clear hP hD hS hl hQ; grind))) ?_)
          rw [hQ]
          exact vz_iret3 hx hb hr hlk hK hP hD hS () trivial rfl (Nat.le_refl 0) (Nat.le_refl 0) dX10_count_95
        have S24_96 : W p l e { frames := 1, cells := 0, slots := 0, locals := 22 } s m args below meth c H locs 0 0 Q (F0 m 96 ls []) := by
          refine lv_aload_n hx hb dX10_count_96 rfl (lv_at hl 0 rfl) ?_
          refine va_get (D := D) (ci := 10) (v := .int (nI q_planned)) (C := RX10) (T := TX10) (N := 96) hx hb hts inlX10 hown hK hP 0 rfl rfl 43 (by decide) (hts _ q749) (fun _ h => h) rfl dX10_count_97 ?_
          rw [hQ]
          exact vz_iret3 hx hb hr hlk hK hP hD hS () trivial rfl (Nat.le_refl 0) (Nat.le_refl 0) dX10_count_100
        refine vz_tsw (td := 96) hx hb dX10_count_24 (by decide) [56, 66, 76, 86] (by decide) (by decide) (fun hv => ?_) (fun k t hk hv => ?_)
        · exact S24_96
        · have hm := List.mem_of_getElem? hk
          simp only [List.mem_cons, List.not_mem_nil, or_false] at hm
          rcases hm with rfl | rfl | rfl | rfl
          · exact S24_56
          · exact S24_66
          · exact S24_76
          · exact S24_86
      · have kn11 : ¬ n1.toInt ≥ 4 := fun q => kc9 (Int32.le_iff_toInt_le.mpr q)
        refine lv_iconst (v := (-1)) hx hb dX10_count_21 (by decide) ?_
        rw [hQ]
        exact vz_iret3 hx hb hr hlk hK hP hD hS () trivial rfl (Nat.le_refl 0) (Nat.le_refl 0) dX10_count_22
  · have ei12 : (0 : Int32).toInt = 0 := rfl
    have ei13 : (4 : Int32).toInt = 4 := rfl
    refine lv_if_eq (tgt := 21) hx hb dX10_count_6 (by decide) (fun _ => ?_) (fun h9 => absurd (by decide) h9)
    refine lv_iconst (v := (-1)) hx hb dX10_count_21 (by decide) ?_
    rw [hQ]
    exact vz_iret3 hx hb hr hlk hK hP hD hS () trivial rfl (Nat.le_refl 0) (Nat.le_refl 0) dX10_count_22
theorem q1361 : Cond.methodLink RX10 609 yX10_isMethod ∈ wsL_law := mT_8 (List.mem_of_getElem? (i := 163) rfl) rfl
theorem q1362 : Cond.instanceMethod yX10_isMethod ∈ wsL_law := mT_8 (List.mem_of_getElem? (i := 165) rfl) rfl
theorem q1363 : Cond.selects RX10 yX10_isMethod yX10_isMethod ∈ wsL_law := mS_10 (q := (yX10_isMethod, 96)) (List.mem_of_getElem? (i := 11) rfl) rfl
theorem q1364 : Cond.code yX10_isMethod cX10_isMethod 2 (some .boolean) ∈ wsL_law := mT_8 (List.mem_of_getElem? (i := 166) rfl) rfl
theorem kv_X10_609 : vz_cv RX10 609 yX10_isMethod cX10_isMethod 2 (some .boolean) 1 := ⟨q1361, q1362, q1363, q5, q1364, by decide +kernel⟩
theorem dX10_same_0 : decode cX10_same 0 = .ok (.aload_n 0, 1) := by decide +kernel
theorem dX10_same_1 : decode cX10_same 1 = .ok (.iload_n 1, 1) := by decide +kernel
theorem dX10_same_2 : decode cX10_same 2 = .ok (.invokevirtual 609, 3) := by decide +kernel
theorem dX10_same_5 : decode cX10_same 5 = .ok (.ifCond .eq 7, 3) := by decide +kernel
theorem dX10_same_8 : decode cX10_same 8 = .ok (.iconst 1, 1) := by decide +kernel
theorem dX10_same_9 : decode cX10_same 9 = .ok (.goto 4, 3) := by decide +kernel
theorem dX10_same_12 : decode cX10_same 12 = .ok (.iconst (-1), 1) := by decide +kernel
theorem dX10_same_13 : decode cX10_same 13 = .ok (.ireturn, 1) := by decide +kernel
set_option maxHeartbeats 8000000 in
set_option maxRecDepth 100000 in
theorem r_same (l : Launch) (D : va_G) (g : Nat → ClassId)   (sz : Nat) (h : Nat) (a : Nat → Nat) (f_words : Nat → Int64) (f_text : Nat → Int32) (q_size : Nat) (q_at : Nat) (q_token : Int32) (q_tokenAt : Nat) (q_which : Int32) (q_value : Nat) (q_live : Nat) (q_draft : Nat) (q_hasProgram : Int32) (f_stat : Nat → Int32) (f_statements : Nat → Int32) (f_entryKind : Nat → Int32) (f_entryValue : Nat → Int32) (f_firstOf : Nat → Int32) (f_catchOf : Nat → Int32) (f_catchKind : Nat → Int32) (f_catchBlock : Nat → Int32) (f_catches : Nat → Int32) (f_body : Nat → Int32) (f_methods : Nat → Int32) (f_above : Nat → Int32) (f_kinds : Nat → Int32) (q_entries : Nat) (q_blocks : Nat) (q_fault : Int32) (q_faultAt : Int32) (q_faultTold : Int32) (q_checks : Nat) (f_checkHow : Nat → Int32) (f_checkAt : Nat → Int32) (f_checkValue : Nat → Int32) (q_waits : Nat) (f_wait : Nat → Int32) (f_waitValue : Nat → Int32) (q_deep : Int32) (q_isOver : Int32) (q_piled : Nat) (f_pileKind : Nat → Int32) (f_pileStatement : Nat → Int32) (f_pileBlock : Nat → Int32) (f_pileLast : Nat → Int32) (q_planned : Nat) (f_planStatement : Nat → Int32) (f_planPart : Nat → Int32) (f_planTime : Nat → Int32) (f_planKind : Nat → Int32) (f_hasRun : Nat → Int32) (q_slot : Nat) (f_told : Nat → Int32) (f_tape : Nat → Int32) (f_failedKind : Nat → Int32) (f_cause : Nat → Int32) (f_underFirst : Nat → Int32) (f_underNext : Nat → Int32) (f_failedAt : Nat → Int32) (f_underWay : Nat → Int32) (f_traces : Nat → Int32) (f_closings : Nat → Int32) (f_enteredOf : Nat → Int32) (q_left : Nat) (q_ended : Int32) (q_signal : Int32) (q_signalValue : Int32) (q_frames : Nat) (f_frameKind : Nat → Int32) (f_frameStatement : Nat → Int32) (f_frameNow : Nat → Int32) (f_pending : Nat → Int32) (f_pendingValue : Nat → Int32) (f_firstResource : Nat → Int32) (f_openedOf : Nat → Int32) (f_caught : Nat → Int32) (q_acts : Nat) (f_actVar : Nat → Int32) (f_actRow : Nat → Int32) (f_actMethod : Nat → Int32) (f_actStatement : Nat → Int32) (q_rows : Nat) (f_rowSize : Nat → Int32) (f_rowItem : Nat → Int32) (f_passed : Nat → Int32) (q_planning : Int32) (q_aloneStatement : Int32) (q_alonePart : Int32) (q_aloneTime : Int32) (q_quiet : Nat) (f_quietStatement : Nat → Int32) (f_quietPart : Nat → Int32) (f_quietTime : Nat → Int32) (f_stack : Nat → Int32) (q_stacked : Nat) (q_wrong : Int32) (f_wayOut : Nat → Int32) (q_wayOuts : Nat) (n1 : Int32) (n2 : Int32) (n3 : Int32) (hgi : GI f_words q_size q_value q_live q_hasProgram f_stat f_entryKind f_entryValue f_firstOf f_catchOf f_catchKind f_catchBlock f_body f_above f_statements f_catches f_methods f_kinds q_planned f_planKind f_told f_underWay q_quiet) : vz_Mi l D (tyG g) yX10_same cX10_same 4 2 43 0 0 .int [.ref h, .int n1, .int n2, .int n3] sz (vz_w [rmW g h a f_words f_text q_size q_at q_token q_tokenAt q_which q_value q_live q_draft q_hasProgram f_stat f_statements f_entryKind f_entryValue f_firstOf f_catchOf f_catchKind f_catchBlock f_catches f_body f_methods f_above f_kinds q_entries q_blocks q_fault q_faultAt q_faultTold q_checks f_checkHow f_checkAt f_checkValue q_waits f_wait f_waitValue q_deep q_isOver q_piled f_pileKind f_pileStatement f_pileBlock f_pileLast q_planned f_planStatement f_planPart f_planTime f_planKind f_hasRun q_slot f_told f_tape f_failedKind f_cause f_underFirst f_underNext f_failedAt f_underWay f_traces f_closings f_enteredOf q_left q_ended q_signal q_signalValue q_frames f_frameKind f_frameStatement f_frameNow f_pending f_pendingValue f_firstResource f_openedOf f_caught q_acts f_actVar f_actRow f_actMethod f_actStatement q_rows f_rowSize f_rowItem f_passed q_planning q_aloneStatement q_alonePart q_aloneTime q_quiet f_quietStatement f_quietPart f_quietTime f_stack q_stacked q_wrong f_wayOut q_wayOuts]) (fun r (u : Unit) => True) (fun u => vz_w [rmW g h a f_words f_text q_size q_at q_token q_tokenAt q_which q_value q_live q_draft q_hasProgram f_stat f_statements f_entryKind f_entryValue f_firstOf f_catchOf f_catchKind f_catchBlock f_catches f_body f_methods f_above f_kinds q_entries q_blocks q_fault q_faultAt q_faultTold q_checks f_checkHow f_checkAt f_checkValue q_waits f_wait f_waitValue q_deep q_isOver q_piled f_pileKind f_pileStatement f_pileBlock f_pileLast q_planned f_planStatement f_planPart f_planTime f_planKind f_hasRun q_slot f_told f_tape f_failedKind f_cause f_underFirst f_underNext f_failedAt f_underWay f_traces f_closings f_enteredOf q_left q_ended q_signal q_signalValue q_frames f_frameKind f_frameStatement f_frameNow f_pending f_pendingValue f_firstResource f_openedOf f_caught q_acts f_actVar f_actRow f_actMethod f_actStatement q_rows f_rowSize f_rowItem f_passed q_planning q_aloneStatement q_alonePart q_aloneTime q_quiet f_quietStatement f_quietPart f_quietTime f_stack q_stacked q_wrong f_wayOut q_wayOuts]) := by
  refine vz_siQ (by decide) (Nat.le_of_ble_eq_true rfl) (fun p e s m args below meth c hx hb hr hml hts hown hlk hin hK hsz A hA H locs hP hD hS ls hl Q hQ => ?_)
  have hl : lv_has ls 4 [(0, .ref h), (1, .int n1), (2, .int n2), (3, .int n3)] := hl
  obtain ⟨hwd, hsz, hva, hlv, hwl, hpl, htt, huw, hqu⟩ := hgi
  refine lv_aload_n hx hb dX10_same_0 rfl (lv_at hl 0 rfl) ?_
  refine lv_iload_n hx hb dX10_same_1 rfl (lv_at hl 1 rfl) ?_
  refine vz_Vi3 (As := [.int n1]) (rest := []) hx hb hml hown hts hK hA hP hD hS (r_isMethod l D g H.size h a f_words f_text q_size q_at q_token q_tokenAt q_which q_value q_live q_draft q_hasProgram f_stat f_statements f_entryKind f_entryValue f_firstOf f_catchOf f_catchKind f_catchBlock f_catches f_body f_methods f_above f_kinds q_entries q_blocks q_fault q_faultAt q_faultTold q_checks f_checkHow f_checkAt f_checkValue q_waits f_wait f_waitValue q_deep q_isOver q_piled f_pileKind f_pileStatement f_pileBlock f_pileLast q_planned f_planStatement f_planPart f_planTime f_planKind f_hasRun q_slot f_told f_tape f_failedKind f_cause f_underFirst f_underNext f_failedAt f_underWay f_traces f_closings f_enteredOf q_left q_ended q_signal q_signalValue q_frames f_frameKind f_frameStatement f_frameNow f_pending f_pendingValue f_firstResource f_openedOf f_caught q_acts f_actVar f_actRow f_actMethod f_actStatement q_rows f_rowSize f_rowItem f_passed q_planning q_aloneStatement q_alonePart q_aloneTime q_quiet f_quietStatement f_quietPart f_quietTime f_stack q_stacked q_wrong f_wayOut q_wayOuts n1 (by first | assumption | omega | (clear hP hD hS hl hQ; grind)) (by first | assumption | omega | (clear hP hD hS hl hQ; grind))) kv_X10_609 ⟨Nat.le_of_ble_eq_true rfl, Nat.le_of_ble_eq_true rfl⟩ (q0 := 0) (ci := 10) rfl rfl rfl  hl.1 (Nat.le_of_ble_eq_true rfl) dX10_same_2 ⟨Nat.le_refl _, Nat.le_refl _⟩ rfl (fun v1 _ H locs hz2 _ hP hD hS => ?_)
  rcases hz2 with ⟨rfl, hb3⟩ | ⟨rfl, hb3⟩
  · refine lv_if_eq (tgt := 12) hx hb dX10_same_5 (by decide) (fun h9 => absurd h9 (by decide)) (fun _ => ?_)
    refine lv_iconst (v := 1) hx hb dX10_same_8 (by decide) ?_
    refine lv_goto (tgt := 13) hx hb dX10_same_9 (by decide) ?_
    rw [hQ]
    exact vz_iret3 hx hb hr hlk hK hP hD hS () trivial rfl (Nat.le_refl 0) (Nat.le_refl 0) dX10_same_13
  · refine lv_if_eq (tgt := 12) hx hb dX10_same_5 (by decide) (fun _ => ?_) (fun h9 => absurd (by decide) h9)
    refine lv_iconst (v := (-1)) hx hb dX10_same_12 (by decide) ?_
    rw [hQ]
    exact vz_iret3 hx hb hr hlk hK hP hD hS () trivial rfl (Nat.le_refl 0) (Nat.le_refl 0) dX10_same_13
theorem q1531 : Cond.methodLink RX10 616 yX10_isRun ∈ wsL_law := mT_9 (List.mem_of_getElem? (i := 59) rfl) rfl
theorem q1532 : Cond.instanceMethod yX10_isRun ∈ wsL_law := mT_9 (List.mem_of_getElem? (i := 61) rfl) rfl
theorem q1533 : Cond.selects RX10 yX10_isRun yX10_isRun ∈ wsL_law := mS_12 (q := (yX10_isRun, 96)) (List.mem_of_getElem? (i := 12) rfl) rfl
theorem q1534 : Cond.code yX10_isRun cX10_isRun 2 (some .boolean) ∈ wsL_law := mT_9 (List.mem_of_getElem? (i := 62) rfl) rfl
theorem kv_X10_616 : vz_cv RX10 616 yX10_isRun cX10_isRun 2 (some .boolean) 1 := ⟨q1531, q1532, q1533, q5, q1534, by decide +kernel⟩
theorem dX10_ran_0 : decode cX10_ran 0 = .ok (.aload_n 0, 1) := by decide +kernel
theorem dX10_ran_1 : decode cX10_ran 1 = .ok (.iload_n 1, 1) := by decide +kernel
theorem dX10_ran_2 : decode cX10_ran 2 = .ok (.invokevirtual 616, 3) := by decide +kernel
theorem dX10_ran_5 : decode cX10_ran 5 = .ok (.ifCond .eq 27, 3) := by decide +kernel
theorem dX10_ran_8 : decode cX10_ran 8 = .ok (.iload_n 2, 1) := by decide +kernel
theorem dX10_ran_9 : decode cX10_ran 9 = .ok (.iconst 0, 1) := by decide +kernel
theorem dX10_ran_10 : decode cX10_ran 10 = .ok (.bipush 9, 2) := by decide +kernel
theorem dX10_ran_12 : decode cX10_ran 12 = .ok (.invokestatic 239, 3) := by decide +kernel
theorem dX10_ran_15 : decode cX10_ran 15 = .ok (.ifCond .eq 17, 3) := by decide +kernel
theorem dX10_ran_18 : decode cX10_ran 18 = .ok (.aload_n 0, 1) := by decide +kernel
theorem dX10_ran_19 : decode cX10_ran 19 = .ok (.getfield 142, 3) := by decide +kernel
theorem dX10_ran_22 : decode cX10_ran 22 = .ok (.bipush 10, 2) := by decide +kernel
theorem dX10_ran_24 : decode cX10_ran 24 = .ok (.iload_n 1, 1) := by decide +kernel
theorem dX10_ran_25 : decode cX10_ran 25 = .ok (.imul, 1) := by decide +kernel
theorem dX10_ran_26 : decode cX10_ran 26 = .ok (.iload_n 2, 1) := by decide +kernel
theorem dX10_ran_27 : decode cX10_ran 27 = .ok (.iadd, 1) := by decide +kernel
theorem dX10_ran_28 : decode cX10_ran 28 = .ok (.iaload, 1) := by decide +kernel
theorem dX10_ran_29 : decode cX10_ran 29 = .ok (.goto 4, 3) := by decide +kernel
theorem dX10_ran_32 : decode cX10_ran 32 = .ok (.iconst (-1), 1) := by decide +kernel
theorem dX10_ran_33 : decode cX10_ran 33 = .ok (.ireturn, 1) := by decide +kernel
set_option maxHeartbeats 8000000 in
set_option maxRecDepth 100000 in
theorem r_ran (l : Launch) (D : va_G) (g : Nat → ClassId)   (sz : Nat) (h : Nat) (a : Nat → Nat) (f_words : Nat → Int64) (f_text : Nat → Int32) (q_size : Nat) (q_at : Nat) (q_token : Int32) (q_tokenAt : Nat) (q_which : Int32) (q_value : Nat) (q_live : Nat) (q_draft : Nat) (q_hasProgram : Int32) (f_stat : Nat → Int32) (f_statements : Nat → Int32) (f_entryKind : Nat → Int32) (f_entryValue : Nat → Int32) (f_firstOf : Nat → Int32) (f_catchOf : Nat → Int32) (f_catchKind : Nat → Int32) (f_catchBlock : Nat → Int32) (f_catches : Nat → Int32) (f_body : Nat → Int32) (f_methods : Nat → Int32) (f_above : Nat → Int32) (f_kinds : Nat → Int32) (q_entries : Nat) (q_blocks : Nat) (q_fault : Int32) (q_faultAt : Int32) (q_faultTold : Int32) (q_checks : Nat) (f_checkHow : Nat → Int32) (f_checkAt : Nat → Int32) (f_checkValue : Nat → Int32) (q_waits : Nat) (f_wait : Nat → Int32) (f_waitValue : Nat → Int32) (q_deep : Int32) (q_isOver : Int32) (q_piled : Nat) (f_pileKind : Nat → Int32) (f_pileStatement : Nat → Int32) (f_pileBlock : Nat → Int32) (f_pileLast : Nat → Int32) (q_planned : Nat) (f_planStatement : Nat → Int32) (f_planPart : Nat → Int32) (f_planTime : Nat → Int32) (f_planKind : Nat → Int32) (f_hasRun : Nat → Int32) (q_slot : Nat) (f_told : Nat → Int32) (f_tape : Nat → Int32) (f_failedKind : Nat → Int32) (f_cause : Nat → Int32) (f_underFirst : Nat → Int32) (f_underNext : Nat → Int32) (f_failedAt : Nat → Int32) (f_underWay : Nat → Int32) (f_traces : Nat → Int32) (f_closings : Nat → Int32) (f_enteredOf : Nat → Int32) (q_left : Nat) (q_ended : Int32) (q_signal : Int32) (q_signalValue : Int32) (q_frames : Nat) (f_frameKind : Nat → Int32) (f_frameStatement : Nat → Int32) (f_frameNow : Nat → Int32) (f_pending : Nat → Int32) (f_pendingValue : Nat → Int32) (f_firstResource : Nat → Int32) (f_openedOf : Nat → Int32) (f_caught : Nat → Int32) (q_acts : Nat) (f_actVar : Nat → Int32) (f_actRow : Nat → Int32) (f_actMethod : Nat → Int32) (f_actStatement : Nat → Int32) (q_rows : Nat) (f_rowSize : Nat → Int32) (f_rowItem : Nat → Int32) (f_passed : Nat → Int32) (q_planning : Int32) (q_aloneStatement : Int32) (q_alonePart : Int32) (q_aloneTime : Int32) (q_quiet : Nat) (f_quietStatement : Nat → Int32) (f_quietPart : Nat → Int32) (f_quietTime : Nat → Int32) (f_stack : Nat → Int32) (q_stacked : Nat) (q_wrong : Int32) (f_wayOut : Nat → Int32) (q_wayOuts : Nat) (n1 : Int32) (n2 : Int32) (hgi : GI f_words q_size q_value q_live q_hasProgram f_stat f_entryKind f_entryValue f_firstOf f_catchOf f_catchKind f_catchBlock f_body f_above f_statements f_catches f_methods f_kinds q_planned f_planKind f_told f_underWay q_quiet) : vz_Mi l D (tyG g) yX10_ran cX10_ran 3 2 43 0 0 .int [.ref h, .int n1, .int n2] sz (vz_w [rmW g h a f_words f_text q_size q_at q_token q_tokenAt q_which q_value q_live q_draft q_hasProgram f_stat f_statements f_entryKind f_entryValue f_firstOf f_catchOf f_catchKind f_catchBlock f_catches f_body f_methods f_above f_kinds q_entries q_blocks q_fault q_faultAt q_faultTold q_checks f_checkHow f_checkAt f_checkValue q_waits f_wait f_waitValue q_deep q_isOver q_piled f_pileKind f_pileStatement f_pileBlock f_pileLast q_planned f_planStatement f_planPart f_planTime f_planKind f_hasRun q_slot f_told f_tape f_failedKind f_cause f_underFirst f_underNext f_failedAt f_underWay f_traces f_closings f_enteredOf q_left q_ended q_signal q_signalValue q_frames f_frameKind f_frameStatement f_frameNow f_pending f_pendingValue f_firstResource f_openedOf f_caught q_acts f_actVar f_actRow f_actMethod f_actStatement q_rows f_rowSize f_rowItem f_passed q_planning q_aloneStatement q_alonePart q_aloneTime q_quiet f_quietStatement f_quietPart f_quietTime f_stack q_stacked q_wrong f_wayOut q_wayOuts]) (fun r (u : Unit) => True) (fun u => vz_w [rmW g h a f_words f_text q_size q_at q_token q_tokenAt q_which q_value q_live q_draft q_hasProgram f_stat f_statements f_entryKind f_entryValue f_firstOf f_catchOf f_catchKind f_catchBlock f_catches f_body f_methods f_above f_kinds q_entries q_blocks q_fault q_faultAt q_faultTold q_checks f_checkHow f_checkAt f_checkValue q_waits f_wait f_waitValue q_deep q_isOver q_piled f_pileKind f_pileStatement f_pileBlock f_pileLast q_planned f_planStatement f_planPart f_planTime f_planKind f_hasRun q_slot f_told f_tape f_failedKind f_cause f_underFirst f_underNext f_failedAt f_underWay f_traces f_closings f_enteredOf q_left q_ended q_signal q_signalValue q_frames f_frameKind f_frameStatement f_frameNow f_pending f_pendingValue f_firstResource f_openedOf f_caught q_acts f_actVar f_actRow f_actMethod f_actStatement q_rows f_rowSize f_rowItem f_passed q_planning q_aloneStatement q_alonePart q_aloneTime q_quiet f_quietStatement f_quietPart f_quietTime f_stack q_stacked q_wrong f_wayOut q_wayOuts]) := by
  refine vz_siQ (by decide) (Nat.le_of_ble_eq_true rfl) (fun p e s m args below meth c hx hb hr hml hts hown hlk hin hK hsz A hA H locs hP hD hS ls hl Q hQ => ?_)
  have hl : lv_has ls 3 [(0, .ref h), (1, .int n1), (2, .int n2)] := hl
  obtain ⟨hwd, hsz, hva, hlv, hwl, hpl, htt, huw, hqu⟩ := hgi
  refine lv_aload_n hx hb dX10_ran_0 rfl (lv_at hl 0 rfl) ?_
  refine lv_iload_n hx hb dX10_ran_1 rfl (lv_at hl 1 rfl) ?_
  refine vz_Vi3 (As := [.int n1]) (rest := []) hx hb hml hown hts hK hA hP hD hS (r_isRun l D g H.size h a f_words f_text q_size q_at q_token q_tokenAt q_which q_value q_live q_draft q_hasProgram f_stat f_statements f_entryKind f_entryValue f_firstOf f_catchOf f_catchKind f_catchBlock f_catches f_body f_methods f_above f_kinds q_entries q_blocks q_fault q_faultAt q_faultTold q_checks f_checkHow f_checkAt f_checkValue q_waits f_wait f_waitValue q_deep q_isOver q_piled f_pileKind f_pileStatement f_pileBlock f_pileLast q_planned f_planStatement f_planPart f_planTime f_planKind f_hasRun q_slot f_told f_tape f_failedKind f_cause f_underFirst f_underNext f_failedAt f_underWay f_traces f_closings f_enteredOf q_left q_ended q_signal q_signalValue q_frames f_frameKind f_frameStatement f_frameNow f_pending f_pendingValue f_firstResource f_openedOf f_caught q_acts f_actVar f_actRow f_actMethod f_actStatement q_rows f_rowSize f_rowItem f_passed q_planning q_aloneStatement q_alonePart q_aloneTime q_quiet f_quietStatement f_quietPart f_quietTime f_stack q_stacked q_wrong f_wayOut q_wayOuts n1) kv_X10_616 ⟨Nat.le_of_ble_eq_true rfl, Nat.le_of_ble_eq_true rfl⟩ (q0 := 0) (ci := 10) rfl rfl rfl  hl.1 (Nat.le_of_ble_eq_true rfl) dX10_ran_2 ⟨Nat.le_refl _, Nat.le_refl _⟩ rfl (fun v1 _ H locs hz2 _ hP hD hS => ?_)
  rcases hz2 with ⟨rfl, hb3⟩ | ⟨rfl, hb3⟩
  · refine lv_if_eq (tgt := 32) hx hb dX10_ran_5 (by decide) (fun h9 => absurd h9 (by decide)) (fun _ => ?_)
    refine lv_iload_n hx hb dX10_ran_8 rfl (lv_at hl 2 rfl) ?_
    refine lv_iconst (v := 0) hx hb dX10_ran_9 (by decide) ?_
    refine lv_bipush (v := 9) hx hb dX10_ran_10 (by decide) ?_
    refine vz_Si4 (n9 := 1) (bs2 := fun u : Unit => [rmW g h a f_words f_text q_size q_at q_token q_tokenAt q_which q_value q_live q_draft q_hasProgram f_stat f_statements f_entryKind f_entryValue f_firstOf f_catchOf f_catchKind f_catchBlock f_catches f_body f_methods f_above f_kinds q_entries q_blocks q_fault q_faultAt q_faultTold q_checks f_checkHow f_checkAt f_checkValue q_waits f_wait f_waitValue q_deep q_isOver q_piled f_pileKind f_pileStatement f_pileBlock f_pileLast q_planned f_planStatement f_planPart f_planTime f_planKind f_hasRun q_slot f_told f_tape f_failedKind f_cause f_underFirst f_underNext f_failedAt f_underWay f_traces f_closings f_enteredOf q_left q_ended q_signal q_signalValue q_frames f_frameKind f_frameStatement f_frameNow f_pending f_pendingValue f_firstResource f_openedOf f_caught q_acts f_actVar f_actRow f_actMethod f_actStatement q_rows f_rowSize f_rowItem f_passed q_planning q_aloneStatement q_alonePart q_aloneTime q_quiet f_quietStatement f_quietPart f_quietTime f_stack q_stacked q_wrong f_wayOut q_wayOuts]) (br := [rmW g h a f_words f_text q_size q_at q_token q_tokenAt q_which q_value q_live q_draft q_hasProgram f_stat f_statements f_entryKind f_entryValue f_firstOf f_catchOf f_catchKind f_catchBlock f_catches f_body f_methods f_above f_kinds q_entries q_blocks q_fault q_faultAt q_faultTold q_checks f_checkHow f_checkAt f_checkValue q_waits f_wait f_waitValue q_deep q_isOver q_piled f_pileKind f_pileStatement f_pileBlock f_pileLast q_planned f_planStatement f_planPart f_planTime f_planKind f_hasRun q_slot f_told f_tape f_failedKind f_cause f_underFirst f_underNext f_failedAt f_underWay f_traces f_closings f_enteredOf q_left q_ended q_signal q_signalValue q_frames f_frameKind f_frameStatement f_frameNow f_pending f_pendingValue f_firstResource f_openedOf f_caught q_acts f_actVar f_actRow f_actMethod f_actStatement q_rows f_rowSize f_rowItem f_passed q_planning q_aloneStatement q_alonePart q_aloneTime q_quiet f_quietStatement f_quietPart f_quietTime f_stack q_stacked q_wrong f_wayOut q_wayOuts]) (As := [.int n2, .int 0, .int 9]) (rest := []) hx hb hml hown hts hK hA hP hD hS (r_in l D g H.size n2 0 9) ks_X10_239 ⟨Nat.le_of_ble_eq_true rfl, Nat.le_of_ble_eq_true rfl⟩ [] [0] rfl (by decide) rfl (fun _ => rfl) (fun _ => rfl) hl.1 (Nat.le_of_ble_eq_true rfl) dX10_ran_12 ⟨Nat.le_refl _, Nat.le_refl _⟩ rfl (fun v4 _ H locs hz5 _ hP hD hS => ?_)
    rcases hz5 with ⟨rfl, hb6⟩ | ⟨rfl, hb6⟩
    · have ei7 : (0 : Int32).toInt = 0 := rfl
      have ei8 : (9 : Int32).toInt = 9 := rfl
      refine lv_if_eq (tgt := 32) hx hb dX10_ran_15 (by decide) (fun h9 => absurd h9 (by decide)) (fun _ => ?_)
      refine lv_aload_n hx hb dX10_ran_18 rfl (lv_at hl 0 rfl) ?_
      refine va_get (D := D) (ci := 10) (v := .ref (a 29)) (C := RX10) (T := TX10) (N := 96) hx hb hts inlX10 hown hK hP 0 rfl rfl 50 (by decide) (hts _ q223) (fun _ h => h) rfl dX10_ran_19 ?_
      refine lv_bipush (v := 10) hx hb dX10_ran_22 (by decide) ?_
      refine lv_iload_n hx hb dX10_ran_24 rfl (lv_at hl 1 rfl) ?_
      refine lv_topi (nm_r (e' := (nI (n1.toInt.toNat))) (nI_of9 (by omega)) ?_)
      refine lv_imul hx hb dX10_ran_25 ?_
      refine lv_topi (nm_r (e' := (nI (10 * (n1.toInt.toNat)))) (vz_mul 10 (n1.toInt.toNat)) ?_)
      refine lv_iload_n hx hb dX10_ran_26 rfl (lv_at hl 2 rfl) ?_
      refine lv_topi (nm_r (e' := (nI (n2.toInt.toNat))) (nI_of9 (by omega)) ?_)
      refine lv_iadd hx hb dX10_ran_27 ?_
      refine lv_topi (nm_r (e' := (nI ((10 * (n1.toInt.toNat)) + (n2.toInt.toNat)))) (nI_add (10 * (n1.toInt.toNat)) (n2.toInt.toNat)) ?_)
      refine va_iald hx hb hK hP 30 0 rfl rfl (vr_in (by first | omega | (clear hP hD hS hl hQ; grind)) (by decide)) dX10_ran_28 ?_
      refine lv_topi (nm_r (e' := (f_told ((10 * (n1.toInt.toNat)) + (n2.toInt.toNat)))) (vr_ld (by first | omega | (clear hP hD hS hl hQ; grind))) ?_)
      refine lv_goto (tgt := 33) hx hb dX10_ran_29 (by decide) ?_
      rw [hQ]
      exact vz_iret3 hx hb hr hlk hK hP hD hS () trivial rfl (Nat.le_refl 0) (Nat.le_refl 0) dX10_ran_33
    · have ei9 : (0 : Int32).toInt = 0 := rfl
      have ei10 : (9 : Int32).toInt = 9 := rfl
      refine lv_if_eq (tgt := 32) hx hb dX10_ran_15 (by decide) (fun _ => ?_) (fun h9 => absurd (by decide) h9)
      refine lv_iconst (v := (-1)) hx hb dX10_ran_32 (by decide) ?_
      rw [hQ]
      exact vz_iret3 hx hb hr hlk hK hP hD hS () trivial rfl (Nat.le_refl 0) (Nat.le_refl 0) dX10_ran_33
  · refine lv_if_eq (tgt := 32) hx hb dX10_ran_5 (by decide) (fun _ => ?_) (fun h9 => absurd (by decide) h9)
    refine lv_iconst (v := (-1)) hx hb dX10_ran_32 (by decide) ?_
    rw [hQ]
    exact vz_iret3 hx hb hr hlk hK hP hD hS () trivial rfl (Nat.le_refl 0) (Nat.le_refl 0) dX10_ran_33
theorem dX10_mark_0 : decode cX10_mark 0 = .ok (.aload_n 0, 1) := by decide +kernel
theorem dX10_mark_1 : decode cX10_mark 1 = .ok (.iload_n 1, 1) := by decide +kernel
theorem dX10_mark_2 : decode cX10_mark 2 = .ok (.invokevirtual 616, 3) := by decide +kernel
theorem dX10_mark_5 : decode cX10_mark 5 = .ok (.ifCond .ne 7, 3) := by decide +kernel
theorem dX10_mark_8 : decode cX10_mark 8 = .ok (.iconst (-1), 1) := by decide +kernel
theorem dX10_mark_9 : decode cX10_mark 9 = .ok (.goto 41, 3) := by decide +kernel
theorem dX10_mark_12 : decode cX10_mark 12 = .ok (.iload_n 2, 1) := by decide +kernel
theorem dX10_mark_13 : decode cX10_mark 13 = .ok (.iconst 0, 1) := by decide +kernel
theorem dX10_mark_14 : decode cX10_mark 14 = .ok (.aload_n 0, 1) := by decide +kernel
theorem dX10_mark_15 : decode cX10_mark 15 = .ok (.getfield 142, 3) := by decide +kernel
theorem dX10_mark_18 : decode cX10_mark 18 = .ok (.bipush 10, 2) := by decide +kernel
theorem dX10_mark_20 : decode cX10_mark 20 = .ok (.iload_n 1, 1) := by decide +kernel
theorem dX10_mark_21 : decode cX10_mark 21 = .ok (.imul, 1) := by decide +kernel
theorem dX10_mark_22 : decode cX10_mark 22 = .ok (.iconst 3, 1) := by decide +kernel
theorem dX10_mark_23 : decode cX10_mark 23 = .ok (.iadd, 1) := by decide +kernel
theorem dX10_mark_24 : decode cX10_mark 24 = .ok (.iaload, 1) := by decide +kernel
theorem dX10_mark_25 : decode cX10_mark 25 = .ok (.iconst 1, 1) := by decide +kernel
theorem dX10_mark_26 : decode cX10_mark 26 = .ok (.isub, 1) := by decide +kernel
theorem dX10_mark_27 : decode cX10_mark 27 = .ok (.invokestatic 239, 3) := by decide +kernel
theorem dX10_mark_30 : decode cX10_mark 30 = .ok (.ifCond .eq 18, 3) := by decide +kernel
theorem dX10_mark_33 : decode cX10_mark 33 = .ok (.aload_n 0, 1) := by decide +kernel
theorem dX10_mark_34 : decode cX10_mark 34 = .ok (.getfield 145, 3) := by decide +kernel
theorem dX10_mark_37 : decode cX10_mark 37 = .ok (.sipush 410, 3) := by decide +kernel
theorem dX10_mark_40 : decode cX10_mark 40 = .ok (.iload_n 1, 1) := by decide +kernel
theorem dX10_mark_41 : decode cX10_mark 41 = .ok (.imul, 1) := by decide +kernel
theorem dX10_mark_42 : decode cX10_mark 42 = .ok (.iload_n 2, 1) := by decide +kernel
theorem dX10_mark_43 : decode cX10_mark 43 = .ok (.iadd, 1) := by decide +kernel
theorem dX10_mark_44 : decode cX10_mark 44 = .ok (.iaload, 1) := by decide +kernel
theorem dX10_mark_45 : decode cX10_mark 45 = .ok (.goto 5, 3) := by decide +kernel
theorem dX10_mark_48 : decode cX10_mark 48 = .ok (.bipush (-9), 2) := by decide +kernel
theorem dX10_mark_50 : decode cX10_mark 50 = .ok (.ireturn, 1) := by decide +kernel
set_option maxHeartbeats 8000000 in
set_option maxRecDepth 100000 in
theorem r_mark (l : Launch) (D : va_G) (g : Nat → ClassId)   (sz : Nat) (h : Nat) (a : Nat → Nat) (f_words : Nat → Int64) (f_text : Nat → Int32) (q_size : Nat) (q_at : Nat) (q_token : Int32) (q_tokenAt : Nat) (q_which : Int32) (q_value : Nat) (q_live : Nat) (q_draft : Nat) (q_hasProgram : Int32) (f_stat : Nat → Int32) (f_statements : Nat → Int32) (f_entryKind : Nat → Int32) (f_entryValue : Nat → Int32) (f_firstOf : Nat → Int32) (f_catchOf : Nat → Int32) (f_catchKind : Nat → Int32) (f_catchBlock : Nat → Int32) (f_catches : Nat → Int32) (f_body : Nat → Int32) (f_methods : Nat → Int32) (f_above : Nat → Int32) (f_kinds : Nat → Int32) (q_entries : Nat) (q_blocks : Nat) (q_fault : Int32) (q_faultAt : Int32) (q_faultTold : Int32) (q_checks : Nat) (f_checkHow : Nat → Int32) (f_checkAt : Nat → Int32) (f_checkValue : Nat → Int32) (q_waits : Nat) (f_wait : Nat → Int32) (f_waitValue : Nat → Int32) (q_deep : Int32) (q_isOver : Int32) (q_piled : Nat) (f_pileKind : Nat → Int32) (f_pileStatement : Nat → Int32) (f_pileBlock : Nat → Int32) (f_pileLast : Nat → Int32) (q_planned : Nat) (f_planStatement : Nat → Int32) (f_planPart : Nat → Int32) (f_planTime : Nat → Int32) (f_planKind : Nat → Int32) (f_hasRun : Nat → Int32) (q_slot : Nat) (f_told : Nat → Int32) (f_tape : Nat → Int32) (f_failedKind : Nat → Int32) (f_cause : Nat → Int32) (f_underFirst : Nat → Int32) (f_underNext : Nat → Int32) (f_failedAt : Nat → Int32) (f_underWay : Nat → Int32) (f_traces : Nat → Int32) (f_closings : Nat → Int32) (f_enteredOf : Nat → Int32) (q_left : Nat) (q_ended : Int32) (q_signal : Int32) (q_signalValue : Int32) (q_frames : Nat) (f_frameKind : Nat → Int32) (f_frameStatement : Nat → Int32) (f_frameNow : Nat → Int32) (f_pending : Nat → Int32) (f_pendingValue : Nat → Int32) (f_firstResource : Nat → Int32) (f_openedOf : Nat → Int32) (f_caught : Nat → Int32) (q_acts : Nat) (f_actVar : Nat → Int32) (f_actRow : Nat → Int32) (f_actMethod : Nat → Int32) (f_actStatement : Nat → Int32) (q_rows : Nat) (f_rowSize : Nat → Int32) (f_rowItem : Nat → Int32) (f_passed : Nat → Int32) (q_planning : Int32) (q_aloneStatement : Int32) (q_alonePart : Int32) (q_aloneTime : Int32) (q_quiet : Nat) (f_quietStatement : Nat → Int32) (f_quietPart : Nat → Int32) (f_quietTime : Nat → Int32) (f_stack : Nat → Int32) (q_stacked : Nat) (q_wrong : Int32) (f_wayOut : Nat → Int32) (q_wayOuts : Nat) (n1 : Int32) (n2 : Int32) (hgi : GI f_words q_size q_value q_live q_hasProgram f_stat f_entryKind f_entryValue f_firstOf f_catchOf f_catchKind f_catchBlock f_body f_above f_statements f_catches f_methods f_kinds q_planned f_planKind f_told f_underWay q_quiet) : vz_Mi l D (tyG g) yX10_mark cX10_mark 3 2 43 0 0 .int [.ref h, .int n1, .int n2] sz (vz_w [rmW g h a f_words f_text q_size q_at q_token q_tokenAt q_which q_value q_live q_draft q_hasProgram f_stat f_statements f_entryKind f_entryValue f_firstOf f_catchOf f_catchKind f_catchBlock f_catches f_body f_methods f_above f_kinds q_entries q_blocks q_fault q_faultAt q_faultTold q_checks f_checkHow f_checkAt f_checkValue q_waits f_wait f_waitValue q_deep q_isOver q_piled f_pileKind f_pileStatement f_pileBlock f_pileLast q_planned f_planStatement f_planPart f_planTime f_planKind f_hasRun q_slot f_told f_tape f_failedKind f_cause f_underFirst f_underNext f_failedAt f_underWay f_traces f_closings f_enteredOf q_left q_ended q_signal q_signalValue q_frames f_frameKind f_frameStatement f_frameNow f_pending f_pendingValue f_firstResource f_openedOf f_caught q_acts f_actVar f_actRow f_actMethod f_actStatement q_rows f_rowSize f_rowItem f_passed q_planning q_aloneStatement q_alonePart q_aloneTime q_quiet f_quietStatement f_quietPart f_quietTime f_stack q_stacked q_wrong f_wayOut q_wayOuts]) (fun r (u : Unit) => True) (fun u => vz_w [rmW g h a f_words f_text q_size q_at q_token q_tokenAt q_which q_value q_live q_draft q_hasProgram f_stat f_statements f_entryKind f_entryValue f_firstOf f_catchOf f_catchKind f_catchBlock f_catches f_body f_methods f_above f_kinds q_entries q_blocks q_fault q_faultAt q_faultTold q_checks f_checkHow f_checkAt f_checkValue q_waits f_wait f_waitValue q_deep q_isOver q_piled f_pileKind f_pileStatement f_pileBlock f_pileLast q_planned f_planStatement f_planPart f_planTime f_planKind f_hasRun q_slot f_told f_tape f_failedKind f_cause f_underFirst f_underNext f_failedAt f_underWay f_traces f_closings f_enteredOf q_left q_ended q_signal q_signalValue q_frames f_frameKind f_frameStatement f_frameNow f_pending f_pendingValue f_firstResource f_openedOf f_caught q_acts f_actVar f_actRow f_actMethod f_actStatement q_rows f_rowSize f_rowItem f_passed q_planning q_aloneStatement q_alonePart q_aloneTime q_quiet f_quietStatement f_quietPart f_quietTime f_stack q_stacked q_wrong f_wayOut q_wayOuts]) := by
  refine vz_siQ (by decide) (Nat.le_of_ble_eq_true rfl) (fun p e s m args below meth c hx hb hr hml hts hown hlk hin hK hsz A hA H locs hP hD hS ls hl Q hQ => ?_)
  have hl : lv_has ls 3 [(0, .ref h), (1, .int n1), (2, .int n2)] := hl
  obtain ⟨hwd, hsz, hva, hlv, hwl, hpl, htt, huw, hqu⟩ := hgi
  refine lv_aload_n hx hb dX10_mark_0 rfl (lv_at hl 0 rfl) ?_
  refine lv_iload_n hx hb dX10_mark_1 rfl (lv_at hl 1 rfl) ?_
  refine vz_Vi3 (As := [.int n1]) (rest := []) hx hb hml hown hts hK hA hP hD hS (r_isRun l D g H.size h a f_words f_text q_size q_at q_token q_tokenAt q_which q_value q_live q_draft q_hasProgram f_stat f_statements f_entryKind f_entryValue f_firstOf f_catchOf f_catchKind f_catchBlock f_catches f_body f_methods f_above f_kinds q_entries q_blocks q_fault q_faultAt q_faultTold q_checks f_checkHow f_checkAt f_checkValue q_waits f_wait f_waitValue q_deep q_isOver q_piled f_pileKind f_pileStatement f_pileBlock f_pileLast q_planned f_planStatement f_planPart f_planTime f_planKind f_hasRun q_slot f_told f_tape f_failedKind f_cause f_underFirst f_underNext f_failedAt f_underWay f_traces f_closings f_enteredOf q_left q_ended q_signal q_signalValue q_frames f_frameKind f_frameStatement f_frameNow f_pending f_pendingValue f_firstResource f_openedOf f_caught q_acts f_actVar f_actRow f_actMethod f_actStatement q_rows f_rowSize f_rowItem f_passed q_planning q_aloneStatement q_alonePart q_aloneTime q_quiet f_quietStatement f_quietPart f_quietTime f_stack q_stacked q_wrong f_wayOut q_wayOuts n1) kv_X10_616 ⟨Nat.le_of_ble_eq_true rfl, Nat.le_of_ble_eq_true rfl⟩ (q0 := 0) (ci := 10) rfl rfl rfl  hl.1 (Nat.le_of_ble_eq_true rfl) dX10_mark_2 ⟨Nat.le_refl _, Nat.le_refl _⟩ rfl (fun v1 _ H locs hz2 _ hP hD hS => ?_)
  rcases hz2 with ⟨rfl, hb3⟩ | ⟨rfl, hb3⟩
  · refine lv_if_ne (tgt := 12) hx hb dX10_mark_5 (by decide) (fun _ => ?_) (fun h9 => absurd h9 (by decide))
    obtain ⟨c3, c4, c6, hc3, hc4, hc6, ht3, ht4, ht6, ht2⟩ := htt n1.toInt.toNat (by omega)
    refine lv_iload_n hx hb dX10_mark_12 rfl (lv_at hl 2 rfl) ?_
    refine lv_iconst (v := 0) hx hb dX10_mark_13 (by decide) ?_
    refine lv_aload_n hx hb dX10_mark_14 rfl (lv_at hl 0 rfl) ?_
    refine va_get (D := D) (ci := 10) (v := .ref (a 29)) (C := RX10) (T := TX10) (N := 96) hx hb hts inlX10 hown hK hP 0 rfl rfl 50 (by decide) (hts _ q223) (fun _ h => h) rfl dX10_mark_15 ?_
    refine lv_bipush (v := 10) hx hb dX10_mark_18 (by decide) ?_
    refine lv_iload_n hx hb dX10_mark_20 rfl (lv_at hl 1 rfl) ?_
    refine lv_topi (nm_r (e' := (nI (n1.toInt.toNat))) (nI_of9 (by omega)) ?_)
    refine lv_imul hx hb dX10_mark_21 ?_
    refine lv_topi (nm_r (e' := (nI (10 * (n1.toInt.toNat)))) (vz_mul 10 (n1.toInt.toNat)) ?_)
    refine lv_iconst (v := 3) hx hb dX10_mark_22 (by decide) ?_
    refine lv_iadd hx hb dX10_mark_23 ?_
    refine lv_topi (nm_r (e' := (nI ((10 * (n1.toInt.toNat)) + 3))) (nI_add (10 * (n1.toInt.toNat)) 3) ?_)
    refine va_iald hx hb hK hP 30 0 rfl rfl (vr_in (by first | omega | (clear hP hD hS hl hQ; grind)) (by decide)) dX10_mark_24 ?_
    refine lv_topi (nm_r (e' := (f_told ((10 * (n1.toInt.toNat)) + 3))) (vr_ld (by first | omega | (clear hP hD hS hl hQ; grind))) ?_)
    refine lv_topi (nm_r (e' := (nI c3)) ht3 ?_)
    refine lv_iconst (v := 1) hx hb dX10_mark_25 (by decide) ?_
    refine lv_isub hx hb dX10_mark_26 ?_
    have hzn := zmn (n := c3) (by omega)
    refine vz_Si4 (n9 := 1) (bs2 := fun u : Unit => [rmW g h a f_words f_text q_size q_at q_token q_tokenAt q_which q_value q_live q_draft q_hasProgram f_stat f_statements f_entryKind f_entryValue f_firstOf f_catchOf f_catchKind f_catchBlock f_catches f_body f_methods f_above f_kinds q_entries q_blocks q_fault q_faultAt q_faultTold q_checks f_checkHow f_checkAt f_checkValue q_waits f_wait f_waitValue q_deep q_isOver q_piled f_pileKind f_pileStatement f_pileBlock f_pileLast q_planned f_planStatement f_planPart f_planTime f_planKind f_hasRun q_slot f_told f_tape f_failedKind f_cause f_underFirst f_underNext f_failedAt f_underWay f_traces f_closings f_enteredOf q_left q_ended q_signal q_signalValue q_frames f_frameKind f_frameStatement f_frameNow f_pending f_pendingValue f_firstResource f_openedOf f_caught q_acts f_actVar f_actRow f_actMethod f_actStatement q_rows f_rowSize f_rowItem f_passed q_planning q_aloneStatement q_alonePart q_aloneTime q_quiet f_quietStatement f_quietPart f_quietTime f_stack q_stacked q_wrong f_wayOut q_wayOuts]) (br := [rmW g h a f_words f_text q_size q_at q_token q_tokenAt q_which q_value q_live q_draft q_hasProgram f_stat f_statements f_entryKind f_entryValue f_firstOf f_catchOf f_catchKind f_catchBlock f_catches f_body f_methods f_above f_kinds q_entries q_blocks q_fault q_faultAt q_faultTold q_checks f_checkHow f_checkAt f_checkValue q_waits f_wait f_waitValue q_deep q_isOver q_piled f_pileKind f_pileStatement f_pileBlock f_pileLast q_planned f_planStatement f_planPart f_planTime f_planKind f_hasRun q_slot f_told f_tape f_failedKind f_cause f_underFirst f_underNext f_failedAt f_underWay f_traces f_closings f_enteredOf q_left q_ended q_signal q_signalValue q_frames f_frameKind f_frameStatement f_frameNow f_pending f_pendingValue f_firstResource f_openedOf f_caught q_acts f_actVar f_actRow f_actMethod f_actStatement q_rows f_rowSize f_rowItem f_passed q_planning q_aloneStatement q_alonePart q_aloneTime q_quiet f_quietStatement f_quietPart f_quietTime f_stack q_stacked q_wrong f_wayOut q_wayOuts]) (As := [.int n2, .int 0, .int ((nI c3) - 1)]) (rest := []) hx hb hml hown hts hK hA hP hD hS (r_in l D g H.size n2 0 ((nI c3) - 1)) ks_X10_239 ⟨Nat.le_of_ble_eq_true rfl, Nat.le_of_ble_eq_true rfl⟩ [] [0] rfl (by decide) rfl (fun _ => rfl) (fun _ => rfl) hl.1 (Nat.le_of_ble_eq_true rfl) dX10_mark_27 ⟨Nat.le_refl _, Nat.le_refl _⟩ rfl (fun v4 _ H locs hz5 _ hP hD hS => ?_)
    rcases hz5 with ⟨rfl, hb6⟩ | ⟨rfl, hb6⟩
    · have ei7 : (0 : Int32).toInt = 0 := rfl
      refine lv_if_eq (tgt := 48) hx hb dX10_mark_30 (by decide) (fun h9 => absurd h9 (by decide)) (fun _ => ?_)
      refine lv_aload_n hx hb dX10_mark_33 rfl (lv_at hl 0 rfl) ?_
      refine va_get (D := D) (ci := 10) (v := .ref (a 30)) (C := RX10) (T := TX10) (N := 96) hx hb hts inlX10 hown hK hP 0 rfl rfl 51 (by decide) (hts _ q224) (fun _ h => h) rfl dX10_mark_34 ?_
      refine lv_sipush (v := 410) hx hb dX10_mark_37 (by decide) ?_
      refine lv_iload_n hx hb dX10_mark_40 rfl (lv_at hl 1 rfl) ?_
      refine lv_topi (nm_r (e' := (nI (n1.toInt.toNat))) (nI_of9 (by omega)) ?_)
      refine lv_imul hx hb dX10_mark_41 ?_
      refine lv_topi (nm_r (e' := (nI (410 * (n1.toInt.toNat)))) (vz_mul 410 (n1.toInt.toNat)) ?_)
      refine lv_iload_n hx hb dX10_mark_42 rfl (lv_at hl 2 rfl) ?_
      refine lv_topi (nm_r (e' := (nI (n2.toInt.toNat))) (nI_of9 (by omega)) ?_)
      refine lv_iadd hx hb dX10_mark_43 ?_
      refine lv_topi (nm_r (e' := (nI ((410 * (n1.toInt.toNat)) + (n2.toInt.toNat)))) (nI_add (410 * (n1.toInt.toNat)) (n2.toInt.toNat)) ?_)
      refine va_iald hx hb hK hP 31 0 rfl rfl (vr_in (by first | omega | (clear hP hD hS hl hQ; grind)) (by decide)) dX10_mark_44 ?_
      refine lv_topi (nm_r (e' := (f_tape ((410 * (n1.toInt.toNat)) + (n2.toInt.toNat)))) (vr_ld (by first | omega | (clear hP hD hS hl hQ; grind))) ?_)
      refine lv_goto (tgt := 50) hx hb dX10_mark_45 (by decide) ?_
      rw [hQ]
      exact vz_iret3 hx hb hr hlk hK hP hD hS () trivial rfl (Nat.le_refl 0) (Nat.le_refl 0) dX10_mark_50
    · have ei8 : (0 : Int32).toInt = 0 := rfl
      refine lv_if_eq (tgt := 48) hx hb dX10_mark_30 (by decide) (fun _ => ?_) (fun h9 => absurd (by decide) h9)
      refine lv_bipush (v := (-9)) hx hb dX10_mark_48 (by decide) ?_
      rw [hQ]
      exact vz_iret3 hx hb hr hlk hK hP hD hS () trivial rfl (Nat.le_refl 0) (Nat.le_refl 0) dX10_mark_50
  · refine lv_if_ne (tgt := 12) hx hb dX10_mark_5 (by decide) (fun h9 => absurd (by decide) h9) (fun _ => ?_)
    refine lv_iconst (v := (-1)) hx hb dX10_mark_8 (by decide) ?_
    refine lv_goto (tgt := 50) hx hb dX10_mark_9 (by decide) ?_
    rw [hQ]
    exact vz_iret3 hx hb hr hlk hK hP hD hS () trivial rfl (Nat.le_refl 0) (Nat.le_refl 0) dX10_mark_50
theorem dX10_closed_0 : decode cX10_closed 0 = .ok (.aload_n 0, 1) := by decide +kernel
theorem dX10_closed_1 : decode cX10_closed 1 = .ok (.iload_n 1, 1) := by decide +kernel
theorem dX10_closed_2 : decode cX10_closed 2 = .ok (.invokevirtual 616, 3) := by decide +kernel
theorem dX10_closed_5 : decode cX10_closed 5 = .ok (.ifCond .ne 7, 3) := by decide +kernel
theorem dX10_closed_8 : decode cX10_closed 8 = .ok (.iconst (-1), 1) := by decide +kernel
theorem dX10_closed_9 : decode cX10_closed 9 = .ok (.goto 42, 3) := by decide +kernel
theorem dX10_closed_12 : decode cX10_closed 12 = .ok (.iload_n 2, 1) := by decide +kernel
theorem dX10_closed_13 : decode cX10_closed 13 = .ok (.iconst 0, 1) := by decide +kernel
theorem dX10_closed_14 : decode cX10_closed 14 = .ok (.aload_n 0, 1) := by decide +kernel
theorem dX10_closed_15 : decode cX10_closed 15 = .ok (.getfield 142, 3) := by decide +kernel
theorem dX10_closed_18 : decode cX10_closed 18 = .ok (.bipush 10, 2) := by decide +kernel
theorem dX10_closed_20 : decode cX10_closed 20 = .ok (.iload_n 1, 1) := by decide +kernel
theorem dX10_closed_21 : decode cX10_closed 21 = .ok (.imul, 1) := by decide +kernel
theorem dX10_closed_22 : decode cX10_closed 22 = .ok (.bipush 6, 2) := by decide +kernel
theorem dX10_closed_24 : decode cX10_closed 24 = .ok (.iadd, 1) := by decide +kernel
theorem dX10_closed_25 : decode cX10_closed 25 = .ok (.iaload, 1) := by decide +kernel
theorem dX10_closed_26 : decode cX10_closed 26 = .ok (.iconst 1, 1) := by decide +kernel
theorem dX10_closed_27 : decode cX10_closed 27 = .ok (.isub, 1) := by decide +kernel
theorem dX10_closed_28 : decode cX10_closed 28 = .ok (.invokestatic 239, 3) := by decide +kernel
theorem dX10_closed_31 : decode cX10_closed 31 = .ok (.ifCond .eq 18, 3) := by decide +kernel
theorem dX10_closed_34 : decode cX10_closed 34 = .ok (.aload_n 0, 1) := by decide +kernel
theorem dX10_closed_35 : decode cX10_closed 35 = .ok (.getfield 169, 3) := by decide +kernel
theorem dX10_closed_38 : decode cX10_closed 38 = .ok (.sipush 410, 3) := by decide +kernel
theorem dX10_closed_41 : decode cX10_closed 41 = .ok (.iload_n 1, 1) := by decide +kernel
theorem dX10_closed_42 : decode cX10_closed 42 = .ok (.imul, 1) := by decide +kernel
theorem dX10_closed_43 : decode cX10_closed 43 = .ok (.iload_n 2, 1) := by decide +kernel
theorem dX10_closed_44 : decode cX10_closed 44 = .ok (.iadd, 1) := by decide +kernel
theorem dX10_closed_45 : decode cX10_closed 45 = .ok (.iaload, 1) := by decide +kernel
theorem dX10_closed_46 : decode cX10_closed 46 = .ok (.goto 5, 3) := by decide +kernel
theorem dX10_closed_49 : decode cX10_closed 49 = .ok (.bipush (-9), 2) := by decide +kernel
theorem dX10_closed_51 : decode cX10_closed 51 = .ok (.ireturn, 1) := by decide +kernel
set_option maxHeartbeats 8000000 in
set_option maxRecDepth 100000 in
theorem r_closed (l : Launch) (D : va_G) (g : Nat → ClassId)   (sz : Nat) (h : Nat) (a : Nat → Nat) (f_words : Nat → Int64) (f_text : Nat → Int32) (q_size : Nat) (q_at : Nat) (q_token : Int32) (q_tokenAt : Nat) (q_which : Int32) (q_value : Nat) (q_live : Nat) (q_draft : Nat) (q_hasProgram : Int32) (f_stat : Nat → Int32) (f_statements : Nat → Int32) (f_entryKind : Nat → Int32) (f_entryValue : Nat → Int32) (f_firstOf : Nat → Int32) (f_catchOf : Nat → Int32) (f_catchKind : Nat → Int32) (f_catchBlock : Nat → Int32) (f_catches : Nat → Int32) (f_body : Nat → Int32) (f_methods : Nat → Int32) (f_above : Nat → Int32) (f_kinds : Nat → Int32) (q_entries : Nat) (q_blocks : Nat) (q_fault : Int32) (q_faultAt : Int32) (q_faultTold : Int32) (q_checks : Nat) (f_checkHow : Nat → Int32) (f_checkAt : Nat → Int32) (f_checkValue : Nat → Int32) (q_waits : Nat) (f_wait : Nat → Int32) (f_waitValue : Nat → Int32) (q_deep : Int32) (q_isOver : Int32) (q_piled : Nat) (f_pileKind : Nat → Int32) (f_pileStatement : Nat → Int32) (f_pileBlock : Nat → Int32) (f_pileLast : Nat → Int32) (q_planned : Nat) (f_planStatement : Nat → Int32) (f_planPart : Nat → Int32) (f_planTime : Nat → Int32) (f_planKind : Nat → Int32) (f_hasRun : Nat → Int32) (q_slot : Nat) (f_told : Nat → Int32) (f_tape : Nat → Int32) (f_failedKind : Nat → Int32) (f_cause : Nat → Int32) (f_underFirst : Nat → Int32) (f_underNext : Nat → Int32) (f_failedAt : Nat → Int32) (f_underWay : Nat → Int32) (f_traces : Nat → Int32) (f_closings : Nat → Int32) (f_enteredOf : Nat → Int32) (q_left : Nat) (q_ended : Int32) (q_signal : Int32) (q_signalValue : Int32) (q_frames : Nat) (f_frameKind : Nat → Int32) (f_frameStatement : Nat → Int32) (f_frameNow : Nat → Int32) (f_pending : Nat → Int32) (f_pendingValue : Nat → Int32) (f_firstResource : Nat → Int32) (f_openedOf : Nat → Int32) (f_caught : Nat → Int32) (q_acts : Nat) (f_actVar : Nat → Int32) (f_actRow : Nat → Int32) (f_actMethod : Nat → Int32) (f_actStatement : Nat → Int32) (q_rows : Nat) (f_rowSize : Nat → Int32) (f_rowItem : Nat → Int32) (f_passed : Nat → Int32) (q_planning : Int32) (q_aloneStatement : Int32) (q_alonePart : Int32) (q_aloneTime : Int32) (q_quiet : Nat) (f_quietStatement : Nat → Int32) (f_quietPart : Nat → Int32) (f_quietTime : Nat → Int32) (f_stack : Nat → Int32) (q_stacked : Nat) (q_wrong : Int32) (f_wayOut : Nat → Int32) (q_wayOuts : Nat) (n1 : Int32) (n2 : Int32) (hgi : GI f_words q_size q_value q_live q_hasProgram f_stat f_entryKind f_entryValue f_firstOf f_catchOf f_catchKind f_catchBlock f_body f_above f_statements f_catches f_methods f_kinds q_planned f_planKind f_told f_underWay q_quiet) : vz_Mi l D (tyG g) yX10_closed cX10_closed 3 2 43 0 0 .int [.ref h, .int n1, .int n2] sz (vz_w [rmW g h a f_words f_text q_size q_at q_token q_tokenAt q_which q_value q_live q_draft q_hasProgram f_stat f_statements f_entryKind f_entryValue f_firstOf f_catchOf f_catchKind f_catchBlock f_catches f_body f_methods f_above f_kinds q_entries q_blocks q_fault q_faultAt q_faultTold q_checks f_checkHow f_checkAt f_checkValue q_waits f_wait f_waitValue q_deep q_isOver q_piled f_pileKind f_pileStatement f_pileBlock f_pileLast q_planned f_planStatement f_planPart f_planTime f_planKind f_hasRun q_slot f_told f_tape f_failedKind f_cause f_underFirst f_underNext f_failedAt f_underWay f_traces f_closings f_enteredOf q_left q_ended q_signal q_signalValue q_frames f_frameKind f_frameStatement f_frameNow f_pending f_pendingValue f_firstResource f_openedOf f_caught q_acts f_actVar f_actRow f_actMethod f_actStatement q_rows f_rowSize f_rowItem f_passed q_planning q_aloneStatement q_alonePart q_aloneTime q_quiet f_quietStatement f_quietPart f_quietTime f_stack q_stacked q_wrong f_wayOut q_wayOuts]) (fun r (u : Unit) => True) (fun u => vz_w [rmW g h a f_words f_text q_size q_at q_token q_tokenAt q_which q_value q_live q_draft q_hasProgram f_stat f_statements f_entryKind f_entryValue f_firstOf f_catchOf f_catchKind f_catchBlock f_catches f_body f_methods f_above f_kinds q_entries q_blocks q_fault q_faultAt q_faultTold q_checks f_checkHow f_checkAt f_checkValue q_waits f_wait f_waitValue q_deep q_isOver q_piled f_pileKind f_pileStatement f_pileBlock f_pileLast q_planned f_planStatement f_planPart f_planTime f_planKind f_hasRun q_slot f_told f_tape f_failedKind f_cause f_underFirst f_underNext f_failedAt f_underWay f_traces f_closings f_enteredOf q_left q_ended q_signal q_signalValue q_frames f_frameKind f_frameStatement f_frameNow f_pending f_pendingValue f_firstResource f_openedOf f_caught q_acts f_actVar f_actRow f_actMethod f_actStatement q_rows f_rowSize f_rowItem f_passed q_planning q_aloneStatement q_alonePart q_aloneTime q_quiet f_quietStatement f_quietPart f_quietTime f_stack q_stacked q_wrong f_wayOut q_wayOuts]) := by
  refine vz_siQ (by decide) (Nat.le_of_ble_eq_true rfl) (fun p e s m args below meth c hx hb hr hml hts hown hlk hin hK hsz A hA H locs hP hD hS ls hl Q hQ => ?_)
  have hl : lv_has ls 3 [(0, .ref h), (1, .int n1), (2, .int n2)] := hl
  obtain ⟨hwd, hsz, hva, hlv, hwl, hpl, htt, huw, hqu⟩ := hgi
  refine lv_aload_n hx hb dX10_closed_0 rfl (lv_at hl 0 rfl) ?_
  refine lv_iload_n hx hb dX10_closed_1 rfl (lv_at hl 1 rfl) ?_
  refine vz_Vi3 (As := [.int n1]) (rest := []) hx hb hml hown hts hK hA hP hD hS (r_isRun l D g H.size h a f_words f_text q_size q_at q_token q_tokenAt q_which q_value q_live q_draft q_hasProgram f_stat f_statements f_entryKind f_entryValue f_firstOf f_catchOf f_catchKind f_catchBlock f_catches f_body f_methods f_above f_kinds q_entries q_blocks q_fault q_faultAt q_faultTold q_checks f_checkHow f_checkAt f_checkValue q_waits f_wait f_waitValue q_deep q_isOver q_piled f_pileKind f_pileStatement f_pileBlock f_pileLast q_planned f_planStatement f_planPart f_planTime f_planKind f_hasRun q_slot f_told f_tape f_failedKind f_cause f_underFirst f_underNext f_failedAt f_underWay f_traces f_closings f_enteredOf q_left q_ended q_signal q_signalValue q_frames f_frameKind f_frameStatement f_frameNow f_pending f_pendingValue f_firstResource f_openedOf f_caught q_acts f_actVar f_actRow f_actMethod f_actStatement q_rows f_rowSize f_rowItem f_passed q_planning q_aloneStatement q_alonePart q_aloneTime q_quiet f_quietStatement f_quietPart f_quietTime f_stack q_stacked q_wrong f_wayOut q_wayOuts n1) kv_X10_616 ⟨Nat.le_of_ble_eq_true rfl, Nat.le_of_ble_eq_true rfl⟩ (q0 := 0) (ci := 10) rfl rfl rfl  hl.1 (Nat.le_of_ble_eq_true rfl) dX10_closed_2 ⟨Nat.le_refl _, Nat.le_refl _⟩ rfl (fun v1 _ H locs hz2 _ hP hD hS => ?_)
  rcases hz2 with ⟨rfl, hb3⟩ | ⟨rfl, hb3⟩
  · refine lv_if_ne (tgt := 12) hx hb dX10_closed_5 (by decide) (fun _ => ?_) (fun h9 => absurd h9 (by decide))
    obtain ⟨c3, c4, c6, hc3, hc4, hc6, ht3, ht4, ht6, ht2⟩ := htt n1.toInt.toNat (by omega)
    refine lv_iload_n hx hb dX10_closed_12 rfl (lv_at hl 2 rfl) ?_
    refine lv_iconst (v := 0) hx hb dX10_closed_13 (by decide) ?_
    refine lv_aload_n hx hb dX10_closed_14 rfl (lv_at hl 0 rfl) ?_
    refine va_get (D := D) (ci := 10) (v := .ref (a 29)) (C := RX10) (T := TX10) (N := 96) hx hb hts inlX10 hown hK hP 0 rfl rfl 50 (by decide) (hts _ q223) (fun _ h => h) rfl dX10_closed_15 ?_
    refine lv_bipush (v := 10) hx hb dX10_closed_18 (by decide) ?_
    refine lv_iload_n hx hb dX10_closed_20 rfl (lv_at hl 1 rfl) ?_
    refine lv_topi (nm_r (e' := (nI (n1.toInt.toNat))) (nI_of9 (by omega)) ?_)
    refine lv_imul hx hb dX10_closed_21 ?_
    refine lv_topi (nm_r (e' := (nI (10 * (n1.toInt.toNat)))) (vz_mul 10 (n1.toInt.toNat)) ?_)
    refine lv_bipush (v := 6) hx hb dX10_closed_22 (by decide) ?_
    refine lv_iadd hx hb dX10_closed_24 ?_
    refine lv_topi (nm_r (e' := (nI ((10 * (n1.toInt.toNat)) + 6))) (nI_add (10 * (n1.toInt.toNat)) 6) ?_)
    refine va_iald hx hb hK hP 30 0 rfl rfl (vr_in (by first | omega | (clear hP hD hS hl hQ; grind)) (by decide)) dX10_closed_25 ?_
    refine lv_topi (nm_r (e' := (f_told ((10 * (n1.toInt.toNat)) + 6))) (vr_ld (by first | omega | (clear hP hD hS hl hQ; grind))) ?_)
    refine lv_topi (nm_r (e' := (nI c6)) ht6 ?_)
    refine lv_iconst (v := 1) hx hb dX10_closed_26 (by decide) ?_
    refine lv_isub hx hb dX10_closed_27 ?_
    have hzn := zmn (n := c6) (by omega)
    refine vz_Si4 (n9 := 1) (bs2 := fun u : Unit => [rmW g h a f_words f_text q_size q_at q_token q_tokenAt q_which q_value q_live q_draft q_hasProgram f_stat f_statements f_entryKind f_entryValue f_firstOf f_catchOf f_catchKind f_catchBlock f_catches f_body f_methods f_above f_kinds q_entries q_blocks q_fault q_faultAt q_faultTold q_checks f_checkHow f_checkAt f_checkValue q_waits f_wait f_waitValue q_deep q_isOver q_piled f_pileKind f_pileStatement f_pileBlock f_pileLast q_planned f_planStatement f_planPart f_planTime f_planKind f_hasRun q_slot f_told f_tape f_failedKind f_cause f_underFirst f_underNext f_failedAt f_underWay f_traces f_closings f_enteredOf q_left q_ended q_signal q_signalValue q_frames f_frameKind f_frameStatement f_frameNow f_pending f_pendingValue f_firstResource f_openedOf f_caught q_acts f_actVar f_actRow f_actMethod f_actStatement q_rows f_rowSize f_rowItem f_passed q_planning q_aloneStatement q_alonePart q_aloneTime q_quiet f_quietStatement f_quietPart f_quietTime f_stack q_stacked q_wrong f_wayOut q_wayOuts]) (br := [rmW g h a f_words f_text q_size q_at q_token q_tokenAt q_which q_value q_live q_draft q_hasProgram f_stat f_statements f_entryKind f_entryValue f_firstOf f_catchOf f_catchKind f_catchBlock f_catches f_body f_methods f_above f_kinds q_entries q_blocks q_fault q_faultAt q_faultTold q_checks f_checkHow f_checkAt f_checkValue q_waits f_wait f_waitValue q_deep q_isOver q_piled f_pileKind f_pileStatement f_pileBlock f_pileLast q_planned f_planStatement f_planPart f_planTime f_planKind f_hasRun q_slot f_told f_tape f_failedKind f_cause f_underFirst f_underNext f_failedAt f_underWay f_traces f_closings f_enteredOf q_left q_ended q_signal q_signalValue q_frames f_frameKind f_frameStatement f_frameNow f_pending f_pendingValue f_firstResource f_openedOf f_caught q_acts f_actVar f_actRow f_actMethod f_actStatement q_rows f_rowSize f_rowItem f_passed q_planning q_aloneStatement q_alonePart q_aloneTime q_quiet f_quietStatement f_quietPart f_quietTime f_stack q_stacked q_wrong f_wayOut q_wayOuts]) (As := [.int n2, .int 0, .int ((nI c6) - 1)]) (rest := []) hx hb hml hown hts hK hA hP hD hS (r_in l D g H.size n2 0 ((nI c6) - 1)) ks_X10_239 ⟨Nat.le_of_ble_eq_true rfl, Nat.le_of_ble_eq_true rfl⟩ [] [0] rfl (by decide) rfl (fun _ => rfl) (fun _ => rfl) hl.1 (Nat.le_of_ble_eq_true rfl) dX10_closed_28 ⟨Nat.le_refl _, Nat.le_refl _⟩ rfl (fun v4 _ H locs hz5 _ hP hD hS => ?_)
    rcases hz5 with ⟨rfl, hb6⟩ | ⟨rfl, hb6⟩
    · have ei7 : (0 : Int32).toInt = 0 := rfl
      refine lv_if_eq (tgt := 49) hx hb dX10_closed_31 (by decide) (fun h9 => absurd h9 (by decide)) (fun _ => ?_)
      refine lv_aload_n hx hb dX10_closed_34 rfl (lv_at hl 0 rfl) ?_
      refine va_get (D := D) (ci := 10) (v := .ref (a 38)) (C := RX10) (T := TX10) (N := 96) hx hb hts inlX10 hown hK hP 0 rfl rfl 59 (by decide) (hts _ q232) (fun _ h => h) rfl dX10_closed_35 ?_
      refine lv_sipush (v := 410) hx hb dX10_closed_38 (by decide) ?_
      refine lv_iload_n hx hb dX10_closed_41 rfl (lv_at hl 1 rfl) ?_
      refine lv_topi (nm_r (e' := (nI (n1.toInt.toNat))) (nI_of9 (by omega)) ?_)
      refine lv_imul hx hb dX10_closed_42 ?_
      refine lv_topi (nm_r (e' := (nI (410 * (n1.toInt.toNat)))) (vz_mul 410 (n1.toInt.toNat)) ?_)
      refine lv_iload_n hx hb dX10_closed_43 rfl (lv_at hl 2 rfl) ?_
      refine lv_topi (nm_r (e' := (nI (n2.toInt.toNat))) (nI_of9 (by omega)) ?_)
      refine lv_iadd hx hb dX10_closed_44 ?_
      refine lv_topi (nm_r (e' := (nI ((410 * (n1.toInt.toNat)) + (n2.toInt.toNat)))) (nI_add (410 * (n1.toInt.toNat)) (n2.toInt.toNat)) ?_)
      refine va_iald hx hb hK hP 39 0 rfl rfl (vr_in (by first | omega | (clear hP hD hS hl hQ; grind)) (by decide)) dX10_closed_45 ?_
      refine lv_topi (nm_r (e' := (f_closings ((410 * (n1.toInt.toNat)) + (n2.toInt.toNat)))) (vr_ld (by first | omega | (clear hP hD hS hl hQ; grind))) ?_)
      refine lv_goto (tgt := 51) hx hb dX10_closed_46 (by decide) ?_
      rw [hQ]
      exact vz_iret3 hx hb hr hlk hK hP hD hS () trivial rfl (Nat.le_refl 0) (Nat.le_refl 0) dX10_closed_51
    · have ei8 : (0 : Int32).toInt = 0 := rfl
      refine lv_if_eq (tgt := 49) hx hb dX10_closed_31 (by decide) (fun _ => ?_) (fun h9 => absurd (by decide) h9)
      refine lv_bipush (v := (-9)) hx hb dX10_closed_49 (by decide) ?_
      rw [hQ]
      exact vz_iret3 hx hb hr hlk hK hP hD hS () trivial rfl (Nat.le_refl 0) (Nat.le_refl 0) dX10_closed_51
  · refine lv_if_ne (tgt := 12) hx hb dX10_closed_5 (by decide) (fun h9 => absurd (by decide) h9) (fun _ => ?_)
    refine lv_iconst (v := (-1)) hx hb dX10_closed_8 (by decide) ?_
    refine lv_goto (tgt := 51) hx hb dX10_closed_9 (by decide) ?_
    rw [hQ]
    exact vz_iret3 hx hb hr hlk hK hP hD hS () trivial rfl (Nat.le_refl 0) (Nat.le_refl 0) dX10_closed_51
theorem dX10_failure_0 : decode cX10_failure 0 = .ok (.aload_n 0, 1) := by decide +kernel
theorem dX10_failure_1 : decode cX10_failure 1 = .ok (.iload_n 1, 1) := by decide +kernel
theorem dX10_failure_2 : decode cX10_failure 2 = .ok (.invokevirtual 616, 3) := by decide +kernel
theorem dX10_failure_5 : decode cX10_failure 5 = .ok (.ifCond .eq 12, 3) := by decide +kernel
theorem dX10_failure_8 : decode cX10_failure 8 = .ok (.iload_n 3, 1) := by decide +kernel
theorem dX10_failure_9 : decode cX10_failure 9 = .ok (.iconst 0, 1) := by decide +kernel
theorem dX10_failure_10 : decode cX10_failure 10 = .ok (.iconst 5, 1) := by decide +kernel
theorem dX10_failure_11 : decode cX10_failure 11 = .ok (.invokestatic 239, 3) := by decide +kernel
theorem dX10_failure_14 : decode cX10_failure 14 = .ok (.ifCond .ne 5, 3) := by decide +kernel
theorem dX10_failure_17 : decode cX10_failure 17 = .ok (.iconst (-1), 1) := by decide +kernel
theorem dX10_failure_18 : decode cX10_failure 18 = .ok (.ireturn, 1) := by decide +kernel
theorem dX10_failure_19 : decode cX10_failure 19 = .ok (.iload_n 2, 1) := by decide +kernel
theorem dX10_failure_20 : decode cX10_failure 20 = .ok (.iconst 0, 1) := by decide +kernel
theorem dX10_failure_21 : decode cX10_failure 21 = .ok (.aload_n 0, 1) := by decide +kernel
theorem dX10_failure_22 : decode cX10_failure 22 = .ok (.getfield 142, 3) := by decide +kernel
theorem dX10_failure_25 : decode cX10_failure 25 = .ok (.bipush 10, 2) := by decide +kernel
theorem dX10_failure_27 : decode cX10_failure 27 = .ok (.iload_n 1, 1) := by decide +kernel
theorem dX10_failure_28 : decode cX10_failure 28 = .ok (.imul, 1) := by decide +kernel
theorem dX10_failure_29 : decode cX10_failure 29 = .ok (.iconst 4, 1) := by decide +kernel
theorem dX10_failure_30 : decode cX10_failure 30 = .ok (.iadd, 1) := by decide +kernel
theorem dX10_failure_31 : decode cX10_failure 31 = .ok (.iaload, 1) := by decide +kernel
theorem dX10_failure_32 : decode cX10_failure 32 = .ok (.iconst 1, 1) := by decide +kernel
theorem dX10_failure_33 : decode cX10_failure 33 = .ok (.isub, 1) := by decide +kernel
theorem dX10_failure_34 : decode cX10_failure 34 = .ok (.invokestatic 239, 3) := by decide +kernel
theorem dX10_failure_37 : decode cX10_failure 37 = .ok (.ifCond .ne 6, 3) := by decide +kernel
theorem dX10_failure_40 : decode cX10_failure 40 = .ok (.bipush (-9), 2) := by decide +kernel
theorem dX10_failure_42 : decode cX10_failure 42 = .ok (.ireturn, 1) := by decide +kernel
theorem dX10_failure_43 : decode cX10_failure 43 = .ok (.sipush 420, 3) := by decide +kernel
theorem dX10_failure_46 : decode cX10_failure 46 = .ok (.iload_n 1, 1) := by decide +kernel
theorem dX10_failure_47 : decode cX10_failure 47 = .ok (.imul, 1) := by decide +kernel
theorem dX10_failure_48 : decode cX10_failure 48 = .ok (.iload_n 2, 1) := by decide +kernel
theorem dX10_failure_49 : decode cX10_failure 49 = .ok (.iadd, 1) := by decide +kernel
theorem dX10_failure_50 : decode cX10_failure 50 = .ok (.istore 4, 2) := by decide +kernel
theorem dX10_failure_52 : decode cX10_failure 52 = .ok (.iload_n 3, 1) := by decide +kernel
theorem dX10_failure_53 : decode cX10_failure 53 = .ok (.tableswitch 75 0 4 #[35, 43, 51, 59, 67], 35) := by decide +kernel
theorem dX10_failure_88 : decode cX10_failure 88 = .ok (.aload_n 0, 1) := by decide +kernel
theorem dX10_failure_89 : decode cX10_failure 89 = .ok (.getfield 148, 3) := by decide +kernel
theorem dX10_failure_92 : decode cX10_failure 92 = .ok (.iload 4, 2) := by decide +kernel
theorem dX10_failure_94 : decode cX10_failure 94 = .ok (.iaload, 1) := by decide +kernel
theorem dX10_failure_95 : decode cX10_failure 95 = .ok (.ireturn, 1) := by decide +kernel
theorem dX10_failure_96 : decode cX10_failure 96 = .ok (.aload_n 0, 1) := by decide +kernel
theorem dX10_failure_97 : decode cX10_failure 97 = .ok (.getfield 151, 3) := by decide +kernel
theorem dX10_failure_100 : decode cX10_failure 100 = .ok (.iload 4, 2) := by decide +kernel
theorem dX10_failure_102 : decode cX10_failure 102 = .ok (.iaload, 1) := by decide +kernel
theorem dX10_failure_103 : decode cX10_failure 103 = .ok (.ireturn, 1) := by decide +kernel
theorem dX10_failure_104 : decode cX10_failure 104 = .ok (.aload_n 0, 1) := by decide +kernel
theorem dX10_failure_105 : decode cX10_failure 105 = .ok (.getfield 154, 3) := by decide +kernel
theorem dX10_failure_108 : decode cX10_failure 108 = .ok (.iload 4, 2) := by decide +kernel
theorem dX10_failure_110 : decode cX10_failure 110 = .ok (.iaload, 1) := by decide +kernel
theorem dX10_failure_111 : decode cX10_failure 111 = .ok (.ireturn, 1) := by decide +kernel
theorem dX10_failure_112 : decode cX10_failure 112 = .ok (.aload_n 0, 1) := by decide +kernel
theorem dX10_failure_113 : decode cX10_failure 113 = .ok (.getfield 157, 3) := by decide +kernel
theorem dX10_failure_116 : decode cX10_failure 116 = .ok (.iload 4, 2) := by decide +kernel
theorem dX10_failure_118 : decode cX10_failure 118 = .ok (.iaload, 1) := by decide +kernel
theorem dX10_failure_119 : decode cX10_failure 119 = .ok (.ireturn, 1) := by decide +kernel
theorem dX10_failure_120 : decode cX10_failure 120 = .ok (.aload_n 0, 1) := by decide +kernel
theorem dX10_failure_121 : decode cX10_failure 121 = .ok (.getfield 160, 3) := by decide +kernel
theorem dX10_failure_124 : decode cX10_failure 124 = .ok (.iload 4, 2) := by decide +kernel
theorem dX10_failure_126 : decode cX10_failure 126 = .ok (.iaload, 1) := by decide +kernel
theorem dX10_failure_127 : decode cX10_failure 127 = .ok (.ireturn, 1) := by decide +kernel
theorem dX10_failure_128 : decode cX10_failure 128 = .ok (.aload_n 0, 1) := by decide +kernel
theorem dX10_failure_129 : decode cX10_failure 129 = .ok (.getfield 163, 3) := by decide +kernel
theorem dX10_failure_132 : decode cX10_failure 132 = .ok (.iload 4, 2) := by decide +kernel
theorem dX10_failure_134 : decode cX10_failure 134 = .ok (.iaload, 1) := by decide +kernel
theorem dX10_failure_135 : decode cX10_failure 135 = .ok (.ireturn, 1) := by decide +kernel
set_option maxHeartbeats 8000000 in
set_option maxRecDepth 100000 in
theorem r_failure (l : Launch) (D : va_G) (g : Nat → ClassId)   (sz : Nat) (h : Nat) (a : Nat → Nat) (f_words : Nat → Int64) (f_text : Nat → Int32) (q_size : Nat) (q_at : Nat) (q_token : Int32) (q_tokenAt : Nat) (q_which : Int32) (q_value : Nat) (q_live : Nat) (q_draft : Nat) (q_hasProgram : Int32) (f_stat : Nat → Int32) (f_statements : Nat → Int32) (f_entryKind : Nat → Int32) (f_entryValue : Nat → Int32) (f_firstOf : Nat → Int32) (f_catchOf : Nat → Int32) (f_catchKind : Nat → Int32) (f_catchBlock : Nat → Int32) (f_catches : Nat → Int32) (f_body : Nat → Int32) (f_methods : Nat → Int32) (f_above : Nat → Int32) (f_kinds : Nat → Int32) (q_entries : Nat) (q_blocks : Nat) (q_fault : Int32) (q_faultAt : Int32) (q_faultTold : Int32) (q_checks : Nat) (f_checkHow : Nat → Int32) (f_checkAt : Nat → Int32) (f_checkValue : Nat → Int32) (q_waits : Nat) (f_wait : Nat → Int32) (f_waitValue : Nat → Int32) (q_deep : Int32) (q_isOver : Int32) (q_piled : Nat) (f_pileKind : Nat → Int32) (f_pileStatement : Nat → Int32) (f_pileBlock : Nat → Int32) (f_pileLast : Nat → Int32) (q_planned : Nat) (f_planStatement : Nat → Int32) (f_planPart : Nat → Int32) (f_planTime : Nat → Int32) (f_planKind : Nat → Int32) (f_hasRun : Nat → Int32) (q_slot : Nat) (f_told : Nat → Int32) (f_tape : Nat → Int32) (f_failedKind : Nat → Int32) (f_cause : Nat → Int32) (f_underFirst : Nat → Int32) (f_underNext : Nat → Int32) (f_failedAt : Nat → Int32) (f_underWay : Nat → Int32) (f_traces : Nat → Int32) (f_closings : Nat → Int32) (f_enteredOf : Nat → Int32) (q_left : Nat) (q_ended : Int32) (q_signal : Int32) (q_signalValue : Int32) (q_frames : Nat) (f_frameKind : Nat → Int32) (f_frameStatement : Nat → Int32) (f_frameNow : Nat → Int32) (f_pending : Nat → Int32) (f_pendingValue : Nat → Int32) (f_firstResource : Nat → Int32) (f_openedOf : Nat → Int32) (f_caught : Nat → Int32) (q_acts : Nat) (f_actVar : Nat → Int32) (f_actRow : Nat → Int32) (f_actMethod : Nat → Int32) (f_actStatement : Nat → Int32) (q_rows : Nat) (f_rowSize : Nat → Int32) (f_rowItem : Nat → Int32) (f_passed : Nat → Int32) (q_planning : Int32) (q_aloneStatement : Int32) (q_alonePart : Int32) (q_aloneTime : Int32) (q_quiet : Nat) (f_quietStatement : Nat → Int32) (f_quietPart : Nat → Int32) (f_quietTime : Nat → Int32) (f_stack : Nat → Int32) (q_stacked : Nat) (q_wrong : Int32) (f_wayOut : Nat → Int32) (q_wayOuts : Nat) (n1 : Int32) (n2 : Int32) (n3 : Int32) (hgi : GI f_words q_size q_value q_live q_hasProgram f_stat f_entryKind f_entryValue f_firstOf f_catchOf f_catchKind f_catchBlock f_body f_above f_statements f_catches f_methods f_kinds q_planned f_planKind f_told f_underWay q_quiet) : vz_Mi l D (tyG g) yX10_failure cX10_failure 5 2 43 0 0 .int [.ref h, .int n1, .int n2, .int n3] sz (vz_w [rmW g h a f_words f_text q_size q_at q_token q_tokenAt q_which q_value q_live q_draft q_hasProgram f_stat f_statements f_entryKind f_entryValue f_firstOf f_catchOf f_catchKind f_catchBlock f_catches f_body f_methods f_above f_kinds q_entries q_blocks q_fault q_faultAt q_faultTold q_checks f_checkHow f_checkAt f_checkValue q_waits f_wait f_waitValue q_deep q_isOver q_piled f_pileKind f_pileStatement f_pileBlock f_pileLast q_planned f_planStatement f_planPart f_planTime f_planKind f_hasRun q_slot f_told f_tape f_failedKind f_cause f_underFirst f_underNext f_failedAt f_underWay f_traces f_closings f_enteredOf q_left q_ended q_signal q_signalValue q_frames f_frameKind f_frameStatement f_frameNow f_pending f_pendingValue f_firstResource f_openedOf f_caught q_acts f_actVar f_actRow f_actMethod f_actStatement q_rows f_rowSize f_rowItem f_passed q_planning q_aloneStatement q_alonePart q_aloneTime q_quiet f_quietStatement f_quietPart f_quietTime f_stack q_stacked q_wrong f_wayOut q_wayOuts]) (fun r (u : Unit) => True) (fun u => vz_w [rmW g h a f_words f_text q_size q_at q_token q_tokenAt q_which q_value q_live q_draft q_hasProgram f_stat f_statements f_entryKind f_entryValue f_firstOf f_catchOf f_catchKind f_catchBlock f_catches f_body f_methods f_above f_kinds q_entries q_blocks q_fault q_faultAt q_faultTold q_checks f_checkHow f_checkAt f_checkValue q_waits f_wait f_waitValue q_deep q_isOver q_piled f_pileKind f_pileStatement f_pileBlock f_pileLast q_planned f_planStatement f_planPart f_planTime f_planKind f_hasRun q_slot f_told f_tape f_failedKind f_cause f_underFirst f_underNext f_failedAt f_underWay f_traces f_closings f_enteredOf q_left q_ended q_signal q_signalValue q_frames f_frameKind f_frameStatement f_frameNow f_pending f_pendingValue f_firstResource f_openedOf f_caught q_acts f_actVar f_actRow f_actMethod f_actStatement q_rows f_rowSize f_rowItem f_passed q_planning q_aloneStatement q_alonePart q_aloneTime q_quiet f_quietStatement f_quietPart f_quietTime f_stack q_stacked q_wrong f_wayOut q_wayOuts]) := by
  refine vz_siQ (by decide) (Nat.le_of_ble_eq_true rfl) (fun p e s m args below meth c hx hb hr hml hts hown hlk hin hK hsz A hA H locs hP hD hS ls hl Q hQ => ?_)
  have hl : lv_has ls 5 [(0, .ref h), (1, .int n1), (2, .int n2), (3, .int n3)] := hl
  obtain ⟨hwd, hsz, hva, hlv, hwl, hpl, htt, huw, hqu⟩ := hgi
  refine lv_aload_n hx hb dX10_failure_0 rfl (lv_at hl 0 rfl) ?_
  refine lv_iload_n hx hb dX10_failure_1 rfl (lv_at hl 1 rfl) ?_
  refine vz_Vi3 (As := [.int n1]) (rest := []) hx hb hml hown hts hK hA hP hD hS (r_isRun l D g H.size h a f_words f_text q_size q_at q_token q_tokenAt q_which q_value q_live q_draft q_hasProgram f_stat f_statements f_entryKind f_entryValue f_firstOf f_catchOf f_catchKind f_catchBlock f_catches f_body f_methods f_above f_kinds q_entries q_blocks q_fault q_faultAt q_faultTold q_checks f_checkHow f_checkAt f_checkValue q_waits f_wait f_waitValue q_deep q_isOver q_piled f_pileKind f_pileStatement f_pileBlock f_pileLast q_planned f_planStatement f_planPart f_planTime f_planKind f_hasRun q_slot f_told f_tape f_failedKind f_cause f_underFirst f_underNext f_failedAt f_underWay f_traces f_closings f_enteredOf q_left q_ended q_signal q_signalValue q_frames f_frameKind f_frameStatement f_frameNow f_pending f_pendingValue f_firstResource f_openedOf f_caught q_acts f_actVar f_actRow f_actMethod f_actStatement q_rows f_rowSize f_rowItem f_passed q_planning q_aloneStatement q_alonePart q_aloneTime q_quiet f_quietStatement f_quietPart f_quietTime f_stack q_stacked q_wrong f_wayOut q_wayOuts n1) kv_X10_616 ⟨Nat.le_of_ble_eq_true rfl, Nat.le_of_ble_eq_true rfl⟩ (q0 := 0) (ci := 10) rfl rfl rfl  hl.1 (Nat.le_of_ble_eq_true rfl) dX10_failure_2 ⟨Nat.le_refl _, Nat.le_refl _⟩ rfl (fun v1 _ H locs hz2 _ hP hD hS => ?_)
  rcases hz2 with ⟨rfl, hb3⟩ | ⟨rfl, hb3⟩
  · refine lv_if_eq (tgt := 17) hx hb dX10_failure_5 (by decide) (fun h9 => absurd h9 (by decide)) (fun _ => ?_)
    refine lv_iload_n hx hb dX10_failure_8 rfl (lv_at hl 3 rfl) ?_
    refine lv_iconst (v := 0) hx hb dX10_failure_9 (by decide) ?_
    refine lv_iconst (v := 5) hx hb dX10_failure_10 (by decide) ?_
    refine vz_Si4 (n9 := 1) (bs2 := fun u : Unit => [rmW g h a f_words f_text q_size q_at q_token q_tokenAt q_which q_value q_live q_draft q_hasProgram f_stat f_statements f_entryKind f_entryValue f_firstOf f_catchOf f_catchKind f_catchBlock f_catches f_body f_methods f_above f_kinds q_entries q_blocks q_fault q_faultAt q_faultTold q_checks f_checkHow f_checkAt f_checkValue q_waits f_wait f_waitValue q_deep q_isOver q_piled f_pileKind f_pileStatement f_pileBlock f_pileLast q_planned f_planStatement f_planPart f_planTime f_planKind f_hasRun q_slot f_told f_tape f_failedKind f_cause f_underFirst f_underNext f_failedAt f_underWay f_traces f_closings f_enteredOf q_left q_ended q_signal q_signalValue q_frames f_frameKind f_frameStatement f_frameNow f_pending f_pendingValue f_firstResource f_openedOf f_caught q_acts f_actVar f_actRow f_actMethod f_actStatement q_rows f_rowSize f_rowItem f_passed q_planning q_aloneStatement q_alonePart q_aloneTime q_quiet f_quietStatement f_quietPart f_quietTime f_stack q_stacked q_wrong f_wayOut q_wayOuts]) (br := [rmW g h a f_words f_text q_size q_at q_token q_tokenAt q_which q_value q_live q_draft q_hasProgram f_stat f_statements f_entryKind f_entryValue f_firstOf f_catchOf f_catchKind f_catchBlock f_catches f_body f_methods f_above f_kinds q_entries q_blocks q_fault q_faultAt q_faultTold q_checks f_checkHow f_checkAt f_checkValue q_waits f_wait f_waitValue q_deep q_isOver q_piled f_pileKind f_pileStatement f_pileBlock f_pileLast q_planned f_planStatement f_planPart f_planTime f_planKind f_hasRun q_slot f_told f_tape f_failedKind f_cause f_underFirst f_underNext f_failedAt f_underWay f_traces f_closings f_enteredOf q_left q_ended q_signal q_signalValue q_frames f_frameKind f_frameStatement f_frameNow f_pending f_pendingValue f_firstResource f_openedOf f_caught q_acts f_actVar f_actRow f_actMethod f_actStatement q_rows f_rowSize f_rowItem f_passed q_planning q_aloneStatement q_alonePart q_aloneTime q_quiet f_quietStatement f_quietPart f_quietTime f_stack q_stacked q_wrong f_wayOut q_wayOuts]) (As := [.int n3, .int 0, .int 5]) (rest := []) hx hb hml hown hts hK hA hP hD hS (r_in l D g H.size n3 0 5) ks_X10_239 ⟨Nat.le_of_ble_eq_true rfl, Nat.le_of_ble_eq_true rfl⟩ [] [0] rfl (by decide) rfl (fun _ => rfl) (fun _ => rfl) hl.1 (Nat.le_of_ble_eq_true rfl) dX10_failure_11 ⟨Nat.le_refl _, Nat.le_refl _⟩ rfl (fun v4 _ H locs hz5 _ hP hD hS => ?_)
    rcases hz5 with ⟨rfl, hb6⟩ | ⟨rfl, hb6⟩
    · have ei7 : (0 : Int32).toInt = 0 := rfl
      have ei8 : (5 : Int32).toInt = 5 := rfl
      refine lv_if_ne (tgt := 19) hx hb dX10_failure_14 (by decide) (fun _ => ?_) (fun h9 => absurd h9 (by decide))
      obtain ⟨c3, c4, c6, hc3, hc4, hc6, ht3, ht4, ht6, ht2⟩ := htt n1.toInt.toNat (by omega)
      refine lv_iload_n hx hb dX10_failure_19 rfl (lv_at hl 2 rfl) ?_
      refine lv_iconst (v := 0) hx hb dX10_failure_20 (by decide) ?_
      refine lv_aload_n hx hb dX10_failure_21 rfl (lv_at hl 0 rfl) ?_
      refine va_get (D := D) (ci := 10) (v := .ref (a 29)) (C := RX10) (T := TX10) (N := 96) hx hb hts inlX10 hown hK hP 0 rfl rfl 50 (by decide) (hts _ q223) (fun _ h => h) rfl dX10_failure_22 ?_
      refine lv_bipush (v := 10) hx hb dX10_failure_25 (by decide) ?_
      refine lv_iload_n hx hb dX10_failure_27 rfl (lv_at hl 1 rfl) ?_
      refine lv_topi (nm_r (e' := (nI (n1.toInt.toNat))) (nI_of9 (by omega)) ?_)
      refine lv_imul hx hb dX10_failure_28 ?_
      refine lv_topi (nm_r (e' := (nI (10 * (n1.toInt.toNat)))) (vz_mul 10 (n1.toInt.toNat)) ?_)
      refine lv_iconst (v := 4) hx hb dX10_failure_29 (by decide) ?_
      refine lv_iadd hx hb dX10_failure_30 ?_
      refine lv_topi (nm_r (e' := (nI ((10 * (n1.toInt.toNat)) + 4))) (nI_add (10 * (n1.toInt.toNat)) 4) ?_)
      refine va_iald hx hb hK hP 30 0 rfl rfl (vr_in (by first | omega | (clear hP hD hS hl hQ; grind)) (by decide)) dX10_failure_31 ?_
      refine lv_topi (nm_r (e' := (f_told ((10 * (n1.toInt.toNat)) + 4))) (vr_ld (by first | omega | (clear hP hD hS hl hQ; grind))) ?_)
      refine lv_topi (nm_r (e' := (nI c4)) ht4 ?_)
      refine lv_iconst (v := 1) hx hb dX10_failure_32 (by decide) ?_
      refine lv_isub hx hb dX10_failure_33 ?_
      have hzn := zmn (n := c4) (by omega)
      refine vz_Si4 (n9 := 1) (bs2 := fun u : Unit => [rmW g h a f_words f_text q_size q_at q_token q_tokenAt q_which q_value q_live q_draft q_hasProgram f_stat f_statements f_entryKind f_entryValue f_firstOf f_catchOf f_catchKind f_catchBlock f_catches f_body f_methods f_above f_kinds q_entries q_blocks q_fault q_faultAt q_faultTold q_checks f_checkHow f_checkAt f_checkValue q_waits f_wait f_waitValue q_deep q_isOver q_piled f_pileKind f_pileStatement f_pileBlock f_pileLast q_planned f_planStatement f_planPart f_planTime f_planKind f_hasRun q_slot f_told f_tape f_failedKind f_cause f_underFirst f_underNext f_failedAt f_underWay f_traces f_closings f_enteredOf q_left q_ended q_signal q_signalValue q_frames f_frameKind f_frameStatement f_frameNow f_pending f_pendingValue f_firstResource f_openedOf f_caught q_acts f_actVar f_actRow f_actMethod f_actStatement q_rows f_rowSize f_rowItem f_passed q_planning q_aloneStatement q_alonePart q_aloneTime q_quiet f_quietStatement f_quietPart f_quietTime f_stack q_stacked q_wrong f_wayOut q_wayOuts]) (br := [rmW g h a f_words f_text q_size q_at q_token q_tokenAt q_which q_value q_live q_draft q_hasProgram f_stat f_statements f_entryKind f_entryValue f_firstOf f_catchOf f_catchKind f_catchBlock f_catches f_body f_methods f_above f_kinds q_entries q_blocks q_fault q_faultAt q_faultTold q_checks f_checkHow f_checkAt f_checkValue q_waits f_wait f_waitValue q_deep q_isOver q_piled f_pileKind f_pileStatement f_pileBlock f_pileLast q_planned f_planStatement f_planPart f_planTime f_planKind f_hasRun q_slot f_told f_tape f_failedKind f_cause f_underFirst f_underNext f_failedAt f_underWay f_traces f_closings f_enteredOf q_left q_ended q_signal q_signalValue q_frames f_frameKind f_frameStatement f_frameNow f_pending f_pendingValue f_firstResource f_openedOf f_caught q_acts f_actVar f_actRow f_actMethod f_actStatement q_rows f_rowSize f_rowItem f_passed q_planning q_aloneStatement q_alonePart q_aloneTime q_quiet f_quietStatement f_quietPart f_quietTime f_stack q_stacked q_wrong f_wayOut q_wayOuts]) (As := [.int n2, .int 0, .int ((nI c4) - 1)]) (rest := []) hx hb hml hown hts hK hA hP hD hS (r_in l D g H.size n2 0 ((nI c4) - 1)) ks_X10_239 ⟨Nat.le_of_ble_eq_true rfl, Nat.le_of_ble_eq_true rfl⟩ [] [0] rfl (by decide) rfl (fun _ => rfl) (fun _ => rfl) hl.1 (Nat.le_of_ble_eq_true rfl) dX10_failure_34 ⟨Nat.le_refl _, Nat.le_refl _⟩ rfl (fun v9 _ H locs hz10 _ hP hD hS => ?_)
      rcases hz10 with ⟨rfl, hb11⟩ | ⟨rfl, hb11⟩
      · have ei12 : (0 : Int32).toInt = 0 := rfl
        refine lv_if_ne (tgt := 43) hx hb dX10_failure_37 (by decide) (fun _ => ?_) (fun h9 => absurd h9 (by decide))
        refine lv_sipush (v := 420) hx hb dX10_failure_43 (by decide) ?_
        refine lv_iload_n hx hb dX10_failure_46 rfl (lv_at hl 1 rfl) ?_
        refine lv_topi (nm_r (e' := (nI (n1.toInt.toNat))) (nI_of9 (by omega)) ?_)
        refine lv_imul hx hb dX10_failure_47 ?_
        refine lv_topi (nm_r (e' := (nI (420 * (n1.toInt.toNat)))) (vz_mul 420 (n1.toInt.toNat)) ?_)
        refine lv_iload_n hx hb dX10_failure_48 rfl (lv_at hl 2 rfl) ?_
        refine lv_topi (nm_r (e' := (nI (n2.toInt.toNat))) (nI_of9 (by omega)) ?_)
        refine lv_iadd hx hb dX10_failure_49 ?_
        refine lv_topi (nm_r (e' := (nI ((420 * (n1.toInt.toNat)) + (n2.toInt.toNat)))) (nI_add (420 * (n1.toInt.toNat)) (n2.toInt.toNat)) ?_)
        refine lv_istore (lv' := [(4, .int (nI ((420 * (n1.toInt.toNat)) + (n2.toInt.toNat)))), (0, .ref h), (1, .int n1), (2, .int n2), (3, .int n3)]) hx hb dX10_failure_50 hl (by decide) rfl (fun ls hl => ?_)
        refine lv_iload_n hx hb dX10_failure_52 rfl (lv_at hl 4 rfl) ?_
        have S53_88 : W p l e { frames := 2, cells := 0, slots := 0, locals := 43 } s m args below meth c H locs 0 0 Q (F0 m 88 ls []) := by
          refine lv_aload_n hx hb dX10_failure_88 rfl (lv_at hl 1 rfl) ?_
          refine va_get (D := D) (ci := 10) (v := .ref (a 31)) (C := RX10) (T := TX10) (N := 96) hx hb hts inlX10 hown hK hP 0 rfl rfl 52 (by decide) (hts _ q225) (fun _ h => h) rfl dX10_failure_89 ?_
          refine lv_iload hx hb dX10_failure_92 (lv_at hl 0 rfl) ?_
          refine va_iald hx hb hK hP 32 0 rfl rfl (vr_in (by first | omega | (clear hP hD hS hl hQ; grind)) (by decide)) dX10_failure_94 ?_
          refine lv_topi (nm_r (e' := (f_failedKind ((420 * (n1.toInt.toNat)) + (n2.toInt.toNat)))) (vr_ld (by first | omega | (clear hP hD hS hl hQ; grind))) ?_)
          rw [hQ]
          exact vz_iret3 hx hb hr hlk hK hP hD hS () trivial rfl (Nat.le_refl 0) (Nat.le_refl 0) dX10_failure_95
        have S53_96 : W p l e { frames := 2, cells := 0, slots := 0, locals := 43 } s m args below meth c H locs 0 0 Q (F0 m 96 ls []) := by
          refine lv_aload_n hx hb dX10_failure_96 rfl (lv_at hl 1 rfl) ?_
          refine va_get (D := D) (ci := 10) (v := .ref (a 32)) (C := RX10) (T := TX10) (N := 96) hx hb hts inlX10 hown hK hP 0 rfl rfl 53 (by decide) (hts _ q226) (fun _ h => h) rfl dX10_failure_97 ?_
          refine lv_iload hx hb dX10_failure_100 (lv_at hl 0 rfl) ?_
          refine va_iald hx hb hK hP 33 0 rfl rfl (vr_in (by first | omega | (clear hP hD hS hl hQ; grind)) (by decide)) dX10_failure_102 ?_
          refine lv_topi (nm_r (e' := (f_cause ((420 * (n1.toInt.toNat)) + (n2.toInt.toNat)))) (vr_ld (by first | omega | (clear hP hD hS hl hQ; grind))) ?_)
          rw [hQ]
          exact vz_iret3 hx hb hr hlk hK hP hD hS () trivial rfl (Nat.le_refl 0) (Nat.le_refl 0) dX10_failure_103
        have S53_104 : W p l e { frames := 2, cells := 0, slots := 0, locals := 43 } s m args below meth c H locs 0 0 Q (F0 m 104 ls []) := by
          refine lv_aload_n hx hb dX10_failure_104 rfl (lv_at hl 1 rfl) ?_
          refine va_get (D := D) (ci := 10) (v := .ref (a 33)) (C := RX10) (T := TX10) (N := 96) hx hb hts inlX10 hown hK hP 0 rfl rfl 54 (by decide) (hts _ q227) (fun _ h => h) rfl dX10_failure_105 ?_
          refine lv_iload hx hb dX10_failure_108 (lv_at hl 0 rfl) ?_
          refine va_iald hx hb hK hP 34 0 rfl rfl (vr_in (by first | omega | (clear hP hD hS hl hQ; grind)) (by decide)) dX10_failure_110 ?_
          refine lv_topi (nm_r (e' := (f_underFirst ((420 * (n1.toInt.toNat)) + (n2.toInt.toNat)))) (vr_ld (by first | omega | (clear hP hD hS hl hQ; grind))) ?_)
          rw [hQ]
          exact vz_iret3 hx hb hr hlk hK hP hD hS () trivial rfl (Nat.le_refl 0) (Nat.le_refl 0) dX10_failure_111
        have S53_112 : W p l e { frames := 2, cells := 0, slots := 0, locals := 43 } s m args below meth c H locs 0 0 Q (F0 m 112 ls []) := by
          refine lv_aload_n hx hb dX10_failure_112 rfl (lv_at hl 1 rfl) ?_
          refine va_get (D := D) (ci := 10) (v := .ref (a 34)) (C := RX10) (T := TX10) (N := 96) hx hb hts inlX10 hown hK hP 0 rfl rfl 55 (by decide) (hts _ q228) (fun _ h => h) rfl dX10_failure_113 ?_
          refine lv_iload hx hb dX10_failure_116 (lv_at hl 0 rfl) ?_
          refine va_iald hx hb hK hP 35 0 rfl rfl (vr_in (by first | omega | (clear hP hD hS hl hQ; grind)) (by decide)) dX10_failure_118 ?_
          refine lv_topi (nm_r (e' := (f_underNext ((420 * (n1.toInt.toNat)) + (n2.toInt.toNat)))) (vr_ld (by first | omega | (clear hP hD hS hl hQ; grind))) ?_)
          rw [hQ]
          exact vz_iret3 hx hb hr hlk hK hP hD hS () trivial rfl (Nat.le_refl 0) (Nat.le_refl 0) dX10_failure_119
        have S53_120 : W p l e { frames := 2, cells := 0, slots := 0, locals := 43 } s m args below meth c H locs 0 0 Q (F0 m 120 ls []) := by
          refine lv_aload_n hx hb dX10_failure_120 rfl (lv_at hl 1 rfl) ?_
          refine va_get (D := D) (ci := 10) (v := .ref (a 35)) (C := RX10) (T := TX10) (N := 96) hx hb hts inlX10 hown hK hP 0 rfl rfl 56 (by decide) (hts _ q229) (fun _ h => h) rfl dX10_failure_121 ?_
          refine lv_iload hx hb dX10_failure_124 (lv_at hl 0 rfl) ?_
          refine va_iald hx hb hK hP 36 0 rfl rfl (vr_in (by first | omega | (clear hP hD hS hl hQ; grind)) (by decide)) dX10_failure_126 ?_
          refine lv_topi (nm_r (e' := (f_failedAt ((420 * (n1.toInt.toNat)) + (n2.toInt.toNat)))) (vr_ld (by first | omega | (clear hP hD hS hl hQ; grind))) ?_)
          rw [hQ]
          exact vz_iret3 hx hb hr hlk hK hP hD hS () trivial rfl (Nat.le_refl 0) (Nat.le_refl 0) dX10_failure_127
        have S53_128 : W p l e { frames := 2, cells := 0, slots := 0, locals := 43 } s m args below meth c H locs 0 0 Q (F0 m 128 ls []) := by
          refine lv_aload_n hx hb dX10_failure_128 rfl (lv_at hl 1 rfl) ?_
          refine va_get (D := D) (ci := 10) (v := .ref (a 36)) (C := RX10) (T := TX10) (N := 96) hx hb hts inlX10 hown hK hP 0 rfl rfl 57 (by decide) (hts _ q230) (fun _ h => h) rfl dX10_failure_129 ?_
          refine lv_iload hx hb dX10_failure_132 (lv_at hl 0 rfl) ?_
          refine va_iald hx hb hK hP 37 0 rfl rfl (vr_in (by first | omega | (clear hP hD hS hl hQ; grind)) (by decide)) dX10_failure_134 ?_
          refine lv_topi (nm_r (e' := (f_underWay ((420 * (n1.toInt.toNat)) + (n2.toInt.toNat)))) (vr_ld (by first | omega | (clear hP hD hS hl hQ; grind))) ?_)
          rw [hQ]
          exact vz_iret3 hx hb hr hlk hK hP hD hS () trivial rfl (Nat.le_refl 0) (Nat.le_refl 0) dX10_failure_135
        refine vz_tsw (td := 128) hx hb dX10_failure_53 (by decide) [88, 96, 104, 112, 120] (by decide) (by decide) (fun hv => ?_) (fun k t hk hv => ?_)
        · exact S53_128
        · have hm := List.mem_of_getElem? hk
          simp only [List.mem_cons, List.not_mem_nil, or_false] at hm
          rcases hm with rfl | rfl | rfl | rfl | rfl
          · exact S53_88
          · exact S53_96
          · exact S53_104
          · exact S53_112
          · exact S53_120
      · have ei13 : (0 : Int32).toInt = 0 := rfl
        refine lv_if_ne (tgt := 43) hx hb dX10_failure_37 (by decide) (fun h9 => absurd (by decide) h9) (fun _ => ?_)
        refine lv_bipush (v := (-9)) hx hb dX10_failure_40 (by decide) ?_
        rw [hQ]
        exact vz_iret3 hx hb hr hlk hK hP hD hS () trivial rfl (Nat.le_refl 0) (Nat.le_refl 0) dX10_failure_42
    · have ei14 : (0 : Int32).toInt = 0 := rfl
      have ei15 : (5 : Int32).toInt = 5 := rfl
      refine lv_if_ne (tgt := 19) hx hb dX10_failure_14 (by decide) (fun h9 => absurd (by decide) h9) (fun _ => ?_)
      refine lv_iconst (v := (-1)) hx hb dX10_failure_17 (by decide) ?_
      rw [hQ]
      exact vz_iret3 hx hb hr hlk hK hP hD hS () trivial rfl (Nat.le_refl 0) (Nat.le_refl 0) dX10_failure_18
  · refine lv_if_eq (tgt := 17) hx hb dX10_failure_5 (by decide) (fun _ => ?_) (fun h9 => absurd (by decide) h9)
    refine lv_iconst (v := (-1)) hx hb dX10_failure_17 (by decide) ?_
    rw [hQ]
    exact vz_iret3 hx hb hr hlk hK hP hD hS () trivial rfl (Nat.le_refl 0) (Nat.le_refl 0) dX10_failure_18
theorem dX10_trace_0 : decode cX10_trace 0 = .ok (.aload_n 0, 1) := by decide +kernel
theorem dX10_trace_1 : decode cX10_trace 1 = .ok (.iload_n 1, 1) := by decide +kernel
theorem dX10_trace_2 : decode cX10_trace 2 = .ok (.invokevirtual 616, 3) := by decide +kernel
theorem dX10_trace_5 : decode cX10_trace 5 = .ok (.ifCond .ne 5, 3) := by decide +kernel
theorem dX10_trace_8 : decode cX10_trace 8 = .ok (.iconst (-1), 1) := by decide +kernel
theorem dX10_trace_9 : decode cX10_trace 9 = .ok (.ireturn, 1) := by decide +kernel
theorem dX10_trace_10 : decode cX10_trace 10 = .ok (.iload_n 2, 1) := by decide +kernel
theorem dX10_trace_11 : decode cX10_trace 11 = .ok (.iconst 0, 1) := by decide +kernel
theorem dX10_trace_12 : decode cX10_trace 12 = .ok (.aload_n 0, 1) := by decide +kernel
theorem dX10_trace_13 : decode cX10_trace 13 = .ok (.getfield 142, 3) := by decide +kernel
theorem dX10_trace_16 : decode cX10_trace 16 = .ok (.bipush 10, 2) := by decide +kernel
theorem dX10_trace_18 : decode cX10_trace 18 = .ok (.iload_n 1, 1) := by decide +kernel
theorem dX10_trace_19 : decode cX10_trace 19 = .ok (.imul, 1) := by decide +kernel
theorem dX10_trace_20 : decode cX10_trace 20 = .ok (.iconst 4, 1) := by decide +kernel
theorem dX10_trace_21 : decode cX10_trace 21 = .ok (.iadd, 1) := by decide +kernel
theorem dX10_trace_22 : decode cX10_trace 22 = .ok (.iaload, 1) := by decide +kernel
theorem dX10_trace_23 : decode cX10_trace 23 = .ok (.iconst 1, 1) := by decide +kernel
theorem dX10_trace_24 : decode cX10_trace 24 = .ok (.isub, 1) := by decide +kernel
theorem dX10_trace_25 : decode cX10_trace 25 = .ok (.invokestatic 239, 3) := by decide +kernel
theorem dX10_trace_28 : decode cX10_trace 28 = .ok (.ifCond .eq 45, 3) := by decide +kernel
theorem dX10_trace_31 : decode cX10_trace 31 = .ok (.iload_n 3, 1) := by decide +kernel
theorem dX10_trace_32 : decode cX10_trace 32 = .ok (.iconst 0, 1) := by decide +kernel
theorem dX10_trace_33 : decode cX10_trace 33 = .ok (.aload_n 0, 1) := by decide +kernel
theorem dX10_trace_34 : decode cX10_trace 34 = .ok (.getfield 163, 3) := by decide +kernel
theorem dX10_trace_37 : decode cX10_trace 37 = .ok (.sipush 420, 3) := by decide +kernel
theorem dX10_trace_40 : decode cX10_trace 40 = .ok (.iload_n 1, 1) := by decide +kernel
theorem dX10_trace_41 : decode cX10_trace 41 = .ok (.imul, 1) := by decide +kernel
theorem dX10_trace_42 : decode cX10_trace 42 = .ok (.iload_n 2, 1) := by decide +kernel
theorem dX10_trace_43 : decode cX10_trace 43 = .ok (.iadd, 1) := by decide +kernel
theorem dX10_trace_44 : decode cX10_trace 44 = .ok (.iaload, 1) := by decide +kernel
theorem dX10_trace_45 : decode cX10_trace 45 = .ok (.iconst 1, 1) := by decide +kernel
theorem dX10_trace_46 : decode cX10_trace 46 = .ok (.isub, 1) := by decide +kernel
theorem dX10_trace_47 : decode cX10_trace 47 = .ok (.invokestatic 239, 3) := by decide +kernel
theorem dX10_trace_50 : decode cX10_trace 50 = .ok (.ifCond .eq 23, 3) := by decide +kernel
theorem dX10_trace_53 : decode cX10_trace 53 = .ok (.aload_n 0, 1) := by decide +kernel
theorem dX10_trace_54 : decode cX10_trace 54 = .ok (.getfield 166, 3) := by decide +kernel
theorem dX10_trace_57 : decode cX10_trace 57 = .ok (.sipush 5040, 3) := by decide +kernel
theorem dX10_trace_60 : decode cX10_trace 60 = .ok (.iload_n 1, 1) := by decide +kernel
theorem dX10_trace_61 : decode cX10_trace 61 = .ok (.imul, 1) := by decide +kernel
theorem dX10_trace_62 : decode cX10_trace 62 = .ok (.bipush 12, 2) := by decide +kernel
theorem dX10_trace_64 : decode cX10_trace 64 = .ok (.iload_n 2, 1) := by decide +kernel
theorem dX10_trace_65 : decode cX10_trace 65 = .ok (.imul, 1) := by decide +kernel
theorem dX10_trace_66 : decode cX10_trace 66 = .ok (.iadd, 1) := by decide +kernel
theorem dX10_trace_67 : decode cX10_trace 67 = .ok (.iload_n 3, 1) := by decide +kernel
theorem dX10_trace_68 : decode cX10_trace 68 = .ok (.iadd, 1) := by decide +kernel
theorem dX10_trace_69 : decode cX10_trace 69 = .ok (.iaload, 1) := by decide +kernel
theorem dX10_trace_70 : decode cX10_trace 70 = .ok (.goto 5, 3) := by decide +kernel
theorem dX10_trace_73 : decode cX10_trace 73 = .ok (.bipush (-9), 2) := by decide +kernel
theorem dX10_trace_75 : decode cX10_trace 75 = .ok (.ireturn, 1) := by decide +kernel
set_option maxHeartbeats 8000000 in
set_option maxRecDepth 100000 in
theorem r_trace (l : Launch) (D : va_G) (g : Nat → ClassId)   (sz : Nat) (h : Nat) (a : Nat → Nat) (f_words : Nat → Int64) (f_text : Nat → Int32) (q_size : Nat) (q_at : Nat) (q_token : Int32) (q_tokenAt : Nat) (q_which : Int32) (q_value : Nat) (q_live : Nat) (q_draft : Nat) (q_hasProgram : Int32) (f_stat : Nat → Int32) (f_statements : Nat → Int32) (f_entryKind : Nat → Int32) (f_entryValue : Nat → Int32) (f_firstOf : Nat → Int32) (f_catchOf : Nat → Int32) (f_catchKind : Nat → Int32) (f_catchBlock : Nat → Int32) (f_catches : Nat → Int32) (f_body : Nat → Int32) (f_methods : Nat → Int32) (f_above : Nat → Int32) (f_kinds : Nat → Int32) (q_entries : Nat) (q_blocks : Nat) (q_fault : Int32) (q_faultAt : Int32) (q_faultTold : Int32) (q_checks : Nat) (f_checkHow : Nat → Int32) (f_checkAt : Nat → Int32) (f_checkValue : Nat → Int32) (q_waits : Nat) (f_wait : Nat → Int32) (f_waitValue : Nat → Int32) (q_deep : Int32) (q_isOver : Int32) (q_piled : Nat) (f_pileKind : Nat → Int32) (f_pileStatement : Nat → Int32) (f_pileBlock : Nat → Int32) (f_pileLast : Nat → Int32) (q_planned : Nat) (f_planStatement : Nat → Int32) (f_planPart : Nat → Int32) (f_planTime : Nat → Int32) (f_planKind : Nat → Int32) (f_hasRun : Nat → Int32) (q_slot : Nat) (f_told : Nat → Int32) (f_tape : Nat → Int32) (f_failedKind : Nat → Int32) (f_cause : Nat → Int32) (f_underFirst : Nat → Int32) (f_underNext : Nat → Int32) (f_failedAt : Nat → Int32) (f_underWay : Nat → Int32) (f_traces : Nat → Int32) (f_closings : Nat → Int32) (f_enteredOf : Nat → Int32) (q_left : Nat) (q_ended : Int32) (q_signal : Int32) (q_signalValue : Int32) (q_frames : Nat) (f_frameKind : Nat → Int32) (f_frameStatement : Nat → Int32) (f_frameNow : Nat → Int32) (f_pending : Nat → Int32) (f_pendingValue : Nat → Int32) (f_firstResource : Nat → Int32) (f_openedOf : Nat → Int32) (f_caught : Nat → Int32) (q_acts : Nat) (f_actVar : Nat → Int32) (f_actRow : Nat → Int32) (f_actMethod : Nat → Int32) (f_actStatement : Nat → Int32) (q_rows : Nat) (f_rowSize : Nat → Int32) (f_rowItem : Nat → Int32) (f_passed : Nat → Int32) (q_planning : Int32) (q_aloneStatement : Int32) (q_alonePart : Int32) (q_aloneTime : Int32) (q_quiet : Nat) (f_quietStatement : Nat → Int32) (f_quietPart : Nat → Int32) (f_quietTime : Nat → Int32) (f_stack : Nat → Int32) (q_stacked : Nat) (q_wrong : Int32) (f_wayOut : Nat → Int32) (q_wayOuts : Nat) (n1 : Int32) (n2 : Int32) (n3 : Int32) (hgi : GI f_words q_size q_value q_live q_hasProgram f_stat f_entryKind f_entryValue f_firstOf f_catchOf f_catchKind f_catchBlock f_body f_above f_statements f_catches f_methods f_kinds q_planned f_planKind f_told f_underWay q_quiet) : vz_Mi l D (tyG g) yX10_trace cX10_trace 4 2 43 0 0 .int [.ref h, .int n1, .int n2, .int n3] sz (vz_w [rmW g h a f_words f_text q_size q_at q_token q_tokenAt q_which q_value q_live q_draft q_hasProgram f_stat f_statements f_entryKind f_entryValue f_firstOf f_catchOf f_catchKind f_catchBlock f_catches f_body f_methods f_above f_kinds q_entries q_blocks q_fault q_faultAt q_faultTold q_checks f_checkHow f_checkAt f_checkValue q_waits f_wait f_waitValue q_deep q_isOver q_piled f_pileKind f_pileStatement f_pileBlock f_pileLast q_planned f_planStatement f_planPart f_planTime f_planKind f_hasRun q_slot f_told f_tape f_failedKind f_cause f_underFirst f_underNext f_failedAt f_underWay f_traces f_closings f_enteredOf q_left q_ended q_signal q_signalValue q_frames f_frameKind f_frameStatement f_frameNow f_pending f_pendingValue f_firstResource f_openedOf f_caught q_acts f_actVar f_actRow f_actMethod f_actStatement q_rows f_rowSize f_rowItem f_passed q_planning q_aloneStatement q_alonePart q_aloneTime q_quiet f_quietStatement f_quietPart f_quietTime f_stack q_stacked q_wrong f_wayOut q_wayOuts]) (fun r (u : Unit) => True) (fun u => vz_w [rmW g h a f_words f_text q_size q_at q_token q_tokenAt q_which q_value q_live q_draft q_hasProgram f_stat f_statements f_entryKind f_entryValue f_firstOf f_catchOf f_catchKind f_catchBlock f_catches f_body f_methods f_above f_kinds q_entries q_blocks q_fault q_faultAt q_faultTold q_checks f_checkHow f_checkAt f_checkValue q_waits f_wait f_waitValue q_deep q_isOver q_piled f_pileKind f_pileStatement f_pileBlock f_pileLast q_planned f_planStatement f_planPart f_planTime f_planKind f_hasRun q_slot f_told f_tape f_failedKind f_cause f_underFirst f_underNext f_failedAt f_underWay f_traces f_closings f_enteredOf q_left q_ended q_signal q_signalValue q_frames f_frameKind f_frameStatement f_frameNow f_pending f_pendingValue f_firstResource f_openedOf f_caught q_acts f_actVar f_actRow f_actMethod f_actStatement q_rows f_rowSize f_rowItem f_passed q_planning q_aloneStatement q_alonePart q_aloneTime q_quiet f_quietStatement f_quietPart f_quietTime f_stack q_stacked q_wrong f_wayOut q_wayOuts]) := by
  refine vz_siQ (by decide) (Nat.le_of_ble_eq_true rfl) (fun p e s m args below meth c hx hb hr hml hts hown hlk hin hK hsz A hA H locs hP hD hS ls hl Q hQ => ?_)
  have hl : lv_has ls 4 [(0, .ref h), (1, .int n1), (2, .int n2), (3, .int n3)] := hl
  obtain ⟨hwd, hsz, hva, hlv, hwl, hpl, htt, huw, hqu⟩ := hgi
  refine lv_aload_n hx hb dX10_trace_0 rfl (lv_at hl 0 rfl) ?_
  refine lv_iload_n hx hb dX10_trace_1 rfl (lv_at hl 1 rfl) ?_
  refine vz_Vi3 (As := [.int n1]) (rest := []) hx hb hml hown hts hK hA hP hD hS (r_isRun l D g H.size h a f_words f_text q_size q_at q_token q_tokenAt q_which q_value q_live q_draft q_hasProgram f_stat f_statements f_entryKind f_entryValue f_firstOf f_catchOf f_catchKind f_catchBlock f_catches f_body f_methods f_above f_kinds q_entries q_blocks q_fault q_faultAt q_faultTold q_checks f_checkHow f_checkAt f_checkValue q_waits f_wait f_waitValue q_deep q_isOver q_piled f_pileKind f_pileStatement f_pileBlock f_pileLast q_planned f_planStatement f_planPart f_planTime f_planKind f_hasRun q_slot f_told f_tape f_failedKind f_cause f_underFirst f_underNext f_failedAt f_underWay f_traces f_closings f_enteredOf q_left q_ended q_signal q_signalValue q_frames f_frameKind f_frameStatement f_frameNow f_pending f_pendingValue f_firstResource f_openedOf f_caught q_acts f_actVar f_actRow f_actMethod f_actStatement q_rows f_rowSize f_rowItem f_passed q_planning q_aloneStatement q_alonePart q_aloneTime q_quiet f_quietStatement f_quietPart f_quietTime f_stack q_stacked q_wrong f_wayOut q_wayOuts n1) kv_X10_616 ⟨Nat.le_of_ble_eq_true rfl, Nat.le_of_ble_eq_true rfl⟩ (q0 := 0) (ci := 10) rfl rfl rfl  hl.1 (Nat.le_of_ble_eq_true rfl) dX10_trace_2 ⟨Nat.le_refl _, Nat.le_refl _⟩ rfl (fun v1 _ H locs hz2 _ hP hD hS => ?_)
  rcases hz2 with ⟨rfl, hb3⟩ | ⟨rfl, hb3⟩
  · refine lv_if_ne (tgt := 10) hx hb dX10_trace_5 (by decide) (fun _ => ?_) (fun h9 => absurd h9 (by decide))
    obtain ⟨c3, c4, c6, hc3, hc4, hc6, ht3, ht4, ht6, ht2⟩ := htt n1.toInt.toNat (by omega)
    refine lv_iload_n hx hb dX10_trace_10 rfl (lv_at hl 2 rfl) ?_
    refine lv_iconst (v := 0) hx hb dX10_trace_11 (by decide) ?_
    refine lv_aload_n hx hb dX10_trace_12 rfl (lv_at hl 0 rfl) ?_
    refine va_get (D := D) (ci := 10) (v := .ref (a 29)) (C := RX10) (T := TX10) (N := 96) hx hb hts inlX10 hown hK hP 0 rfl rfl 50 (by decide) (hts _ q223) (fun _ h => h) rfl dX10_trace_13 ?_
    refine lv_bipush (v := 10) hx hb dX10_trace_16 (by decide) ?_
    refine lv_iload_n hx hb dX10_trace_18 rfl (lv_at hl 1 rfl) ?_
    refine lv_topi (nm_r (e' := (nI (n1.toInt.toNat))) (nI_of9 (by omega)) ?_)
    refine lv_imul hx hb dX10_trace_19 ?_
    refine lv_topi (nm_r (e' := (nI (10 * (n1.toInt.toNat)))) (vz_mul 10 (n1.toInt.toNat)) ?_)
    refine lv_iconst (v := 4) hx hb dX10_trace_20 (by decide) ?_
    refine lv_iadd hx hb dX10_trace_21 ?_
    refine lv_topi (nm_r (e' := (nI ((10 * (n1.toInt.toNat)) + 4))) (nI_add (10 * (n1.toInt.toNat)) 4) ?_)
    refine va_iald hx hb hK hP 30 0 rfl rfl (vr_in (by first | omega | (clear hP hD hS hl hQ; grind)) (by decide)) dX10_trace_22 ?_
    refine lv_topi (nm_r (e' := (f_told ((10 * (n1.toInt.toNat)) + 4))) (vr_ld (by first | omega | (clear hP hD hS hl hQ; grind))) ?_)
    refine lv_topi (nm_r (e' := (nI c4)) ht4 ?_)
    refine lv_iconst (v := 1) hx hb dX10_trace_23 (by decide) ?_
    refine lv_isub hx hb dX10_trace_24 ?_
    have hzn := zmn (n := c4) (by omega)
    refine vz_Si4 (n9 := 1) (bs2 := fun u : Unit => [rmW g h a f_words f_text q_size q_at q_token q_tokenAt q_which q_value q_live q_draft q_hasProgram f_stat f_statements f_entryKind f_entryValue f_firstOf f_catchOf f_catchKind f_catchBlock f_catches f_body f_methods f_above f_kinds q_entries q_blocks q_fault q_faultAt q_faultTold q_checks f_checkHow f_checkAt f_checkValue q_waits f_wait f_waitValue q_deep q_isOver q_piled f_pileKind f_pileStatement f_pileBlock f_pileLast q_planned f_planStatement f_planPart f_planTime f_planKind f_hasRun q_slot f_told f_tape f_failedKind f_cause f_underFirst f_underNext f_failedAt f_underWay f_traces f_closings f_enteredOf q_left q_ended q_signal q_signalValue q_frames f_frameKind f_frameStatement f_frameNow f_pending f_pendingValue f_firstResource f_openedOf f_caught q_acts f_actVar f_actRow f_actMethod f_actStatement q_rows f_rowSize f_rowItem f_passed q_planning q_aloneStatement q_alonePart q_aloneTime q_quiet f_quietStatement f_quietPart f_quietTime f_stack q_stacked q_wrong f_wayOut q_wayOuts]) (br := [rmW g h a f_words f_text q_size q_at q_token q_tokenAt q_which q_value q_live q_draft q_hasProgram f_stat f_statements f_entryKind f_entryValue f_firstOf f_catchOf f_catchKind f_catchBlock f_catches f_body f_methods f_above f_kinds q_entries q_blocks q_fault q_faultAt q_faultTold q_checks f_checkHow f_checkAt f_checkValue q_waits f_wait f_waitValue q_deep q_isOver q_piled f_pileKind f_pileStatement f_pileBlock f_pileLast q_planned f_planStatement f_planPart f_planTime f_planKind f_hasRun q_slot f_told f_tape f_failedKind f_cause f_underFirst f_underNext f_failedAt f_underWay f_traces f_closings f_enteredOf q_left q_ended q_signal q_signalValue q_frames f_frameKind f_frameStatement f_frameNow f_pending f_pendingValue f_firstResource f_openedOf f_caught q_acts f_actVar f_actRow f_actMethod f_actStatement q_rows f_rowSize f_rowItem f_passed q_planning q_aloneStatement q_alonePart q_aloneTime q_quiet f_quietStatement f_quietPart f_quietTime f_stack q_stacked q_wrong f_wayOut q_wayOuts]) (As := [.int n2, .int 0, .int ((nI c4) - 1)]) (rest := []) hx hb hml hown hts hK hA hP hD hS (r_in l D g H.size n2 0 ((nI c4) - 1)) ks_X10_239 ⟨Nat.le_of_ble_eq_true rfl, Nat.le_of_ble_eq_true rfl⟩ [] [0] rfl (by decide) rfl (fun _ => rfl) (fun _ => rfl) hl.1 (Nat.le_of_ble_eq_true rfl) dX10_trace_25 ⟨Nat.le_refl _, Nat.le_refl _⟩ rfl (fun v4 _ H locs hz5 _ hP hD hS => ?_)
    rcases hz5 with ⟨rfl, hb6⟩ | ⟨rfl, hb6⟩
    · have ei7 : (0 : Int32).toInt = 0 := rfl
      refine lv_if_eq (tgt := 73) hx hb dX10_trace_28 (by decide) (fun h9 => absurd h9 (by decide)) (fun _ => ?_)
      refine lv_iload_n hx hb dX10_trace_31 rfl (lv_at hl 3 rfl) ?_
      refine lv_iconst (v := 0) hx hb dX10_trace_32 (by decide) ?_
      refine lv_aload_n hx hb dX10_trace_33 rfl (lv_at hl 0 rfl) ?_
      refine va_get (D := D) (ci := 10) (v := .ref (a 36)) (C := RX10) (T := TX10) (N := 96) hx hb hts inlX10 hown hK hP 0 rfl rfl 57 (by decide) (hts _ q230) (fun _ h => h) rfl dX10_trace_34 ?_
      refine lv_sipush (v := 420) hx hb dX10_trace_37 (by decide) ?_
      refine lv_iload_n hx hb dX10_trace_40 rfl (lv_at hl 1 rfl) ?_
      refine lv_topi (nm_r (e' := (nI (n1.toInt.toNat))) (nI_of9 (by omega)) ?_)
      refine lv_imul hx hb dX10_trace_41 ?_
      refine lv_topi (nm_r (e' := (nI (420 * (n1.toInt.toNat)))) (vz_mul 420 (n1.toInt.toNat)) ?_)
      refine lv_iload_n hx hb dX10_trace_42 rfl (lv_at hl 2 rfl) ?_
      refine lv_topi (nm_r (e' := (nI (n2.toInt.toNat))) (nI_of9 (by omega)) ?_)
      refine lv_iadd hx hb dX10_trace_43 ?_
      refine lv_topi (nm_r (e' := (nI ((420 * (n1.toInt.toNat)) + (n2.toInt.toNat)))) (nI_add (420 * (n1.toInt.toNat)) (n2.toInt.toNat)) ?_)
      refine va_iald hx hb hK hP 37 0 rfl rfl (vr_in (by first | omega | (clear hP hD hS hl hQ; grind)) (by decide)) dX10_trace_44 ?_
      refine lv_topi (nm_r (e' := (f_underWay ((420 * (n1.toInt.toNat)) + (n2.toInt.toNat)))) (vr_ld (by first | omega | (clear hP hD hS hl hQ; grind))) ?_)
      obtain ⟨u8, hu8, hu9⟩ := huw (420 * n1.toInt.toNat + n2.toInt.toNat) (by omega)
      refine lv_topi (nm_r (e' := (nI u8)) hu9 ?_)
      refine lv_iconst (v := 1) hx hb dX10_trace_45 (by decide) ?_
      refine lv_isub hx hb dX10_trace_46 ?_
      have hzu := zmn (n := u8) (by omega)
      refine vz_Si4 (n9 := 1) (bs2 := fun u : Unit => [rmW g h a f_words f_text q_size q_at q_token q_tokenAt q_which q_value q_live q_draft q_hasProgram f_stat f_statements f_entryKind f_entryValue f_firstOf f_catchOf f_catchKind f_catchBlock f_catches f_body f_methods f_above f_kinds q_entries q_blocks q_fault q_faultAt q_faultTold q_checks f_checkHow f_checkAt f_checkValue q_waits f_wait f_waitValue q_deep q_isOver q_piled f_pileKind f_pileStatement f_pileBlock f_pileLast q_planned f_planStatement f_planPart f_planTime f_planKind f_hasRun q_slot f_told f_tape f_failedKind f_cause f_underFirst f_underNext f_failedAt f_underWay f_traces f_closings f_enteredOf q_left q_ended q_signal q_signalValue q_frames f_frameKind f_frameStatement f_frameNow f_pending f_pendingValue f_firstResource f_openedOf f_caught q_acts f_actVar f_actRow f_actMethod f_actStatement q_rows f_rowSize f_rowItem f_passed q_planning q_aloneStatement q_alonePart q_aloneTime q_quiet f_quietStatement f_quietPart f_quietTime f_stack q_stacked q_wrong f_wayOut q_wayOuts]) (br := [rmW g h a f_words f_text q_size q_at q_token q_tokenAt q_which q_value q_live q_draft q_hasProgram f_stat f_statements f_entryKind f_entryValue f_firstOf f_catchOf f_catchKind f_catchBlock f_catches f_body f_methods f_above f_kinds q_entries q_blocks q_fault q_faultAt q_faultTold q_checks f_checkHow f_checkAt f_checkValue q_waits f_wait f_waitValue q_deep q_isOver q_piled f_pileKind f_pileStatement f_pileBlock f_pileLast q_planned f_planStatement f_planPart f_planTime f_planKind f_hasRun q_slot f_told f_tape f_failedKind f_cause f_underFirst f_underNext f_failedAt f_underWay f_traces f_closings f_enteredOf q_left q_ended q_signal q_signalValue q_frames f_frameKind f_frameStatement f_frameNow f_pending f_pendingValue f_firstResource f_openedOf f_caught q_acts f_actVar f_actRow f_actMethod f_actStatement q_rows f_rowSize f_rowItem f_passed q_planning q_aloneStatement q_alonePart q_aloneTime q_quiet f_quietStatement f_quietPart f_quietTime f_stack q_stacked q_wrong f_wayOut q_wayOuts]) (As := [.int n3, .int 0, .int ((nI u8) - 1)]) (rest := []) hx hb hml hown hts hK hA hP hD hS (r_in l D g H.size n3 0 ((nI u8) - 1)) ks_X10_239 ⟨Nat.le_of_ble_eq_true rfl, Nat.le_of_ble_eq_true rfl⟩ [] [0] rfl (by decide) rfl (fun _ => rfl) (fun _ => rfl) hl.1 (Nat.le_of_ble_eq_true rfl) dX10_trace_47 ⟨Nat.le_refl _, Nat.le_refl _⟩ rfl (fun v8 _ H locs hz9 _ hP hD hS => ?_)
      rcases hz9 with ⟨rfl, hb10⟩ | ⟨rfl, hb10⟩
      · have ei11 : (0 : Int32).toInt = 0 := rfl
        refine lv_if_eq (tgt := 73) hx hb dX10_trace_50 (by decide) (fun h9 => absurd h9 (by decide)) (fun _ => ?_)
        refine lv_aload_n hx hb dX10_trace_53 rfl (lv_at hl 0 rfl) ?_
        refine va_get (D := D) (ci := 10) (v := .ref (a 37)) (C := RX10) (T := TX10) (N := 96) hx hb hts inlX10 hown hK hP 0 rfl rfl 58 (by decide) (hts _ q231) (fun _ h => h) rfl dX10_trace_54 ?_
        refine lv_sipush (v := 5040) hx hb dX10_trace_57 (by decide) ?_
        refine lv_iload_n hx hb dX10_trace_60 rfl (lv_at hl 1 rfl) ?_
        refine lv_topi (nm_r (e' := (nI (n1.toInt.toNat))) (nI_of9 (by omega)) ?_)
        refine lv_imul hx hb dX10_trace_61 ?_
        refine lv_topi (nm_r (e' := (nI (5040 * (n1.toInt.toNat)))) (vz_mul 5040 (n1.toInt.toNat)) ?_)
        refine lv_bipush (v := 12) hx hb dX10_trace_62 (by decide) ?_
        refine lv_iload_n hx hb dX10_trace_64 rfl (lv_at hl 2 rfl) ?_
        refine lv_topi (nm_r (e' := (nI (n2.toInt.toNat))) (nI_of9 (by omega)) ?_)
        refine lv_imul hx hb dX10_trace_65 ?_
        refine lv_topi (nm_r (e' := (nI (12 * (n2.toInt.toNat)))) (vz_mul 12 (n2.toInt.toNat)) ?_)
        refine lv_iadd hx hb dX10_trace_66 ?_
        refine lv_topi (nm_r (e' := (nI ((5040 * (n1.toInt.toNat)) + (12 * (n2.toInt.toNat))))) (nI_add (5040 * (n1.toInt.toNat)) (12 * (n2.toInt.toNat))) ?_)
        refine lv_iload_n hx hb dX10_trace_67 rfl (lv_at hl 3 rfl) ?_
        refine lv_topi (nm_r (e' := (nI (n3.toInt.toNat))) (nI_of9 (by omega)) ?_)
        refine lv_iadd hx hb dX10_trace_68 ?_
        refine lv_topi (nm_r (e' := (nI (((5040 * (n1.toInt.toNat)) + (12 * (n2.toInt.toNat))) + (n3.toInt.toNat)))) (nI_add ((5040 * (n1.toInt.toNat)) + (12 * (n2.toInt.toNat))) (n3.toInt.toNat)) ?_)
        refine va_iald hx hb hK hP 38 0 rfl rfl (vr_in (by first | omega | (clear hP hD hS hl hQ; grind)) (by decide)) dX10_trace_69 ?_
        refine lv_topi (nm_r (e' := (f_traces (((5040 * (n1.toInt.toNat)) + (12 * (n2.toInt.toNat))) + (n3.toInt.toNat)))) (vr_ld (by first | omega | (clear hP hD hS hl hQ; grind))) ?_)
        refine lv_goto (tgt := 75) hx hb dX10_trace_70 (by decide) ?_
        rw [hQ]
        exact vz_iret3 hx hb hr hlk hK hP hD hS () trivial rfl (Nat.le_refl 0) (Nat.le_refl 0) dX10_trace_75
      · have ei12 : (0 : Int32).toInt = 0 := rfl
        refine lv_if_eq (tgt := 73) hx hb dX10_trace_50 (by decide) (fun _ => ?_) (fun h9 => absurd (by decide) h9)
        refine lv_bipush (v := (-9)) hx hb dX10_trace_73 (by decide) ?_
        rw [hQ]
        exact vz_iret3 hx hb hr hlk hK hP hD hS () trivial rfl (Nat.le_refl 0) (Nat.le_refl 0) dX10_trace_75
    · have ei13 : (0 : Int32).toInt = 0 := rfl
      refine lv_if_eq (tgt := 73) hx hb dX10_trace_28 (by decide) (fun _ => ?_) (fun h9 => absurd (by decide) h9)
      refine lv_bipush (v := (-9)) hx hb dX10_trace_73 (by decide) ?_
      rw [hQ]
      exact vz_iret3 hx hb hr hlk hK hP hD hS () trivial rfl (Nat.le_refl 0) (Nat.le_refl 0) dX10_trace_75
  · refine lv_if_ne (tgt := 10) hx hb dX10_trace_5 (by decide) (fun h9 => absurd (by decide) h9) (fun _ => ?_)
    refine lv_iconst (v := (-1)) hx hb dX10_trace_8 (by decide) ?_
    rw [hQ]
    exact vz_iret3 hx hb hr hlk hK hP hD hS () trivial rfl (Nat.le_refl 0) (Nat.le_refl 0) dX10_trace_9
