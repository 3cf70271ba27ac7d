theorem dX10_taken_0 : decode cX10_taken 0 = .ok (.aload_n 0, 1) := by decide +kernel
theorem dX10_taken_1 : decode cX10_taken 1 = .ok (.getfield 511, 3) := by decide +kernel
theorem dX10_taken_4 : decode cX10_taken 4 = .ok (.iconst 1, 1) := by decide +kernel
theorem dX10_taken_5 : decode cX10_taken 5 = .ok (.isub, 1) := by decide +kernel
theorem dX10_taken_6 : decode cX10_taken 6 = .ok (.istore_n 1, 1) := by decide +kernel
theorem dX10_taken_7 : decode cX10_taken 7 = .ok (.aload_n 0, 1) := by decide +kernel
theorem dX10_taken_8 : decode cX10_taken 8 = .ok (.getfield 175, 3) := by decide +kernel
theorem dX10_taken_11 : decode cX10_taken 11 = .ok (.iload_n 1, 1) := by decide +kernel
theorem dX10_taken_12 : decode cX10_taken 12 = .ok (.iaload, 1) := by decide +kernel
theorem dX10_taken_13 : decode cX10_taken 13 = .ok (.iconst 3, 1) := by decide +kernel
theorem dX10_taken_14 : decode cX10_taken 14 = .ok (.if_icmp .ne 13, 3) := by decide +kernel
theorem dX10_taken_17 : decode cX10_taken 17 = .ok (.aload_n 0, 1) := by decide +kernel
theorem dX10_taken_18 : decode cX10_taken 18 = .ok (.getfield 181, 3) := by decide +kernel
theorem dX10_taken_21 : decode cX10_taken 21 = .ok (.iload_n 1, 1) := by decide +kernel
theorem dX10_taken_22 : decode cX10_taken 22 = .ok (.iaload, 1) := by decide +kernel
theorem dX10_taken_23 : decode cX10_taken 23 = .ok (.iconst 2, 1) := by decide +kernel
theorem dX10_taken_24 : decode cX10_taken 24 = .ok (.if_icmp .eq 9, 3) := by decide +kernel
theorem dX10_taken_27 : decode cX10_taken 27 = .ok (.iinc 1 (-1), 3) := by decide +kernel
theorem dX10_taken_30 : decode cX10_taken 30 = .ok (.goto (-23), 3) := by decide +kernel
theorem dX10_taken_33 : decode cX10_taken 33 = .ok (.aload_n 0, 1) := by decide +kernel
theorem dX10_taken_34 : decode cX10_taken 34 = .ok (.getfield 196, 3) := by decide +kernel
theorem dX10_taken_37 : decode cX10_taken 37 = .ok (.iload_n 1, 1) := by decide +kernel
theorem dX10_taken_38 : decode cX10_taken 38 = .ok (.iaload, 1) := by decide +kernel
theorem dX10_taken_39 : decode cX10_taken 39 = .ok (.ireturn, 1) := by decide +kernel
set_option maxHeartbeats 8000000 in
set_option maxRecDepth 100000 in
theorem r_taken (l : Launch) (D : va_G) (g : Nat → ClassId)   (sz : Nat) (ns : Nat) (bl : Nat) (gS : vgG) (gB : vgG) (c4 : Nat) (h : Nat) (a : Nat → Nat) (f_words : Nat → Int64) (f_text : Nat → Int32) (q_size : Nat) (q_at : Nat) (q_token : Int32) (q_tokenAt : Nat) (q_which : Int32) (q_value : Nat) (q_live : Nat) (q_draft : Nat) (q_hasProgram : Int32) (f_stat : Nat → Int32) (f_statements : Nat → Int32) (f_entryKind : Nat → Int32) (f_entryValue : Nat → Int32) (f_firstOf : Nat → Int32) (f_catchOf : Nat → Int32) (f_catchKind : Nat → Int32) (f_catchBlock : Nat → Int32) (f_catches : Nat → Int32) (f_body : Nat → Int32) (f_methods : Nat → Int32) (f_above : Nat → Int32) (f_kinds : Nat → Int32) (q_entries : Nat) (q_blocks : Nat) (q_fault : Int32) (q_faultAt : Int32) (q_faultTold : Int32) (q_checks : Nat) (f_checkHow : Nat → Int32) (f_checkAt : Nat → Int32) (f_checkValue : Nat → Int32) (q_waits : Nat) (f_wait : Nat → Int32) (f_waitValue : Nat → Int32) (q_deep : Int32) (q_isOver : Int32) (q_piled : Nat) (f_pileKind : Nat → Int32) (f_pileStatement : Nat → Int32) (f_pileBlock : Nat → Int32) (f_pileLast : Nat → Int32) (q_planned : Nat) (f_planStatement : Nat → Int32) (f_planPart : Nat → Int32) (f_planTime : Nat → Int32) (f_planKind : Nat → Int32) (f_hasRun : Nat → Int32) (q_slot : Nat) (f_told : Nat → Int32) (f_tape : Nat → Int32) (f_failedKind : Nat → Int32) (f_cause : Nat → Int32) (f_underFirst : Nat → Int32) (f_underNext : Nat → Int32) (f_failedAt : Nat → Int32) (f_underWay : Nat → Int32) (f_traces : Nat → Int32) (f_closings : Nat → Int32) (f_enteredOf : Nat → Int32) (q_left : Nat) (q_ended : Int32) (q_signal : Int32) (q_signalValue : Int32) (q_frames : Nat) (f_frameKind : Nat → Int32) (f_frameStatement : Nat → Int32) (f_frameNow : Nat → Int32) (f_pending : Nat → Int32) (f_pendingValue : Nat → Int32) (f_firstResource : Nat → Int32) (f_openedOf : Nat → Int32) (f_caught : Nat → Int32) (q_acts : Nat) (f_actVar : Nat → Int32) (f_actRow : Nat → Int32) (f_actMethod : Nat → Int32) (f_actStatement : Nat → Int32) (q_rows : Nat) (f_rowSize : Nat → Int32) (f_rowItem : Nat → Int32) (f_passed : Nat → Int32) (q_planning : Int32) (q_aloneStatement : Int32) (q_alonePart : Int32) (q_aloneTime : Int32) (q_quiet : Nat) (f_quietStatement : Nat → Int32) (f_quietPart : Nat → Int32) (f_quietTime : Nat → Int32) (f_stack : Nat → Int32) (q_stacked : Nat) (q_wrong : Int32) (f_wayOut : Nat → Int32) (q_wayOuts : Nat) (hfs : FRS f_stat q_live ns bl gS gB f_frameKind f_frameStatement f_frameNow f_pending f_pendingValue f_openedOf f_caught c4 q_frames) (hex : ICd f_frameKind f_frameNow q_frames) (hfr : q_frames ≤ 400) : vz_Mi l D (tyG g) yX10_taken cX10_taken 2 0 0 0 0 .int [.ref h] sz (vz_w [rmW g h a f_words f_text q_size q_at q_token q_tokenAt q_which q_value q_live q_draft q_hasProgram f_stat f_statements f_entryKind f_entryValue f_firstOf f_catchOf f_catchKind f_catchBlock f_catches f_body f_methods f_above f_kinds q_entries q_blocks q_fault q_faultAt q_faultTold q_checks f_checkHow f_checkAt f_checkValue q_waits f_wait f_waitValue q_deep q_isOver q_piled f_pileKind f_pileStatement f_pileBlock f_pileLast q_planned f_planStatement f_planPart f_planTime f_planKind f_hasRun q_slot f_told f_tape f_failedKind f_cause f_underFirst f_underNext f_failedAt f_underWay f_traces f_closings f_enteredOf q_left q_ended q_signal q_signalValue q_frames f_frameKind f_frameStatement f_frameNow f_pending f_pendingValue f_firstResource f_openedOf f_caught q_acts f_actVar f_actRow f_actMethod f_actStatement q_rows f_rowSize f_rowItem f_passed q_planning q_aloneStatement q_alonePart q_aloneTime q_quiet f_quietStatement f_quietPart f_quietTime f_stack q_stacked q_wrong f_wayOut q_wayOuts]) (fun r (u : Unit) => (∃ na : Nat, r = nI na ∧ na < c4)) (fun u => vz_w [rmW g h a f_words f_text q_size q_at q_token q_tokenAt q_which q_value q_live q_draft q_hasProgram f_stat f_statements f_entryKind f_entryValue f_firstOf f_catchOf f_catchKind f_catchBlock f_catches f_body f_methods f_above f_kinds q_entries q_blocks q_fault q_faultAt q_faultTold q_checks f_checkHow f_checkAt f_checkValue q_waits f_wait f_waitValue q_deep q_isOver q_piled f_pileKind f_pileStatement f_pileBlock f_pileLast q_planned f_planStatement f_planPart f_planTime f_planKind f_hasRun q_slot f_told f_tape f_failedKind f_cause f_underFirst f_underNext f_failedAt f_underWay f_traces f_closings f_enteredOf q_left q_ended q_signal q_signalValue q_frames f_frameKind f_frameStatement f_frameNow f_pending f_pendingValue f_firstResource f_openedOf f_caught q_acts f_actVar f_actRow f_actMethod f_actStatement q_rows f_rowSize f_rowItem f_passed q_planning q_aloneStatement q_alonePart q_aloneTime q_quiet f_quietStatement f_quietPart f_quietTime f_stack q_stacked q_wrong f_wayOut q_wayOuts]) := by
  refine vz_siQ (by decide) (Nat.le_of_ble_eq_true rfl) (fun p e s m args below meth c hx hb hr hml hts hown hlk hin hK hsz A hA H locs hP hD hS ls hl Q hQ => ?_)
  have hl : lv_has ls 2 [(0, .ref h)] := hl
  obtain ⟨jx, hx1, hx2, hx3⟩ := hex
  have J7 : ∀ fu7 : Nat, ∀ (xn1_7 : Nat), xn1_7 < fu7 → (jx ≤ xn1_7) → (xn1_7 < q_frames) → ∀ (H : Heap) (locs : List Loc) (ls : Array Slot), va_P D vwCl (vz_w [rmW g h a f_words f_text q_size q_at q_token q_tokenAt q_which q_value q_live q_draft q_hasProgram f_stat f_statements f_entryKind f_entryValue f_firstOf f_catchOf f_catchKind f_catchBlock f_catches f_body f_methods f_above f_kinds q_entries q_blocks q_fault q_faultAt q_faultTold q_checks f_checkHow f_checkAt f_checkValue q_waits f_wait f_waitValue q_deep q_isOver q_piled f_pileKind f_pileStatement f_pileBlock f_pileLast q_planned f_planStatement f_planPart f_planTime f_planKind f_hasRun q_slot f_told f_tape f_failedKind f_cause f_underFirst f_underNext f_failedAt f_underWay f_traces f_closings f_enteredOf q_left q_ended q_signal q_signalValue q_frames f_frameKind f_frameStatement f_frameNow f_pending f_pendingValue f_firstResource f_openedOf f_caught q_acts f_actVar f_actRow f_actMethod f_actStatement q_rows f_rowSize f_rowItem f_passed q_planning q_aloneStatement q_alonePart q_aloneTime q_quiet f_quietStatement f_quietPart f_quietTime f_stack q_stacked q_wrong f_wayOut q_wayOuts]) H → va_D A (vz_w [rmW g h a f_words f_text q_size q_at q_token q_tokenAt q_which q_value q_live q_draft q_hasProgram f_stat f_statements f_entryKind f_entryValue f_firstOf f_catchOf f_catchKind f_catchBlock f_catches f_body f_methods f_above f_kinds q_entries q_blocks q_fault q_faultAt q_faultTold q_checks f_checkHow f_checkAt f_checkValue q_waits f_wait f_waitValue q_deep q_isOver q_piled f_pileKind f_pileStatement f_pileBlock f_pileLast q_planned f_planStatement f_planPart f_planTime f_planKind f_hasRun q_slot f_told f_tape f_failedKind f_cause f_underFirst f_underNext f_failedAt f_underWay f_traces f_closings f_enteredOf q_left q_ended q_signal q_signalValue q_frames f_frameKind f_frameStatement f_frameNow f_pending f_pendingValue f_firstResource f_openedOf f_caught q_acts f_actVar f_actRow f_actMethod f_actStatement q_rows f_rowSize f_rowItem f_passed q_planning q_aloneStatement q_alonePart q_aloneTime q_quiet f_quietStatement f_quietPart f_quietTime f_stack q_stacked q_wrong f_wayOut q_wayOuts]) → va_S A s.heap H locs → lv_has ls 2 [(0, .ref h), (1, .int (nI xn1_7))] → W p l e { frames := 0, cells := 0, slots := 0, locals := 0 } s m args below meth c H locs 0 0 Q (F0 m 7 ls []) := by
    intro fu7
    induction fu7 with
    | zero => intro xn1_7 hf7 hj7_0 hj7_1 H locs ls hP hD hS hl; exact absurd hf7 (Nat.not_lt_zero _)
    | succ fu7 ih7 =>
      intro xn1_7 hf7 hj7_0 hj7_1 H locs ls hP hD hS hl
      refine lv_aload_n hx hb dX10_taken_7 rfl (lv_at hl 0 rfl) ?_
      refine va_get (D := D) (ci := 10) (v := .ref (a 40)) (C := RX10) (T := TX10) (N := 96) hx hb hts inlX10 hown hK hP 0 rfl rfl 66 (by decide) (hts _ q234) (fun _ h => h) rfl dX10_taken_8 ?_
      refine lv_iload_n hx hb dX10_taken_11 rfl (lv_at hl 1 rfl) ?_
      refine va_iald hx hb hK hP 41 0 rfl rfl (vr_in (by first | omega | (clear hP hD hS hl hQ; grind)) (by decide)) dX10_taken_12 ?_
      refine lv_topi (nm_r (e' := (f_frameKind xn1_7)) (vr_ld (by first | omega | (clear hP hD hS hl hQ; grind))) ?_)
      refine lv_iconst (v := 3) hx hb dX10_taken_13 (by decide) ?_
      refine lv_icmp_ne (tgt := 27) hx hb dX10_taken_14 (by decide) (fun kc1 => ?_) (fun kc1 => ?_)
      · have kn2 : ¬ (f_frameKind xn1_7).toInt = 3 := fun q => kc1 (Int32.toInt_inj.mp q)
        have hlt9 : jx < xn1_7 := Nat.lt_of_le_of_ne hj7_0 (fun q => kc1 (by rw [← q]; exact hx2))
        refine lv_iinc (v := (nI (xn1_7 - 1))) (lv' := [(1, .int (nI (xn1_7 - 1))), (0, .ref h)]) hx hb dX10_taken_27 hl (k := 1) rfl (vr_m1 (by first | omega | (clear hP hD hS hl hQ; grind))) (by decide) rfl (fun ls hl => ?_)
        refine lv_goto (tgt := 7) hx hb dX10_taken_30 (by decide) ?_
        exact ih7 (xn1_7 - 1) (by first | omega | (clear hP hD hS hl hQ; grind)) (by first | assumption | omega | (clear hP hD hS hl hQ; grind)) (by first | assumption | omega | (clear hP hD hS hl hQ; grind)) H locs ls hP hD hS (lv_sub hl [1, 0] rfl)
      · have kn3 : (f_frameKind xn1_7).toInt = 3 := congrArg Int32.toInt kc1
        refine lv_aload_n hx hb dX10_taken_17 rfl (lv_at hl 0 rfl) ?_
        refine va_get (D := D) (ci := 10) (v := .ref (a 42)) (C := RX10) (T := TX10) (N := 96) hx hb hts inlX10 hown hK hP 0 rfl rfl 68 (by decide) (hts _ q236) (fun _ h => h) rfl dX10_taken_18 ?_
        refine lv_iload_n hx hb dX10_taken_21 rfl (lv_at hl 1 rfl) ?_
        refine va_iald hx hb hK hP 43 0 rfl rfl (vr_in (by first | omega | (clear hP hD hS hl hQ; grind)) (by decide)) dX10_taken_22 ?_
        refine lv_topi (nm_r (e' := (f_frameNow xn1_7)) (vr_ld (by first | omega | (clear hP hD hS hl hQ; grind))) ?_)
        refine lv_iconst (v := 2) hx hb dX10_taken_23 (by decide) ?_
        refine lv_icmp_eq (tgt := 33) hx hb dX10_taken_24 (by decide) (fun kc4 => ?_) (fun kc4 => ?_)
        · have kn5 : (f_frameNow xn1_7).toInt = 2 := congrArg Int32.toInt kc4
          refine lv_aload_n hx hb dX10_taken_33 rfl (lv_at hl 0 rfl) ?_
          refine va_get (D := D) (ci := 10) (v := .ref (a 47)) (C := RX10) (T := TX10) (N := 96) hx hb hts inlX10 hown hK hP 0 rfl rfl 73 (by decide) (hts _ q241) (fun _ h => h) rfl dX10_taken_34 ?_
          refine lv_iload_n hx hb dX10_taken_37 rfl (lv_at hl 1 rfl) ?_
          refine va_iald hx hb hK hP 48 0 rfl rfl (vr_in (by first | omega | (clear hP hD hS hl hQ; grind)) (by decide)) dX10_taken_38 ?_
          refine lv_topi (nm_r (e' := (f_caught xn1_7)) (vr_ld (by first | omega | (clear hP hD hS hl hQ; grind))) ?_)
          rw [hQ]
          exact vz_iret3 hx hb hr hlk hK hP hD hS () ((FRM_ca (hfs xn1_7 (by omega)) kc1 kc4).imp (fun _ q => ⟨q.2, q.1⟩)) rfl (Nat.le_refl 0) (Nat.le_refl 0) dX10_taken_39
        · have kn6 : ¬ (f_frameNow xn1_7).toInt = 2 := fun q => kc4 (Int32.toInt_inj.mp q)
          have hlt9 : jx < xn1_7 := Nat.lt_of_le_of_ne hj7_0 (fun q => kc4 (by rw [← q]; exact hx3))
          refine lv_iinc (v := (nI (xn1_7 - 1))) (lv' := [(1, .int (nI (xn1_7 - 1))), (0, .ref h)]) hx hb dX10_taken_27 hl (k := 1) rfl (vr_m1 (by first | omega | (clear hP hD hS hl hQ; grind))) (by decide) rfl (fun ls hl => ?_)
          refine lv_goto (tgt := 7) hx hb dX10_taken_30 (by decide) ?_
          exact ih7 (xn1_7 - 1) (by first | omega | (clear hP hD hS hl hQ; grind)) (by first | assumption | omega | (clear hP hD hS hl hQ; grind)) (by first | assumption | omega | (clear hP hD hS hl hQ; grind)) H locs ls hP hD hS (lv_sub hl [1, 0] rfl)
  refine lv_aload_n hx hb dX10_taken_0 rfl (lv_at hl 0 rfl) ?_
  refine va_get (D := D) (ci := 10) (v := .int (nI q_frames)) (C := RX10) (T := TX10) (N := 96) hx hb hts inlX10 hown hK hP 0 rfl rfl 65 (by decide) (hts _ q1371) (fun _ h => h) rfl dX10_taken_1 ?_
  refine lv_iconst (v := 1) hx hb dX10_taken_4 (by decide) ?_
  refine lv_isub hx hb dX10_taken_5 ?_
  refine lv_topi (nm_r (e' := (nI (q_frames - 1))) (vr_sub (by first | omega | (clear hP hD hS hl hQ; grind))) ?_)
  refine lv_istore_n (lv' := [(1, .int (nI (q_frames - 1))), (0, .ref h)]) hx hb dX10_taken_6 rfl hl (by decide) rfl (fun ls hl => ?_)
  exact J7 ((q_frames - 1) + 1) (q_frames - 1) (Nat.lt_succ_self _) (by first | assumption | omega | (clear hP hD hS hl hQ; grind)) (by first | assumption | omega | (clear hP hD hS hl hQ; grind)) H locs ls hP hD hS (lv_sub hl [1, 0] rfl)
