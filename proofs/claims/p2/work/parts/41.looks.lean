theorem dX10_looks_0 : decode cX10_looks 0 = .ok (.iconst 0, 1) := by decide +kernel
theorem dX10_looks_1 : decode cX10_looks 1 = .ok (.istore_n 1, 1) := by decide +kernel
theorem dX10_looks_2 : decode cX10_looks 2 = .ok (.iload_n 1, 1) := by decide +kernel
theorem dX10_looks_3 : decode cX10_looks 3 = .ok (.aload_n 0, 1) := by decide +kernel
theorem dX10_looks_4 : decode cX10_looks 4 = .ok (.getfield 301, 3) := by decide +kernel
theorem dX10_looks_7 : decode cX10_looks 7 = .ok (.if_icmp .ge 103, 3) := by decide +kernel
theorem dX10_looks_10 : decode cX10_looks 10 = .ok (.aload_n 0, 1) := by decide +kernel
theorem dX10_looks_11 : decode cX10_looks 11 = .ok (.getfield 291, 3) := by decide +kernel
theorem dX10_looks_14 : decode cX10_looks 14 = .ok (.ifCond .ne 96, 3) := by decide +kernel
theorem dX10_looks_17 : decode cX10_looks 17 = .ok (.aload_n 0, 1) := by decide +kernel
theorem dX10_looks_18 : decode cX10_looks 18 = .ok (.getfield 99, 3) := by decide +kernel
theorem dX10_looks_21 : decode cX10_looks 21 = .ok (.iload_n 1, 1) := by decide +kernel
theorem dX10_looks_22 : decode cX10_looks 22 = .ok (.iaload, 1) := by decide +kernel
theorem dX10_looks_23 : decode cX10_looks 23 = .ok (.iconst 1, 1) := by decide +kernel
theorem dX10_looks_24 : decode cX10_looks 24 = .ok (.if_icmp .ne 21, 3) := by decide +kernel
theorem dX10_looks_27 : decode cX10_looks 27 = .ok (.aload_n 0, 1) := by decide +kernel
theorem dX10_looks_28 : decode cX10_looks 28 = .ok (.getfield 105, 3) := by decide +kernel
theorem dX10_looks_31 : decode cX10_looks 31 = .ok (.iload_n 1, 1) := by decide +kernel
theorem dX10_looks_32 : decode cX10_looks 32 = .ok (.iaload, 1) := by decide +kernel
theorem dX10_looks_33 : decode cX10_looks 33 = .ok (.aload_n 0, 1) := by decide +kernel
theorem dX10_looks_34 : decode cX10_looks 34 = .ok (.getfield 96, 3) := by decide +kernel
theorem dX10_looks_37 : decode cX10_looks 37 = .ok (.aload_n 0, 1) := by decide +kernel
theorem dX10_looks_38 : decode cX10_looks 38 = .ok (.getfield 288, 3) := by decide +kernel
theorem dX10_looks_41 : decode cX10_looks 41 = .ok (.iaload, 1) := by decide +kernel
theorem dX10_looks_42 : decode cX10_looks 42 = .ok (.if_icmp .ge 41, 3) := by decide +kernel
theorem dX10_looks_45 : decode cX10_looks 45 = .ok (.aload_n 0, 1) := by decide +kernel
theorem dX10_looks_46 : decode cX10_looks 46 = .ok (.getfield 99, 3) := by decide +kernel
theorem dX10_looks_49 : decode cX10_looks 49 = .ok (.iload_n 1, 1) := by decide +kernel
theorem dX10_looks_50 : decode cX10_looks 50 = .ok (.iaload, 1) := by decide +kernel
theorem dX10_looks_51 : decode cX10_looks 51 = .ok (.iconst 3, 1) := by decide +kernel
theorem dX10_looks_52 : decode cX10_looks 52 = .ok (.if_icmp .ne 21, 3) := by decide +kernel
theorem dX10_looks_55 : decode cX10_looks 55 = .ok (.aload_n 0, 1) := by decide +kernel
theorem dX10_looks_56 : decode cX10_looks 56 = .ok (.getfield 105, 3) := by decide +kernel
theorem dX10_looks_59 : decode cX10_looks 59 = .ok (.iload_n 1, 1) := by decide +kernel
theorem dX10_looks_60 : decode cX10_looks 60 = .ok (.iaload, 1) := by decide +kernel
theorem dX10_looks_61 : decode cX10_looks 61 = .ok (.aload_n 0, 1) := by decide +kernel
theorem dX10_looks_62 : decode cX10_looks 62 = .ok (.getfield 90, 3) := by decide +kernel
theorem dX10_looks_65 : decode cX10_looks 65 = .ok (.aload_n 0, 1) := by decide +kernel
theorem dX10_looks_66 : decode cX10_looks 66 = .ok (.getfield 288, 3) := by decide +kernel
theorem dX10_looks_69 : decode cX10_looks 69 = .ok (.iaload, 1) := by decide +kernel
theorem dX10_looks_70 : decode cX10_looks 70 = .ok (.if_icmp .ge 13, 3) := by decide +kernel
theorem dX10_looks_73 : decode cX10_looks 73 = .ok (.aload_n 0, 1) := by decide +kernel
theorem dX10_looks_74 : decode cX10_looks 74 = .ok (.getfield 99, 3) := by decide +kernel
theorem dX10_looks_77 : decode cX10_looks 77 = .ok (.iload_n 1, 1) := by decide +kernel
theorem dX10_looks_78 : decode cX10_looks 78 = .ok (.iaload, 1) := by decide +kernel
theorem dX10_looks_79 : decode cX10_looks 79 = .ok (.iconst 4, 1) := by decide +kernel
theorem dX10_looks_80 : decode cX10_looks 80 = .ok (.if_icmp .ne 7, 3) := by decide +kernel
theorem dX10_looks_83 : decode cX10_looks 83 = .ok (.iconst 1, 1) := by decide +kernel
theorem dX10_looks_84 : decode cX10_looks 84 = .ok (.goto 4, 3) := by decide +kernel
theorem dX10_looks_87 : decode cX10_looks 87 = .ok (.iconst 0, 1) := by decide +kernel
theorem dX10_looks_88 : decode cX10_looks 88 = .ok (.istore_n 2, 1) := by decide +kernel
theorem dX10_looks_89 : decode cX10_looks 89 = .ok (.iload_n 2, 1) := by decide +kernel
theorem dX10_looks_90 : decode cX10_looks 90 = .ok (.ifCond .eq 14, 3) := by decide +kernel
theorem dX10_looks_93 : decode cX10_looks 93 = .ok (.aload_n 0, 1) := by decide +kernel
theorem dX10_looks_94 : decode cX10_looks 94 = .ok (.iconst 3, 1) := by decide +kernel
theorem dX10_looks_95 : decode cX10_looks 95 = .ok (.aload_n 0, 1) := by decide +kernel
theorem dX10_looks_96 : decode cX10_looks 96 = .ok (.getfield 102, 3) := by decide +kernel
theorem dX10_looks_99 : decode cX10_looks 99 = .ok (.iload_n 1, 1) := by decide +kernel
theorem dX10_looks_100 : decode cX10_looks 100 = .ok (.iaload, 1) := by decide +kernel
theorem dX10_looks_101 : decode cX10_looks 101 = .ok (.invokevirtual 297, 3) := by decide +kernel
theorem dX10_looks_104 : decode cX10_looks 104 = .ok (.iinc 1 1, 3) := by decide +kernel
theorem dX10_looks_107 : decode cX10_looks 107 = .ok (.goto (-105), 3) := by decide +kernel
theorem dX10_looks_110 : decode cX10_looks 110 = .ok (.return_, 1) := by decide +kernel
set_option maxHeartbeats 8000000 in
set_option maxRecDepth 100000 in
theorem r_looks (l : Launch) (D : va_G) (g : Nat → ClassId)   (sz : Nat) (h : Nat) (a : Nat → Nat) (f_words : Nat → Int64) (f_text : Nat → Int32) (q_size : Nat) (q_at : Nat) (q_token : Int32) (q_tokenAt : Nat) (q_which : Int32) (q_value : Nat) (q_live : Nat) (q_draft : Nat) (q_hasProgram : Int32) (f_stat : Nat → Int32) (f_statements : Nat → Int32) (f_entryKind : Nat → Int32) (f_entryValue : Nat → Int32) (f_firstOf : Nat → Int32) (f_catchOf : Nat → Int32) (f_catchKind : Nat → Int32) (f_catchBlock : Nat → Int32) (f_catches : Nat → Int32) (f_body : Nat → Int32) (f_methods : Nat → Int32) (f_above : Nat → Int32) (f_kinds : Nat → Int32) (q_entries : Nat) (q_blocks : Nat) (q_fault : Int32) (q_faultAt : Int32) (q_faultTold : Int32) (q_checks : Nat) (f_checkHow : Nat → Int32) (f_checkAt : Nat → Int32) (f_checkValue : Nat → Int32) (q_waits : Nat) (f_wait : Nat → Int32) (f_waitValue : Nat → Int32) (q_deep : Int32) (q_isOver : Int32) (q_piled : Nat) (f_pileKind : Nat → Int32) (f_pileStatement : Nat → Int32) (f_pileBlock : Nat → Int32) (f_pileLast : Nat → Int32) (q_planned : Nat) (f_planStatement : Nat → Int32) (f_planPart : Nat → Int32) (f_planTime : Nat → Int32) (f_planKind : Nat → Int32) (f_hasRun : Nat → Int32) (q_slot : Nat) (f_told : Nat → Int32) (f_tape : Nat → Int32) (f_failedKind : Nat → Int32) (f_cause : Nat → Int32) (f_underFirst : Nat → Int32) (f_underNext : Nat → Int32) (f_failedAt : Nat → Int32) (f_underWay : Nat → Int32) (f_traces : Nat → Int32) (f_closings : Nat → Int32) (f_enteredOf : Nat → Int32) (q_left : Nat) (q_ended : Int32) (q_signal : Int32) (q_signalValue : Int32) (q_frames : Nat) (f_frameKind : Nat → Int32) (f_frameStatement : Nat → Int32) (f_frameNow : Nat → Int32) (f_pending : Nat → Int32) (f_pendingValue : Nat → Int32) (f_firstResource : Nat → Int32) (f_openedOf : Nat → Int32) (f_caught : Nat → Int32) (q_acts : Nat) (f_actVar : Nat → Int32) (f_actRow : Nat → Int32) (f_actMethod : Nat → Int32) (f_actStatement : Nat → Int32) (q_rows : Nat) (f_rowSize : Nat → Int32) (f_rowItem : Nat → Int32) (f_passed : Nat → Int32) (q_planning : Int32) (q_aloneStatement : Int32) (q_alonePart : Int32) (q_aloneTime : Int32) (q_quiet : Nat) (f_quietStatement : Nat → Int32) (f_quietPart : Nat → Int32) (f_quietTime : Nat → Int32) (f_stack : Nat → Int32) (q_stacked : Nat) (q_wrong : Int32) (f_wayOut : Nat → Int32) (q_wayOuts : Nat) (hdr : q_draft ≤ 1) (hta : q_tokenAt ≤ 1000) (hch : q_fault = 0 → 2 * q_checks ≤ q_tokenAt) : vz_Mv l D (tyG g) yX10_looks cX10_looks 3 1 22 0 0 [.ref h] sz (vz_w [rmW g h a f_words f_text q_size q_at q_token q_tokenAt q_which q_value q_live q_draft q_hasProgram f_stat f_statements f_entryKind f_entryValue f_firstOf f_catchOf f_catchKind f_catchBlock f_catches f_body f_methods f_above f_kinds q_entries q_blocks q_fault q_faultAt q_faultTold q_checks f_checkHow f_checkAt f_checkValue q_waits f_wait f_waitValue q_deep q_isOver q_piled f_pileKind f_pileStatement f_pileBlock f_pileLast q_planned f_planStatement f_planPart f_planTime f_planKind f_hasRun q_slot f_told f_tape f_failedKind f_cause f_underFirst f_underNext f_failedAt f_underWay f_traces f_closings f_enteredOf q_left q_ended q_signal q_signalValue q_frames f_frameKind f_frameStatement f_frameNow f_pending f_pendingValue f_firstResource f_openedOf f_caught q_acts f_actVar f_actRow f_actMethod f_actStatement q_rows f_rowSize f_rowItem f_passed q_planning q_aloneStatement q_alonePart q_aloneTime q_quiet f_quietStatement f_quietPart f_quietTime f_stack q_stacked q_wrong f_wayOut q_wayOuts]) (fun u : (Int32) × (Int32) => (u.1 = 0 → q_fault = 0 ∧ ∀ j9, j9 < q_checks → LK f_checkHow f_checkValue (f_kinds q_draft) (f_methods q_draft) j9)) (fun u => vz_w [rmW g h a f_words f_text q_size q_at q_token q_tokenAt q_which q_value q_live q_draft q_hasProgram f_stat f_statements f_entryKind f_entryValue f_firstOf f_catchOf f_catchKind f_catchBlock f_catches f_body f_methods f_above f_kinds q_entries q_blocks u.1 u.2 q_faultTold q_checks f_checkHow f_checkAt f_checkValue q_waits f_wait f_waitValue q_deep q_isOver q_piled f_pileKind f_pileStatement f_pileBlock f_pileLast q_planned f_planStatement f_planPart f_planTime f_planKind f_hasRun q_slot f_told f_tape f_failedKind f_cause f_underFirst f_underNext f_failedAt f_underWay f_traces f_closings f_enteredOf q_left q_ended q_signal q_signalValue q_frames f_frameKind f_frameStatement f_frameNow f_pending f_pendingValue f_firstResource f_openedOf f_caught q_acts f_actVar f_actRow f_actMethod f_actStatement q_rows f_rowSize f_rowItem f_passed q_planning q_aloneStatement q_alonePart q_aloneTime q_quiet f_quietStatement f_quietPart f_quietTime f_stack q_stacked q_wrong f_wayOut q_wayOuts]) := by
  refine vz_svQ (by decide) (Nat.le_of_ble_eq_true rfl) (fun p e s m args below meth c hx hb hr hml hts hown hlk hin hK hsz A hA H locs hP hD hS ls hl Q hQ => ?_)
  have hl : lv_has ls 3 [(0, .ref h)] := hl
  have J2 : ∀ fu2 : Nat, ∀ (xn1_2 : Nat), ∀ (mq_fault_2 : Int32), ∀ (mq_faultAt_2 : Int32), q_checks - xn1_2 < fu2 → (mq_fault_2 = 0 → q_fault = 0 ∧ xn1_2 ≤ q_checks ∧ ∀ j9, j9 < xn1_2 → LK f_checkHow f_checkValue (f_kinds q_draft) (f_methods q_draft) j9) → ∀ (H : Heap) (locs : List Loc) (ls : Array Slot), va_P D vwCl (vz_w [rmW g h a f_words f_text q_size q_at q_token q_tokenAt q_which q_value q_live q_draft q_hasProgram f_stat f_statements f_entryKind f_entryValue f_firstOf f_catchOf f_catchKind f_catchBlock f_catches f_body f_methods f_above f_kinds q_entries q_blocks mq_fault_2 mq_faultAt_2 q_faultTold q_checks f_checkHow f_checkAt f_checkValue q_waits f_wait f_waitValue q_deep q_isOver q_piled f_pileKind f_pileStatement f_pileBlock f_pileLast q_planned f_planStatement f_planPart f_planTime f_planKind f_hasRun q_slot f_told f_tape f_failedKind f_cause f_underFirst f_underNext f_failedAt f_underWay f_traces f_closings f_enteredOf q_left q_ended q_signal q_signalValue q_frames f_frameKind f_frameStatement f_frameNow f_pending f_pendingValue f_firstResource f_openedOf f_caught q_acts f_actVar f_actRow f_actMethod f_actStatement q_rows f_rowSize f_rowItem f_passed q_planning q_aloneStatement q_alonePart q_aloneTime q_quiet f_quietStatement f_quietPart f_quietTime f_stack q_stacked q_wrong f_wayOut q_wayOuts]) H → va_D A (vz_w [rmW g h a f_words f_text q_size q_at q_token q_tokenAt q_which q_value q_live q_draft q_hasProgram f_stat f_statements f_entryKind f_entryValue f_firstOf f_catchOf f_catchKind f_catchBlock f_catches f_body f_methods f_above f_kinds q_entries q_blocks mq_fault_2 mq_faultAt_2 q_faultTold q_checks f_checkHow f_checkAt f_checkValue q_waits f_wait f_waitValue q_deep q_isOver q_piled f_pileKind f_pileStatement f_pileBlock f_pileLast q_planned f_planStatement f_planPart f_planTime f_planKind f_hasRun q_slot f_told f_tape f_failedKind f_cause f_underFirst f_underNext f_failedAt f_underWay f_traces f_closings f_enteredOf q_left q_ended q_signal q_signalValue q_frames f_frameKind f_frameStatement f_frameNow f_pending f_pendingValue f_firstResource f_openedOf f_caught q_acts f_actVar f_actRow f_actMethod f_actStatement q_rows f_rowSize f_rowItem f_passed q_planning q_aloneStatement q_alonePart q_aloneTime q_quiet f_quietStatement f_quietPart f_quietTime f_stack q_stacked q_wrong f_wayOut q_wayOuts]) → va_S A s.heap H locs → lv_has ls 3 [(0, .ref h), (1, .int (nI xn1_2))] → W p l e { frames := 1, cells := 0, slots := 0, locals := 22 } s m args below meth c H locs 0 0 Q (F0 m 2 ls []) := by
    intro fu2
    induction fu2 with
    | zero => intro xn1_2 mq_fault_2 mq_faultAt_2 hf2 hj2_0 H locs ls hP hD hS hl; exact absurd hf2 (Nat.not_lt_zero _)
    | succ fu2 ih2 =>
      intro xn1_2 mq_fault_2 mq_faultAt_2 hf2 hj2_0 H locs ls hP hD hS hl
      refine lv_iload_n hx hb dX10_looks_2 rfl (lv_at hl 1 rfl) ?_
      refine lv_aload_n hx hb dX10_looks_3 rfl (lv_at hl 0 rfl) ?_
      refine va_get (D := D) (ci := 10) (v := .int (nI q_checks)) (C := RX10) (T := TX10) (N := 96) hx hb hts inlX10 hown hK hP 0 rfl rfl 29 (by decide) (hts _ q755) (fun _ h => h) rfl dX10_looks_4 ?_
      refine lv_icmp_ge (tgt := 110) hx hb dX10_looks_7 (by decide) (fun kc1 => ?_) (fun kc1 => ?_)
      · rw [hQ]
        exact vz_vret3 hx hb hr hlk hK hP hD hS (mq_fault_2, mq_faultAt_2) (by (try dsimp only) <;> (intro h9; have z5 := hch (hj2_0 h9).1; have z6 := (hj2_0 h9).2.1; have z7 := (vr_le (by omega) (by omega)).mp kc1; exact ⟨(hj2_0 h9).1, fun j9 h => (hj2_0 h9).2.2 j9 (Nat.lt_of_lt_of_le h z7)⟩)) rfl (Nat.le_refl 0) (Nat.le_refl 0) dX10_looks_110
      · refine lv_aload_n hx hb dX10_looks_10 rfl (lv_at hl 0 rfl) ?_
        refine va_get (D := D) (ci := 10) (v := .int mq_fault_2) (C := RX10) (T := TX10) (N := 96) hx hb hts inlX10 hown hK hP 0 rfl rfl 26 (by decide) (hts _ q745) (fun _ h => h) rfl dX10_looks_11 ?_
        refine lv_if_ne (tgt := 110) hx hb dX10_looks_14 (by decide) (fun kc2 => ?_) (fun kc2 => ?_)
        · have kn3 : ¬ mq_fault_2.toInt = 0 := fun q => kc2 (Int32.toInt_inj.mp q)
          rw [hQ]
          exact vz_vret3 hx hb hr hlk hK hP hD hS (mq_fault_2, mq_faultAt_2) (by (try dsimp only) <;> (intro h9; exact absurd h9 (by first | assumption | (clear hP hD hS hl hQ; grind)))) rfl (Nat.le_refl 0) (Nat.le_refl 0) dX10_looks_110
        · have kn4 : mq_fault_2.toInt = 0 := congrArg Int32.toInt kc2
          have hz5 := hch (hj2_0 kc2).1
          have hz6 := (hj2_0 kc2).2.1
          have hk4 : xn1_2 < q_checks := Nat.not_le.mp (fun z => kc1 ((vr_le (by omega) (by omega)).mpr z))
          have hk5 : xn1_2 < 500 := by omega
          refine lv_aload_n hx hb dX10_looks_17 rfl (lv_at hl 0 rfl) ?_
          refine va_get (D := D) (ci := 10) (v := .ref (a 15)) (C := RX10) (T := TX10) (N := 96) hx hb hts inlX10 hown hK hP 0 rfl rfl 30 (by decide) (hts _ q208) (fun _ h => h) rfl dX10_looks_18 ?_
          refine lv_iload_n hx hb dX10_looks_21 rfl (lv_at hl 1 rfl) ?_
          refine va_iald hx hb hK hP 16 0 rfl rfl (vr_in (by first | omega | (clear hP hD hS hl hQ; grind)) (by decide)) dX10_looks_22 ?_
          refine lv_topi (nm_r (e' := (f_checkHow xn1_2)) (vr_ld (by first | omega | (clear hP hD hS hl hQ; grind))) ?_)
          refine lv_iconst (v := 1) hx hb dX10_looks_23 (by decide) ?_
          refine lv_icmp_ne (tgt := 45) hx hb dX10_looks_24 (by decide) (fun kc5 => ?_) (fun kc5 => ?_)
          · have kn6 : ¬ (f_checkHow xn1_2).toInt = 1 := fun q => kc5 (Int32.toInt_inj.mp q)
            refine lv_aload_n hx hb dX10_looks_45 rfl (lv_at hl 0 rfl) ?_
            refine va_get (D := D) (ci := 10) (v := .ref (a 15)) (C := RX10) (T := TX10) (N := 96) hx hb hts inlX10 hown hK hP 0 rfl rfl 30 (by decide) (hts _ q208) (fun _ h => h) rfl dX10_looks_46 ?_
            refine lv_iload_n hx hb dX10_looks_49 rfl (lv_at hl 1 rfl) ?_
            refine va_iald hx hb hK hP 16 0 rfl rfl (vr_in (by first | omega | (clear hP hD hS hl hQ; grind)) (by decide)) dX10_looks_50 ?_
            refine lv_topi (nm_r (e' := (f_checkHow xn1_2)) (vr_ld (by first | omega | (clear hP hD hS hl hQ; grind))) ?_)
            refine lv_iconst (v := 3) hx hb dX10_looks_51 (by decide) ?_
            refine lv_icmp_ne (tgt := 73) hx hb dX10_looks_52 (by decide) (fun kc7 => ?_) (fun kc7 => ?_)
            · have kn8 : ¬ (f_checkHow xn1_2).toInt = 3 := fun q => kc7 (Int32.toInt_inj.mp q)
              refine lv_aload_n hx hb dX10_looks_73 rfl (lv_at hl 0 rfl) ?_
              refine va_get (D := D) (ci := 10) (v := .ref (a 15)) (C := RX10) (T := TX10) (N := 96) hx hb hts inlX10 hown hK hP 0 rfl rfl 30 (by decide) (hts _ q208) (fun _ h => h) rfl dX10_looks_74 ?_
              refine lv_iload_n hx hb dX10_looks_77 rfl (lv_at hl 1 rfl) ?_
              refine va_iald hx hb hK hP 16 0 rfl rfl (vr_in (by first | omega | (clear hP hD hS hl hQ; grind)) (by decide)) dX10_looks_78 ?_
              refine lv_topi (nm_r (e' := (f_checkHow xn1_2)) (vr_ld (by first | omega | (clear hP hD hS hl hQ; grind))) ?_)
              refine lv_iconst (v := 4) hx hb dX10_looks_79 (by decide) ?_
              refine lv_icmp_ne (tgt := 87) hx hb dX10_looks_80 (by decide) (fun kc9 => ?_) (fun kc9 => ?_)
              · have kn10 : ¬ (f_checkHow xn1_2).toInt = 4 := fun q => kc9 (Int32.toInt_inj.mp q)
                refine lv_iconst (v := 0) hx hb dX10_looks_87 (by decide) ?_
                refine lv_istore_n (lv' := [(2, .int 0), (0, .ref h), (1, .int (nI xn1_2))]) hx hb dX10_looks_88 rfl hl (by decide) rfl (fun ls hl => ?_)
                refine lv_iload_n hx hb dX10_looks_89 rfl (lv_at hl 0 rfl) ?_
                refine lv_if_eq (tgt := 104) hx hb dX10_looks_90 (by decide) (fun _ => ?_) (fun h9 => absurd (by decide) h9)
                refine lv_iinc (v := (nI (xn1_2 + 1))) (lv' := [(1, .int (nI (xn1_2 + 1))), (2, .int 0), (0, .ref h)]) hx hb dX10_looks_104 hl (k := 2) rfl (nI_add xn1_2 1) (by decide) rfl (fun ls hl => ?_)
                refine lv_goto (tgt := 2) hx hb dX10_looks_107 (by decide) ?_
                exact ih2 (xn1_2 + 1) mq_fault_2 mq_faultAt_2 (by first | omega | (clear hP hD hS hl hQ; grind)) (fun h9 => ⟨(hj2_0 h9).1, hk4, lk_step (hj2_0 h9).2.2 ⟨fun q => absurd q kc5, fun q => absurd q kc7, kc9⟩⟩) H locs ls hP hD hS (lv_sub hl [2, 0] rfl)
              · have kn11 : (f_checkHow xn1_2).toInt = 4 := congrArg Int32.toInt kc9
                refine lv_iconst (v := 1) hx hb dX10_looks_83 (by decide) ?_
                refine lv_goto (tgt := 88) hx hb dX10_looks_84 (by decide) ?_
                refine lv_istore_n (lv' := [(2, .int 1), (0, .ref h), (1, .int (nI xn1_2))]) hx hb dX10_looks_88 rfl hl (by decide) rfl (fun ls hl => ?_)
                refine lv_iload_n hx hb dX10_looks_89 rfl (lv_at hl 0 rfl) ?_
                refine lv_if_eq (tgt := 104) hx hb dX10_looks_90 (by decide) (fun h9 => absurd h9 (by decide)) (fun _ => ?_)
                refine lv_aload_n hx hb dX10_looks_93 rfl (lv_at hl 1 rfl) ?_
                refine lv_iconst (v := 3) hx hb dX10_looks_94 (by decide) ?_
                refine lv_aload_n hx hb dX10_looks_95 rfl (lv_at hl 1 rfl) ?_
                refine va_get (D := D) (ci := 10) (v := .ref (a 16)) (C := RX10) (T := TX10) (N := 96) hx hb hts inlX10 hown hK hP 0 rfl rfl 31 (by decide) (hts _ q209) (fun _ h => h) rfl dX10_looks_96 ?_
                refine lv_iload_n hx hb dX10_looks_99 rfl (lv_at hl 2 rfl) ?_
                refine va_iald hx hb hK hP 17 0 rfl rfl (vr_in (by first | omega | (clear hP hD hS hl hQ; grind)) (by decide)) dX10_looks_100 ?_
                refine lv_topi (nm_r (e' := (f_checkAt xn1_2)) (vr_ld (by first | omega | (clear hP hD hS hl hQ; grind))) ?_)
                refine vz_Vv3 (As := [.int 3, .int (f_checkAt xn1_2)]) (rest := []) hx hb hml hown hts hK hA hP hD hS (r_fails l D g H.size h a f_words f_text q_size q_at q_token q_tokenAt q_which q_value q_live q_draft q_hasProgram f_stat f_statements f_entryKind f_entryValue f_firstOf f_catchOf f_catchKind f_catchBlock f_catches f_body f_methods f_above f_kinds q_entries q_blocks mq_fault_2 mq_faultAt_2 q_faultTold q_checks f_checkHow f_checkAt f_checkValue q_waits f_wait f_waitValue q_deep q_isOver q_piled f_pileKind f_pileStatement f_pileBlock f_pileLast q_planned f_planStatement f_planPart f_planTime f_planKind f_hasRun q_slot f_told f_tape f_failedKind f_cause f_underFirst f_underNext f_failedAt f_underWay f_traces f_closings f_enteredOf q_left q_ended q_signal q_signalValue q_frames f_frameKind f_frameStatement f_frameNow f_pending f_pendingValue f_firstResource f_openedOf f_caught q_acts f_actVar f_actRow f_actMethod f_actStatement q_rows f_rowSize f_rowItem f_passed q_planning q_aloneStatement q_alonePart q_aloneTime q_quiet f_quietStatement f_quietPart f_quietTime f_stack q_stacked q_wrong f_wayOut q_wayOuts 3 (f_checkAt xn1_2) (by first | assumption | omega | (clear hP hD hS hl hQ; grind))) kv_X10_297 ⟨Nat.le_of_ble_eq_true rfl, Nat.le_of_ble_eq_true rfl⟩ (q0 := 0) (ci := 10) rfl rfl rfl  hl.1 (Nat.le_of_ble_eq_true rfl) dX10_looks_101 ⟨Nat.le_refl _, Nat.le_refl _⟩ rfl (fun ⟨mq_fault_12, mq_faultAt_13⟩ H locs hp14 _ hP hD hS => ?_)
                try dsimp only at hp14
                replace hP : va_P D vwCl (vz_w [rmW g h a f_words f_text q_size q_at q_token q_tokenAt q_which q_value q_live q_draft q_hasProgram f_stat f_statements f_entryKind f_entryValue f_firstOf f_catchOf f_catchKind f_catchBlock f_catches f_body f_methods f_above f_kinds q_entries q_blocks mq_fault_12 mq_faultAt_13 q_faultTold q_checks f_checkHow f_checkAt f_checkValue q_waits f_wait f_waitValue q_deep q_isOver q_piled f_pileKind f_pileStatement f_pileBlock f_pileLast q_planned f_planStatement f_planPart f_planTime f_planKind f_hasRun q_slot f_told f_tape f_failedKind f_cause f_underFirst f_underNext f_failedAt f_underWay f_traces f_closings f_enteredOf q_left q_ended q_signal q_signalValue q_frames f_frameKind f_frameStatement f_frameNow f_pending f_pendingValue f_firstResource f_openedOf f_caught q_acts f_actVar f_actRow f_actMethod f_actStatement q_rows f_rowSize f_rowItem f_passed q_planning q_aloneStatement q_alonePart q_aloneTime q_quiet f_quietStatement f_quietPart f_quietTime f_stack q_stacked q_wrong f_wayOut q_wayOuts]) H := hP
                replace hD : va_D A (vz_w [rmW g h a f_words f_text q_size q_at q_token q_tokenAt q_which q_value q_live q_draft q_hasProgram f_stat f_statements f_entryKind f_entryValue f_firstOf f_catchOf f_catchKind f_catchBlock f_catches f_body f_methods f_above f_kinds q_entries q_blocks mq_fault_12 mq_faultAt_13 q_faultTold q_checks f_checkHow f_checkAt f_checkValue q_waits f_wait f_waitValue q_deep q_isOver q_piled f_pileKind f_pileStatement f_pileBlock f_pileLast q_planned f_planStatement f_planPart f_planTime f_planKind f_hasRun q_slot f_told f_tape f_failedKind f_cause f_underFirst f_underNext f_failedAt f_underWay f_traces f_closings f_enteredOf q_left q_ended q_signal q_signalValue q_frames f_frameKind f_frameStatement f_frameNow f_pending f_pendingValue f_firstResource f_openedOf f_caught q_acts f_actVar f_actRow f_actMethod f_actStatement q_rows f_rowSize f_rowItem f_passed q_planning q_aloneStatement q_alonePart q_aloneTime q_quiet f_quietStatement f_quietPart f_quietTime f_stack q_stacked q_wrong f_wayOut q_wayOuts]) := hD
                refine lv_iinc (v := (nI (xn1_2 + 1))) (lv' := [(1, .int (nI (xn1_2 + 1))), (2, .int 1), (0, .ref h)]) hx hb dX10_looks_104 hl (k := 2) rfl (nI_add xn1_2 1) (by decide) rfl (fun ls hl => ?_)
                refine lv_goto (tgt := 2) hx hb dX10_looks_107 (by decide) ?_
                exact ih2 (xn1_2 + 1) mq_fault_12 mq_faultAt_13 (by first | omega | (clear hP hD hS hl hQ; grind)) (fun h9 => absurd h9 hp14) H locs ls hP hD hS (lv_sub hl [2, 0] rfl)
            · have kn15 : (f_checkHow xn1_2).toInt = 3 := congrArg Int32.toInt kc7
              refine lv_aload_n hx hb dX10_looks_55 rfl (lv_at hl 0 rfl) ?_
              refine va_get (D := D) (ci := 10) (v := .ref (a 17)) (C := RX10) (T := TX10) (N := 96) hx hb hts inlX10 hown hK hP 0 rfl rfl 32 (by decide) (hts _ q210) (fun _ h => h) rfl dX10_looks_56 ?_
              refine lv_iload_n hx hb dX10_looks_59 rfl (lv_at hl 1 rfl) ?_
              refine va_iald hx hb hK hP 18 0 rfl rfl (vr_in (by first | omega | (clear hP hD hS hl hQ; grind)) (by decide)) dX10_looks_60 ?_
              refine lv_topi (nm_r (e' := (f_checkValue xn1_2)) (vr_ld (by first | omega | (clear hP hD hS hl hQ; grind))) ?_)
              refine lv_aload_n hx hb dX10_looks_61 rfl (lv_at hl 0 rfl) ?_
              refine va_get (D := D) (ci := 10) (v := .ref (a 12)) (C := RX10) (T := TX10) (N := 96) hx hb hts inlX10 hown hK hP 0 rfl rfl 21 (by decide) (hts _ q205) (fun _ h => h) rfl dX10_looks_62 ?_
              refine lv_aload_n hx hb dX10_looks_65 rfl (lv_at hl 0 rfl) ?_
              refine va_get (D := D) (ci := 10) (v := .int (nI q_draft)) (C := RX10) (T := TX10) (N := 96) hx hb hts inlX10 hown hK hP 0 rfl rfl 9 (by decide) (hts _ q744) (fun _ h => h) rfl dX10_looks_66 ?_
              refine va_iald hx hb hK hP 13 0 rfl rfl (vr_in (by first | omega | (clear hP hD hS hl hQ; grind)) (by decide)) dX10_looks_69 ?_
              refine lv_topi (nm_r (e' := (f_methods q_draft)) (vr_ld (by first | omega | (clear hP hD hS hl hQ; grind))) ?_)
              refine lv_icmp_ge (tgt := 83) hx hb dX10_looks_70 (by decide) (fun kc16 => ?_) (fun kc16 => ?_)
              · have kn17 : (f_checkValue xn1_2).toInt ≥ (f_methods q_draft).toInt := Int32.le_iff_toInt_le.mp kc16
                refine lv_iconst (v := 1) hx hb dX10_looks_83 (by decide) ?_
                refine lv_goto (tgt := 88) hx hb dX10_looks_84 (by decide) ?_
                refine lv_istore_n (lv' := [(2, .int 1), (0, .ref h), (1, .int (nI xn1_2))]) hx hb dX10_looks_88 rfl hl (by decide) rfl (fun ls hl => ?_)
                refine lv_iload_n hx hb dX10_looks_89 rfl (lv_at hl 0 rfl) ?_
                refine lv_if_eq (tgt := 104) hx hb dX10_looks_90 (by decide) (fun h9 => absurd h9 (by decide)) (fun _ => ?_)
                refine lv_aload_n hx hb dX10_looks_93 rfl (lv_at hl 1 rfl) ?_
                refine lv_iconst (v := 3) hx hb dX10_looks_94 (by decide) ?_
                refine lv_aload_n hx hb dX10_looks_95 rfl (lv_at hl 1 rfl) ?_
                refine va_get (D := D) (ci := 10) (v := .ref (a 16)) (C := RX10) (T := TX10) (N := 96) hx hb hts inlX10 hown hK hP 0 rfl rfl 31 (by decide) (hts _ q209) (fun _ h => h) rfl dX10_looks_96 ?_
                refine lv_iload_n hx hb dX10_looks_99 rfl (lv_at hl 2 rfl) ?_
                refine va_iald hx hb hK hP 17 0 rfl rfl (vr_in (by first | omega | (clear hP hD hS hl hQ; grind)) (by decide)) dX10_looks_100 ?_
                refine lv_topi (nm_r (e' := (f_checkAt xn1_2)) (vr_ld (by first | omega | (clear hP hD hS hl hQ; grind))) ?_)
                refine vz_Vv3 (As := [.int 3, .int (f_checkAt xn1_2)]) (rest := []) hx hb hml hown hts hK hA hP hD hS (r_fails l D g H.size h a f_words f_text q_size q_at q_token q_tokenAt q_which q_value q_live q_draft q_hasProgram f_stat f_statements f_entryKind f_entryValue f_firstOf f_catchOf f_catchKind f_catchBlock f_catches f_body f_methods f_above f_kinds q_entries q_blocks mq_fault_2 mq_faultAt_2 q_faultTold q_checks f_checkHow f_checkAt f_checkValue q_waits f_wait f_waitValue q_deep q_isOver q_piled f_pileKind f_pileStatement f_pileBlock f_pileLast q_planned f_planStatement f_planPart f_planTime f_planKind f_hasRun q_slot f_told f_tape f_failedKind f_cause f_underFirst f_underNext f_failedAt f_underWay f_traces f_closings f_enteredOf q_left q_ended q_signal q_signalValue q_frames f_frameKind f_frameStatement f_frameNow f_pending f_pendingValue f_firstResource f_openedOf f_caught q_acts f_actVar f_actRow f_actMethod f_actStatement q_rows f_rowSize f_rowItem f_passed q_planning q_aloneStatement q_alonePart q_aloneTime q_quiet f_quietStatement f_quietPart f_quietTime f_stack q_stacked q_wrong f_wayOut q_wayOuts 3 (f_checkAt xn1_2) (by first | assumption | omega | (clear hP hD hS hl hQ; grind))) kv_X10_297 ⟨Nat.le_of_ble_eq_true rfl, Nat.le_of_ble_eq_true rfl⟩ (q0 := 0) (ci := 10) rfl rfl rfl  hl.1 (Nat.le_of_ble_eq_true rfl) dX10_looks_101 ⟨Nat.le_refl _, Nat.le_refl _⟩ rfl (fun ⟨mq_fault_18, mq_faultAt_19⟩ H locs hp20 _ hP hD hS => ?_)
                try dsimp only at hp20
                replace hP : va_P D vwCl (vz_w [rmW g h a f_words f_text q_size q_at q_token q_tokenAt q_which q_value q_live q_draft q_hasProgram f_stat f_statements f_entryKind f_entryValue f_firstOf f_catchOf f_catchKind f_catchBlock f_catches f_body f_methods f_above f_kinds q_entries q_blocks mq_fault_18 mq_faultAt_19 q_faultTold q_checks f_checkHow f_checkAt f_checkValue q_waits f_wait f_waitValue q_deep q_isOver q_piled f_pileKind f_pileStatement f_pileBlock f_pileLast q_planned f_planStatement f_planPart f_planTime f_planKind f_hasRun q_slot f_told f_tape f_failedKind f_cause f_underFirst f_underNext f_failedAt f_underWay f_traces f_closings f_enteredOf q_left q_ended q_signal q_signalValue q_frames f_frameKind f_frameStatement f_frameNow f_pending f_pendingValue f_firstResource f_openedOf f_caught q_acts f_actVar f_actRow f_actMethod f_actStatement q_rows f_rowSize f_rowItem f_passed q_planning q_aloneStatement q_alonePart q_aloneTime q_quiet f_quietStatement f_quietPart f_quietTime f_stack q_stacked q_wrong f_wayOut q_wayOuts]) H := hP
                replace hD : va_D A (vz_w [rmW g h a f_words f_text q_size q_at q_token q_tokenAt q_which q_value q_live q_draft q_hasProgram f_stat f_statements f_entryKind f_entryValue f_firstOf f_catchOf f_catchKind f_catchBlock f_catches f_body f_methods f_above f_kinds q_entries q_blocks mq_fault_18 mq_faultAt_19 q_faultTold q_checks f_checkHow f_checkAt f_checkValue q_waits f_wait f_waitValue q_deep q_isOver q_piled f_pileKind f_pileStatement f_pileBlock f_pileLast q_planned f_planStatement f_planPart f_planTime f_planKind f_hasRun q_slot f_told f_tape f_failedKind f_cause f_underFirst f_underNext f_failedAt f_underWay f_traces f_closings f_enteredOf q_left q_ended q_signal q_signalValue q_frames f_frameKind f_frameStatement f_frameNow f_pending f_pendingValue f_firstResource f_openedOf f_caught q_acts f_actVar f_actRow f_actMethod f_actStatement q_rows f_rowSize f_rowItem f_passed q_planning q_aloneStatement q_alonePart q_aloneTime q_quiet f_quietStatement f_quietPart f_quietTime f_stack q_stacked q_wrong f_wayOut q_wayOuts]) := hD
                refine lv_iinc (v := (nI (xn1_2 + 1))) (lv' := [(1, .int (nI (xn1_2 + 1))), (2, .int 1), (0, .ref h)]) hx hb dX10_looks_104 hl (k := 2) rfl (nI_add xn1_2 1) (by decide) rfl (fun ls hl => ?_)
                refine lv_goto (tgt := 2) hx hb dX10_looks_107 (by decide) ?_
                exact ih2 (xn1_2 + 1) mq_fault_18 mq_faultAt_19 (by first | omega | (clear hP hD hS hl hQ; grind)) (fun h9 => absurd h9 hp20) H locs ls hP hD hS (lv_sub hl [2, 0] rfl)
              · have kn21 : ¬ (f_checkValue xn1_2).toInt ≥ (f_methods q_draft).toInt := fun q => kc16 (Int32.le_iff_toInt_le.mpr q)
                refine lv_aload_n hx hb dX10_looks_73 rfl (lv_at hl 0 rfl) ?_
                refine va_get (D := D) (ci := 10) (v := .ref (a 15)) (C := RX10) (T := TX10) (N := 96) hx hb hts inlX10 hown hK hP 0 rfl rfl 30 (by decide) (hts _ q208) (fun _ h => h) rfl dX10_looks_74 ?_
                refine lv_iload_n hx hb dX10_looks_77 rfl (lv_at hl 1 rfl) ?_
                refine va_iald hx hb hK hP 16 0 rfl rfl (vr_in (by first | omega | (clear hP hD hS hl hQ; grind)) (by decide)) dX10_looks_78 ?_
                refine lv_topi (nm_r (e' := (f_checkHow xn1_2)) (vr_ld (by first | omega | (clear hP hD hS hl hQ; grind))) ?_)
                refine lv_iconst (v := 4) hx hb dX10_looks_79 (by decide) ?_
                refine lv_icmp_ne (tgt := 87) hx hb dX10_looks_80 (by decide) (fun kc22 => ?_) (fun kc22 => ?_)
                · have kn23 : ¬ (f_checkHow xn1_2).toInt = 4 := fun q => kc22 (Int32.toInt_inj.mp q)
                  refine lv_iconst (v := 0) hx hb dX10_looks_87 (by decide) ?_
                  refine lv_istore_n (lv' := [(2, .int 0), (0, .ref h), (1, .int (nI xn1_2))]) hx hb dX10_looks_88 rfl hl (by decide) rfl (fun ls hl => ?_)
                  refine lv_iload_n hx hb dX10_looks_89 rfl (lv_at hl 0 rfl) ?_
                  refine lv_if_eq (tgt := 104) hx hb dX10_looks_90 (by decide) (fun _ => ?_) (fun h9 => absurd (by decide) h9)
                  refine lv_iinc (v := (nI (xn1_2 + 1))) (lv' := [(1, .int (nI (xn1_2 + 1))), (2, .int 0), (0, .ref h)]) hx hb dX10_looks_104 hl (k := 2) rfl (nI_add xn1_2 1) (by decide) rfl (fun ls hl => ?_)
                  refine lv_goto (tgt := 2) hx hb dX10_looks_107 (by decide) ?_
                  exact ih2 (xn1_2 + 1) mq_fault_2 mq_faultAt_2 (by first | omega | (clear hP hD hS hl hQ; grind)) (fun h9 => ⟨(hj2_0 h9).1, hk4, lk_step (hj2_0 h9).2.2 ⟨fun q => absurd q kc5, fun _ => kc16, kc22⟩⟩) H locs ls hP hD hS (lv_sub hl [2, 0] rfl)
                · have kn24 : (f_checkHow xn1_2).toInt = 4 := congrArg Int32.toInt kc22
                  refine lv_iconst (v := 1) hx hb dX10_looks_83 (by decide) ?_
                  refine lv_goto (tgt := 88) hx hb dX10_looks_84 (by decide) ?_
                  refine lv_istore_n (lv' := [(2, .int 1), (0, .ref h), (1, .int (nI xn1_2))]) hx hb dX10_looks_88 rfl hl (by decide) rfl (fun ls hl => ?_)
                  refine lv_iload_n hx hb dX10_looks_89 rfl (lv_at hl 0 rfl) ?_
                  refine lv_if_eq (tgt := 104) hx hb dX10_looks_90 (by decide) (fun h9 => absurd h9 (by decide)) (fun _ => ?_)
                  refine lv_aload_n hx hb dX10_looks_93 rfl (lv_at hl 1 rfl) ?_
                  refine lv_iconst (v := 3) hx hb dX10_looks_94 (by decide) ?_
                  refine lv_aload_n hx hb dX10_looks_95 rfl (lv_at hl 1 rfl) ?_
                  refine va_get (D := D) (ci := 10) (v := .ref (a 16)) (C := RX10) (T := TX10) (N := 96) hx hb hts inlX10 hown hK hP 0 rfl rfl 31 (by decide) (hts _ q209) (fun _ h => h) rfl dX10_looks_96 ?_
                  refine lv_iload_n hx hb dX10_looks_99 rfl (lv_at hl 2 rfl) ?_
                  refine va_iald hx hb hK hP 17 0 rfl rfl (vr_in (by first | omega | (clear hP hD hS hl hQ; grind)) (by decide)) dX10_looks_100 ?_
                  refine lv_topi (nm_r (e' := (f_checkAt xn1_2)) (vr_ld (by first | omega | (clear hP hD hS hl hQ; grind))) ?_)
                  refine vz_Vv3 (As := [.int 3, .int (f_checkAt xn1_2)]) (rest := []) hx hb hml hown hts hK hA hP hD hS (r_fails l D g H.size h a f_words f_text q_size q_at q_token q_tokenAt q_which q_value q_live q_draft q_hasProgram f_stat f_statements f_entryKind f_entryValue f_firstOf f_catchOf f_catchKind f_catchBlock f_catches f_body f_methods f_above f_kinds q_entries q_blocks mq_fault_2 mq_faultAt_2 q_faultTold q_checks f_checkHow f_checkAt f_checkValue q_waits f_wait f_waitValue q_deep q_isOver q_piled f_pileKind f_pileStatement f_pileBlock f_pileLast q_planned f_planStatement f_planPart f_planTime f_planKind f_hasRun q_slot f_told f_tape f_failedKind f_cause f_underFirst f_underNext f_failedAt f_underWay f_traces f_closings f_enteredOf q_left q_ended q_signal q_signalValue q_frames f_frameKind f_frameStatement f_frameNow f_pending f_pendingValue f_firstResource f_openedOf f_caught q_acts f_actVar f_actRow f_actMethod f_actStatement q_rows f_rowSize f_rowItem f_passed q_planning q_aloneStatement q_alonePart q_aloneTime q_quiet f_quietStatement f_quietPart f_quietTime f_stack q_stacked q_wrong f_wayOut q_wayOuts 3 (f_checkAt xn1_2) (by first | assumption | omega | (clear hP hD hS hl hQ; grind))) kv_X10_297 ⟨Nat.le_of_ble_eq_true rfl, Nat.le_of_ble_eq_true rfl⟩ (q0 := 0) (ci := 10) rfl rfl rfl  hl.1 (Nat.le_of_ble_eq_true rfl) dX10_looks_101 ⟨Nat.le_refl _, Nat.le_refl _⟩ rfl (fun ⟨mq_fault_25, mq_faultAt_26⟩ H locs hp27 _ hP hD hS => ?_)
                  try dsimp only at hp27
                  replace hP : va_P D vwCl (vz_w [rmW g h a f_words f_text q_size q_at q_token q_tokenAt q_which q_value q_live q_draft q_hasProgram f_stat f_statements f_entryKind f_entryValue f_firstOf f_catchOf f_catchKind f_catchBlock f_catches f_body f_methods f_above f_kinds q_entries q_blocks mq_fault_25 mq_faultAt_26 q_faultTold q_checks f_checkHow f_checkAt f_checkValue q_waits f_wait f_waitValue q_deep q_isOver q_piled f_pileKind f_pileStatement f_pileBlock f_pileLast q_planned f_planStatement f_planPart f_planTime f_planKind f_hasRun q_slot f_told f_tape f_failedKind f_cause f_underFirst f_underNext f_failedAt f_underWay f_traces f_closings f_enteredOf q_left q_ended q_signal q_signalValue q_frames f_frameKind f_frameStatement f_frameNow f_pending f_pendingValue f_firstResource f_openedOf f_caught q_acts f_actVar f_actRow f_actMethod f_actStatement q_rows f_rowSize f_rowItem f_passed q_planning q_aloneStatement q_alonePart q_aloneTime q_quiet f_quietStatement f_quietPart f_quietTime f_stack q_stacked q_wrong f_wayOut q_wayOuts]) H := hP
                  replace hD : va_D A (vz_w [rmW g h a f_words f_text q_size q_at q_token q_tokenAt q_which q_value q_live q_draft q_hasProgram f_stat f_statements f_entryKind f_entryValue f_firstOf f_catchOf f_catchKind f_catchBlock f_catches f_body f_methods f_above f_kinds q_entries q_blocks mq_fault_25 mq_faultAt_26 q_faultTold q_checks f_checkHow f_checkAt f_checkValue q_waits f_wait f_waitValue q_deep q_isOver q_piled f_pileKind f_pileStatement f_pileBlock f_pileLast q_planned f_planStatement f_planPart f_planTime f_planKind f_hasRun q_slot f_told f_tape f_failedKind f_cause f_underFirst f_underNext f_failedAt f_underWay f_traces f_closings f_enteredOf q_left q_ended q_signal q_signalValue q_frames f_frameKind f_frameStatement f_frameNow f_pending f_pendingValue f_firstResource f_openedOf f_caught q_acts f_actVar f_actRow f_actMethod f_actStatement q_rows f_rowSize f_rowItem f_passed q_planning q_aloneStatement q_alonePart q_aloneTime q_quiet f_quietStatement f_quietPart f_quietTime f_stack q_stacked q_wrong f_wayOut q_wayOuts]) := hD
                  refine lv_iinc (v := (nI (xn1_2 + 1))) (lv' := [(1, .int (nI (xn1_2 + 1))), (2, .int 1), (0, .ref h)]) hx hb dX10_looks_104 hl (k := 2) rfl (nI_add xn1_2 1) (by decide) rfl (fun ls hl => ?_)
                  refine lv_goto (tgt := 2) hx hb dX10_looks_107 (by decide) ?_
                  exact ih2 (xn1_2 + 1) mq_fault_25 mq_faultAt_26 (by first | omega | (clear hP hD hS hl hQ; grind)) (fun h9 => absurd h9 hp27) H locs ls hP hD hS (lv_sub hl [2, 0] rfl)
          · have kn28 : (f_checkHow xn1_2).toInt = 1 := congrArg Int32.toInt kc5
            refine lv_aload_n hx hb dX10_looks_27 rfl (lv_at hl 0 rfl) ?_
            refine va_get (D := D) (ci := 10) (v := .ref (a 17)) (C := RX10) (T := TX10) (N := 96) hx hb hts inlX10 hown hK hP 0 rfl rfl 32 (by decide) (hts _ q210) (fun _ h => h) rfl dX10_looks_28 ?_
            refine lv_iload_n hx hb dX10_looks_31 rfl (lv_at hl 1 rfl) ?_
            refine va_iald hx hb hK hP 18 0 rfl rfl (vr_in (by first | omega | (clear hP hD hS hl hQ; grind)) (by decide)) dX10_looks_32 ?_
            refine lv_topi (nm_r (e' := (f_checkValue xn1_2)) (vr_ld (by first | omega | (clear hP hD hS hl hQ; grind))) ?_)
            refine lv_aload_n hx hb dX10_looks_33 rfl (lv_at hl 0 rfl) ?_
            refine va_get (D := D) (ci := 10) (v := .ref (a 14)) (C := RX10) (T := TX10) (N := 96) hx hb hts inlX10 hown hK hP 0 rfl rfl 23 (by decide) (hts _ q207) (fun _ h => h) rfl dX10_looks_34 ?_
            refine lv_aload_n hx hb dX10_looks_37 rfl (lv_at hl 0 rfl) ?_
            refine va_get (D := D) (ci := 10) (v := .int (nI q_draft)) (C := RX10) (T := TX10) (N := 96) hx hb hts inlX10 hown hK hP 0 rfl rfl 9 (by decide) (hts _ q744) (fun _ h => h) rfl dX10_looks_38 ?_
            refine va_iald hx hb hK hP 15 0 rfl rfl (vr_in (by first | omega | (clear hP hD hS hl hQ; grind)) (by decide)) dX10_looks_41 ?_
            refine lv_topi (nm_r (e' := (f_kinds q_draft)) (vr_ld (by first | omega | (clear hP hD hS hl hQ; grind))) ?_)
            refine lv_icmp_ge (tgt := 83) hx hb dX10_looks_42 (by decide) (fun kc29 => ?_) (fun kc29 => ?_)
            · have kn30 : (f_checkValue xn1_2).toInt ≥ (f_kinds q_draft).toInt := Int32.le_iff_toInt_le.mp kc29
              refine lv_iconst (v := 1) hx hb dX10_looks_83 (by decide) ?_
              refine lv_goto (tgt := 88) hx hb dX10_looks_84 (by decide) ?_
              refine lv_istore_n (lv' := [(2, .int 1), (0, .ref h), (1, .int (nI xn1_2))]) hx hb dX10_looks_88 rfl hl (by decide) rfl (fun ls hl => ?_)
              refine lv_iload_n hx hb dX10_looks_89 rfl (lv_at hl 0 rfl) ?_
              refine lv_if_eq (tgt := 104) hx hb dX10_looks_90 (by decide) (fun h9 => absurd h9 (by decide)) (fun _ => ?_)
              refine lv_aload_n hx hb dX10_looks_93 rfl (lv_at hl 1 rfl) ?_
              refine lv_iconst (v := 3) hx hb dX10_looks_94 (by decide) ?_
              refine lv_aload_n hx hb dX10_looks_95 rfl (lv_at hl 1 rfl) ?_
              refine va_get (D := D) (ci := 10) (v := .ref (a 16)) (C := RX10) (T := TX10) (N := 96) hx hb hts inlX10 hown hK hP 0 rfl rfl 31 (by decide) (hts _ q209) (fun _ h => h) rfl dX10_looks_96 ?_
              refine lv_iload_n hx hb dX10_looks_99 rfl (lv_at hl 2 rfl) ?_
              refine va_iald hx hb hK hP 17 0 rfl rfl (vr_in (by first | omega | (clear hP hD hS hl hQ; grind)) (by decide)) dX10_looks_100 ?_
              refine lv_topi (nm_r (e' := (f_checkAt xn1_2)) (vr_ld (by first | omega | (clear hP hD hS hl hQ; grind))) ?_)
              refine vz_Vv3 (As := [.int 3, .int (f_checkAt xn1_2)]) (rest := []) hx hb hml hown hts hK hA hP hD hS (r_fails l D g H.size h a f_words f_text q_size q_at q_token q_tokenAt q_which q_value q_live q_draft q_hasProgram f_stat f_statements f_entryKind f_entryValue f_firstOf f_catchOf f_catchKind f_catchBlock f_catches f_body f_methods f_above f_kinds q_entries q_blocks mq_fault_2 mq_faultAt_2 q_faultTold q_checks f_checkHow f_checkAt f_checkValue q_waits f_wait f_waitValue q_deep q_isOver q_piled f_pileKind f_pileStatement f_pileBlock f_pileLast q_planned f_planStatement f_planPart f_planTime f_planKind f_hasRun q_slot f_told f_tape f_failedKind f_cause f_underFirst f_underNext f_failedAt f_underWay f_traces f_closings f_enteredOf q_left q_ended q_signal q_signalValue q_frames f_frameKind f_frameStatement f_frameNow f_pending f_pendingValue f_firstResource f_openedOf f_caught q_acts f_actVar f_actRow f_actMethod f_actStatement q_rows f_rowSize f_rowItem f_passed q_planning q_aloneStatement q_alonePart q_aloneTime q_quiet f_quietStatement f_quietPart f_quietTime f_stack q_stacked q_wrong f_wayOut q_wayOuts 3 (f_checkAt xn1_2) (by first | assumption | omega | (clear hP hD hS hl hQ; grind))) kv_X10_297 ⟨Nat.le_of_ble_eq_true rfl, Nat.le_of_ble_eq_true rfl⟩ (q0 := 0) (ci := 10) rfl rfl rfl  hl.1 (Nat.le_of_ble_eq_true rfl) dX10_looks_101 ⟨Nat.le_refl _, Nat.le_refl _⟩ rfl (fun ⟨mq_fault_31, mq_faultAt_32⟩ H locs hp33 _ hP hD hS => ?_)
              try dsimp only at hp33
              replace hP : va_P D vwCl (vz_w [rmW g h a f_words f_text q_size q_at q_token q_tokenAt q_which q_value q_live q_draft q_hasProgram f_stat f_statements f_entryKind f_entryValue f_firstOf f_catchOf f_catchKind f_catchBlock f_catches f_body f_methods f_above f_kinds q_entries q_blocks mq_fault_31 mq_faultAt_32 q_faultTold q_checks f_checkHow f_checkAt f_checkValue q_waits f_wait f_waitValue q_deep q_isOver q_piled f_pileKind f_pileStatement f_pileBlock f_pileLast q_planned f_planStatement f_planPart f_planTime f_planKind f_hasRun q_slot f_told f_tape f_failedKind f_cause f_underFirst f_underNext f_failedAt f_underWay f_traces f_closings f_enteredOf q_left q_ended q_signal q_signalValue q_frames f_frameKind f_frameStatement f_frameNow f_pending f_pendingValue f_firstResource f_openedOf f_caught q_acts f_actVar f_actRow f_actMethod f_actStatement q_rows f_rowSize f_rowItem f_passed q_planning q_aloneStatement q_alonePart q_aloneTime q_quiet f_quietStatement f_quietPart f_quietTime f_stack q_stacked q_wrong f_wayOut q_wayOuts]) H := hP
              replace hD : va_D A (vz_w [rmW g h a f_words f_text q_size q_at q_token q_tokenAt q_which q_value q_live q_draft q_hasProgram f_stat f_statements f_entryKind f_entryValue f_firstOf f_catchOf f_catchKind f_catchBlock f_catches f_body f_methods f_above f_kinds q_entries q_blocks mq_fault_31 mq_faultAt_32 q_faultTold q_checks f_checkHow f_checkAt f_checkValue q_waits f_wait f_waitValue q_deep q_isOver q_piled f_pileKind f_pileStatement f_pileBlock f_pileLast q_planned f_planStatement f_planPart f_planTime f_planKind f_hasRun q_slot f_told f_tape f_failedKind f_cause f_underFirst f_underNext f_failedAt f_underWay f_traces f_closings f_enteredOf q_left q_ended q_signal q_signalValue q_frames f_frameKind f_frameStatement f_frameNow f_pending f_pendingValue f_firstResource f_openedOf f_caught q_acts f_actVar f_actRow f_actMethod f_actStatement q_rows f_rowSize f_rowItem f_passed q_planning q_aloneStatement q_alonePart q_aloneTime q_quiet f_quietStatement f_quietPart f_quietTime f_stack q_stacked q_wrong f_wayOut q_wayOuts]) := hD
              refine lv_iinc (v := (nI (xn1_2 + 1))) (lv' := [(1, .int (nI (xn1_2 + 1))), (2, .int 1), (0, .ref h)]) hx hb dX10_looks_104 hl (k := 2) rfl (nI_add xn1_2 1) (by decide) rfl (fun ls hl => ?_)
              refine lv_goto (tgt := 2) hx hb dX10_looks_107 (by decide) ?_
              exact ih2 (xn1_2 + 1) mq_fault_31 mq_faultAt_32 (by first | omega | (clear hP hD hS hl hQ; grind)) (fun h9 => absurd h9 hp33) H locs ls hP hD hS (lv_sub hl [2, 0] rfl)
            · have kn34 : ¬ (f_checkValue xn1_2).toInt ≥ (f_kinds q_draft).toInt := fun q => kc29 (Int32.le_iff_toInt_le.mpr q)
              refine lv_aload_n hx hb dX10_looks_45 rfl (lv_at hl 0 rfl) ?_
              refine va_get (D := D) (ci := 10) (v := .ref (a 15)) (C := RX10) (T := TX10) (N := 96) hx hb hts inlX10 hown hK hP 0 rfl rfl 30 (by decide) (hts _ q208) (fun _ h => h) rfl dX10_looks_46 ?_
              refine lv_iload_n hx hb dX10_looks_49 rfl (lv_at hl 1 rfl) ?_
              refine va_iald hx hb hK hP 16 0 rfl rfl (vr_in (by first | omega | (clear hP hD hS hl hQ; grind)) (by decide)) dX10_looks_50 ?_
              refine lv_topi (nm_r (e' := (f_checkHow xn1_2)) (vr_ld (by first | omega | (clear hP hD hS hl hQ; grind))) ?_)
              refine lv_iconst (v := 3) hx hb dX10_looks_51 (by decide) ?_
              refine lv_icmp_ne (tgt := 73) hx hb dX10_looks_52 (by decide) (fun kc35 => ?_) (fun kc35 => ?_)
              · have kn36 : ¬ (f_checkHow xn1_2).toInt = 3 := fun q => kc35 (Int32.toInt_inj.mp q)
                refine lv_aload_n hx hb dX10_looks_73 rfl (lv_at hl 0 rfl) ?_
                refine va_get (D := D) (ci := 10) (v := .ref (a 15)) (C := RX10) (T := TX10) (N := 96) hx hb hts inlX10 hown hK hP 0 rfl rfl 30 (by decide) (hts _ q208) (fun _ h => h) rfl dX10_looks_74 ?_
                refine lv_iload_n hx hb dX10_looks_77 rfl (lv_at hl 1 rfl) ?_
                refine va_iald hx hb hK hP 16 0 rfl rfl (vr_in (by first | omega | (clear hP hD hS hl hQ; grind)) (by decide)) dX10_looks_78 ?_
                refine lv_topi (nm_r (e' := (f_checkHow xn1_2)) (vr_ld (by first | omega | (clear hP hD hS hl hQ; grind))) ?_)
                refine lv_iconst (v := 4) hx hb dX10_looks_79 (by decide) ?_
                refine lv_icmp_ne (tgt := 87) hx hb dX10_looks_80 (by decide) (fun kc37 => ?_) (fun kc37 => ?_)
                · have kn38 : ¬ (f_checkHow xn1_2).toInt = 4 := fun q => kc37 (Int32.toInt_inj.mp q)
                  refine lv_iconst (v := 0) hx hb dX10_looks_87 (by decide) ?_
                  refine lv_istore_n (lv' := [(2, .int 0), (0, .ref h), (1, .int (nI xn1_2))]) hx hb dX10_looks_88 rfl hl (by decide) rfl (fun ls hl => ?_)
                  refine lv_iload_n hx hb dX10_looks_89 rfl (lv_at hl 0 rfl) ?_
                  refine lv_if_eq (tgt := 104) hx hb dX10_looks_90 (by decide) (fun _ => ?_) (fun h9 => absurd (by decide) h9)
                  refine lv_iinc (v := (nI (xn1_2 + 1))) (lv' := [(1, .int (nI (xn1_2 + 1))), (2, .int 0), (0, .ref h)]) hx hb dX10_looks_104 hl (k := 2) rfl (nI_add xn1_2 1) (by decide) rfl (fun ls hl => ?_)
                  refine lv_goto (tgt := 2) hx hb dX10_looks_107 (by decide) ?_
                  exact ih2 (xn1_2 + 1) mq_fault_2 mq_faultAt_2 (by first | omega | (clear hP hD hS hl hQ; grind)) (fun h9 => ⟨(hj2_0 h9).1, hk4, lk_step (hj2_0 h9).2.2 ⟨fun _ => kc29, fun q => absurd q kc35, kc37⟩⟩) H locs ls hP hD hS (lv_sub hl [2, 0] rfl)
                · have kn39 : (f_checkHow xn1_2).toInt = 4 := congrArg Int32.toInt kc37
                  refine lv_iconst (v := 1) hx hb dX10_looks_83 (by decide) ?_
                  refine lv_goto (tgt := 88) hx hb dX10_looks_84 (by decide) ?_
                  refine lv_istore_n (lv' := [(2, .int 1), (0, .ref h), (1, .int (nI xn1_2))]) hx hb dX10_looks_88 rfl hl (by decide) rfl (fun ls hl => ?_)
                  refine lv_iload_n hx hb dX10_looks_89 rfl (lv_at hl 0 rfl) ?_
                  refine lv_if_eq (tgt := 104) hx hb dX10_looks_90 (by decide) (fun h9 => absurd h9 (by decide)) (fun _ => ?_)
                  refine lv_aload_n hx hb dX10_looks_93 rfl (lv_at hl 1 rfl) ?_
                  refine lv_iconst (v := 3) hx hb dX10_looks_94 (by decide) ?_
                  refine lv_aload_n hx hb dX10_looks_95 rfl (lv_at hl 1 rfl) ?_
                  refine va_get (D := D) (ci := 10) (v := .ref (a 16)) (C := RX10) (T := TX10) (N := 96) hx hb hts inlX10 hown hK hP 0 rfl rfl 31 (by decide) (hts _ q209) (fun _ h => h) rfl dX10_looks_96 ?_
                  refine lv_iload_n hx hb dX10_looks_99 rfl (lv_at hl 2 rfl) ?_
                  refine va_iald hx hb hK hP 17 0 rfl rfl (vr_in (by first | omega | (clear hP hD hS hl hQ; grind)) (by decide)) dX10_looks_100 ?_
                  refine lv_topi (nm_r (e' := (f_checkAt xn1_2)) (vr_ld (by first | omega | (clear hP hD hS hl hQ; grind))) ?_)
                  refine vz_Vv3 (As := [.int 3, .int (f_checkAt xn1_2)]) (rest := []) hx hb hml hown hts hK hA hP hD hS (r_fails l D g H.size h a f_words f_text q_size q_at q_token q_tokenAt q_which q_value q_live q_draft q_hasProgram f_stat f_statements f_entryKind f_entryValue f_firstOf f_catchOf f_catchKind f_catchBlock f_catches f_body f_methods f_above f_kinds q_entries q_blocks mq_fault_2 mq_faultAt_2 q_faultTold q_checks f_checkHow f_checkAt f_checkValue q_waits f_wait f_waitValue q_deep q_isOver q_piled f_pileKind f_pileStatement f_pileBlock f_pileLast q_planned f_planStatement f_planPart f_planTime f_planKind f_hasRun q_slot f_told f_tape f_failedKind f_cause f_underFirst f_underNext f_failedAt f_underWay f_traces f_closings f_enteredOf q_left q_ended q_signal q_signalValue q_frames f_frameKind f_frameStatement f_frameNow f_pending f_pendingValue f_firstResource f_openedOf f_caught q_acts f_actVar f_actRow f_actMethod f_actStatement q_rows f_rowSize f_rowItem f_passed q_planning q_aloneStatement q_alonePart q_aloneTime q_quiet f_quietStatement f_quietPart f_quietTime f_stack q_stacked q_wrong f_wayOut q_wayOuts 3 (f_checkAt xn1_2) (by first | assumption | omega | (clear hP hD hS hl hQ; grind))) kv_X10_297 ⟨Nat.le_of_ble_eq_true rfl, Nat.le_of_ble_eq_true rfl⟩ (q0 := 0) (ci := 10) rfl rfl rfl  hl.1 (Nat.le_of_ble_eq_true rfl) dX10_looks_101 ⟨Nat.le_refl _, Nat.le_refl _⟩ rfl (fun ⟨mq_fault_40, mq_faultAt_41⟩ H locs hp42 _ hP hD hS => ?_)
                  try dsimp only at hp42
                  replace hP : va_P D vwCl (vz_w [rmW g h a f_words f_text q_size q_at q_token q_tokenAt q_which q_value q_live q_draft q_hasProgram f_stat f_statements f_entryKind f_entryValue f_firstOf f_catchOf f_catchKind f_catchBlock f_catches f_body f_methods f_above f_kinds q_entries q_blocks mq_fault_40 mq_faultAt_41 q_faultTold q_checks f_checkHow f_checkAt f_checkValue q_waits f_wait f_waitValue q_deep q_isOver q_piled f_pileKind f_pileStatement f_pileBlock f_pileLast q_planned f_planStatement f_planPart f_planTime f_planKind f_hasRun q_slot f_told f_tape f_failedKind f_cause f_underFirst f_underNext f_failedAt f_underWay f_traces f_closings f_enteredOf q_left q_ended q_signal q_signalValue q_frames f_frameKind f_frameStatement f_frameNow f_pending f_pendingValue f_firstResource f_openedOf f_caught q_acts f_actVar f_actRow f_actMethod f_actStatement q_rows f_rowSize f_rowItem f_passed q_planning q_aloneStatement q_alonePart q_aloneTime q_quiet f_quietStatement f_quietPart f_quietTime f_stack q_stacked q_wrong f_wayOut q_wayOuts]) H := hP
                  replace hD : va_D A (vz_w [rmW g h a f_words f_text q_size q_at q_token q_tokenAt q_which q_value q_live q_draft q_hasProgram f_stat f_statements f_entryKind f_entryValue f_firstOf f_catchOf f_catchKind f_catchBlock f_catches f_body f_methods f_above f_kinds q_entries q_blocks mq_fault_40 mq_faultAt_41 q_faultTold q_checks f_checkHow f_checkAt f_checkValue q_waits f_wait f_waitValue q_deep q_isOver q_piled f_pileKind f_pileStatement f_pileBlock f_pileLast q_planned f_planStatement f_planPart f_planTime f_planKind f_hasRun q_slot f_told f_tape f_failedKind f_cause f_underFirst f_underNext f_failedAt f_underWay f_traces f_closings f_enteredOf q_left q_ended q_signal q_signalValue q_frames f_frameKind f_frameStatement f_frameNow f_pending f_pendingValue f_firstResource f_openedOf f_caught q_acts f_actVar f_actRow f_actMethod f_actStatement q_rows f_rowSize f_rowItem f_passed q_planning q_aloneStatement q_alonePart q_aloneTime q_quiet f_quietStatement f_quietPart f_quietTime f_stack q_stacked q_wrong f_wayOut q_wayOuts]) := hD
                  refine lv_iinc (v := (nI (xn1_2 + 1))) (lv' := [(1, .int (nI (xn1_2 + 1))), (2, .int 1), (0, .ref h)]) hx hb dX10_looks_104 hl (k := 2) rfl (nI_add xn1_2 1) (by decide) rfl (fun ls hl => ?_)
                  refine lv_goto (tgt := 2) hx hb dX10_looks_107 (by decide) ?_
                  exact ih2 (xn1_2 + 1) mq_fault_40 mq_faultAt_41 (by first | omega | (clear hP hD hS hl hQ; grind)) (fun h9 => absurd h9 hp42) H locs ls hP hD hS (lv_sub hl [2, 0] rfl)
              · have kn43 : (f_checkHow xn1_2).toInt = 3 := congrArg Int32.toInt kc35
                refine lv_aload_n hx hb dX10_looks_55 rfl (lv_at hl 0 rfl) ?_
                refine va_get (D := D) (ci := 10) (v := .ref (a 17)) (C := RX10) (T := TX10) (N := 96) hx hb hts inlX10 hown hK hP 0 rfl rfl 32 (by decide) (hts _ q210) (fun _ h => h) rfl dX10_looks_56 ?_
                refine lv_iload_n hx hb dX10_looks_59 rfl (lv_at hl 1 rfl) ?_
                refine va_iald hx hb hK hP 18 0 rfl rfl (vr_in (by first | omega | (clear hP hD hS hl hQ; grind)) (by decide)) dX10_looks_60 ?_
                refine lv_topi (nm_r (e' := (f_checkValue xn1_2)) (vr_ld (by first | omega | (clear hP hD hS hl hQ; grind))) ?_)
                refine lv_aload_n hx hb dX10_looks_61 rfl (lv_at hl 0 rfl) ?_
                refine va_get (D := D) (ci := 10) (v := .ref (a 12)) (C := RX10) (T := TX10) (N := 96) hx hb hts inlX10 hown hK hP 0 rfl rfl 21 (by decide) (hts _ q205) (fun _ h => h) rfl dX10_looks_62 ?_
                refine lv_aload_n hx hb dX10_looks_65 rfl (lv_at hl 0 rfl) ?_
                refine va_get (D := D) (ci := 10) (v := .int (nI q_draft)) (C := RX10) (T := TX10) (N := 96) hx hb hts inlX10 hown hK hP 0 rfl rfl 9 (by decide) (hts _ q744) (fun _ h => h) rfl dX10_looks_66 ?_
                refine va_iald hx hb hK hP 13 0 rfl rfl (vr_in (by first | omega | (clear hP hD hS hl hQ; grind)) (by decide)) dX10_looks_69 ?_
                refine lv_topi (nm_r (e' := (f_methods q_draft)) (vr_ld (by first | omega | (clear hP hD hS hl hQ; grind))) ?_)
                refine lv_icmp_ge (tgt := 83) hx hb dX10_looks_70 (by decide) (fun kc44 => ?_) (fun kc44 => ?_)
                · have kn45 : (f_checkValue xn1_2).toInt ≥ (f_methods q_draft).toInt := Int32.le_iff_toInt_le.mp kc44
                  refine lv_iconst (v := 1) hx hb dX10_looks_83 (by decide) ?_
                  refine lv_goto (tgt := 88) hx hb dX10_looks_84 (by decide) ?_
                  refine lv_istore_n (lv' := [(2, .int 1), (0, .ref h), (1, .int (nI xn1_2))]) hx hb dX10_looks_88 rfl hl (by decide) rfl (fun ls hl => ?_)
                  refine lv_iload_n hx hb dX10_looks_89 rfl (lv_at hl 0 rfl) ?_
                  refine lv_if_eq (tgt := 104) hx hb dX10_looks_90 (by decide) (fun h9 => absurd h9 (by decide)) (fun _ => ?_)
                  refine lv_aload_n hx hb dX10_looks_93 rfl (lv_at hl 1 rfl) ?_
                  refine lv_iconst (v := 3) hx hb dX10_looks_94 (by decide) ?_
                  refine lv_aload_n hx hb dX10_looks_95 rfl (lv_at hl 1 rfl) ?_
                  refine va_get (D := D) (ci := 10) (v := .ref (a 16)) (C := RX10) (T := TX10) (N := 96) hx hb hts inlX10 hown hK hP 0 rfl rfl 31 (by decide) (hts _ q209) (fun _ h => h) rfl dX10_looks_96 ?_
                  refine lv_iload_n hx hb dX10_looks_99 rfl (lv_at hl 2 rfl) ?_
                  refine va_iald hx hb hK hP 17 0 rfl rfl (vr_in (by first | omega | (clear hP hD hS hl hQ; grind)) (by decide)) dX10_looks_100 ?_
                  refine lv_topi (nm_r (e' := (f_checkAt xn1_2)) (vr_ld (by first | omega | (clear hP hD hS hl hQ; grind))) ?_)
                  refine vz_Vv3 (As := [.int 3, .int (f_checkAt xn1_2)]) (rest := []) hx hb hml hown hts hK hA hP hD hS (r_fails l D g H.size h a f_words f_text q_size q_at q_token q_tokenAt q_which q_value q_live q_draft q_hasProgram f_stat f_statements f_entryKind f_entryValue f_firstOf f_catchOf f_catchKind f_catchBlock f_catches f_body f_methods f_above f_kinds q_entries q_blocks mq_fault_2 mq_faultAt_2 q_faultTold q_checks f_checkHow f_checkAt f_checkValue q_waits f_wait f_waitValue q_deep q_isOver q_piled f_pileKind f_pileStatement f_pileBlock f_pileLast q_planned f_planStatement f_planPart f_planTime f_planKind f_hasRun q_slot f_told f_tape f_failedKind f_cause f_underFirst f_underNext f_failedAt f_underWay f_traces f_closings f_enteredOf q_left q_ended q_signal q_signalValue q_frames f_frameKind f_frameStatement f_frameNow f_pending f_pendingValue f_firstResource f_openedOf f_caught q_acts f_actVar f_actRow f_actMethod f_actStatement q_rows f_rowSize f_rowItem f_passed q_planning q_aloneStatement q_alonePart q_aloneTime q_quiet f_quietStatement f_quietPart f_quietTime f_stack q_stacked q_wrong f_wayOut q_wayOuts 3 (f_checkAt xn1_2) (by first | assumption | omega | (clear hP hD hS hl hQ; grind))) kv_X10_297 ⟨Nat.le_of_ble_eq_true rfl, Nat.le_of_ble_eq_true rfl⟩ (q0 := 0) (ci := 10) rfl rfl rfl  hl.1 (Nat.le_of_ble_eq_true rfl) dX10_looks_101 ⟨Nat.le_refl _, Nat.le_refl _⟩ rfl (fun ⟨mq_fault_46, mq_faultAt_47⟩ H locs hp48 _ hP hD hS => ?_)
                  try dsimp only at hp48
                  replace hP : va_P D vwCl (vz_w [rmW g h a f_words f_text q_size q_at q_token q_tokenAt q_which q_value q_live q_draft q_hasProgram f_stat f_statements f_entryKind f_entryValue f_firstOf f_catchOf f_catchKind f_catchBlock f_catches f_body f_methods f_above f_kinds q_entries q_blocks mq_fault_46 mq_faultAt_47 q_faultTold q_checks f_checkHow f_checkAt f_checkValue q_waits f_wait f_waitValue q_deep q_isOver q_piled f_pileKind f_pileStatement f_pileBlock f_pileLast q_planned f_planStatement f_planPart f_planTime f_planKind f_hasRun q_slot f_told f_tape f_failedKind f_cause f_underFirst f_underNext f_failedAt f_underWay f_traces f_closings f_enteredOf q_left q_ended q_signal q_signalValue q_frames f_frameKind f_frameStatement f_frameNow f_pending f_pendingValue f_firstResource f_openedOf f_caught q_acts f_actVar f_actRow f_actMethod f_actStatement q_rows f_rowSize f_rowItem f_passed q_planning q_aloneStatement q_alonePart q_aloneTime q_quiet f_quietStatement f_quietPart f_quietTime f_stack q_stacked q_wrong f_wayOut q_wayOuts]) H := hP
                  replace hD : va_D A (vz_w [rmW g h a f_words f_text q_size q_at q_token q_tokenAt q_which q_value q_live q_draft q_hasProgram f_stat f_statements f_entryKind f_entryValue f_firstOf f_catchOf f_catchKind f_catchBlock f_catches f_body f_methods f_above f_kinds q_entries q_blocks mq_fault_46 mq_faultAt_47 q_faultTold q_checks f_checkHow f_checkAt f_checkValue q_waits f_wait f_waitValue q_deep q_isOver q_piled f_pileKind f_pileStatement f_pileBlock f_pileLast q_planned f_planStatement f_planPart f_planTime f_planKind f_hasRun q_slot f_told f_tape f_failedKind f_cause f_underFirst f_underNext f_failedAt f_underWay f_traces f_closings f_enteredOf q_left q_ended q_signal q_signalValue q_frames f_frameKind f_frameStatement f_frameNow f_pending f_pendingValue f_firstResource f_openedOf f_caught q_acts f_actVar f_actRow f_actMethod f_actStatement q_rows f_rowSize f_rowItem f_passed q_planning q_aloneStatement q_alonePart q_aloneTime q_quiet f_quietStatement f_quietPart f_quietTime f_stack q_stacked q_wrong f_wayOut q_wayOuts]) := hD
                  refine lv_iinc (v := (nI (xn1_2 + 1))) (lv' := [(1, .int (nI (xn1_2 + 1))), (2, .int 1), (0, .ref h)]) hx hb dX10_looks_104 hl (k := 2) rfl (nI_add xn1_2 1) (by decide) rfl (fun ls hl => ?_)
                  refine lv_goto (tgt := 2) hx hb dX10_looks_107 (by decide) ?_
                  exact ih2 (xn1_2 + 1) mq_fault_46 mq_faultAt_47 (by first | omega | (clear hP hD hS hl hQ; grind)) (fun h9 => absurd h9 hp48) H locs ls hP hD hS (lv_sub hl [2, 0] rfl)
                · have kn49 : ¬ (f_checkValue xn1_2).toInt ≥ (f_methods q_draft).toInt := fun q => kc44 (Int32.le_iff_toInt_le.mpr q)
                  refine lv_aload_n hx hb dX10_looks_73 rfl (lv_at hl 0 rfl) ?_
                  refine va_get (D := D) (ci := 10) (v := .ref (a 15)) (C := RX10) (T := TX10) (N := 96) hx hb hts inlX10 hown hK hP 0 rfl rfl 30 (by decide) (hts _ q208) (fun _ h => h) rfl dX10_looks_74 ?_
                  refine lv_iload_n hx hb dX10_looks_77 rfl (lv_at hl 1 rfl) ?_
                  refine va_iald hx hb hK hP 16 0 rfl rfl (vr_in (by first | omega | (clear hP hD hS hl hQ; grind)) (by decide)) dX10_looks_78 ?_
                  refine lv_topi (nm_r (e' := (f_checkHow xn1_2)) (vr_ld (by first | omega | (clear hP hD hS hl hQ; grind))) ?_)
                  refine lv_iconst (v := 4) hx hb dX10_looks_79 (by decide) ?_
                  refine lv_icmp_ne (tgt := 87) hx hb dX10_looks_80 (by decide) (fun kc50 => ?_) (fun kc50 => ?_)
                  · have kn51 : ¬ (f_checkHow xn1_2).toInt = 4 := fun q => kc50 (Int32.toInt_inj.mp q)
                    refine lv_iconst (v := 0) hx hb dX10_looks_87 (by decide) ?_
                    refine lv_istore_n (lv' := [(2, .int 0), (0, .ref h), (1, .int (nI xn1_2))]) hx hb dX10_looks_88 rfl hl (by decide) rfl (fun ls hl => ?_)
                    refine lv_iload_n hx hb dX10_looks_89 rfl (lv_at hl 0 rfl) ?_
                    refine lv_if_eq (tgt := 104) hx hb dX10_looks_90 (by decide) (fun _ => ?_) (fun h9 => absurd (by decide) h9)
                    refine lv_iinc (v := (nI (xn1_2 + 1))) (lv' := [(1, .int (nI (xn1_2 + 1))), (2, .int 0), (0, .ref h)]) hx hb dX10_looks_104 hl (k := 2) rfl (nI_add xn1_2 1) (by decide) rfl (fun ls hl => ?_)
                    refine lv_goto (tgt := 2) hx hb dX10_looks_107 (by decide) ?_
                    exact ih2 (xn1_2 + 1) mq_fault_2 mq_faultAt_2 (by first | omega | (clear hP hD hS hl hQ; grind)) (fun h9 => ⟨(hj2_0 h9).1, hk4, lk_step (hj2_0 h9).2.2 ⟨fun _ => kc29, fun _ => kc44, kc50⟩⟩) H locs ls hP hD hS (lv_sub hl [2, 0] rfl)
                  · have kn52 : (f_checkHow xn1_2).toInt = 4 := congrArg Int32.toInt kc50
                    refine lv_iconst (v := 1) hx hb dX10_looks_83 (by decide) ?_
                    refine lv_goto (tgt := 88) hx hb dX10_looks_84 (by decide) ?_
                    refine lv_istore_n (lv' := [(2, .int 1), (0, .ref h), (1, .int (nI xn1_2))]) hx hb dX10_looks_88 rfl hl (by decide) rfl (fun ls hl => ?_)
                    refine lv_iload_n hx hb dX10_looks_89 rfl (lv_at hl 0 rfl) ?_
                    refine lv_if_eq (tgt := 104) hx hb dX10_looks_90 (by decide) (fun h9 => absurd h9 (by decide)) (fun _ => ?_)
                    refine lv_aload_n hx hb dX10_looks_93 rfl (lv_at hl 1 rfl) ?_
                    refine lv_iconst (v := 3) hx hb dX10_looks_94 (by decide) ?_
                    refine lv_aload_n hx hb dX10_looks_95 rfl (lv_at hl 1 rfl) ?_
                    refine va_get (D := D) (ci := 10) (v := .ref (a 16)) (C := RX10) (T := TX10) (N := 96) hx hb hts inlX10 hown hK hP 0 rfl rfl 31 (by decide) (hts _ q209) (fun _ h => h) rfl dX10_looks_96 ?_
                    refine lv_iload_n hx hb dX10_looks_99 rfl (lv_at hl 2 rfl) ?_
                    refine va_iald hx hb hK hP 17 0 rfl rfl (vr_in (by first | omega | (clear hP hD hS hl hQ; grind)) (by decide)) dX10_looks_100 ?_
                    refine lv_topi (nm_r (e' := (f_checkAt xn1_2)) (vr_ld (by first | omega | (clear hP hD hS hl hQ; grind))) ?_)
                    refine vz_Vv3 (As := [.int 3, .int (f_checkAt xn1_2)]) (rest := []) hx hb hml hown hts hK hA hP hD hS (r_fails l D g H.size h a f_words f_text q_size q_at q_token q_tokenAt q_which q_value q_live q_draft q_hasProgram f_stat f_statements f_entryKind f_entryValue f_firstOf f_catchOf f_catchKind f_catchBlock f_catches f_body f_methods f_above f_kinds q_entries q_blocks mq_fault_2 mq_faultAt_2 q_faultTold q_checks f_checkHow f_checkAt f_checkValue q_waits f_wait f_waitValue q_deep q_isOver q_piled f_pileKind f_pileStatement f_pileBlock f_pileLast q_planned f_planStatement f_planPart f_planTime f_planKind f_hasRun q_slot f_told f_tape f_failedKind f_cause f_underFirst f_underNext f_failedAt f_underWay f_traces f_closings f_enteredOf q_left q_ended q_signal q_signalValue q_frames f_frameKind f_frameStatement f_frameNow f_pending f_pendingValue f_firstResource f_openedOf f_caught q_acts f_actVar f_actRow f_actMethod f_actStatement q_rows f_rowSize f_rowItem f_passed q_planning q_aloneStatement q_alonePart q_aloneTime q_quiet f_quietStatement f_quietPart f_quietTime f_stack q_stacked q_wrong f_wayOut q_wayOuts 3 (f_checkAt xn1_2) (by first | assumption | omega | (clear hP hD hS hl hQ; grind))) kv_X10_297 ⟨Nat.le_of_ble_eq_true rfl, Nat.le_of_ble_eq_true rfl⟩ (q0 := 0) (ci := 10) rfl rfl rfl  hl.1 (Nat.le_of_ble_eq_true rfl) dX10_looks_101 ⟨Nat.le_refl _, Nat.le_refl _⟩ rfl (fun ⟨mq_fault_53, mq_faultAt_54⟩ H locs hp55 _ hP hD hS => ?_)
                    try dsimp only at hp55
                    replace hP : va_P D vwCl (vz_w [rmW g h a f_words f_text q_size q_at q_token q_tokenAt q_which q_value q_live q_draft q_hasProgram f_stat f_statements f_entryKind f_entryValue f_firstOf f_catchOf f_catchKind f_catchBlock f_catches f_body f_methods f_above f_kinds q_entries q_blocks mq_fault_53 mq_faultAt_54 q_faultTold q_checks f_checkHow f_checkAt f_checkValue q_waits f_wait f_waitValue q_deep q_isOver q_piled f_pileKind f_pileStatement f_pileBlock f_pileLast q_planned f_planStatement f_planPart f_planTime f_planKind f_hasRun q_slot f_told f_tape f_failedKind f_cause f_underFirst f_underNext f_failedAt f_underWay f_traces f_closings f_enteredOf q_left q_ended q_signal q_signalValue q_frames f_frameKind f_frameStatement f_frameNow f_pending f_pendingValue f_firstResource f_openedOf f_caught q_acts f_actVar f_actRow f_actMethod f_actStatement q_rows f_rowSize f_rowItem f_passed q_planning q_aloneStatement q_alonePart q_aloneTime q_quiet f_quietStatement f_quietPart f_quietTime f_stack q_stacked q_wrong f_wayOut q_wayOuts]) H := hP
                    replace hD : va_D A (vz_w [rmW g h a f_words f_text q_size q_at q_token q_tokenAt q_which q_value q_live q_draft q_hasProgram f_stat f_statements f_entryKind f_entryValue f_firstOf f_catchOf f_catchKind f_catchBlock f_catches f_body f_methods f_above f_kinds q_entries q_blocks mq_fault_53 mq_faultAt_54 q_faultTold q_checks f_checkHow f_checkAt f_checkValue q_waits f_wait f_waitValue q_deep q_isOver q_piled f_pileKind f_pileStatement f_pileBlock f_pileLast q_planned f_planStatement f_planPart f_planTime f_planKind f_hasRun q_slot f_told f_tape f_failedKind f_cause f_underFirst f_underNext f_failedAt f_underWay f_traces f_closings f_enteredOf q_left q_ended q_signal q_signalValue q_frames f_frameKind f_frameStatement f_frameNow f_pending f_pendingValue f_firstResource f_openedOf f_caught q_acts f_actVar f_actRow f_actMethod f_actStatement q_rows f_rowSize f_rowItem f_passed q_planning q_aloneStatement q_alonePart q_aloneTime q_quiet f_quietStatement f_quietPart f_quietTime f_stack q_stacked q_wrong f_wayOut q_wayOuts]) := hD
                    refine lv_iinc (v := (nI (xn1_2 + 1))) (lv' := [(1, .int (nI (xn1_2 + 1))), (2, .int 1), (0, .ref h)]) hx hb dX10_looks_104 hl (k := 2) rfl (nI_add xn1_2 1) (by decide) rfl (fun ls hl => ?_)
                    refine lv_goto (tgt := 2) hx hb dX10_looks_107 (by decide) ?_
                    exact ih2 (xn1_2 + 1) mq_fault_53 mq_faultAt_54 (by first | omega | (clear hP hD hS hl hQ; grind)) (fun h9 => absurd h9 hp55) H locs ls hP hD hS (lv_sub hl [2, 0] rfl)
  refine lv_iconst (v := 0) hx hb dX10_looks_0 (by decide) ?_
  refine lv_istore_n (lv' := [(1, .int 0), (0, .ref h)]) hx hb dX10_looks_1 rfl hl (by decide) rfl (fun ls hl => ?_)
  exact J2 (q_checks - 0 + 1) 0 q_fault q_faultAt (Nat.lt_succ_self _) (fun h => ⟨h, Nat.zero_le _, fun j9 h => absurd h (Nat.not_lt_zero _)⟩) H locs ls hP hD hS (lv_sub hl [1, 0] rfl)
