theorem dX10_handler_0 : decode cX10_handler 0 = .ok (.aload_n 0, 1) := by decide +kernel
theorem dX10_handler_1 : decode cX10_handler 1 = .ok (.getfield 450, 3) := by decide +kernel
theorem dX10_handler_4 : decode cX10_handler 4 = .ok (.ifCond .eq 31, 3) := by decide +kernel
theorem dX10_handler_7 : decode cX10_handler 7 = .ok (.iload_n 1, 1) := by decide +kernel
theorem dX10_handler_8 : decode cX10_handler 8 = .ok (.iconst 0, 1) := by decide +kernel
theorem dX10_handler_9 : decode cX10_handler 9 = .ok (.aload_n 0, 1) := by decide +kernel
theorem dX10_handler_10 : decode cX10_handler 10 = .ok (.getfield 84, 3) := by decide +kernel
theorem dX10_handler_13 : decode cX10_handler 13 = .ok (.aload_n 0, 1) := by decide +kernel
theorem dX10_handler_14 : decode cX10_handler 14 = .ok (.getfield 235, 3) := by decide +kernel
theorem dX10_handler_17 : decode cX10_handler 17 = .ok (.iaload, 1) := by decide +kernel
theorem dX10_handler_18 : decode cX10_handler 18 = .ok (.iconst 1, 1) := by decide +kernel
theorem dX10_handler_19 : decode cX10_handler 19 = .ok (.isub, 1) := by decide +kernel
theorem dX10_handler_20 : decode cX10_handler 20 = .ok (.invokestatic 239, 3) := by decide +kernel
theorem dX10_handler_23 : decode cX10_handler 23 = .ok (.ifCond .eq 12, 3) := by decide +kernel
theorem dX10_handler_26 : decode cX10_handler 26 = .ok (.iload_n 2, 1) := by decide +kernel
theorem dX10_handler_27 : decode cX10_handler 27 = .ok (.iconst 0, 1) := by decide +kernel
theorem dX10_handler_28 : decode cX10_handler 28 = .ok (.iconst 2, 1) := by decide +kernel
theorem dX10_handler_29 : decode cX10_handler 29 = .ok (.invokestatic 239, 3) := by decide +kernel
theorem dX10_handler_32 : decode cX10_handler 32 = .ok (.ifCond .ne 5, 3) := by decide +kernel
theorem dX10_handler_35 : decode cX10_handler 35 = .ok (.iconst (-1), 1) := by decide +kernel
theorem dX10_handler_36 : decode cX10_handler 36 = .ok (.ireturn, 1) := by decide +kernel
theorem dX10_handler_37 : decode cX10_handler 37 = .ok (.sipush 160, 3) := by decide +kernel
theorem dX10_handler_40 : decode cX10_handler 40 = .ok (.aload_n 0, 1) := by decide +kernel
theorem dX10_handler_41 : decode cX10_handler 41 = .ok (.getfield 235, 3) := by decide +kernel
theorem dX10_handler_44 : decode cX10_handler 44 = .ok (.imul, 1) := by decide +kernel
theorem dX10_handler_45 : decode cX10_handler 45 = .ok (.istore_n 3, 1) := by decide +kernel
theorem dX10_handler_46 : decode cX10_handler 46 = .ok (.iload_n 2, 1) := by decide +kernel
theorem dX10_handler_47 : decode cX10_handler 47 = .ok (.iconst 2, 1) := by decide +kernel
theorem dX10_handler_48 : decode cX10_handler 48 = .ok (.if_icmp .ge 27, 3) := by decide +kernel
theorem dX10_handler_51 : decode cX10_handler 51 = .ok (.iload_n 2, 1) := by decide +kernel
theorem dX10_handler_52 : decode cX10_handler 52 = .ok (.ifCond .ne 14, 3) := by decide +kernel
theorem dX10_handler_55 : decode cX10_handler 55 = .ok (.aload_n 0, 1) := by decide +kernel
theorem dX10_handler_56 : decode cX10_handler 56 = .ok (.getfield 75, 3) := by decide +kernel
theorem dX10_handler_59 : decode cX10_handler 59 = .ok (.iload_n 3, 1) := by decide +kernel
theorem dX10_handler_60 : decode cX10_handler 60 = .ok (.iload_n 1, 1) := by decide +kernel
theorem dX10_handler_61 : decode cX10_handler 61 = .ok (.iadd, 1) := by decide +kernel
theorem dX10_handler_62 : decode cX10_handler 62 = .ok (.iaload, 1) := by decide +kernel
theorem dX10_handler_63 : decode cX10_handler 63 = .ok (.goto 11, 3) := by decide +kernel
theorem dX10_handler_66 : decode cX10_handler 66 = .ok (.aload_n 0, 1) := by decide +kernel
theorem dX10_handler_67 : decode cX10_handler 67 = .ok (.getfield 78, 3) := by decide +kernel
theorem dX10_handler_70 : decode cX10_handler 70 = .ok (.iload_n 3, 1) := by decide +kernel
theorem dX10_handler_71 : decode cX10_handler 71 = .ok (.iload_n 1, 1) := by decide +kernel
theorem dX10_handler_72 : decode cX10_handler 72 = .ok (.iadd, 1) := by decide +kernel
theorem dX10_handler_73 : decode cX10_handler 73 = .ok (.iaload, 1) := by decide +kernel
theorem dX10_handler_74 : decode cX10_handler 74 = .ok (.ireturn, 1) := by decide +kernel
theorem dX10_handler_75 : decode cX10_handler 75 = .ok (.iconst 0, 1) := by decide +kernel
theorem dX10_handler_76 : decode cX10_handler 76 = .ok (.istore 4, 2) := by decide +kernel
theorem dX10_handler_78 : decode cX10_handler 78 = .ok (.iconst 0, 1) := by decide +kernel
theorem dX10_handler_79 : decode cX10_handler 79 = .ok (.istore 5, 2) := by decide +kernel
theorem dX10_handler_81 : decode cX10_handler 81 = .ok (.iload 5, 2) := by decide +kernel
theorem dX10_handler_83 : decode cX10_handler 83 = .ok (.iload_n 1, 1) := by decide +kernel
theorem dX10_handler_84 : decode cX10_handler 84 = .ok (.if_icmp .ge 65, 3) := by decide +kernel
theorem dX10_handler_87 : decode cX10_handler 87 = .ok (.iload 4, 2) := by decide +kernel
theorem dX10_handler_89 : decode cX10_handler 89 = .ok (.ifCond .ne 47, 3) := by decide +kernel
theorem dX10_handler_92 : decode cX10_handler 92 = .ok (.aload_n 0, 1) := by decide +kernel
theorem dX10_handler_93 : decode cX10_handler 93 = .ok (.getfield 75, 3) := by decide +kernel
theorem dX10_handler_96 : decode cX10_handler 96 = .ok (.iload_n 3, 1) := by decide +kernel
theorem dX10_handler_97 : decode cX10_handler 97 = .ok (.iload 5, 2) := by decide +kernel
theorem dX10_handler_99 : decode cX10_handler 99 = .ok (.iadd, 1) := by decide +kernel
theorem dX10_handler_100 : decode cX10_handler 100 = .ok (.iaload, 1) := by decide +kernel
theorem dX10_handler_101 : decode cX10_handler 101 = .ok (.aload_n 0, 1) := by decide +kernel
theorem dX10_handler_102 : decode cX10_handler 102 = .ok (.getfield 75, 3) := by decide +kernel
theorem dX10_handler_105 : decode cX10_handler 105 = .ok (.iload_n 3, 1) := by decide +kernel
theorem dX10_handler_106 : decode cX10_handler 106 = .ok (.iload_n 1, 1) := by decide +kernel
theorem dX10_handler_107 : decode cX10_handler 107 = .ok (.iadd, 1) := by decide +kernel
theorem dX10_handler_108 : decode cX10_handler 108 = .ok (.iaload, 1) := by decide +kernel
theorem dX10_handler_109 : decode cX10_handler 109 = .ok (.if_icmp .ne 31, 3) := by decide +kernel
theorem dX10_handler_112 : decode cX10_handler 112 = .ok (.aload_n 0, 1) := by decide +kernel
theorem dX10_handler_113 : decode cX10_handler 113 = .ok (.aload_n 0, 1) := by decide +kernel
theorem dX10_handler_114 : decode cX10_handler 114 = .ok (.getfield 78, 3) := by decide +kernel
theorem dX10_handler_117 : decode cX10_handler 117 = .ok (.iload_n 3, 1) := by decide +kernel
theorem dX10_handler_118 : decode cX10_handler 118 = .ok (.iload 5, 2) := by decide +kernel
theorem dX10_handler_120 : decode cX10_handler 120 = .ok (.iadd, 1) := by decide +kernel
theorem dX10_handler_121 : decode cX10_handler 121 = .ok (.iaload, 1) := by decide +kernel
theorem dX10_handler_122 : decode cX10_handler 122 = .ok (.aload_n 0, 1) := by decide +kernel
theorem dX10_handler_123 : decode cX10_handler 123 = .ok (.getfield 78, 3) := by decide +kernel
theorem dX10_handler_126 : decode cX10_handler 126 = .ok (.iload_n 3, 1) := by decide +kernel
theorem dX10_handler_127 : decode cX10_handler 127 = .ok (.iload_n 1, 1) := by decide +kernel
theorem dX10_handler_128 : decode cX10_handler 128 = .ok (.iadd, 1) := by decide +kernel
theorem dX10_handler_129 : decode cX10_handler 129 = .ok (.iaload, 1) := by decide +kernel
theorem dX10_handler_130 : decode cX10_handler 130 = .ok (.invokevirtual 466, 3) := by decide +kernel
theorem dX10_handler_133 : decode cX10_handler 133 = .ok (.ifCond .eq 7, 3) := by decide +kernel
theorem dX10_handler_136 : decode cX10_handler 136 = .ok (.iconst 1, 1) := by decide +kernel
theorem dX10_handler_137 : decode cX10_handler 137 = .ok (.goto 4, 3) := by decide +kernel
theorem dX10_handler_140 : decode cX10_handler 140 = .ok (.iconst 0, 1) := by decide +kernel
theorem dX10_handler_141 : decode cX10_handler 141 = .ok (.istore 4, 2) := by decide +kernel
theorem dX10_handler_143 : decode cX10_handler 143 = .ok (.iinc 5 1, 3) := by decide +kernel
theorem dX10_handler_146 : decode cX10_handler 146 = .ok (.goto (-65), 3) := by decide +kernel
theorem dX10_handler_149 : decode cX10_handler 149 = .ok (.iload 4, 2) := by decide +kernel
theorem dX10_handler_151 : decode cX10_handler 151 = .ok (.ifCond .eq 7, 3) := by decide +kernel
theorem dX10_handler_154 : decode cX10_handler 154 = .ok (.iconst 1, 1) := by decide +kernel
theorem dX10_handler_155 : decode cX10_handler 155 = .ok (.goto 4, 3) := by decide +kernel
theorem dX10_handler_158 : decode cX10_handler 158 = .ok (.iconst 0, 1) := by decide +kernel
theorem dX10_handler_159 : decode cX10_handler 159 = .ok (.ireturn, 1) := by decide +kernel
set_option maxHeartbeats 8000000 in
set_option maxRecDepth 100000 in
theorem r_handler (l : Launch) (D : va_G) (g : Nat → ClassId)   (sz : Nat) (h : Nat) (a : Nat → Nat) (f_words : Nat → Int64) (f_text : Nat → Int32) (q_size : Nat) (q_at : Nat) (q_token : Int32) (q_tokenAt : Nat) (q_which : Int32) (q_value : Nat) (q_live : Nat) (q_draft : Nat) (q_hasProgram : Int32) (f_stat : Nat → Int32) (f_statements : Nat → Int32) (f_entryKind : Nat → Int32) (f_entryValue : Nat → Int32) (f_firstOf : Nat → Int32) (f_catchOf : Nat → Int32) (f_catchKind : Nat → Int32) (f_catchBlock : Nat → Int32) (f_catches : Nat → Int32) (f_body : Nat → Int32) (f_methods : Nat → Int32) (f_above : Nat → Int32) (f_kinds : Nat → Int32) (q_entries : Nat) (q_blocks : Nat) (q_fault : Int32) (q_faultAt : Int32) (q_faultTold : Int32) (q_checks : Nat) (f_checkHow : Nat → Int32) (f_checkAt : Nat → Int32) (f_checkValue : Nat → Int32) (q_waits : Nat) (f_wait : Nat → Int32) (f_waitValue : Nat → Int32) (q_deep : Int32) (q_isOver : Int32) (q_piled : Nat) (f_pileKind : Nat → Int32) (f_pileStatement : Nat → Int32) (f_pileBlock : Nat → Int32) (f_pileLast : Nat → Int32) (q_planned : Nat) (f_planStatement : Nat → Int32) (f_planPart : Nat → Int32) (f_planTime : Nat → Int32) (f_planKind : Nat → Int32) (f_hasRun : Nat → Int32) (q_slot : Nat) (f_told : Nat → Int32) (f_tape : Nat → Int32) (f_failedKind : Nat → Int32) (f_cause : Nat → Int32) (f_underFirst : Nat → Int32) (f_underNext : Nat → Int32) (f_failedAt : Nat → Int32) (f_underWay : Nat → Int32) (f_traces : Nat → Int32) (f_closings : Nat → Int32) (f_enteredOf : Nat → Int32) (q_left : Nat) (q_ended : Int32) (q_signal : Int32) (q_signalValue : Int32) (q_frames : Nat) (f_frameKind : Nat → Int32) (f_frameStatement : Nat → Int32) (f_frameNow : Nat → Int32) (f_pending : Nat → Int32) (f_pendingValue : Nat → Int32) (f_firstResource : Nat → Int32) (f_openedOf : Nat → Int32) (f_caught : Nat → Int32) (q_acts : Nat) (f_actVar : Nat → Int32) (f_actRow : Nat → Int32) (f_actMethod : Nat → Int32) (f_actStatement : Nat → Int32) (q_rows : Nat) (f_rowSize : Nat → Int32) (f_rowItem : Nat → Int32) (f_passed : Nat → Int32) (q_planning : Int32) (q_aloneStatement : Int32) (q_alonePart : Int32) (q_aloneTime : Int32) (q_quiet : Nat) (f_quietStatement : Nat → Int32) (f_quietPart : Nat → Int32) (f_quietTime : Nat → Int32) (f_stack : Nat → Int32) (q_stacked : Nat) (q_wrong : Int32) (f_wayOut : Nat → Int32) (q_wayOuts : Nat) (n1 : Int32) (n2 : Int32) (hgi : GI f_words q_size q_value q_live q_hasProgram f_stat f_entryKind f_entryValue f_firstOf f_catchOf f_catchKind f_catchBlock f_body f_above f_statements f_catches f_methods f_kinds q_planned f_planKind f_told f_underWay q_quiet) : vz_Mi l D (tyG g) yX10_handler cX10_handler 6 1 23 0 0 .int [.ref h, .int n1, .int n2] sz (vz_w [rmW g h a f_words f_text q_size q_at q_token q_tokenAt q_which q_value q_live q_draft q_hasProgram f_stat f_statements f_entryKind f_entryValue f_firstOf f_catchOf f_catchKind f_catchBlock f_catches f_body f_methods f_above f_kinds q_entries q_blocks q_fault q_faultAt q_faultTold q_checks f_checkHow f_checkAt f_checkValue q_waits f_wait f_waitValue q_deep q_isOver q_piled f_pileKind f_pileStatement f_pileBlock f_pileLast q_planned f_planStatement f_planPart f_planTime f_planKind f_hasRun q_slot f_told f_tape f_failedKind f_cause f_underFirst f_underNext f_failedAt f_underWay f_traces f_closings f_enteredOf q_left q_ended q_signal q_signalValue q_frames f_frameKind f_frameStatement f_frameNow f_pending f_pendingValue f_firstResource f_openedOf f_caught q_acts f_actVar f_actRow f_actMethod f_actStatement q_rows f_rowSize f_rowItem f_passed q_planning q_aloneStatement q_alonePart q_aloneTime q_quiet f_quietStatement f_quietPart f_quietTime f_stack q_stacked q_wrong f_wayOut q_wayOuts]) (fun r (u : Unit) => True) (fun u => vz_w [rmW g h a f_words f_text q_size q_at q_token q_tokenAt q_which q_value q_live q_draft q_hasProgram f_stat f_statements f_entryKind f_entryValue f_firstOf f_catchOf f_catchKind f_catchBlock f_catches f_body f_methods f_above f_kinds q_entries q_blocks q_fault q_faultAt q_faultTold q_checks f_checkHow f_checkAt f_checkValue q_waits f_wait f_waitValue q_deep q_isOver q_piled f_pileKind f_pileStatement f_pileBlock f_pileLast q_planned f_planStatement f_planPart f_planTime f_planKind f_hasRun q_slot f_told f_tape f_failedKind f_cause f_underFirst f_underNext f_failedAt f_underWay f_traces f_closings f_enteredOf q_left q_ended q_signal q_signalValue q_frames f_frameKind f_frameStatement f_frameNow f_pending f_pendingValue f_firstResource f_openedOf f_caught q_acts f_actVar f_actRow f_actMethod f_actStatement q_rows f_rowSize f_rowItem f_passed q_planning q_aloneStatement q_alonePart q_aloneTime q_quiet f_quietStatement f_quietPart f_quietTime f_stack q_stacked q_wrong f_wayOut q_wayOuts]) := by
  refine vz_siQ (by decide) (Nat.le_of_ble_eq_true rfl) (fun p e s m args below meth c hx hb hr hml hts hown hlk hin hK hsz A hA H locs hP hD hS ls hl Q hQ => ?_)
  have hl : lv_has ls 6 [(0, .ref h), (1, .int n1), (2, .int n2)] := hl
  obtain ⟨hwd, hsz, hva, hlv, hwl, hpl, htt, huw, hqu⟩ := hgi
  have J81 : ∀ fu81 : Nat, ∀ (xn4_81 : Nat), ∀ (xn5_81 : Nat), n1.toInt.toNat - xn5_81 < fu81 → (q_hasProgram ≠ 0 ∧ 0 ≤ n1.toInt ∧ n1.toInt < (f_catches q_live).toInt) → (xn5_81 ≤ n1.toInt.toNat) → ∀ (H : Heap) (locs : List Loc) (ls : Array Slot), va_P D vwCl (vz_w [rmW g h a f_words f_text q_size q_at q_token q_tokenAt q_which q_value q_live q_draft q_hasProgram f_stat f_statements f_entryKind f_entryValue f_firstOf f_catchOf f_catchKind f_catchBlock f_catches f_body f_methods f_above f_kinds q_entries q_blocks q_fault q_faultAt q_faultTold q_checks f_checkHow f_checkAt f_checkValue q_waits f_wait f_waitValue q_deep q_isOver q_piled f_pileKind f_pileStatement f_pileBlock f_pileLast q_planned f_planStatement f_planPart f_planTime f_planKind f_hasRun q_slot f_told f_tape f_failedKind f_cause f_underFirst f_underNext f_failedAt f_underWay f_traces f_closings f_enteredOf q_left q_ended q_signal q_signalValue q_frames f_frameKind f_frameStatement f_frameNow f_pending f_pendingValue f_firstResource f_openedOf f_caught q_acts f_actVar f_actRow f_actMethod f_actStatement q_rows f_rowSize f_rowItem f_passed q_planning q_aloneStatement q_alonePart q_aloneTime q_quiet f_quietStatement f_quietPart f_quietTime f_stack q_stacked q_wrong f_wayOut q_wayOuts]) H → va_D A (vz_w [rmW g h a f_words f_text q_size q_at q_token q_tokenAt q_which q_value q_live q_draft q_hasProgram f_stat f_statements f_entryKind f_entryValue f_firstOf f_catchOf f_catchKind f_catchBlock f_catches f_body f_methods f_above f_kinds q_entries q_blocks q_fault q_faultAt q_faultTold q_checks f_checkHow f_checkAt f_checkValue q_waits f_wait f_waitValue q_deep q_isOver q_piled f_pileKind f_pileStatement f_pileBlock f_pileLast q_planned f_planStatement f_planPart f_planTime f_planKind f_hasRun q_slot f_told f_tape f_failedKind f_cause f_underFirst f_underNext f_failedAt f_underWay f_traces f_closings f_enteredOf q_left q_ended q_signal q_signalValue q_frames f_frameKind f_frameStatement f_frameNow f_pending f_pendingValue f_firstResource f_openedOf f_caught q_acts f_actVar f_actRow f_actMethod f_actStatement q_rows f_rowSize f_rowItem f_passed q_planning q_aloneStatement q_alonePart q_aloneTime q_quiet f_quietStatement f_quietPart f_quietTime f_stack q_stacked q_wrong f_wayOut q_wayOuts]) → va_S A s.heap H locs → lv_has ls 6 [(0, .ref h), (1, .int n1), (2, .int n2), (3, .int (nI (160 * q_live))), (4, .int (nI xn4_81)), (5, .int (nI xn5_81))] → W p l e { frames := 1, cells := 0, slots := 0, locals := 23 } s m args below meth c H locs 0 0 Q (F0 m 81 ls []) := by
    intro fu81
    induction fu81 with
    | zero => intro xn4_81 xn5_81 hf81 hj81_0 hj81_1 H locs ls hP hD hS hl; exact absurd hf81 (Nat.not_lt_zero _)
    | succ fu81 ih81 =>
      intro xn4_81 xn5_81 hf81 hj81_0 hj81_1 H locs ls hP hD hS hl
      refine lv_iload hx hb dX10_handler_81 (lv_at hl 5 rfl) ?_
      refine lv_iload_n hx hb dX10_handler_83 rfl (lv_at hl 1 rfl) ?_
      obtain ⟨ns, bl, nc, nm, nk, en, gS, gB, hwx⟩ := WLX_of (hwl hj81_0.1)
      have hns8 : ns ≤ 80 := hwx.2.1.2.2.2.2.1
      have hnc1 : nc ≤ 160 := hwx.2.1.2.2.2.2.2.2.1
      have hnm8 : nm ≤ 8 := hwx.2.1.2.2.2.2.2.2.2.1
      have hnk1 : nk ≤ 16 := hwx.2.1.2.2.2.2.2.2.2.2
      have hcn : f_statements q_live = nI ns := hwx.2.2.2.2.1
      have hcc : f_catches q_live = nI nc := hwx.2.2.2.2.2.1
      have hcm_ : f_methods q_live = nI nm := hwx.2.2.2.2.2.2.1
      have hck_ : f_kinds q_live = nI nk := hwx.2.2.2.2.2.2.2
      have hni : (f_statements q_live).toInt = (ns : Int) := by rw [hcn]; exact nI_toInt (by omega)
      have hci : (f_catches q_live).toInt = (nc : Int) := by rw [hcc]; exact nI_toInt (by omega)
      have hmi : (f_methods q_live).toInt = (nm : Int) := by rw [hcm_]; exact nI_toInt (by omega)
      refine lv_topi (nm_r (e' := (nI (n1.toInt.toNat))) (nI_of9 hj81_0.2.1) ?_)
      refine lv_icmp_ge (tgt := 149) hx hb dX10_handler_84 (by decide) (fun kc1 => ?_) (fun kc1 => ?_)
      · try (have kn2 : (n1.toInt.toNat) ≤ xn5_81 := (vr_le (a := (n1.toInt.toNat)) (b := xn5_81) (by first | omega | (clear hP hD hS hl hQ; grind)) (by first | omega | (clear hP hD hS hl hQ; grind))).mp kc1)
        refine lv_iload hx hb dX10_handler_149 (lv_at hl 4 rfl) ?_
        refine lv_if_eq (tgt := 158) hx hb dX10_handler_151 (by decide) (fun kc3 => ?_) (fun kc3 => ?_)
        · try (have kn4 : xn4_81 = 0 := (nI_eq (a := xn4_81) (b := 0) (by first | omega | (clear hP hD hS hl hQ; grind)) (by first | omega | (clear hP hD hS hl hQ; grind))).mp kc3)
          refine lv_iconst (v := 0) hx hb dX10_handler_158 (by decide) ?_
          rw [hQ]
          exact vz_iret3 hx hb hr hlk hK hP hD hS () trivial rfl (Nat.le_refl 0) (Nat.le_refl 0) dX10_handler_159
        · try (have kn5 : xn4_81 ≠ 0 := fun h9 => kc3 (by rw [h9]; rfl))
          refine lv_iconst (v := 1) hx hb dX10_handler_154 (by decide) ?_
          refine lv_goto (tgt := 159) hx hb dX10_handler_155 (by decide) ?_
          rw [hQ]
          exact vz_iret3 hx hb hr hlk hK hP hD hS () trivial rfl (Nat.le_refl 0) (Nat.le_refl 0) dX10_handler_159
      · try (have kn6 : xn5_81 < (n1.toInt.toNat) := Nat.not_le.mp (fun h9 => kc1 ((vr_le (a := (n1.toInt.toNat)) (b := xn5_81) (by first | omega | (clear hP hD hS hl hQ; grind)) (by first | omega | (clear hP hD hS hl hQ; grind))).mpr h9)))
        refine lv_iload hx hb dX10_handler_87 (lv_at hl 4 rfl) ?_
        refine lv_if_ne (tgt := 136) hx hb dX10_handler_89 (by decide) (fun kc7 => ?_) (fun kc7 => ?_)
        · try (have kn8 : xn4_81 ≠ 0 := fun h9 => kc7 (by rw [h9]; rfl))
          refine lv_iconst (v := 1) hx hb dX10_handler_136 (by decide) ?_
          refine lv_goto (tgt := 141) hx hb dX10_handler_137 (by decide) ?_
          refine lv_istore (lv' := [(4, .int 1), (0, .ref h), (1, .int n1), (2, .int n2), (3, .int (nI (160 * q_live))), (5, .int (nI xn5_81))]) hx hb dX10_handler_141 hl (by decide) rfl (fun ls hl => ?_)
          refine lv_iinc (v := (nI (xn5_81 + 1))) (lv' := [(5, .int (nI (xn5_81 + 1))), (4, .int 1), (0, .ref h), (1, .int n1), (2, .int n2), (3, .int (nI (160 * q_live)))]) hx hb dX10_handler_143 hl (k := 5) rfl (nI_add xn5_81 1) (by decide) rfl (fun ls hl => ?_)
          refine lv_goto (tgt := 81) hx hb dX10_handler_146 (by decide) ?_
          exact ih81 1 (xn5_81 + 1) (by first | omega | (clear hP hD hS hl hQ; grind)) (hj81_0) (by first | assumption | omega | (clear hP hD hS hl hQ; grind)) H locs ls hP hD hS (lv_sub hl [2, 3, 4, 5, 1, 0] rfl)
        · try (have kn9 : xn4_81 = 0 := (nI_eq (a := xn4_81) (b := 0) (by first | omega | (clear hP hD hS hl hQ; grind)) (by first | omega | (clear hP hD hS hl hQ; grind))).mp kc7)
          refine lv_aload_n hx hb dX10_handler_92 rfl (lv_at hl 0 rfl) ?_
          refine va_get (D := D) (ci := 10) (v := .ref (a 7)) (C := RX10) (T := TX10) (N := 96) hx hb hts inlX10 hown hK hP 0 rfl rfl 16 (by decide) (hts _ q200) (fun _ h => h) rfl dX10_handler_93 ?_
          refine lv_iload_n hx hb dX10_handler_96 rfl (lv_at hl 3 rfl) ?_
          refine lv_iload hx hb dX10_handler_97 (lv_at hl 5 rfl) ?_
          refine lv_iadd hx hb dX10_handler_99 ?_
          refine lv_topi (nm_r (e' := (nI ((160 * q_live) + xn5_81))) (nI_add (160 * q_live) xn5_81) ?_)
          refine va_iald hx hb hK hP 8 0 rfl rfl (vr_in (by first | omega | (clear hP hD hS hl hQ; grind)) (by decide)) dX10_handler_100 ?_
          refine lv_topi (nm_r (e' := (f_catchOf ((160 * q_live) + xn5_81))) (vr_ld (by first | omega | (clear hP hD hS hl hQ; grind))) ?_)
          refine lv_aload_n hx hb dX10_handler_101 rfl (lv_at hl 0 rfl) ?_
          refine va_get (D := D) (ci := 10) (v := .ref (a 7)) (C := RX10) (T := TX10) (N := 96) hx hb hts inlX10 hown hK hP 0 rfl rfl 16 (by decide) (hts _ q200) (fun _ h => h) rfl dX10_handler_102 ?_
          refine lv_iload_n hx hb dX10_handler_105 rfl (lv_at hl 3 rfl) ?_
          refine lv_iload_n hx hb dX10_handler_106 rfl (lv_at hl 1 rfl) ?_
          refine lv_topi (nm_r (e' := (nI (n1.toInt.toNat))) (nI_of9 (by omega)) ?_)
          refine lv_iadd hx hb dX10_handler_107 ?_
          refine lv_topi (nm_r (e' := (nI ((160 * q_live) + (n1.toInt.toNat)))) (nI_add (160 * q_live) (n1.toInt.toNat)) ?_)
          refine va_iald hx hb hK hP 8 0 rfl rfl (vr_in (by first | omega | (clear hP hD hS hl hQ; grind)) (by decide)) dX10_handler_108 ?_
          refine lv_topi (nm_r (e' := (f_catchOf ((160 * q_live) + (n1.toInt.toNat)))) (vr_ld (by first | omega | (clear hP hD hS hl hQ; grind))) ?_)
          refine lv_icmp_ne (tgt := 140) hx hb dX10_handler_109 (by decide) (fun kc10 => ?_) (fun kc10 => ?_)
          · have kn11 : ¬ (f_catchOf ((160 * q_live) + xn5_81)).toInt = (f_catchOf ((160 * q_live) + (n1.toInt.toNat))).toInt := fun q => kc10 (Int32.toInt_inj.mp q)
            refine lv_iconst (v := 0) hx hb dX10_handler_140 (by decide) ?_
            refine lv_istore (lv' := [(4, .int 0), (0, .ref h), (1, .int n1), (2, .int n2), (3, .int (nI (160 * q_live))), (5, .int (nI xn5_81))]) hx hb dX10_handler_141 hl (by decide) rfl (fun ls hl => ?_)
            refine lv_iinc (v := (nI (xn5_81 + 1))) (lv' := [(5, .int (nI (xn5_81 + 1))), (4, .int 0), (0, .ref h), (1, .int n1), (2, .int n2), (3, .int (nI (160 * q_live)))]) hx hb dX10_handler_143 hl (k := 5) rfl (nI_add xn5_81 1) (by decide) rfl (fun ls hl => ?_)
            refine lv_goto (tgt := 81) hx hb dX10_handler_146 (by decide) ?_
            exact ih81 0 (xn5_81 + 1) (by first | omega | (clear hP hD hS hl hQ; grind)) (hj81_0) (by first | assumption | omega | (clear hP hD hS hl hQ; grind)) H locs ls hP hD hS (lv_sub hl [2, 3, 4, 5, 1, 0] rfl)
          · have kn12 : (f_catchOf ((160 * q_live) + xn5_81)).toInt = (f_catchOf ((160 * q_live) + (n1.toInt.toNat))).toInt := congrArg Int32.toInt kc10
            refine lv_aload_n hx hb dX10_handler_112 rfl (lv_at hl 0 rfl) ?_
            refine lv_aload_n hx hb dX10_handler_113 rfl (lv_at hl 0 rfl) ?_
            refine va_get (D := D) (ci := 10) (v := .ref (a 8)) (C := RX10) (T := TX10) (N := 96) hx hb hts inlX10 hown hK hP 0 rfl rfl 17 (by decide) (hts _ q201) (fun _ h => h) rfl dX10_handler_114 ?_
            refine lv_iload_n hx hb dX10_handler_117 rfl (lv_at hl 3 rfl) ?_
            refine lv_iload hx hb dX10_handler_118 (lv_at hl 5 rfl) ?_
            refine lv_iadd hx hb dX10_handler_120 ?_
            refine lv_topi (nm_r (e' := (nI ((160 * q_live) + xn5_81))) (nI_add (160 * q_live) xn5_81) ?_)
            refine va_iald hx hb hK hP 9 0 rfl rfl (vr_in (by first | omega | (clear hP hD hS hl hQ; grind)) (by decide)) dX10_handler_121 ?_
            refine lv_topi (nm_r (e' := (f_catchKind ((160 * q_live) + xn5_81))) (vr_ld (by first | omega | (clear hP hD hS hl hQ; grind))) ?_)
            refine lv_aload_n hx hb dX10_handler_122 rfl (lv_at hl 0 rfl) ?_
            refine va_get (D := D) (ci := 10) (v := .ref (a 8)) (C := RX10) (T := TX10) (N := 96) hx hb hts inlX10 hown hK hP 0 rfl rfl 17 (by decide) (hts _ q201) (fun _ h => h) rfl dX10_handler_123 ?_
            refine lv_iload_n hx hb dX10_handler_126 rfl (lv_at hl 3 rfl) ?_
            refine lv_iload_n hx hb dX10_handler_127 rfl (lv_at hl 1 rfl) ?_
            refine lv_topi (nm_r (e' := (nI (n1.toInt.toNat))) (nI_of9 (by omega)) ?_)
            refine lv_iadd hx hb dX10_handler_128 ?_
            refine lv_topi (nm_r (e' := (nI ((160 * q_live) + (n1.toInt.toNat)))) (nI_add (160 * q_live) (n1.toInt.toNat)) ?_)
            refine va_iald hx hb hK hP 9 0 rfl rfl (vr_in (by first | omega | (clear hP hD hS hl hQ; grind)) (by decide)) dX10_handler_129 ?_
            refine lv_topi (nm_r (e' := (f_catchKind ((160 * q_live) + (n1.toInt.toNat)))) (vr_ld (by first | omega | (clear hP hD hS hl hQ; grind))) ?_)
            obtain ⟨s9, y1, y2, ⟨k8, hk8, hk9⟩, y4⟩ := hwx.2.1.2.1 n1.toInt.toNat (by omega)
            rw [gsh_in (by omega)] at hk9
            refine lv_topi (nm_r (e' := (nI k8)) hk9 ?_)
            refine vz_Vi3 (As := [.int (f_catchKind ((160 * q_live) + xn5_81)), .int (nI k8)]) (rest := []) hx hb hml hown hts hK hA hP hD hS (r_isAbove l D g H.size k8 ns bl nc nm nk en gS gB h a f_words f_text q_size q_at q_token q_tokenAt q_which q_value q_live q_draft q_hasProgram f_stat f_statements f_entryKind f_entryValue f_firstOf f_catchOf f_catchKind f_catchBlock f_catches f_body f_methods f_above f_kinds q_entries q_blocks q_fault q_faultAt q_faultTold q_checks f_checkHow f_checkAt f_checkValue q_waits f_wait f_waitValue q_deep q_isOver q_piled f_pileKind f_pileStatement f_pileBlock f_pileLast q_planned f_planStatement f_planPart f_planTime f_planKind f_hasRun q_slot f_told f_tape f_failedKind f_cause f_underFirst f_underNext f_failedAt f_underWay f_traces f_closings f_enteredOf q_left q_ended q_signal q_signalValue q_frames f_frameKind f_frameStatement f_frameNow f_pending f_pendingValue f_firstResource f_openedOf f_caught q_acts f_actVar f_actRow f_actMethod f_actStatement q_rows f_rowSize f_rowItem f_passed q_planning q_aloneStatement q_alonePart q_aloneTime q_quiet f_quietStatement f_quietPart f_quietTime f_stack q_stacked q_wrong f_wayOut q_wayOuts (f_catchKind ((160 * q_live) + xn5_81)) (by first | assumption | omega | (clear hP hD hS hl hQ; grind)) (by first | assumption | omega | (clear hP hD hS hl hQ; grind)) (by first | assumption | omega | (clear hP hD hS hl hQ; grind))) kv_X10_466 ⟨Nat.le_of_ble_eq_true rfl, Nat.le_of_ble_eq_true rfl⟩ (q0 := 0) (ci := 10) rfl rfl rfl  hl.1 (Nat.le_of_ble_eq_true rfl) dX10_handler_130 ⟨Nat.le_refl _, Nat.le_refl _⟩ rfl (fun v13 _ H locs hz14 _ hP hD hS => ?_)
            refine lv_if_eq (tgt := 140) hx hb dX10_handler_133 (by decide) (fun kc15 => ?_) (fun kc15 => ?_)
            · have kn16 : v13.toInt = 0 := congrArg Int32.toInt kc15
              refine lv_iconst (v := 0) hx hb dX10_handler_140 (by decide) ?_
              refine lv_istore (lv' := [(4, .int 0), (0, .ref h), (1, .int n1), (2, .int n2), (3, .int (nI (160 * q_live))), (5, .int (nI xn5_81))]) hx hb dX10_handler_141 hl (by decide) rfl (fun ls hl => ?_)
              refine lv_iinc (v := (nI (xn5_81 + 1))) (lv' := [(5, .int (nI (xn5_81 + 1))), (4, .int 0), (0, .ref h), (1, .int n1), (2, .int n2), (3, .int (nI (160 * q_live)))]) hx hb dX10_handler_143 hl (k := 5) rfl (nI_add xn5_81 1) (by decide) rfl (fun ls hl => ?_)
              refine lv_goto (tgt := 81) hx hb dX10_handler_146 (by decide) ?_
              exact ih81 0 (xn5_81 + 1) (by first | omega | (clear hP hD hS hl hQ; grind)) (hj81_0) (by first | assumption | omega | (clear hP hD hS hl hQ; grind)) H locs ls hP hD hS (lv_sub hl [2, 3, 4, 5, 1, 0] rfl)
            · have kn17 : ¬ v13.toInt = 0 := fun q => kc15 (Int32.toInt_inj.mp q)
              refine lv_iconst (v := 1) hx hb dX10_handler_136 (by decide) ?_
              refine lv_goto (tgt := 141) hx hb dX10_handler_137 (by decide) ?_
              refine lv_istore (lv' := [(4, .int 1), (0, .ref h), (1, .int n1), (2, .int n2), (3, .int (nI (160 * q_live))), (5, .int (nI xn5_81))]) hx hb dX10_handler_141 hl (by decide) rfl (fun ls hl => ?_)
              refine lv_iinc (v := (nI (xn5_81 + 1))) (lv' := [(5, .int (nI (xn5_81 + 1))), (4, .int 1), (0, .ref h), (1, .int n1), (2, .int n2), (3, .int (nI (160 * q_live)))]) hx hb dX10_handler_143 hl (k := 5) rfl (nI_add xn5_81 1) (by decide) rfl (fun ls hl => ?_)
              refine lv_goto (tgt := 81) hx hb dX10_handler_146 (by decide) ?_
              exact ih81 1 (xn5_81 + 1) (by first | omega | (clear hP hD hS hl hQ; grind)) (hj81_0) (by first | assumption | omega | (clear hP hD hS hl hQ; grind)) H locs ls hP hD hS (lv_sub hl [2, 3, 4, 5, 1, 0] rfl)
  refine lv_aload_n hx hb dX10_handler_0 rfl (lv_at hl 0 rfl) ?_
  refine va_get (D := D) (ci := 10) (v := .int q_hasProgram) (C := RX10) (T := TX10) (N := 96) hx hb hts inlX10 hown hK hP 0 rfl rfl 10 (by decide) (hts _ q748) (fun _ h => h) rfl dX10_handler_1 ?_
  refine lv_if_eq (tgt := 35) hx hb dX10_handler_4 (by decide) (fun kc1 => ?_) (fun kc1 => ?_)
  · have kn2 : q_hasProgram.toInt = 0 := congrArg Int32.toInt kc1
    refine lv_iconst (v := (-1)) hx hb dX10_handler_35 (by decide) ?_
    rw [hQ]
    exact vz_iret3 hx hb hr hlk hK hP hD hS () trivial rfl (Nat.le_refl 0) (Nat.le_refl 0) dX10_handler_36
  · have kn3 : ¬ q_hasProgram.toInt = 0 := fun q => kc1 (Int32.toInt_inj.mp q)
    obtain ⟨ns, bl, nc, nm, nk, en, gS, gB, hwx⟩ := WLX_of (hwl kc1)
    have hns8 : ns ≤ 80 := hwx.2.1.2.2.2.2.1
    have hnc1 : nc ≤ 160 := hwx.2.1.2.2.2.2.2.2.1
    have hnm8 : nm ≤ 8 := hwx.2.1.2.2.2.2.2.2.2.1
    have hnk1 : nk ≤ 16 := hwx.2.1.2.2.2.2.2.2.2.2
    have hcn : f_statements q_live = nI ns := hwx.2.2.2.2.1
    have hcc : f_catches q_live = nI nc := hwx.2.2.2.2.2.1
    have hcm_ : f_methods q_live = nI nm := hwx.2.2.2.2.2.2.1
    have hck_ : f_kinds q_live = nI nk := hwx.2.2.2.2.2.2.2
    have hni : (f_statements q_live).toInt = (ns : Int) := by rw [hcn]; exact nI_toInt (by omega)
    have hci : (f_catches q_live).toInt = (nc : Int) := by rw [hcc]; exact nI_toInt (by omega)
    have hmi : (f_methods q_live).toInt = (nm : Int) := by rw [hcm_]; exact nI_toInt (by omega)
    refine lv_iload_n hx hb dX10_handler_7 rfl (lv_at hl 1 rfl) ?_
    refine lv_iconst (v := 0) hx hb dX10_handler_8 (by decide) ?_
    refine lv_aload_n hx hb dX10_handler_9 rfl (lv_at hl 0 rfl) ?_
    refine va_get (D := D) (ci := 10) (v := .ref (a 10)) (C := RX10) (T := TX10) (N := 96) hx hb hts inlX10 hown hK hP 0 rfl rfl 19 (by decide) (hts _ q203) (fun _ h => h) rfl dX10_handler_10 ?_
    refine lv_aload_n hx hb dX10_handler_13 rfl (lv_at hl 0 rfl) ?_
    refine va_get (D := D) (ci := 10) (v := .int (nI q_live)) (C := RX10) (T := TX10) (N := 96) hx hb hts inlX10 hown hK hP 0 rfl rfl 8 (by decide) (hts _ q254) (fun _ h => h) rfl dX10_handler_14 ?_
    refine va_iald hx hb hK hP 11 0 rfl rfl (vr_in (by first | omega | (clear hP hD hS hl hQ; grind)) (by decide)) dX10_handler_17 ?_
    refine lv_topi (nm_r (e' := (f_catches q_live)) (vr_ld (by first | omega | (clear hP hD hS hl hQ; grind))) ?_)
    refine lv_topi (nm_r (e' := (nI nc)) hcc ?_)
    refine lv_iconst (v := 1) hx hb dX10_handler_18 (by decide) ?_
    refine lv_isub hx hb dX10_handler_19 ?_
    have hzn := zmn (n := nc) (by omega)
    refine vz_Si4 (n9 := 1) (bs2 := fun u : Unit => [rmW g h a f_words f_text q_size q_at q_token q_tokenAt q_which q_value q_live q_draft q_hasProgram f_stat f_statements f_entryKind f_entryValue f_firstOf f_catchOf f_catchKind f_catchBlock f_catches f_body f_methods f_above f_kinds q_entries q_blocks q_fault q_faultAt q_faultTold q_checks f_checkHow f_checkAt f_checkValue q_waits f_wait f_waitValue q_deep q_isOver q_piled f_pileKind f_pileStatement f_pileBlock f_pileLast q_planned f_planStatement f_planPart f_planTime f_planKind f_hasRun q_slot f_told f_tape f_failedKind f_cause f_underFirst f_underNext f_failedAt f_underWay f_traces f_closings f_enteredOf q_left q_ended q_signal q_signalValue q_frames f_frameKind f_frameStatement f_frameNow f_pending f_pendingValue f_firstResource f_openedOf f_caught q_acts f_actVar f_actRow f_actMethod f_actStatement q_rows f_rowSize f_rowItem f_passed q_planning q_aloneStatement q_alonePart q_aloneTime q_quiet f_quietStatement f_quietPart f_quietTime f_stack q_stacked q_wrong f_wayOut q_wayOuts]) (br := [rmW g h a f_words f_text q_size q_at q_token q_tokenAt q_which q_value q_live q_draft q_hasProgram f_stat f_statements f_entryKind f_entryValue f_firstOf f_catchOf f_catchKind f_catchBlock f_catches f_body f_methods f_above f_kinds q_entries q_blocks q_fault q_faultAt q_faultTold q_checks f_checkHow f_checkAt f_checkValue q_waits f_wait f_waitValue q_deep q_isOver q_piled f_pileKind f_pileStatement f_pileBlock f_pileLast q_planned f_planStatement f_planPart f_planTime f_planKind f_hasRun q_slot f_told f_tape f_failedKind f_cause f_underFirst f_underNext f_failedAt f_underWay f_traces f_closings f_enteredOf q_left q_ended q_signal q_signalValue q_frames f_frameKind f_frameStatement f_frameNow f_pending f_pendingValue f_firstResource f_openedOf f_caught q_acts f_actVar f_actRow f_actMethod f_actStatement q_rows f_rowSize f_rowItem f_passed q_planning q_aloneStatement q_alonePart q_aloneTime q_quiet f_quietStatement f_quietPart f_quietTime f_stack q_stacked q_wrong f_wayOut q_wayOuts]) (As := [.int n1, .int 0, .int ((nI nc) - 1)]) (rest := []) hx hb hml hown hts hK hA hP hD hS (r_in l D g H.size n1 0 ((nI nc) - 1)) ks_X10_239 ⟨Nat.le_of_ble_eq_true rfl, Nat.le_of_ble_eq_true rfl⟩ [] [0] rfl (by decide) rfl (fun _ => rfl) (fun _ => rfl) hl.1 (Nat.le_of_ble_eq_true rfl) dX10_handler_20 ⟨Nat.le_refl _, Nat.le_refl _⟩ rfl (fun v4 _ H locs hz5 _ hP hD hS => ?_)
    rcases hz5 with ⟨rfl, hb6⟩ | ⟨rfl, hb6⟩
    · have ei7 : (0 : Int32).toInt = 0 := rfl
      refine lv_if_eq (tgt := 35) hx hb dX10_handler_23 (by decide) (fun h9 => absurd h9 (by decide)) (fun _ => ?_)
      refine lv_iload_n hx hb dX10_handler_26 rfl (lv_at hl 2 rfl) ?_
      refine lv_iconst (v := 0) hx hb dX10_handler_27 (by decide) ?_
      refine lv_iconst (v := 2) hx hb dX10_handler_28 (by decide) ?_
      refine vz_Si4 (n9 := 1) (bs2 := fun u : Unit => [rmW g h a f_words f_text q_size q_at q_token q_tokenAt q_which q_value q_live q_draft q_hasProgram f_stat f_statements f_entryKind f_entryValue f_firstOf f_catchOf f_catchKind f_catchBlock f_catches f_body f_methods f_above f_kinds q_entries q_blocks q_fault q_faultAt q_faultTold q_checks f_checkHow f_checkAt f_checkValue q_waits f_wait f_waitValue q_deep q_isOver q_piled f_pileKind f_pileStatement f_pileBlock f_pileLast q_planned f_planStatement f_planPart f_planTime f_planKind f_hasRun q_slot f_told f_tape f_failedKind f_cause f_underFirst f_underNext f_failedAt f_underWay f_traces f_closings f_enteredOf q_left q_ended q_signal q_signalValue q_frames f_frameKind f_frameStatement f_frameNow f_pending f_pendingValue f_firstResource f_openedOf f_caught q_acts f_actVar f_actRow f_actMethod f_actStatement q_rows f_rowSize f_rowItem f_passed q_planning q_aloneStatement q_alonePart q_aloneTime q_quiet f_quietStatement f_quietPart f_quietTime f_stack q_stacked q_wrong f_wayOut q_wayOuts]) (br := [rmW g h a f_words f_text q_size q_at q_token q_tokenAt q_which q_value q_live q_draft q_hasProgram f_stat f_statements f_entryKind f_entryValue f_firstOf f_catchOf f_catchKind f_catchBlock f_catches f_body f_methods f_above f_kinds q_entries q_blocks q_fault q_faultAt q_faultTold q_checks f_checkHow f_checkAt f_checkValue q_waits f_wait f_waitValue q_deep q_isOver q_piled f_pileKind f_pileStatement f_pileBlock f_pileLast q_planned f_planStatement f_planPart f_planTime f_planKind f_hasRun q_slot f_told f_tape f_failedKind f_cause f_underFirst f_underNext f_failedAt f_underWay f_traces f_closings f_enteredOf q_left q_ended q_signal q_signalValue q_frames f_frameKind f_frameStatement f_frameNow f_pending f_pendingValue f_firstResource f_openedOf f_caught q_acts f_actVar f_actRow f_actMethod f_actStatement q_rows f_rowSize f_rowItem f_passed q_planning q_aloneStatement q_alonePart q_aloneTime q_quiet f_quietStatement f_quietPart f_quietTime f_stack q_stacked q_wrong f_wayOut q_wayOuts]) (As := [.int n2, .int 0, .int 2]) (rest := []) hx hb hml hown hts hK hA hP hD hS (r_in l D g H.size n2 0 2) ks_X10_239 ⟨Nat.le_of_ble_eq_true rfl, Nat.le_of_ble_eq_true rfl⟩ [] [0] rfl (by decide) rfl (fun _ => rfl) (fun _ => rfl) hl.1 (Nat.le_of_ble_eq_true rfl) dX10_handler_29 ⟨Nat.le_refl _, Nat.le_refl _⟩ rfl (fun v8 _ H locs hz9 _ hP hD hS => ?_)
      rcases hz9 with ⟨rfl, hb10⟩ | ⟨rfl, hb10⟩
      · have ei11 : (0 : Int32).toInt = 0 := rfl
        have ei12 : (2 : Int32).toInt = 2 := rfl
        refine lv_if_ne (tgt := 37) hx hb dX10_handler_32 (by decide) (fun _ => ?_) (fun h9 => absurd h9 (by decide))
        refine lv_sipush (v := 160) hx hb dX10_handler_37 (by decide) ?_
        refine lv_aload_n hx hb dX10_handler_40 rfl (lv_at hl 0 rfl) ?_
        refine va_get (D := D) (ci := 10) (v := .int (nI q_live)) (C := RX10) (T := TX10) (N := 96) hx hb hts inlX10 hown hK hP 0 rfl rfl 8 (by decide) (hts _ q254) (fun _ h => h) rfl dX10_handler_41 ?_
        refine lv_imul hx hb dX10_handler_44 ?_
        refine lv_topi (nm_r (e' := (nI (160 * q_live))) (vz_mul 160 q_live) ?_)
        refine lv_istore_n (lv' := [(3, .int (nI (160 * q_live))), (0, .ref h), (1, .int n1), (2, .int n2)]) hx hb dX10_handler_45 rfl hl (by decide) rfl (fun ls hl => ?_)
        refine lv_iload_n hx hb dX10_handler_46 rfl (lv_at hl 3 rfl) ?_
        refine lv_iconst (v := 2) hx hb dX10_handler_47 (by decide) ?_
        refine lv_icmp_ge (tgt := 75) hx hb dX10_handler_48 (by decide) (fun kc13 => ?_) (fun kc13 => ?_)
        · have kn14 : n2.toInt ≥ 2 := Int32.le_iff_toInt_le.mp kc13
          refine lv_iconst (v := 0) hx hb dX10_handler_75 (by decide) ?_
          refine lv_istore (lv' := [(4, .int 0), (3, .int (nI (160 * q_live))), (0, .ref h), (1, .int n1), (2, .int n2)]) hx hb dX10_handler_76 hl (by decide) rfl (fun ls hl => ?_)
          refine lv_iconst (v := 0) hx hb dX10_handler_78 (by decide) ?_
          refine lv_istore (lv' := [(5, .int 0), (4, .int 0), (3, .int (nI (160 * q_live))), (0, .ref h), (1, .int n1), (2, .int n2)]) hx hb dX10_handler_79 hl (by decide) rfl (fun ls hl => ?_)
          exact J81 (n1.toInt.toNat - 0 + 1) 0 0 (Nat.lt_succ_self _) (⟨kc1, by omega, by rw [hci]; omega⟩) (by first | assumption | omega | (clear hP hD hS hl hQ; grind)) H locs ls hP hD hS (lv_sub hl [3, 4, 5, 2, 1, 0] rfl)
        · have kn15 : ¬ n2.toInt ≥ 2 := fun q => kc13 (Int32.le_iff_toInt_le.mpr q)
          refine lv_iload_n hx hb dX10_handler_51 rfl (lv_at hl 3 rfl) ?_
          refine lv_if_ne (tgt := 66) hx hb dX10_handler_52 (by decide) (fun kc16 => ?_) (fun kc16 => ?_)
          · have kn17 : ¬ n2.toInt = 0 := fun q => kc16 (Int32.toInt_inj.mp q)
            refine lv_aload_n hx hb dX10_handler_66 rfl (lv_at hl 1 rfl) ?_
            refine va_get (D := D) (ci := 10) (v := .ref (a 8)) (C := RX10) (T := TX10) (N := 96) hx hb hts inlX10 hown hK hP 0 rfl rfl 17 (by decide) (hts _ q201) (fun _ h => h) rfl dX10_handler_67 ?_
            refine lv_iload_n hx hb dX10_handler_70 rfl (lv_at hl 0 rfl) ?_
            refine lv_iload_n hx hb dX10_handler_71 rfl (lv_at hl 2 rfl) ?_
            refine lv_topi (nm_r (e' := (nI (n1.toInt.toNat))) (nI_of9 (by omega)) ?_)
            refine lv_iadd hx hb dX10_handler_72 ?_
            refine lv_topi (nm_r (e' := (nI ((160 * q_live) + (n1.toInt.toNat)))) (nI_add (160 * q_live) (n1.toInt.toNat)) ?_)
            refine va_iald hx hb hK hP 9 0 rfl rfl (vr_in (by first | omega | (clear hP hD hS hl hQ; grind)) (by decide)) dX10_handler_73 ?_
            refine lv_topi (nm_r (e' := (f_catchKind ((160 * q_live) + (n1.toInt.toNat)))) (vr_ld (by first | omega | (clear hP hD hS hl hQ; grind))) ?_)
            rw [hQ]
            exact vz_iret3 hx hb hr hlk hK hP hD hS () trivial rfl (Nat.le_refl 0) (Nat.le_refl 0) dX10_handler_74
          · have kn18 : n2.toInt = 0 := congrArg Int32.toInt kc16
            refine lv_aload_n hx hb dX10_handler_55 rfl (lv_at hl 1 rfl) ?_
            refine va_get (D := D) (ci := 10) (v := .ref (a 7)) (C := RX10) (T := TX10) (N := 96) hx hb hts inlX10 hown hK hP 0 rfl rfl 16 (by decide) (hts _ q200) (fun _ h => h) rfl dX10_handler_56 ?_
            refine lv_iload_n hx hb dX10_handler_59 rfl (lv_at hl 0 rfl) ?_
            refine lv_iload_n hx hb dX10_handler_60 rfl (lv_at hl 2 rfl) ?_
            refine lv_topi (nm_r (e' := (nI (n1.toInt.toNat))) (nI_of9 (by omega)) ?_)
            refine lv_iadd hx hb dX10_handler_61 ?_
            refine lv_topi (nm_r (e' := (nI ((160 * q_live) + (n1.toInt.toNat)))) (nI_add (160 * q_live) (n1.toInt.toNat)) ?_)
            refine va_iald hx hb hK hP 8 0 rfl rfl (vr_in (by first | omega | (clear hP hD hS hl hQ; grind)) (by decide)) dX10_handler_62 ?_
            refine lv_topi (nm_r (e' := (f_catchOf ((160 * q_live) + (n1.toInt.toNat)))) (vr_ld (by first | omega | (clear hP hD hS hl hQ; grind))) ?_)
            refine lv_goto (tgt := 74) hx hb dX10_handler_63 (by decide) ?_
            rw [hQ]
            exact vz_iret3 hx hb hr hlk hK hP hD hS () trivial rfl (Nat.le_refl 0) (Nat.le_refl 0) dX10_handler_74
      · have ei19 : (0 : Int32).toInt = 0 := rfl
        have ei20 : (2 : Int32).toInt = 2 := rfl
        refine lv_if_ne (tgt := 37) hx hb dX10_handler_32 (by decide) (fun h9 => absurd (by decide) h9) (fun _ => ?_)
        refine lv_iconst (v := (-1)) hx hb dX10_handler_35 (by decide) ?_
        rw [hQ]
        exact vz_iret3 hx hb hr hlk hK hP hD hS () trivial rfl (Nat.le_refl 0) (Nat.le_refl 0) dX10_handler_36
    · have ei21 : (0 : Int32).toInt = 0 := rfl
      refine lv_if_eq (tgt := 35) hx hb dX10_handler_23 (by decide) (fun _ => ?_) (fun h9 => absurd (by decide) h9)
      refine lv_iconst (v := (-1)) hx hb dX10_handler_35 (by decide) ?_
      rw [hQ]
      exact vz_iret3 hx hb hr hlk hK hP hD hS () trivial rfl (Nat.le_refl 0) (Nat.le_refl 0) dX10_handler_36
