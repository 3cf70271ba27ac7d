theorem sy_idx {x : Int32} {s q N : Nat} (h : ∃ j : Nat, j ≤ N ∧ x.toInt = (j : Int) - 1 ∧ s + j = q + N) (hx : ¬ x < 0) (hN : q + N ≤ 1000) : s < 1000 ∧ (∃ j : Nat, j ≤ N ∧ (x + (-1)).toInt = (j : Int) - 1 ∧ (s + 1) + j = q + N) ∧ ((x + (-1)).toInt + 1).toNat < (x.toInt + 1).toNat := by
  obtain ⟨j, z1, z2, z3⟩ := h
  obtain ⟨d1, d2⟩ := vz_dn hx
  generalize x.toInt = X at *
  generalize (x + (-1)).toInt = Y at *
  refine ⟨by omega, ⟨j - 1, by omega, by omega, by omega⟩, by omega⟩
theorem sy_end {x : Int32} {s q N : Nat} (h : ∃ j : Nat, j ≤ N ∧ x.toInt = (j : Int) - 1 ∧ s + j = q + N) (hx : x < 0) : s = q + N := by
  obtain ⟨j, z1, z2, z3⟩ := h
  have d : x.toInt < 0 := Int32.lt_iff_toInt_lt.mp hx
  generalize x.toInt = X at *
  omega
theorem sy_n {n : Int32} (h1 : 1 ≤ n.toInt) (h8 : n.toInt ≤ 8) : ¬ (n < 1 ∨ 8 < n) := by
  intro z
  have e8 : (8 : Int32).toInt = 8 := rfl
  have e1 : (1 : Int32).toInt = 1 := rfl
  rcases z with z | z
  · have z2 := Int32.lt_iff_toInt_lt.mp z; omega
  · have z2 := Int32.lt_iff_toInt_lt.mp z; omega
theorem sy_nn {n : Int32} (h : ¬ ((1 : Int32).toInt ≤ n.toInt ∧ n.toInt ≤ (8 : Int32).toInt)) : n < 1 ∨ 8 < n := by
  have e8 : (8 : Int32).toInt = 8 := rfl
  have e1 : (1 : Int32).toInt = 1 := rfl
  by_cases q : n.toInt < 1
  · exact Or.inl (Int32.lt_iff_toInt_lt.mpr (by omega))
  · exact Or.inr (Int32.lt_iff_toInt_lt.mpr (by omega))
theorem dX10_say_0 : decode cX10_say 0 = .ok (.iload_n 3, 1) := by decide +kernel
theorem dX10_say_1 : decode cX10_say 1 = .ok (.iconst 1, 1) := by decide +kernel
theorem dX10_say_2 : decode cX10_say 2 = .ok (.bipush 8, 2) := by decide +kernel
theorem dX10_say_4 : decode cX10_say 4 = .ok (.invokestatic 239, 3) := by decide +kernel
theorem dX10_say_7 : decode cX10_say 7 = .ok (.ifCond .ne 5, 3) := by decide +kernel
theorem dX10_say_10 : decode cX10_say 10 = .ok (.iconst (-1), 1) := by decide +kernel
theorem dX10_say_11 : decode cX10_say 11 = .ok (.ireturn, 1) := by decide +kernel
theorem dX10_say_12 : decode cX10_say 12 = .ok (.aload_n 0, 1) := by decide +kernel
theorem dX10_say_13 : decode cX10_say 13 = .ok (.getfield 243, 3) := by decide +kernel
theorem dX10_say_16 : decode cX10_say 16 = .ok (.iload_n 3, 1) := by decide +kernel
theorem dX10_say_17 : decode cX10_say 17 = .ok (.iadd, 1) := by decide +kernel
theorem dX10_say_18 : decode cX10_say 18 = .ok (.sipush 1000, 3) := by decide +kernel
theorem dX10_say_21 : decode cX10_say 21 = .ok (.if_icmp .le 6, 3) := by decide +kernel
theorem dX10_say_24 : decode cX10_say 24 = .ok (.bipush (-2), 2) := by decide +kernel
theorem dX10_say_26 : decode cX10_say 26 = .ok (.ireturn, 1) := by decide +kernel
theorem dX10_say_27 : decode cX10_say 27 = .ok (.iload_n 3, 1) := by decide +kernel
theorem dX10_say_28 : decode cX10_say 28 = .ok (.iconst 1, 1) := by decide +kernel
theorem dX10_say_29 : decode cX10_say 29 = .ok (.isub, 1) := by decide +kernel
theorem dX10_say_30 : decode cX10_say 30 = .ok (.istore 4, 2) := by decide +kernel
theorem dX10_say_32 : decode cX10_say 32 = .ok (.iload 4, 2) := by decide +kernel
theorem dX10_say_34 : decode cX10_say 34 = .ok (.ifCond .lt 37, 3) := by decide +kernel
theorem dX10_say_37 : decode cX10_say 37 = .ok (.aload_n 0, 1) := by decide +kernel
theorem dX10_say_38 : decode cX10_say 38 = .ok (.getfield 55, 3) := by decide +kernel
theorem dX10_say_41 : decode cX10_say 41 = .ok (.aload_n 0, 1) := by decide +kernel
theorem dX10_say_42 : decode cX10_say 42 = .ok (.getfield 243, 3) := by decide +kernel
theorem dX10_say_45 : decode cX10_say 45 = .ok (.lload_n 1, 1) := by decide +kernel
theorem dX10_say_46 : decode cX10_say 46 = .ok (.bipush 8, 2) := by decide +kernel
theorem dX10_say_48 : decode cX10_say 48 = .ok (.iload 4, 2) := by decide +kernel
theorem dX10_say_50 : decode cX10_say 50 = .ok (.imul, 1) := by decide +kernel
theorem dX10_say_51 : decode cX10_say 51 = .ok (.lshr, 1) := by decide +kernel
theorem dX10_say_52 : decode cX10_say 52 = .ok (.l2i, 1) := by decide +kernel
theorem dX10_say_53 : decode cX10_say 53 = .ok (.i2b, 1) := by decide +kernel
theorem dX10_say_54 : decode cX10_say 54 = .ok (.bastore, 1) := by decide +kernel
theorem dX10_say_55 : decode cX10_say 55 = .ok (.aload_n 0, 1) := by decide +kernel
theorem dX10_say_56 : decode cX10_say 56 = .ok (.dup, 1) := by decide +kernel
theorem dX10_say_57 : decode cX10_say 57 = .ok (.getfield 243, 3) := by decide +kernel
theorem dX10_say_60 : decode cX10_say 60 = .ok (.iconst 1, 1) := by decide +kernel
theorem dX10_say_61 : decode cX10_say 61 = .ok (.iadd, 1) := by decide +kernel
theorem dX10_say_62 : decode cX10_say 62 = .ok (.putfield 243, 3) := by decide +kernel
theorem dX10_say_65 : decode cX10_say 65 = .ok (.iinc 4 (-1), 3) := by decide +kernel
theorem dX10_say_68 : decode cX10_say 68 = .ok (.goto (-36), 3) := by decide +kernel
theorem dX10_say_71 : decode cX10_say 71 = .ok (.aload_n 0, 1) := by decide +kernel
theorem dX10_say_72 : decode cX10_say 72 = .ok (.getfield 243, 3) := by decide +kernel
theorem dX10_say_75 : decode cX10_say 75 = .ok (.ireturn, 1) := by decide +kernel
set_option maxHeartbeats 8000000 in
set_option maxRecDepth 100000 in
theorem r_say (l : Launch) (D : va_G) (g : Nat → ClassId)   (sz : Nat) (h : Nat) (a : Nat → Nat) (f_words : Nat → Int64) (f_text : Nat → Int32) (q_size : Nat) (q_at : Nat) (q_token : Int32) (q_tokenAt : Nat) (q_which : Int32) (q_value : Nat) (q_live : Nat) (q_draft : Nat) (q_hasProgram : Int32) (f_stat : Nat → Int32) (f_statements : Nat → Int32) (f_entryKind : Nat → Int32) (f_entryValue : Nat → Int32) (f_firstOf : Nat → Int32) (f_catchOf : Nat → Int32) (f_catchKind : Nat → Int32) (f_catchBlock : Nat → Int32) (f_catches : Nat → Int32) (f_body : Nat → Int32) (f_methods : Nat → Int32) (f_above : Nat → Int32) (f_kinds : Nat → Int32) (q_entries : Nat) (q_blocks : Nat) (q_fault : Int32) (q_faultAt : Int32) (q_faultTold : Int32) (q_checks : Nat) (f_checkHow : Nat → Int32) (f_checkAt : Nat → Int32) (f_checkValue : Nat → Int32) (q_waits : Nat) (f_wait : Nat → Int32) (f_waitValue : Nat → Int32) (q_deep : Int32) (q_isOver : Int32) (q_piled : Nat) (f_pileKind : Nat → Int32) (f_pileStatement : Nat → Int32) (f_pileBlock : Nat → Int32) (f_pileLast : Nat → Int32) (q_planned : Nat) (f_planStatement : Nat → Int32) (f_planPart : Nat → Int32) (f_planTime : Nat → Int32) (f_planKind : Nat → Int32) (f_hasRun : Nat → Int32) (q_slot : Nat) (f_told : Nat → Int32) (f_tape : Nat → Int32) (f_failedKind : Nat → Int32) (f_cause : Nat → Int32) (f_underFirst : Nat → Int32) (f_underNext : Nat → Int32) (f_failedAt : Nat → Int32) (f_underWay : Nat → Int32) (f_traces : Nat → Int32) (f_closings : Nat → Int32) (f_enteredOf : Nat → Int32) (q_left : Nat) (q_ended : Int32) (q_signal : Int32) (q_signalValue : Int32) (q_frames : Nat) (f_frameKind : Nat → Int32) (f_frameStatement : Nat → Int32) (f_frameNow : Nat → Int32) (f_pending : Nat → Int32) (f_pendingValue : Nat → Int32) (f_firstResource : Nat → Int32) (f_openedOf : Nat → Int32) (f_caught : Nat → Int32) (q_acts : Nat) (f_actVar : Nat → Int32) (f_actRow : Nat → Int32) (f_actMethod : Nat → Int32) (f_actStatement : Nat → Int32) (q_rows : Nat) (f_rowSize : Nat → Int32) (f_rowItem : Nat → Int32) (f_passed : Nat → Int32) (q_planning : Int32) (q_aloneStatement : Int32) (q_alonePart : Int32) (q_aloneTime : Int32) (q_quiet : Nat) (f_quietStatement : Nat → Int32) (f_quietPart : Nat → Int32) (f_quietTime : Nat → Int32) (f_stack : Nat → Int32) (q_stacked : Nat) (q_wrong : Int32) (f_wayOut : Nat → Int32) (q_wayOuts : Nat) (b1 : Int64) (n1 : Int32) (hgi : GI f_words q_size q_value q_live q_hasProgram f_stat f_entryKind f_entryValue f_firstOf f_catchOf f_catchKind f_catchBlock f_body f_above f_statements f_catches f_methods f_kinds q_planned f_planKind f_told f_underWay q_quiet) : vz_Mi l D (tyG g) yX10_say cX10_say 5 1 22 0 0 .int [.ref h, .long b1, .int n1] sz (vz_w [rmW g h a f_words f_text q_size q_at q_token q_tokenAt q_which q_value q_live q_draft q_hasProgram f_stat f_statements f_entryKind f_entryValue f_firstOf f_catchOf f_catchKind f_catchBlock f_catches f_body f_methods f_above f_kinds q_entries q_blocks q_fault q_faultAt q_faultTold q_checks f_checkHow f_checkAt f_checkValue q_waits f_wait f_waitValue q_deep q_isOver q_piled f_pileKind f_pileStatement f_pileBlock f_pileLast q_planned f_planStatement f_planPart f_planTime f_planKind f_hasRun q_slot f_told f_tape f_failedKind f_cause f_underFirst f_underNext f_failedAt f_underWay f_traces f_closings f_enteredOf q_left q_ended q_signal q_signalValue q_frames f_frameKind f_frameStatement f_frameNow f_pending f_pendingValue f_firstResource f_openedOf f_caught q_acts f_actVar f_actRow f_actMethod f_actStatement q_rows f_rowSize f_rowItem f_passed q_planning q_aloneStatement q_alonePart q_aloneTime q_quiet f_quietStatement f_quietPart f_quietTime f_stack q_stacked q_wrong f_wayOut q_wayOuts]) (fun r (u : (Nat → Int32) × (Nat)) => (GI f_words u.2 q_value q_live q_hasProgram f_stat f_entryKind f_entryValue f_firstOf f_catchOf f_catchKind f_catchBlock f_body f_above f_statements f_catches f_methods f_kinds q_planned f_planKind f_told f_underWay q_quiet) ∧ (r = sayR q_size n1 ∧ u.2 = sayN q_size n1)) (fun u => vz_w [rmW g h a f_words u.1 u.2 q_at q_token q_tokenAt q_which q_value q_live q_draft q_hasProgram f_stat f_statements f_entryKind f_entryValue f_firstOf f_catchOf f_catchKind f_catchBlock f_catches f_body f_methods f_above f_kinds q_entries q_blocks q_fault q_faultAt q_faultTold q_checks f_checkHow f_checkAt f_checkValue q_waits f_wait f_waitValue q_deep q_isOver q_piled f_pileKind f_pileStatement f_pileBlock f_pileLast q_planned f_planStatement f_planPart f_planTime f_planKind f_hasRun q_slot f_told f_tape f_failedKind f_cause f_underFirst f_underNext f_failedAt f_underWay f_traces f_closings f_enteredOf q_left q_ended q_signal q_signalValue q_frames f_frameKind f_frameStatement f_frameNow f_pending f_pendingValue f_firstResource f_openedOf f_caught q_acts f_actVar f_actRow f_actMethod f_actStatement q_rows f_rowSize f_rowItem f_passed q_planning q_aloneStatement q_alonePart q_aloneTime q_quiet f_quietStatement f_quietPart f_quietTime f_stack q_stacked q_wrong f_wayOut q_wayOuts]) := by
  refine vz_siQ (by decide) (Nat.le_of_ble_eq_true rfl) (fun p e s m args below meth c hx hb hr hml hts hown hlk hin hK hsz A hA H locs hP hD hS ls hl Q hQ => ?_)
  have hl : lv_has ls 5 [(0, .ref h), (1, .long b1), (3, .int n1)] := hl
  obtain ⟨hwd, hsz, hva, hlv, hwl, hpl, htt, huw, hqu⟩ := hgi
  have J32 : ∀ fu32 : Nat, ∀ (x4_32 : Int32), ∀ (mf_text_32 : Nat → Int32), ∀ (mq_size_32 : Nat), (x4_32.toInt + 1).toNat < fu32 → (∃ j : Nat, j ≤ n1.toInt.toNat ∧ x4_32.toInt = (j : Int) - 1 ∧ mq_size_32 + j = q_size + n1.toInt.toNat) → (1 ≤ n1.toInt ∧ n1.toInt ≤ 8 ∧ q_size + n1.toInt.toNat ≤ 1000) → ∀ (H : Heap) (locs : List Loc) (ls : Array Slot), va_P D vwCl (vz_w [rmW g h a f_words mf_text_32 mq_size_32 q_at q_token q_tokenAt q_which q_value q_live q_draft q_hasProgram f_stat f_statements f_entryKind f_entryValue f_firstOf f_catchOf f_catchKind f_catchBlock f_catches f_body f_methods f_above f_kinds q_entries q_blocks q_fault q_faultAt q_faultTold q_checks f_checkHow f_checkAt f_checkValue q_waits f_wait f_waitValue q_deep q_isOver q_piled f_pileKind f_pileStatement f_pileBlock f_pileLast q_planned f_planStatement f_planPart f_planTime f_planKind f_hasRun q_slot f_told f_tape f_failedKind f_cause f_underFirst f_underNext f_failedAt f_underWay f_traces f_closings f_enteredOf q_left q_ended q_signal q_signalValue q_frames f_frameKind f_frameStatement f_frameNow f_pending f_pendingValue f_firstResource f_openedOf f_caught q_acts f_actVar f_actRow f_actMethod f_actStatement q_rows f_rowSize f_rowItem f_passed q_planning q_aloneStatement q_alonePart q_aloneTime q_quiet f_quietStatement f_quietPart f_quietTime f_stack q_stacked q_wrong f_wayOut q_wayOuts]) H → va_D A (vz_w [rmW g h a f_words mf_text_32 mq_size_32 q_at q_token q_tokenAt q_which q_value q_live q_draft q_hasProgram f_stat f_statements f_entryKind f_entryValue f_firstOf f_catchOf f_catchKind f_catchBlock f_catches f_body f_methods f_above f_kinds q_entries q_blocks q_fault q_faultAt q_faultTold q_checks f_checkHow f_checkAt f_checkValue q_waits f_wait f_waitValue q_deep q_isOver q_piled f_pileKind f_pileStatement f_pileBlock f_pileLast q_planned f_planStatement f_planPart f_planTime f_planKind f_hasRun q_slot f_told f_tape f_failedKind f_cause f_underFirst f_underNext f_failedAt f_underWay f_traces f_closings f_enteredOf q_left q_ended q_signal q_signalValue q_frames f_frameKind f_frameStatement f_frameNow f_pending f_pendingValue f_firstResource f_openedOf f_caught q_acts f_actVar f_actRow f_actMethod f_actStatement q_rows f_rowSize f_rowItem f_passed q_planning q_aloneStatement q_alonePart q_aloneTime q_quiet f_quietStatement f_quietPart f_quietTime f_stack q_stacked q_wrong f_wayOut q_wayOuts]) → va_S A s.heap H locs → lv_has ls 5 [(0, .ref h), (1, .long b1), (3, .int n1), (4, .int x4_32)] → W p l e { frames := 1, cells := 0, slots := 0, locals := 22 } s m args below meth c H locs 0 0 Q (F0 m 32 ls []) := by
    intro fu32
    induction fu32 with
    | zero => intro x4_32 mf_text_32 mq_size_32 hf32 hj32_0 hj32_1 H locs ls hP hD hS hl; exact absurd hf32 (Nat.not_lt_zero _)
    | succ fu32 ih32 =>
      intro x4_32 mf_text_32 mq_size_32 hf32 hj32_0 hj32_1 H locs ls hP hD hS hl
      refine lv_iload hx hb dX10_say_32 (lv_at hl 3 rfl) ?_
      refine lv_if_lt (tgt := 71) hx hb dX10_say_34 (by decide) (fun kc1 => ?_) (fun kc1 => ?_)
      · refine lv_aload_n hx hb dX10_say_71 rfl (lv_at hl 0 rfl) ?_
        refine va_get (D := D) (ci := 10) (v := .int (nI mq_size_32)) (C := RX10) (T := TX10) (N := 96) hx hb hts inlX10 hown hK hP 0 rfl rfl 2 (by decide) (hts _ q272) (fun _ h => h) rfl dX10_say_72 ?_
        rw [hQ]
        exact vz_iret3 hx hb hr hlk hK hP hD hS (mf_text_32, mq_size_32) (⟨(by (try dsimp only) <;> (exact ⟨hwd, by rw [sy_end hj32_0 kc1]; exact hj32_1.2.2, hva, hlv, hwl, hpl, htt, huw, hqu⟩)), (by (try dsimp only) <;> (have hnN : n1 = nI n1.toInt.toNat := nI_of9 (by omega); have hn9 := sy_n hj32_1.1 hj32_1.2.1; have hT9 : nI (q_size + n1.toInt.toNat) ≤ 1000 := (vr_le (a := q_size + n1.toInt.toNat) (b := 1000) (by omega) (by omega)).mpr hj32_1.2.2; have q := say_c (R := q_size) (N := n1.toInt.toNat) (by omega) (by omega) (by rw [← hnN]; exact hn9) hT9; rw [← hnN] at q; rw [sy_end hj32_0 kc1]; exact q))⟩) rfl (Nat.le_refl 0) (Nat.le_refl 0) dX10_say_75
      · have hsy := sy_idx hj32_0 kc1 hj32_1.2.2
        have hbz := hsy.1
        refine lv_aload_n hx hb dX10_say_37 rfl (lv_at hl 0 rfl) ?_
        refine va_get (D := D) (ci := 10) (v := .ref (a 1)) (C := RX10) (T := TX10) (N := 96) hx hb hts inlX10 hown hK hP 0 rfl rfl 1 (by decide) (hts _ q194) (fun _ h => h) rfl dX10_say_38 ?_
        refine lv_aload_n hx hb dX10_say_41 rfl (lv_at hl 0 rfl) ?_
        refine va_get (D := D) (ci := 10) (v := .int (nI mq_size_32)) (C := RX10) (T := TX10) (N := 96) hx hb hts inlX10 hown hK hP 0 rfl rfl 2 (by decide) (hts _ q272) (fun _ h => h) rfl dX10_say_42 ?_
        refine lv_lload_n hx hb dX10_say_45 rfl (lv_at hl 1 rfl) ?_
        refine lv_bipush (v := 8) hx hb dX10_say_46 (by decide) ?_
        refine lv_iload hx hb dX10_say_48 (lv_at hl 3 rfl) ?_
        refine lv_imul hx hb dX10_say_50 ?_
        refine lv_lshr (v := (b1 >>> (Int32.toInt64 (8 * x4_32) &&& 63))) hx hb dX10_say_51 (rfl) ?_
        refine lv_l2i (v := (Int64.toInt32 (b1 >>> (Int32.toInt64 (8 * x4_32) &&& 63)))) hx hb dX10_say_52 (rfl) ?_
        refine lv_i2b (v := (Int8.toInt32 (Int32.toInt8 (Int64.toInt32 (b1 >>> (Int32.toInt64 (8 * x4_32) &&& 63)))))) hx hb dX10_say_53 rfl ?_
        refine va_bast hx hb hK hP hD hS 2 1 rfl rfl (vr_in (by first | omega | (clear hP hD hS hl hQ; grind)) (by decide)) dX10_say_54 (fun H locs hP hD hS => ?_)
        obtain ⟨f_text_2, hf_text_2, hP, hD⟩ : ∃ z : Nat → Int32, z = upd mf_text_32 mq_size_32 (vp_nar .byte (Int8.toInt32 (Int32.toInt8 (Int64.toInt32 (b1 >>> (Int32.toInt64 (8 * x4_32) &&& 63)))))) ∧ va_P D vwCl (vz_w [rmW g h a f_words z mq_size_32 q_at q_token q_tokenAt q_which q_value q_live q_draft q_hasProgram f_stat f_statements f_entryKind f_entryValue f_firstOf f_catchOf f_catchKind f_catchBlock f_catches f_body f_methods f_above f_kinds q_entries q_blocks q_fault q_faultAt q_faultTold q_checks f_checkHow f_checkAt f_checkValue q_waits f_wait f_waitValue q_deep q_isOver q_piled f_pileKind f_pileStatement f_pileBlock f_pileLast q_planned f_planStatement f_planPart f_planTime f_planKind f_hasRun q_slot f_told f_tape f_failedKind f_cause f_underFirst f_underNext f_failedAt f_underWay f_traces f_closings f_enteredOf q_left q_ended q_signal q_signalValue q_frames f_frameKind f_frameStatement f_frameNow f_pending f_pendingValue f_firstResource f_openedOf f_caught q_acts f_actVar f_actRow f_actMethod f_actStatement q_rows f_rowSize f_rowItem f_passed q_planning q_aloneStatement q_alonePart q_aloneTime q_quiet f_quietStatement f_quietPart f_quietTime f_stack q_stacked q_wrong f_wayOut q_wayOuts]) H ∧ va_D A (vz_w [rmW g h a f_words z mq_size_32 q_at q_token q_tokenAt q_which q_value q_live q_draft q_hasProgram f_stat f_statements f_entryKind f_entryValue f_firstOf f_catchOf f_catchKind f_catchBlock f_catches f_body f_methods f_above f_kinds q_entries q_blocks q_fault q_faultAt q_faultTold q_checks f_checkHow f_checkAt f_checkValue q_waits f_wait f_waitValue q_deep q_isOver q_piled f_pileKind f_pileStatement f_pileBlock f_pileLast q_planned f_planStatement f_planPart f_planTime f_planKind f_hasRun q_slot f_told f_tape f_failedKind f_cause f_underFirst f_underNext f_failedAt f_underWay f_traces f_closings f_enteredOf q_left q_ended q_signal q_signalValue q_frames f_frameKind f_frameStatement f_frameNow f_pending f_pendingValue f_firstResource f_openedOf f_caught q_acts f_actVar f_actRow f_actMethod f_actStatement q_rows f_rowSize f_rowItem f_passed q_planning q_aloneStatement q_alonePart q_aloneTime q_quiet f_quietStatement f_quietPart f_quietTime f_stack q_stacked q_wrong f_wayOut q_wayOuts]) := ⟨_, vr_st (by first | omega | (clear hP hD hS hl hQ; grind)), hP, hD⟩
        refine lv_aload_n hx hb dX10_say_55 rfl (lv_at hl 0 rfl) ?_
        refine lv_dup hx hb dX10_say_56 rfl ?_
        refine va_get (D := D) (ci := 10) (v := .int (nI mq_size_32)) (C := RX10) (T := TX10) (N := 96) hx hb hts inlX10 hown hK hP 0 rfl rfl 2 (by decide) (hts _ q272) (fun _ h => h) rfl dX10_say_57 ?_
        refine lv_iconst (v := 1) hx hb dX10_say_60 (by decide) ?_
        refine lv_iadd hx hb dX10_say_61 ?_
        refine lv_topi (nm_r (e' := (nI (mq_size_32 + 1))) (nI_add mq_size_32 1) ?_)
        refine va_put (D := D) (ci := 10) (v := .int (nI (mq_size_32 + 1))) (ty := .int) (C := RX10) (T := TX10) (N := 96) hx hb hts inlX10 tyX10 tyX10_ok nmX10 hown hK hP hD hS 0 rfl rfl 2 (by decide) (hts _ q272) (fun _ h => h) rfl (by decide +kernel) rfl rfl (Nat.le_of_ble_eq_true rfl) dX10_say_62 (fun H locs hP hD hS => ?_)
        replace hP : va_P D vwCl (vz_w [rmW g h a f_words f_text_2 (mq_size_32 + 1) q_at q_token q_tokenAt q_which q_value q_live q_draft q_hasProgram f_stat f_statements f_entryKind f_entryValue f_firstOf f_catchOf f_catchKind f_catchBlock f_catches f_body f_methods f_above f_kinds q_entries q_blocks q_fault q_faultAt q_faultTold q_checks f_checkHow f_checkAt f_checkValue q_waits f_wait f_waitValue q_deep q_isOver q_piled f_pileKind f_pileStatement f_pileBlock f_pileLast q_planned f_planStatement f_planPart f_planTime f_planKind f_hasRun q_slot f_told f_tape f_failedKind f_cause f_underFirst f_underNext f_failedAt f_underWay f_traces f_closings f_enteredOf q_left q_ended q_signal q_signalValue q_frames f_frameKind f_frameStatement f_frameNow f_pending f_pendingValue f_firstResource f_openedOf f_caught q_acts f_actVar f_actRow f_actMethod f_actStatement q_rows f_rowSize f_rowItem f_passed q_planning q_aloneStatement q_alonePart q_aloneTime q_quiet f_quietStatement f_quietPart f_quietTime f_stack q_stacked q_wrong f_wayOut q_wayOuts]) H := hP
        replace hD : va_D A (vz_w [rmW g h a f_words f_text_2 (mq_size_32 + 1) q_at q_token q_tokenAt q_which q_value q_live q_draft q_hasProgram f_stat f_statements f_entryKind f_entryValue f_firstOf f_catchOf f_catchKind f_catchBlock f_catches f_body f_methods f_above f_kinds q_entries q_blocks q_fault q_faultAt q_faultTold q_checks f_checkHow f_checkAt f_checkValue q_waits f_wait f_waitValue q_deep q_isOver q_piled f_pileKind f_pileStatement f_pileBlock f_pileLast q_planned f_planStatement f_planPart f_planTime f_planKind f_hasRun q_slot f_told f_tape f_failedKind f_cause f_underFirst f_underNext f_failedAt f_underWay f_traces f_closings f_enteredOf q_left q_ended q_signal q_signalValue q_frames f_frameKind f_frameStatement f_frameNow f_pending f_pendingValue f_firstResource f_openedOf f_caught q_acts f_actVar f_actRow f_actMethod f_actStatement q_rows f_rowSize f_rowItem f_passed q_planning q_aloneStatement q_alonePart q_aloneTime q_quiet f_quietStatement f_quietPart f_quietTime f_stack q_stacked q_wrong f_wayOut q_wayOuts]) := hD
        refine lv_iinc (v := (x4_32 + (-1))) (lv' := [(4, .int (x4_32 + (-1))), (0, .ref h), (1, .long b1), (3, .int n1)]) hx hb dX10_say_65 hl (k := 3) rfl (rfl) (by decide) rfl (fun ls hl => ?_)
        refine lv_goto (tgt := 32) hx hb dX10_say_68 (by decide) ?_
        exact ih32 (x4_32 + (-1)) f_text_2 (mq_size_32 + 1) (Nat.lt_of_lt_of_le hsy.2.2 (Nat.le_of_lt_succ hf32)) (hsy.2.1) (hj32_1) H locs ls hP hD hS (lv_sub hl [1, 2, 3, 0] rfl)
  refine lv_iload_n hx hb dX10_say_0 rfl (lv_at hl 2 rfl) ?_
  refine lv_iconst (v := 1) hx hb dX10_say_1 (by decide) ?_
  refine lv_bipush (v := 8) hx hb dX10_say_2 (by decide) ?_
  refine vz_Si4 (n9 := 1) (bs2 := fun u : Unit => [rmW g h a f_words f_text q_size q_at q_token q_tokenAt q_which q_value q_live q_draft q_hasProgram f_stat f_statements f_entryKind f_entryValue f_firstOf f_catchOf f_catchKind f_catchBlock f_catches f_body f_methods f_above f_kinds q_entries q_blocks q_fault q_faultAt q_faultTold q_checks f_checkHow f_checkAt f_checkValue q_waits f_wait f_waitValue q_deep q_isOver q_piled f_pileKind f_pileStatement f_pileBlock f_pileLast q_planned f_planStatement f_planPart f_planTime f_planKind f_hasRun q_slot f_told f_tape f_failedKind f_cause f_underFirst f_underNext f_failedAt f_underWay f_traces f_closings f_enteredOf q_left q_ended q_signal q_signalValue q_frames f_frameKind f_frameStatement f_frameNow f_pending f_pendingValue f_firstResource f_openedOf f_caught q_acts f_actVar f_actRow f_actMethod f_actStatement q_rows f_rowSize f_rowItem f_passed q_planning q_aloneStatement q_alonePart q_aloneTime q_quiet f_quietStatement f_quietPart f_quietTime f_stack q_stacked q_wrong f_wayOut q_wayOuts]) (br := [rmW g h a f_words f_text q_size q_at q_token q_tokenAt q_which q_value q_live q_draft q_hasProgram f_stat f_statements f_entryKind f_entryValue f_firstOf f_catchOf f_catchKind f_catchBlock f_catches f_body f_methods f_above f_kinds q_entries q_blocks q_fault q_faultAt q_faultTold q_checks f_checkHow f_checkAt f_checkValue q_waits f_wait f_waitValue q_deep q_isOver q_piled f_pileKind f_pileStatement f_pileBlock f_pileLast q_planned f_planStatement f_planPart f_planTime f_planKind f_hasRun q_slot f_told f_tape f_failedKind f_cause f_underFirst f_underNext f_failedAt f_underWay f_traces f_closings f_enteredOf q_left q_ended q_signal q_signalValue q_frames f_frameKind f_frameStatement f_frameNow f_pending f_pendingValue f_firstResource f_openedOf f_caught q_acts f_actVar f_actRow f_actMethod f_actStatement q_rows f_rowSize f_rowItem f_passed q_planning q_aloneStatement q_alonePart q_aloneTime q_quiet f_quietStatement f_quietPart f_quietTime f_stack q_stacked q_wrong f_wayOut q_wayOuts]) (As := [.int n1, .int 1, .int 8]) (rest := []) hx hb hml hown hts hK hA hP hD hS (r_in l D g H.size n1 1 8) ks_X10_239 ⟨Nat.le_of_ble_eq_true rfl, Nat.le_of_ble_eq_true rfl⟩ [] [0] rfl (by decide) rfl (fun _ => rfl) (fun _ => rfl) hl.1 (Nat.le_of_ble_eq_true rfl) dX10_say_4 ⟨Nat.le_refl _, Nat.le_refl _⟩ rfl (fun v1 _ H locs hz2 _ hP hD hS => ?_)
  rcases hz2 with ⟨rfl, hb3⟩ | ⟨rfl, hb3⟩
  · have ei4 : (1 : Int32).toInt = 1 := rfl
    have ei5 : (8 : Int32).toInt = 8 := rfl
    refine lv_if_ne (tgt := 12) hx hb dX10_say_7 (by decide) (fun _ => ?_) (fun h9 => absurd h9 (by decide))
    refine lv_aload_n hx hb dX10_say_12 rfl (lv_at hl 0 rfl) ?_
    refine va_get (D := D) (ci := 10) (v := .int (nI q_size)) (C := RX10) (T := TX10) (N := 96) hx hb hts inlX10 hown hK hP 0 rfl rfl 2 (by decide) (hts _ q272) (fun _ h => h) rfl dX10_say_13 ?_
    refine lv_iload_n hx hb dX10_say_16 rfl (lv_at hl 2 rfl) ?_
    refine lv_topi (nm_r (e' := (nI (n1.toInt.toNat))) (nI_of9 (by omega)) ?_)
    refine lv_iadd hx hb dX10_say_17 ?_
    refine lv_topi (nm_r (e' := (nI (q_size + (n1.toInt.toNat)))) (nI_add q_size (n1.toInt.toNat)) ?_)
    refine lv_sipush (v := 1000) hx hb dX10_say_18 (by decide) ?_
    refine lv_icmp_le (tgt := 27) hx hb dX10_say_21 (by decide) (fun kc6 => ?_) (fun kc6 => ?_)
    · try (have kn7 : (q_size + (n1.toInt.toNat)) ≤ 1000 := (vr_le (a := (q_size + (n1.toInt.toNat))) (b := 1000) (by first | omega | (clear hP hD hS hl hQ; grind)) (by first | omega | (clear hP hD hS hl hQ; grind))).mp kc6)
      refine lv_iload_n hx hb dX10_say_27 rfl (lv_at hl 2 rfl) ?_
      refine lv_topi (nm_r (e' := (nI (n1.toInt.toNat))) (nI_of9 (by omega)) ?_)
      refine lv_iconst (v := 1) hx hb dX10_say_28 (by decide) ?_
      refine lv_isub hx hb dX10_say_29 ?_
      refine lv_topi (nm_r (e' := (nI ((n1.toInt.toNat) - 1))) (vr_sub (by first | omega | (clear hP hD hS hl hQ; grind))) ?_)
      refine lv_istore (lv' := [(4, .int (nI ((n1.toInt.toNat) - 1))), (0, .ref h), (1, .long b1), (3, .int n1)]) hx hb dX10_say_30 hl (by decide) rfl (fun ls hl => ?_)
      exact J32 (((nI ((n1.toInt.toNat) - 1)).toInt + 1).toNat + 1) (nI ((n1.toInt.toNat) - 1)) f_text q_size (Nat.lt_succ_self _) (by refine ⟨n1.toInt.toNat, Nat.le_refl _, ?_, rfl⟩; rw [nI_toInt (by omega)]; omega) (⟨by omega, by omega, by omega⟩) H locs ls hP hD hS (lv_sub hl [1, 2, 3, 0] rfl)
    · try (have kn8 : 1000 < (q_size + (n1.toInt.toNat)) := Nat.not_le.mp (fun h9 => kc6 ((vr_le (a := (q_size + (n1.toInt.toNat))) (b := 1000) (by first | omega | (clear hP hD hS hl hQ; grind)) (by first | omega | (clear hP hD hS hl hQ; grind))).mpr h9)))
      refine lv_bipush (v := (-2)) hx hb dX10_say_24 (by decide) ?_
      rw [hQ]
      exact vz_iret3 hx hb hr hlk hK hP hD hS (f_text, q_size) (⟨(by (try dsimp only) <;> (exact ⟨hwd, hsz, hva, hlv, hwl, hpl, htt, huw, hqu⟩)), (by (try dsimp only) <;> (have hnN : n1 = nI n1.toInt.toNat := nI_of9 (by omega); refine say_b (sy_n (by omega) (by omega)) (fun z => ?_); rw [hnN, nI_add] at z; have z2 := (vr_le (a := q_size + n1.toInt.toNat) (b := 1000) (by omega) (by omega)).mp z; omega))⟩) rfl (Nat.le_refl 0) (Nat.le_refl 0) dX10_say_26
  · have ei9 : (1 : Int32).toInt = 1 := rfl
    have ei10 : (8 : Int32).toInt = 8 := rfl
    refine lv_if_ne (tgt := 12) hx hb dX10_say_7 (by decide) (fun h9 => absurd (by decide) h9) (fun _ => ?_)
    refine lv_iconst (v := (-1)) hx hb dX10_say_10 (by decide) ?_
    rw [hQ]
    exact vz_iret3 hx hb hr hlk hK hP hD hS (f_text, q_size) (⟨(by (try dsimp only) <;> (exact ⟨hwd, hsz, hva, hlv, hwl, hpl, htt, huw, hqu⟩)), (by (try dsimp only) <;> (exact say_a (sy_nn hb3)))⟩) rfl (Nat.le_refl 0) (Nat.le_refl 0) dX10_say_11
