theorem zmn {n : Nat} (h : n < 2 ^ 31) : (nI n - 1).toInt = (n : Int) - 1 := by
  rcases Nat.eq_zero_or_pos n with q | q
  · subst q; rfl
  · have e : nI n - 1 = nI (n - 1) := vr_sub (a := n) (b := 1) q
    rw [e, nI_toInt (by omega)]; omega
def PLW (hp : Int32) (kin : Nat → Int32) (lv pn : Nat) (pk : Nat → Int32) : Prop := pn = 0 ∨ (hp ≠ 0 ∧ ∃ nk : Nat, kin lv = nI nk ∧ nk ≤ 16 ∧ pn ≤ 30 ∧ PLK pk pn nk)
/-- what is kept between the calls -/
def GI (wd : Nat → Int64) (sz va lv : Nat) (hp : Int32) (st ek ev fo co ck cb bo ab sts cat met kin : Nat → Int32) (pn : Nat) (pk told uw : Nat → Int32) (qu : Nat) : Prop := HWd wd ∧ sz ≤ 1000 ∧ va ≤ 9999 ∧ lv ≤ 1 ∧ (hp ≠ 0 → WLV st ek ev fo co ck cb bo ab sts cat met kin lv) ∧ PLW hp kin lv pn pk ∧ TOT told ∧ UW uw ∧ qu ≤ 60
theorem plk_of {hp : Int32} {kin : Nat → Int32} {lv pn nk : Nat} {pk : Nat → Int32} (h : PLW hp kin lv pn pk) (e : kin lv = nI nk) (hn : nk ≤ 16) : pn ≤ 30 ∧ PLK pk pn nk := by
  rcases h with h | ⟨-, n2, h1, h2, h3, h4⟩
  · subst h; exact ⟨by decide, fun k hk => absurd hk (Nat.not_lt_zero _)⟩
  · have q : nk = n2 := nI_ij (e.symm.trans h1) (by omega) (by omega)
    subst q; exact ⟨h3, h4⟩
theorem PLK_app {pk : Nat → Int32} {pn nk a : Nat} (h : PLK pk pn nk) (ha : a < nk) : PLK (upd pk pn (nI a)) (pn + 1) nk := by
  intro k hk
  by_cases hq : k = pn
  · rw [hq, upd_at]; exact ⟨a, ha, rfl⟩
  · rw [upd_ne hq]; exact h k (by omega)
theorem dX10_isMethod_0 : decode cX10_isMethod 0 = .ok (.aload_n 0, 1) := by decide +kernel
theorem dX10_isMethod_1 : decode cX10_isMethod 1 = .ok (.getfield 450, 3) := by decide +kernel
theorem dX10_isMethod_4 : decode cX10_isMethod 4 = .ok (.ifCond .eq 26, 3) := by decide +kernel
theorem dX10_isMethod_7 : decode cX10_isMethod 7 = .ok (.iload_n 1, 1) := by decide +kernel
theorem dX10_isMethod_8 : decode cX10_isMethod 8 = .ok (.iconst 0, 1) := by decide +kernel
theorem dX10_isMethod_9 : decode cX10_isMethod 9 = .ok (.aload_n 0, 1) := by decide +kernel
theorem dX10_isMethod_10 : decode cX10_isMethod 10 = .ok (.getfield 90, 3) := by decide +kernel
theorem dX10_isMethod_13 : decode cX10_isMethod 13 = .ok (.aload_n 0, 1) := by decide +kernel
theorem dX10_isMethod_14 : decode cX10_isMethod 14 = .ok (.getfield 235, 3) := by decide +kernel
theorem dX10_isMethod_17 : decode cX10_isMethod 17 = .ok (.iaload, 1) := by decide +kernel
theorem dX10_isMethod_18 : decode cX10_isMethod 18 = .ok (.iconst 1, 1) := by decide +kernel
theorem dX10_isMethod_19 : decode cX10_isMethod 19 = .ok (.isub, 1) := by decide +kernel
theorem dX10_isMethod_20 : decode cX10_isMethod 20 = .ok (.invokestatic 239, 3) := by decide +kernel
theorem dX10_isMethod_23 : decode cX10_isMethod 23 = .ok (.ifCond .eq 7, 3) := by decide +kernel
theorem dX10_isMethod_26 : decode cX10_isMethod 26 = .ok (.iconst 1, 1) := by decide +kernel
theorem dX10_isMethod_27 : decode cX10_isMethod 27 = .ok (.goto 4, 3) := by decide +kernel
theorem dX10_isMethod_30 : decode cX10_isMethod 30 = .ok (.iconst 0, 1) := by decide +kernel
theorem dX10_isMethod_31 : decode cX10_isMethod 31 = .ok (.ireturn, 1) := by decide +kernel
set_option maxHeartbeats 8000000 in
set_option maxRecDepth 100000 in
theorem r_isMethod (l : Launch) (D : va_G) (g : Nat → ClassId)   (sz : Nat) (h : Nat) (a : Nat → Nat) (f_words : Nat → Int64) (f_text : Nat → Int32) (q_size : Nat) (q_at : Nat) (q_token : Int32) (q_tokenAt : Nat) (q_which : Int32) (q_value : Nat) (q_live : Nat) (q_draft : Nat) (q_hasProgram : Int32) (f_stat : Nat → Int32) (f_statements : Nat → Int32) (f_entryKind : Nat → Int32) (f_entryValue : Nat → Int32) (f_firstOf : Nat → Int32) (f_catchOf : Nat → Int32) (f_catchKind : Nat → Int32) (f_catchBlock : Nat → Int32) (f_catches : Nat → Int32) (f_body : Nat → Int32) (f_methods : Nat → Int32) (f_above : Nat → Int32) (f_kinds : Nat → Int32) (q_entries : Nat) (q_blocks : Nat) (q_fault : Int32) (q_faultAt : Int32) (q_faultTold : Int32) (q_checks : Nat) (f_checkHow : Nat → Int32) (f_checkAt : Nat → Int32) (f_checkValue : Nat → Int32) (q_waits : Nat) (f_wait : Nat → Int32) (f_waitValue : Nat → Int32) (q_deep : Int32) (q_isOver : Int32) (q_piled : Nat) (f_pileKind : Nat → Int32) (f_pileStatement : Nat → Int32) (f_pileBlock : Nat → Int32) (f_pileLast : Nat → Int32) (q_planned : Nat) (f_planStatement : Nat → Int32) (f_planPart : Nat → Int32) (f_planTime : Nat → Int32) (f_planKind : Nat → Int32) (f_hasRun : Nat → Int32) (q_slot : Nat) (f_told : Nat → Int32) (f_tape : Nat → Int32) (f_failedKind : Nat → Int32) (f_cause : Nat → Int32) (f_underFirst : Nat → Int32) (f_underNext : Nat → Int32) (f_failedAt : Nat → Int32) (f_underWay : Nat → Int32) (f_traces : Nat → Int32) (f_closings : Nat → Int32) (f_enteredOf : Nat → Int32) (q_left : Nat) (q_ended : Int32) (q_signal : Int32) (q_signalValue : Int32) (q_frames : Nat) (f_frameKind : Nat → Int32) (f_frameStatement : Nat → Int32) (f_frameNow : Nat → Int32) (f_pending : Nat → Int32) (f_pendingValue : Nat → Int32) (f_firstResource : Nat → Int32) (f_openedOf : Nat → Int32) (f_caught : Nat → Int32) (q_acts : Nat) (f_actVar : Nat → Int32) (f_actRow : Nat → Int32) (f_actMethod : Nat → Int32) (f_actStatement : Nat → Int32) (q_rows : Nat) (f_rowSize : Nat → Int32) (f_rowItem : Nat → Int32) (f_passed : Nat → Int32) (q_planning : Int32) (q_aloneStatement : Int32) (q_alonePart : Int32) (q_aloneTime : Int32) (q_quiet : Nat) (f_quietStatement : Nat → Int32) (f_quietPart : Nat → Int32) (f_quietTime : Nat → Int32) (f_stack : Nat → Int32) (q_stacked : Nat) (q_wrong : Int32) (f_wayOut : Nat → Int32) (q_wayOuts : Nat) (n1 : Int32) (hlv : q_live ≤ 1) (hwl : q_hasProgram ≠ 0 → WLV f_stat f_entryKind f_entryValue f_firstOf f_catchOf f_catchKind f_catchBlock f_body f_above f_statements f_catches f_methods f_kinds q_live) : vz_Mi l D (tyG g) yX10_isMethod cX10_isMethod 2 1 22 0 0 .boolean [.ref h, .int n1] sz (vz_w [rmW g h a f_words f_text q_size q_at q_token q_tokenAt q_which q_value q_live q_draft q_hasProgram f_stat f_statements f_entryKind f_entryValue f_firstOf f_catchOf f_catchKind f_catchBlock f_catches f_body f_methods f_above f_kinds q_entries q_blocks q_fault q_faultAt q_faultTold q_checks f_checkHow f_checkAt f_checkValue q_waits f_wait f_waitValue q_deep q_isOver q_piled f_pileKind f_pileStatement f_pileBlock f_pileLast q_planned f_planStatement f_planPart f_planTime f_planKind f_hasRun q_slot f_told f_tape f_failedKind f_cause f_underFirst f_underNext f_failedAt f_underWay f_traces f_closings f_enteredOf q_left q_ended q_signal q_signalValue q_frames f_frameKind f_frameStatement f_frameNow f_pending f_pendingValue f_firstResource f_openedOf f_caught q_acts f_actVar f_actRow f_actMethod f_actStatement q_rows f_rowSize f_rowItem f_passed q_planning q_aloneStatement q_alonePart q_aloneTime q_quiet f_quietStatement f_quietPart f_quietTime f_stack q_stacked q_wrong f_wayOut q_wayOuts]) (fun r (u : Unit) => ((r = 1 ∧ (q_hasProgram ≠ 0 ∧ 0 ≤ n1.toInt ∧ n1.toInt < (f_methods q_live).toInt)) ∨ (r = 0 ∧ (True)))) (fun u => vz_w [rmW g h a f_words f_text q_size q_at q_token q_tokenAt q_which q_value q_live q_draft q_hasProgram f_stat f_statements f_entryKind f_entryValue f_firstOf f_catchOf f_catchKind f_catchBlock f_catches f_body f_methods f_above f_kinds q_entries q_blocks q_fault q_faultAt q_faultTold q_checks f_checkHow f_checkAt f_checkValue q_waits f_wait f_waitValue q_deep q_isOver q_piled f_pileKind f_pileStatement f_pileBlock f_pileLast q_planned f_planStatement f_planPart f_planTime f_planKind f_hasRun q_slot f_told f_tape f_failedKind f_cause f_underFirst f_underNext f_failedAt f_underWay f_traces f_closings f_enteredOf q_left q_ended q_signal q_signalValue q_frames f_frameKind f_frameStatement f_frameNow f_pending f_pendingValue f_firstResource f_openedOf f_caught q_acts f_actVar f_actRow f_actMethod f_actStatement q_rows f_rowSize f_rowItem f_passed q_planning q_aloneStatement q_alonePart q_aloneTime q_quiet f_quietStatement f_quietPart f_quietTime f_stack q_stacked q_wrong f_wayOut q_wayOuts]) := by
  refine vz_siQ (by decide) (Nat.le_of_ble_eq_true rfl) (fun p e s m args below meth c hx hb hr hml hts hown hlk hin hK hsz A hA H locs hP hD hS ls hl Q hQ => ?_)
  have hl : lv_has ls 2 [(0, .ref h), (1, .int n1)] := hl
  refine lv_aload_n hx hb dX10_isMethod_0 rfl (lv_at hl 0 rfl) ?_
  refine va_get (D := D) (ci := 10) (v := .int q_hasProgram) (C := RX10) (T := TX10) (N := 96) hx hb hts inlX10 hown hK hP 0 rfl rfl 10 (by decide) (hts _ q748) (fun _ h => h) rfl dX10_isMethod_1 ?_
  refine lv_if_eq (tgt := 30) hx hb dX10_isMethod_4 (by decide) (fun kc1 => ?_) (fun kc1 => ?_)
  · have kn2 : q_hasProgram.toInt = 0 := congrArg Int32.toInt kc1
    refine lv_iconst (v := 0) hx hb dX10_isMethod_30 (by decide) ?_
    rw [hQ]
    exact vz_zret3 hx hb hr hlk hK hP hD hS () (Or.inr ⟨rfl, trivial⟩) rfl (Nat.le_refl 0) (Nat.le_refl 0) (by decide) dX10_isMethod_31
  · have kn3 : ¬ q_hasProgram.toInt = 0 := fun q => kc1 (Int32.toInt_inj.mp q)
    obtain ⟨ns, bl, nc, nm, nk, en, gS, gB, hwx⟩ := WLX_of (hwl kc1)
    have hns8 : ns ≤ 80 := hwx.2.1.2.2.2.2.1
    have hnc1 : nc ≤ 160 := hwx.2.1.2.2.2.2.2.2.1
    have hnm8 : nm ≤ 8 := hwx.2.1.2.2.2.2.2.2.2.1
    have hnk1 : nk ≤ 16 := hwx.2.1.2.2.2.2.2.2.2.2
    have hcn : f_statements q_live = nI ns := hwx.2.2.2.2.1
    have hcc : f_catches q_live = nI nc := hwx.2.2.2.2.2.1
    have hcm_ : f_methods q_live = nI nm := hwx.2.2.2.2.2.2.1
    have hck_ : f_kinds q_live = nI nk := hwx.2.2.2.2.2.2.2
    have hni : (f_statements q_live).toInt = (ns : Int) := by rw [hcn]; exact nI_toInt (by omega)
    have hci : (f_catches q_live).toInt = (nc : Int) := by rw [hcc]; exact nI_toInt (by omega)
    have hmi : (f_methods q_live).toInt = (nm : Int) := by rw [hcm_]; exact nI_toInt (by omega)
    refine lv_iload_n hx hb dX10_isMethod_7 rfl (lv_at hl 1 rfl) ?_
    refine lv_iconst (v := 0) hx hb dX10_isMethod_8 (by decide) ?_
    refine lv_aload_n hx hb dX10_isMethod_9 rfl (lv_at hl 0 rfl) ?_
    refine va_get (D := D) (ci := 10) (v := .ref (a 12)) (C := RX10) (T := TX10) (N := 96) hx hb hts inlX10 hown hK hP 0 rfl rfl 21 (by decide) (hts _ q205) (fun _ h => h) rfl dX10_isMethod_10 ?_
    refine lv_aload_n hx hb dX10_isMethod_13 rfl (lv_at hl 0 rfl) ?_
    refine va_get (D := D) (ci := 10) (v := .int (nI q_live)) (C := RX10) (T := TX10) (N := 96) hx hb hts inlX10 hown hK hP 0 rfl rfl 8 (by decide) (hts _ q254) (fun _ h => h) rfl dX10_isMethod_14 ?_
    refine va_iald hx hb hK hP 13 0 rfl rfl (vr_in (by first | omega | (clear hP hD hS hl hQ; grind)) (by decide)) dX10_isMethod_17 ?_
    refine lv_topi (nm_r (e' := (f_methods q_live)) (vr_ld (by first | omega | (clear hP hD hS hl hQ; grind))) ?_)
    refine lv_topi (nm_r (e' := (nI nm)) hcm_ ?_)
    refine lv_iconst (v := 1) hx hb dX10_isMethod_18 (by decide) ?_
    refine lv_isub hx hb dX10_isMethod_19 ?_
    have hzn := zmn (n := nm) (by omega)
    refine vz_Si4 (n9 := 1) (bs2 := fun u : Unit => [rmW g h a f_words f_text q_size q_at q_token q_tokenAt q_which q_value q_live q_draft q_hasProgram f_stat f_statements f_entryKind f_entryValue f_firstOf f_catchOf f_catchKind f_catchBlock f_catches f_body f_methods f_above f_kinds q_entries q_blocks q_fault q_faultAt q_faultTold q_checks f_checkHow f_checkAt f_checkValue q_waits f_wait f_waitValue q_deep q_isOver q_piled f_pileKind f_pileStatement f_pileBlock f_pileLast q_planned f_planStatement f_planPart f_planTime f_planKind f_hasRun q_slot f_told f_tape f_failedKind f_cause f_underFirst f_underNext f_failedAt f_underWay f_traces f_closings f_enteredOf q_left q_ended q_signal q_signalValue q_frames f_frameKind f_frameStatement f_frameNow f_pending f_pendingValue f_firstResource f_openedOf f_caught q_acts f_actVar f_actRow f_actMethod f_actStatement q_rows f_rowSize f_rowItem f_passed q_planning q_aloneStatement q_alonePart q_aloneTime q_quiet f_quietStatement f_quietPart f_quietTime f_stack q_stacked q_wrong f_wayOut q_wayOuts]) (br := [rmW g h a f_words f_text q_size q_at q_token q_tokenAt q_which q_value q_live q_draft q_hasProgram f_stat f_statements f_entryKind f_entryValue f_firstOf f_catchOf f_catchKind f_catchBlock f_catches f_body f_methods f_above f_kinds q_entries q_blocks q_fault q_faultAt q_faultTold q_checks f_checkHow f_checkAt f_checkValue q_waits f_wait f_waitValue q_deep q_isOver q_piled f_pileKind f_pileStatement f_pileBlock f_pileLast q_planned f_planStatement f_planPart f_planTime f_planKind f_hasRun q_slot f_told f_tape f_failedKind f_cause f_underFirst f_underNext f_failedAt f_underWay f_traces f_closings f_enteredOf q_left q_ended q_signal q_signalValue q_frames f_frameKind f_frameStatement f_frameNow f_pending f_pendingValue f_firstResource f_openedOf f_caught q_acts f_actVar f_actRow f_actMethod f_actStatement q_rows f_rowSize f_rowItem f_passed q_planning q_aloneStatement q_alonePart q_aloneTime q_quiet f_quietStatement f_quietPart f_quietTime f_stack q_stacked q_wrong f_wayOut q_wayOuts]) (As := [.int n1, .int 0, .int ((nI nm) - 1)]) (rest := []) hx hb hml hown hts hK hA hP hD hS (r_in l D g H.size n1 0 ((nI nm) - 1)) ks_X10_239 ⟨Nat.le_of_ble_eq_true rfl, Nat.le_of_ble_eq_true rfl⟩ [] [0] rfl (by decide) rfl (fun _ => rfl) (fun _ => rfl) hl.1 (Nat.le_of_ble_eq_true rfl) dX10_isMethod_20 ⟨Nat.le_refl _, Nat.le_refl _⟩ rfl (fun v4 _ H locs hz5 _ hP hD hS => ?_)
    rcases hz5 with ⟨rfl, hb6⟩ | ⟨rfl, hb6⟩
    · have ei7 : (0 : Int32).toInt = 0 := rfl
      refine lv_if_eq (tgt := 30) hx hb dX10_isMethod_23 (by decide) (fun h9 => absurd h9 (by decide)) (fun _ => ?_)
      refine lv_iconst (v := 1) hx hb dX10_isMethod_26 (by decide) ?_
      refine lv_goto (tgt := 31) hx hb dX10_isMethod_27 (by decide) ?_
      rw [hQ]
      exact vz_zret3 hx hb hr hlk hK hP hD hS () (Or.inl ⟨rfl, ⟨kc1, by omega, by rw [hmi]; omega⟩⟩) rfl (Nat.le_refl 0) (Nat.le_refl 0) (by decide) dX10_isMethod_31
    · have ei8 : (0 : Int32).toInt = 0 := rfl
      refine lv_if_eq (tgt := 30) hx hb dX10_isMethod_23 (by decide) (fun _ => ?_) (fun h9 => absurd (by decide) h9)
      refine lv_iconst (v := 0) hx hb dX10_isMethod_30 (by decide) ?_
      rw [hQ]
      exact vz_zret3 hx hb hr hlk hK hP hD hS () (Or.inr ⟨rfl, trivial⟩) rfl (Nat.le_refl 0) (Nat.le_refl 0) (by decide) dX10_isMethod_31
theorem dX10_isStatement_0 : decode cX10_isStatement 0 = .ok (.aload_n 0, 1) := by decide +kernel
theorem dX10_isStatement_1 : decode cX10_isStatement 1 = .ok (.getfield 450, 3) := by decide +kernel
theorem dX10_isStatement_4 : decode cX10_isStatement 4 = .ok (.ifCond .eq 26, 3) := by decide +kernel
theorem dX10_isStatement_7 : decode cX10_isStatement 7 = .ok (.iload_n 1, 1) := by decide +kernel
theorem dX10_isStatement_8 : decode cX10_isStatement 8 = .ok (.iconst 0, 1) := by decide +kernel
theorem dX10_isStatement_9 : decode cX10_isStatement 9 = .ok (.aload_n 0, 1) := by decide +kernel
theorem dX10_isStatement_10 : decode cX10_isStatement 10 = .ok (.getfield 63, 3) := by decide +kernel
theorem dX10_isStatement_13 : decode cX10_isStatement 13 = .ok (.aload_n 0, 1) := by decide +kernel
theorem dX10_isStatement_14 : decode cX10_isStatement 14 = .ok (.getfield 235, 3) := by decide +kernel
theorem dX10_isStatement_17 : decode cX10_isStatement 17 = .ok (.iaload, 1) := by decide +kernel
theorem dX10_isStatement_18 : decode cX10_isStatement 18 = .ok (.iconst 1, 1) := by decide +kernel
theorem dX10_isStatement_19 : decode cX10_isStatement 19 = .ok (.isub, 1) := by decide +kernel
theorem dX10_isStatement_20 : decode cX10_isStatement 20 = .ok (.invokestatic 239, 3) := by decide +kernel
theorem dX10_isStatement_23 : decode cX10_isStatement 23 = .ok (.ifCond .eq 7, 3) := by decide +kernel
theorem dX10_isStatement_26 : decode cX10_isStatement 26 = .ok (.iconst 1, 1) := by decide +kernel
theorem dX10_isStatement_27 : decode cX10_isStatement 27 = .ok (.goto 4, 3) := by decide +kernel
theorem dX10_isStatement_30 : decode cX10_isStatement 30 = .ok (.iconst 0, 1) := by decide +kernel
theorem dX10_isStatement_31 : decode cX10_isStatement 31 = .ok (.ireturn, 1) := by decide +kernel
set_option maxHeartbeats 8000000 in
set_option maxRecDepth 100000 in
theorem r_isStatement (l : Launch) (D : va_G) (g : Nat → ClassId)   (sz : Nat) (h : Nat) (a : Nat → Nat) (f_words : Nat → Int64) (f_text : Nat → Int32) (q_size : Nat) (q_at : Nat) (q_token : Int32) (q_tokenAt : Nat) (q_which : Int32) (q_value : Nat) (q_live : Nat) (q_draft : Nat) (q_hasProgram : Int32) (f_stat : Nat → Int32) (f_statements : Nat → Int32) (f_entryKind : Nat → Int32) (f_entryValue : Nat → Int32) (f_firstOf : Nat → Int32) (f_catchOf : Nat → Int32) (f_catchKind : Nat → Int32) (f_catchBlock : Nat → Int32) (f_catches : Nat → Int32) (f_body : Nat → Int32) (f_methods : Nat → Int32) (f_above : Nat → Int32) (f_kinds : Nat → Int32) (q_entries : Nat) (q_blocks : Nat) (q_fault : Int32) (q_faultAt : Int32) (q_faultTold : Int32) (q_checks : Nat) (f_checkHow : Nat → Int32) (f_checkAt : Nat → Int32) (f_checkValue : Nat → Int32) (q_waits : Nat) (f_wait : Nat → Int32) (f_waitValue : Nat → Int32) (q_deep : Int32) (q_isOver : Int32) (q_piled : Nat) (f_pileKind : Nat → Int32) (f_pileStatement : Nat → Int32) (f_pileBlock : Nat → Int32) (f_pileLast : Nat → Int32) (q_planned : Nat) (f_planStatement : Nat → Int32) (f_planPart : Nat → Int32) (f_planTime : Nat → Int32) (f_planKind : Nat → Int32) (f_hasRun : Nat → Int32) (q_slot : Nat) (f_told : Nat → Int32) (f_tape : Nat → Int32) (f_failedKind : Nat → Int32) (f_cause : Nat → Int32) (f_underFirst : Nat → Int32) (f_underNext : Nat → Int32) (f_failedAt : Nat → Int32) (f_underWay : Nat → Int32) (f_traces : Nat → Int32) (f_closings : Nat → Int32) (f_enteredOf : Nat → Int32) (q_left : Nat) (q_ended : Int32) (q_signal : Int32) (q_signalValue : Int32) (q_frames : Nat) (f_frameKind : Nat → Int32) (f_frameStatement : Nat → Int32) (f_frameNow : Nat → Int32) (f_pending : Nat → Int32) (f_pendingValue : Nat → Int32) (f_firstResource : Nat → Int32) (f_openedOf : Nat → Int32) (f_caught : Nat → Int32) (q_acts : Nat) (f_actVar : Nat → Int32) (f_actRow : Nat → Int32) (f_actMethod : Nat → Int32) (f_actStatement : Nat → Int32) (q_rows : Nat) (f_rowSize : Nat → Int32) (f_rowItem : Nat → Int32) (f_passed : Nat → Int32) (q_planning : Int32) (q_aloneStatement : Int32) (q_alonePart : Int32) (q_aloneTime : Int32) (q_quiet : Nat) (f_quietStatement : Nat → Int32) (f_quietPart : Nat → Int32) (f_quietTime : Nat → Int32) (f_stack : Nat → Int32) (q_stacked : Nat) (q_wrong : Int32) (f_wayOut : Nat → Int32) (q_wayOuts : Nat) (n1 : Int32) (hlv : q_live ≤ 1) (hwl : q_hasProgram ≠ 0 → WLV f_stat f_entryKind f_entryValue f_firstOf f_catchOf f_catchKind f_catchBlock f_body f_above f_statements f_catches f_methods f_kinds q_live) : vz_Mi l D (tyG g) yX10_isStatement cX10_isStatement 2 1 22 0 0 .boolean [.ref h, .int n1] sz (vz_w [rmW g h a f_words f_text q_size q_at q_token q_tokenAt q_which q_value q_live q_draft q_hasProgram f_stat f_statements f_entryKind f_entryValue f_firstOf f_catchOf f_catchKind f_catchBlock f_catches f_body f_methods f_above f_kinds q_entries q_blocks q_fault q_faultAt q_faultTold q_checks f_checkHow f_checkAt f_checkValue q_waits f_wait f_waitValue q_deep q_isOver q_piled f_pileKind f_pileStatement f_pileBlock f_pileLast q_planned f_planStatement f_planPart f_planTime f_planKind f_hasRun q_slot f_told f_tape f_failedKind f_cause f_underFirst f_underNext f_failedAt f_underWay f_traces f_closings f_enteredOf q_left q_ended q_signal q_signalValue q_frames f_frameKind f_frameStatement f_frameNow f_pending f_pendingValue f_firstResource f_openedOf f_caught q_acts f_actVar f_actRow f_actMethod f_actStatement q_rows f_rowSize f_rowItem f_passed q_planning q_aloneStatement q_alonePart q_aloneTime q_quiet f_quietStatement f_quietPart f_quietTime f_stack q_stacked q_wrong f_wayOut q_wayOuts]) (fun r (u : Unit) => ((r = 1 ∧ (q_hasProgram ≠ 0 ∧ 0 ≤ n1.toInt ∧ n1.toInt < (f_statements q_live).toInt)) ∨ (r = 0 ∧ (True)))) (fun u => vz_w [rmW g h a f_words f_text q_size q_at q_token q_tokenAt q_which q_value q_live q_draft q_hasProgram f_stat f_statements f_entryKind f_entryValue f_firstOf f_catchOf f_catchKind f_catchBlock f_catches f_body f_methods f_above f_kinds q_entries q_blocks q_fault q_faultAt q_faultTold q_checks f_checkHow f_checkAt f_checkValue q_waits f_wait f_waitValue q_deep q_isOver q_piled f_pileKind f_pileStatement f_pileBlock f_pileLast q_planned f_planStatement f_planPart f_planTime f_planKind f_hasRun q_slot f_told f_tape f_failedKind f_cause f_underFirst f_underNext f_failedAt f_underWay f_traces f_closings f_enteredOf q_left q_ended q_signal q_signalValue q_frames f_frameKind f_frameStatement f_frameNow f_pending f_pendingValue f_firstResource f_openedOf f_caught q_acts f_actVar f_actRow f_actMethod f_actStatement q_rows f_rowSize f_rowItem f_passed q_planning q_aloneStatement q_alonePart q_aloneTime q_quiet f_quietStatement f_quietPart f_quietTime f_stack q_stacked q_wrong f_wayOut q_wayOuts]) := by
  refine vz_siQ (by decide) (Nat.le_of_ble_eq_true rfl) (fun p e s m args below meth c hx hb hr hml hts hown hlk hin hK hsz A hA H locs hP hD hS ls hl Q hQ => ?_)
  have hl : lv_has ls 2 [(0, .ref h), (1, .int n1)] := hl
  refine lv_aload_n hx hb dX10_isStatement_0 rfl (lv_at hl 0 rfl) ?_
  refine va_get (D := D) (ci := 10) (v := .int q_hasProgram) (C := RX10) (T := TX10) (N := 96) hx hb hts inlX10 hown hK hP 0 rfl rfl 10 (by decide) (hts _ q748) (fun _ h => h) rfl dX10_isStatement_1 ?_
  refine lv_if_eq (tgt := 30) hx hb dX10_isStatement_4 (by decide) (fun kc1 => ?_) (fun kc1 => ?_)
  · have kn2 : q_hasProgram.toInt = 0 := congrArg Int32.toInt kc1
    refine lv_iconst (v := 0) hx hb dX10_isStatement_30 (by decide) ?_
    rw [hQ]
    exact vz_zret3 hx hb hr hlk hK hP hD hS () (Or.inr ⟨rfl, trivial⟩) rfl (Nat.le_refl 0) (Nat.le_refl 0) (by decide) dX10_isStatement_31
  · have kn3 : ¬ q_hasProgram.toInt = 0 := fun q => kc1 (Int32.toInt_inj.mp q)
    obtain ⟨ns, bl, nc, nm, nk, en, gS, gB, hwx⟩ := WLX_of (hwl kc1)
    have hns8 : ns ≤ 80 := hwx.2.1.2.2.2.2.1
    have hnc1 : nc ≤ 160 := hwx.2.1.2.2.2.2.2.2.1
    have hnm8 : nm ≤ 8 := hwx.2.1.2.2.2.2.2.2.2.1
    have hnk1 : nk ≤ 16 := hwx.2.1.2.2.2.2.2.2.2.2
    have hcn : f_statements q_live = nI ns := hwx.2.2.2.2.1
    have hcc : f_catches q_live = nI nc := hwx.2.2.2.2.2.1
    have hcm_ : f_methods q_live = nI nm := hwx.2.2.2.2.2.2.1
    have hck_ : f_kinds q_live = nI nk := hwx.2.2.2.2.2.2.2
    have hni : (f_statements q_live).toInt = (ns : Int) := by rw [hcn]; exact nI_toInt (by omega)
    have hci : (f_catches q_live).toInt = (nc : Int) := by rw [hcc]; exact nI_toInt (by omega)
    have hmi : (f_methods q_live).toInt = (nm : Int) := by rw [hcm_]; exact nI_toInt (by omega)
    refine lv_iload_n hx hb dX10_isStatement_7 rfl (lv_at hl 1 rfl) ?_
    refine lv_iconst (v := 0) hx hb dX10_isStatement_8 (by decide) ?_
    refine lv_aload_n hx hb dX10_isStatement_9 rfl (lv_at hl 0 rfl) ?_
    refine va_get (D := D) (ci := 10) (v := .ref (a 3)) (C := RX10) (T := TX10) (N := 96) hx hb hts inlX10 hown hK hP 0 rfl rfl 12 (by decide) (hts _ q196) (fun _ h => h) rfl dX10_isStatement_10 ?_
    refine lv_aload_n hx hb dX10_isStatement_13 rfl (lv_at hl 0 rfl) ?_
    refine va_get (D := D) (ci := 10) (v := .int (nI q_live)) (C := RX10) (T := TX10) (N := 96) hx hb hts inlX10 hown hK hP 0 rfl rfl 8 (by decide) (hts _ q254) (fun _ h => h) rfl dX10_isStatement_14 ?_
    refine va_iald hx hb hK hP 4 0 rfl rfl (vr_in (by first | omega | (clear hP hD hS hl hQ; grind)) (by decide)) dX10_isStatement_17 ?_
    refine lv_topi (nm_r (e' := (f_statements q_live)) (vr_ld (by first | omega | (clear hP hD hS hl hQ; grind))) ?_)
    refine lv_topi (nm_r (e' := (nI ns)) hcn ?_)
    refine lv_iconst (v := 1) hx hb dX10_isStatement_18 (by decide) ?_
    refine lv_isub hx hb dX10_isStatement_19 ?_
    have hzn := zmn (n := ns) (by omega)
    refine vz_Si4 (n9 := 1) (bs2 := fun u : Unit => [rmW g h a f_words f_text q_size q_at q_token q_tokenAt q_which q_value q_live q_draft q_hasProgram f_stat f_statements f_entryKind f_entryValue f_firstOf f_catchOf f_catchKind f_catchBlock f_catches f_body f_methods f_above f_kinds q_entries q_blocks q_fault q_faultAt q_faultTold q_checks f_checkHow f_checkAt f_checkValue q_waits f_wait f_waitValue q_deep q_isOver q_piled f_pileKind f_pileStatement f_pileBlock f_pileLast q_planned f_planStatement f_planPart f_planTime f_planKind f_hasRun q_slot f_told f_tape f_failedKind f_cause f_underFirst f_underNext f_failedAt f_underWay f_traces f_closings f_enteredOf q_left q_ended q_signal q_signalValue q_frames f_frameKind f_frameStatement f_frameNow f_pending f_pendingValue f_firstResource f_openedOf f_caught q_acts f_actVar f_actRow f_actMethod f_actStatement q_rows f_rowSize f_rowItem f_passed q_planning q_aloneStatement q_alonePart q_aloneTime q_quiet f_quietStatement f_quietPart f_quietTime f_stack q_stacked q_wrong f_wayOut q_wayOuts]) (br := [rmW g h a f_words f_text q_size q_at q_token q_tokenAt q_which q_value q_live q_draft q_hasProgram f_stat f_statements f_entryKind f_entryValue f_firstOf f_catchOf f_catchKind f_catchBlock f_catches f_body f_methods f_above f_kinds q_entries q_blocks q_fault q_faultAt q_faultTold q_checks f_checkHow f_checkAt f_checkValue q_waits f_wait f_waitValue q_deep q_isOver q_piled f_pileKind f_pileStatement f_pileBlock f_pileLast q_planned f_planStatement f_planPart f_planTime f_planKind f_hasRun q_slot f_told f_tape f_failedKind f_cause f_underFirst f_underNext f_failedAt f_underWay f_traces f_closings f_enteredOf q_left q_ended q_signal q_signalValue q_frames f_frameKind f_frameStatement f_frameNow f_pending f_pendingValue f_firstResource f_openedOf f_caught q_acts f_actVar f_actRow f_actMethod f_actStatement q_rows f_rowSize f_rowItem f_passed q_planning q_aloneStatement q_alonePart q_aloneTime q_quiet f_quietStatement f_quietPart f_quietTime f_stack q_stacked q_wrong f_wayOut q_wayOuts]) (As := [.int n1, .int 0, .int ((nI ns) - 1)]) (rest := []) hx hb hml hown hts hK hA hP hD hS (r_in l D g H.size n1 0 ((nI ns) - 1)) ks_X10_239 ⟨Nat.le_of_ble_eq_true rfl, Nat.le_of_ble_eq_true rfl⟩ [] [0] rfl (by decide) rfl (fun _ => rfl) (fun _ => rfl) hl.1 (Nat.le_of_ble_eq_true rfl) dX10_isStatement_20 ⟨Nat.le_refl _, Nat.le_refl _⟩ rfl (fun v4 _ H locs hz5 _ hP hD hS => ?_)
    rcases hz5 with ⟨rfl, hb6⟩ | ⟨rfl, hb6⟩
    · have ei7 : (0 : Int32).toInt = 0 := rfl
      refine lv_if_eq (tgt := 30) hx hb dX10_isStatement_23 (by decide) (fun h9 => absurd h9 (by decide)) (fun _ => ?_)
      refine lv_iconst (v := 1) hx hb dX10_isStatement_26 (by decide) ?_
      refine lv_goto (tgt := 31) hx hb dX10_isStatement_27 (by decide) ?_
      rw [hQ]
      exact vz_zret3 hx hb hr hlk hK hP hD hS () (Or.inl ⟨rfl, ⟨kc1, by omega, by rw [hni]; omega⟩⟩) rfl (Nat.le_refl 0) (Nat.le_refl 0) (by decide) dX10_isStatement_31
    · have ei8 : (0 : Int32).toInt = 0 := rfl
      refine lv_if_eq (tgt := 30) hx hb dX10_isStatement_23 (by decide) (fun _ => ?_) (fun h9 => absurd (by decide) h9)
      refine lv_iconst (v := 0) hx hb dX10_isStatement_30 (by decide) ?_
      rw [hQ]
      exact vz_zret3 hx hb hr hlk hK hP hD hS () (Or.inr ⟨rfl, trivial⟩) rfl (Nat.le_refl 0) (Nat.le_refl 0) (by decide) dX10_isStatement_31
theorem dX10_hasPart_0 : decode cX10_hasPart 0 = .ok (.aload_n 0, 1) := by decide +kernel
theorem dX10_hasPart_1 : decode cX10_hasPart 1 = .ok (.iload_n 1, 1) := by decide +kernel
theorem dX10_hasPart_2 : decode cX10_hasPart 2 = .ok (.iconst 0, 1) := by decide +kernel
theorem dX10_hasPart_3 : decode cX10_hasPart 3 = .ok (.invokevirtual 456, 3) := by decide +kernel
theorem dX10_hasPart_6 : decode cX10_hasPart 6 = .ok (.istore_n 3, 1) := by decide +kernel
theorem dX10_hasPart_7 : decode cX10_hasPart 7 = .ok (.iload_n 2, 1) := by decide +kernel
theorem dX10_hasPart_8 : decode cX10_hasPart 8 = .ok (.ifCond .ne 15, 3) := by decide +kernel
theorem dX10_hasPart_11 : decode cX10_hasPart 11 = .ok (.iload_n 3, 1) := by decide +kernel
theorem dX10_hasPart_12 : decode cX10_hasPart 12 = .ok (.ifCond .ne 7, 3) := by decide +kernel
theorem dX10_hasPart_15 : decode cX10_hasPart 15 = .ok (.iconst 1, 1) := by decide +kernel
theorem dX10_hasPart_16 : decode cX10_hasPart 16 = .ok (.goto 48, 3) := by decide +kernel
theorem dX10_hasPart_19 : decode cX10_hasPart 19 = .ok (.iconst 0, 1) := by decide +kernel
theorem dX10_hasPart_20 : decode cX10_hasPart 20 = .ok (.goto 44, 3) := by decide +kernel
theorem dX10_hasPart_23 : decode cX10_hasPart 23 = .ok (.iload_n 3, 1) := by decide +kernel
theorem dX10_hasPart_24 : decode cX10_hasPart 24 = .ok (.bipush 17, 2) := by decide +kernel
theorem dX10_hasPart_26 : decode cX10_hasPart 26 = .ok (.if_icmp .ne 37, 3) := by decide +kernel
theorem dX10_hasPart_29 : decode cX10_hasPart 29 = .ok (.iload_n 2, 1) := by decide +kernel
theorem dX10_hasPart_30 : decode cX10_hasPart 30 = .ok (.iconst 1, 1) := by decide +kernel
theorem dX10_hasPart_31 : decode cX10_hasPart 31 = .ok (.aload_n 0, 1) := by decide +kernel
theorem dX10_hasPart_32 : decode cX10_hasPart 32 = .ok (.iload_n 1, 1) := by decide +kernel
theorem dX10_hasPart_33 : decode cX10_hasPart 33 = .ok (.iconst 1, 1) := by decide +kernel
theorem dX10_hasPart_34 : decode cX10_hasPart 34 = .ok (.invokevirtual 456, 3) := by decide +kernel
theorem dX10_hasPart_37 : decode cX10_hasPart 37 = .ok (.invokestatic 239, 3) := by decide +kernel
theorem dX10_hasPart_40 : decode cX10_hasPart 40 = .ok (.ifCond .ne 19, 3) := by decide +kernel
theorem dX10_hasPart_43 : decode cX10_hasPart 43 = .ok (.iload_n 2, 1) := by decide +kernel
theorem dX10_hasPart_44 : decode cX10_hasPart 44 = .ok (.iconst 4, 1) := by decide +kernel
theorem dX10_hasPart_45 : decode cX10_hasPart 45 = .ok (.iconst 3, 1) := by decide +kernel
theorem dX10_hasPart_46 : decode cX10_hasPart 46 = .ok (.aload_n 0, 1) := by decide +kernel
theorem dX10_hasPart_47 : decode cX10_hasPart 47 = .ok (.iload_n 1, 1) := by decide +kernel
theorem dX10_hasPart_48 : decode cX10_hasPart 48 = .ok (.iconst 1, 1) := by decide +kernel
theorem dX10_hasPart_49 : decode cX10_hasPart 49 = .ok (.invokevirtual 456, 3) := by decide +kernel
theorem dX10_hasPart_52 : decode cX10_hasPart 52 = .ok (.iadd, 1) := by decide +kernel
theorem dX10_hasPart_53 : decode cX10_hasPart 53 = .ok (.invokestatic 239, 3) := by decide +kernel
theorem dX10_hasPart_56 : decode cX10_hasPart 56 = .ok (.ifCond .eq 7, 3) := by decide +kernel
theorem dX10_hasPart_59 : decode cX10_hasPart 59 = .ok (.iconst 1, 1) := by decide +kernel
theorem dX10_hasPart_60 : decode cX10_hasPart 60 = .ok (.goto 4, 3) := by decide +kernel
theorem dX10_hasPart_63 : decode cX10_hasPart 63 = .ok (.iconst 0, 1) := by decide +kernel
theorem dX10_hasPart_64 : decode cX10_hasPart 64 = .ok (.ireturn, 1) := by decide +kernel
set_option maxHeartbeats 8000000 in
set_option maxRecDepth 100000 in
theorem r_hasPart (l : Launch) (D : va_G) (g : Nat → ClassId)   (sz : Nat) (gs : Nat) (h : Nat) (a : Nat → Nat) (f_words : Nat → Int64) (f_text : Nat → Int32) (q_size : Nat) (q_at : Nat) (q_token : Int32) (q_tokenAt : Nat) (q_which : Int32) (q_value : Nat) (q_live : Nat) (q_draft : Nat) (q_hasProgram : Int32) (f_stat : Nat → Int32) (f_statements : Nat → Int32) (f_entryKind : Nat → Int32) (f_entryValue : Nat → Int32) (f_firstOf : Nat → Int32) (f_catchOf : Nat → Int32) (f_catchKind : Nat → Int32) (f_catchBlock : Nat → Int32) (f_catches : Nat → Int32) (f_body : Nat → Int32) (f_methods : Nat → Int32) (f_above : Nat → Int32) (f_kinds : Nat → Int32) (q_entries : Nat) (q_blocks : Nat) (q_fault : Int32) (q_faultAt : Int32) (q_faultTold : Int32) (q_checks : Nat) (f_checkHow : Nat → Int32) (f_checkAt : Nat → Int32) (f_checkValue : Nat → Int32) (q_waits : Nat) (f_wait : Nat → Int32) (f_waitValue : Nat → Int32) (q_deep : Int32) (q_isOver : Int32) (q_piled : Nat) (f_pileKind : Nat → Int32) (f_pileStatement : Nat → Int32) (f_pileBlock : Nat → Int32) (f_pileLast : Nat → Int32) (q_planned : Nat) (f_planStatement : Nat → Int32) (f_planPart : Nat → Int32) (f_planTime : Nat → Int32) (f_planKind : Nat → Int32) (f_hasRun : Nat → Int32) (q_slot : Nat) (f_told : Nat → Int32) (f_tape : Nat → Int32) (f_failedKind : Nat → Int32) (f_cause : Nat → Int32) (f_underFirst : Nat → Int32) (f_underNext : Nat → Int32) (f_failedAt : Nat → Int32) (f_underWay : Nat → Int32) (f_traces : Nat → Int32) (f_closings : Nat → Int32) (f_enteredOf : Nat → Int32) (q_left : Nat) (q_ended : Int32) (q_signal : Int32) (q_signalValue : Int32) (q_frames : Nat) (f_frameKind : Nat → Int32) (f_frameStatement : Nat → Int32) (f_frameNow : Nat → Int32) (f_pending : Nat → Int32) (f_pendingValue : Nat → Int32) (f_firstResource : Nat → Int32) (f_openedOf : Nat → Int32) (f_caught : Nat → Int32) (q_acts : Nat) (f_actVar : Nat → Int32) (f_actRow : Nat → Int32) (f_actMethod : Nat → Int32) (f_actStatement : Nat → Int32) (q_rows : Nat) (f_rowSize : Nat → Int32) (f_rowItem : Nat → Int32) (f_passed : Nat → Int32) (q_planning : Int32) (q_aloneStatement : Int32) (q_alonePart : Int32) (q_aloneTime : Int32) (q_quiet : Nat) (f_quietStatement : Nat → Int32) (f_quietPart : Nat → Int32) (f_quietTime : Nat → Int32) (f_stack : Nat → Int32) (q_stacked : Nat) (q_wrong : Int32) (f_wayOut : Nat → Int32) (q_wayOuts : Nat) (n2 : Int32) (hlv : q_live ≤ 1) (hs : gs < 80) : vz_Mi l D (tyG g) yX10_hasPart cX10_hasPart 4 1 22 0 0 .boolean [.ref h, .int (nI gs), .int n2] sz (vz_w [rmW g h a f_words f_text q_size q_at q_token q_tokenAt q_which q_value q_live q_draft q_hasProgram f_stat f_statements f_entryKind f_entryValue f_firstOf f_catchOf f_catchKind f_catchBlock f_catches f_body f_methods f_above f_kinds q_entries q_blocks q_fault q_faultAt q_faultTold q_checks f_checkHow f_checkAt f_checkValue q_waits f_wait f_waitValue q_deep q_isOver q_piled f_pileKind f_pileStatement f_pileBlock f_pileLast q_planned f_planStatement f_planPart f_planTime f_planKind f_hasRun q_slot f_told f_tape f_failedKind f_cause f_underFirst f_underNext f_failedAt f_underWay f_traces f_closings f_enteredOf q_left q_ended q_signal q_signalValue q_frames f_frameKind f_frameStatement f_frameNow f_pending f_pendingValue f_firstResource f_openedOf f_caught q_acts f_actVar f_actRow f_actMethod f_actStatement q_rows f_rowSize f_rowItem f_passed q_planning q_aloneStatement q_alonePart q_aloneTime q_quiet f_quietStatement f_quietPart f_quietTime f_stack q_stacked q_wrong f_wayOut q_wayOuts]) (fun r (u : Unit) => (r = 0 ∨ r = 1)) (fun u => vz_w [rmW g h a f_words f_text q_size q_at q_token q_tokenAt q_which q_value q_live q_draft q_hasProgram f_stat f_statements f_entryKind f_entryValue f_firstOf f_catchOf f_catchKind f_catchBlock f_catches f_body f_methods f_above f_kinds q_entries q_blocks q_fault q_faultAt q_faultTold q_checks f_checkHow f_checkAt f_checkValue q_waits f_wait f_waitValue q_deep q_isOver q_piled f_pileKind f_pileStatement f_pileBlock f_pileLast q_planned f_planStatement f_planPart f_planTime f_planKind f_hasRun q_slot f_told f_tape f_failedKind f_cause f_underFirst f_underNext f_failedAt f_underWay f_traces f_closings f_enteredOf q_left q_ended q_signal q_signalValue q_frames f_frameKind f_frameStatement f_frameNow f_pending f_pendingValue f_firstResource f_openedOf f_caught q_acts f_actVar f_actRow f_actMethod f_actStatement q_rows f_rowSize f_rowItem f_passed q_planning q_aloneStatement q_alonePart q_aloneTime q_quiet f_quietStatement f_quietPart f_quietTime f_stack q_stacked q_wrong f_wayOut q_wayOuts]) := by
  refine vz_siQ (by decide) (Nat.le_of_ble_eq_true rfl) (fun p e s m args below meth c hx hb hr hml hts hown hlk hin hK hsz A hA H locs hP hD hS ls hl Q hQ => ?_)
  have hl : lv_has ls 4 [(0, .ref h), (1, .int (nI gs)), (2, .int n2)] := hl
  refine lv_aload_n hx hb dX10_hasPart_0 rfl (lv_at hl 0 rfl) ?_
  refine lv_iload_n hx hb dX10_hasPart_1 rfl (lv_at hl 1 rfl) ?_
  refine lv_iconst (v := 0) hx hb dX10_hasPart_2 (by decide) ?_
  refine vz_Vi3 (As := [.int (nI gs), .int 0]) (rest := []) hx hb hml hown hts hK hA hP hD hS (r_get l D g H.size gs 0 h a f_words f_text q_size q_at q_token q_tokenAt q_which q_value q_live q_draft q_hasProgram f_stat f_statements f_entryKind f_entryValue f_firstOf f_catchOf f_catchKind f_catchBlock f_catches f_body f_methods f_above f_kinds q_entries q_blocks q_fault q_faultAt q_faultTold q_checks f_checkHow f_checkAt f_checkValue q_waits f_wait f_waitValue q_deep q_isOver q_piled f_pileKind f_pileStatement f_pileBlock f_pileLast q_planned f_planStatement f_planPart f_planTime f_planKind f_hasRun q_slot f_told f_tape f_failedKind f_cause f_underFirst f_underNext f_failedAt f_underWay f_traces f_closings f_enteredOf q_left q_ended q_signal q_signalValue q_frames f_frameKind f_frameStatement f_frameNow f_pending f_pendingValue f_firstResource f_openedOf f_caught q_acts f_actVar f_actRow f_actMethod f_actStatement q_rows f_rowSize f_rowItem f_passed q_planning q_aloneStatement q_alonePart q_aloneTime q_quiet f_quietStatement f_quietPart f_quietTime f_stack q_stacked q_wrong f_wayOut q_wayOuts (by first | assumption | omega | (clear hP hD hS hl hQ; grind)) (by first | assumption | omega | (clear hP hD hS hl hQ; grind)) (by first | assumption | omega | (clear hP hD hS hl hQ; grind))) kv_X10_456 ⟨Nat.le_of_ble_eq_true rfl, Nat.le_of_ble_eq_true rfl⟩ (q0 := 0) (ci := 10) rfl rfl rfl  hl.1 (Nat.le_of_ble_eq_true rfl) dX10_hasPart_3 ⟨Nat.le_refl _, Nat.le_refl _⟩ rfl (fun v1 _ H locs hp2 _ hP hD hS => ?_)
  try dsimp only at hp2
  subst hp2
  refine lv_istore_n (lv' := [(3, .int (f_stat (1280 * q_live + 16 * gs + 0))), (0, .ref h), (1, .int (nI gs)), (2, .int n2)]) hx hb dX10_hasPart_6 rfl hl (by decide) rfl (fun ls hl => ?_)
  refine lv_iload_n hx hb dX10_hasPart_7 rfl (lv_at hl 3 rfl) ?_
  refine lv_if_ne (tgt := 23) hx hb dX10_hasPart_8 (by decide) (fun kc4 => ?_) (fun kc4 => ?_)
  · have kn5 : ¬ n2.toInt = 0 := fun q => kc4 (Int32.toInt_inj.mp q)
    refine lv_iload_n hx hb dX10_hasPart_23 rfl (lv_at hl 0 rfl) ?_
    refine lv_bipush (v := 17) hx hb dX10_hasPart_24 (by decide) ?_
    refine lv_icmp_ne (tgt := 63) hx hb dX10_hasPart_26 (by decide) (fun kc6 => ?_) (fun kc6 => ?_)
    · have kn7 : ¬ (f_stat (1280 * q_live + 16 * gs + 0)).toInt = 17 := fun q => kc6 (Int32.toInt_inj.mp q)
      refine lv_iconst (v := 0) hx hb dX10_hasPart_63 (by decide) ?_
      rw [hQ]
      exact vz_zret3 hx hb hr hlk hK hP hD hS () (Or.inl rfl) rfl (Nat.le_refl 0) (Nat.le_refl 0) (by decide) dX10_hasPart_64
    · have kn8 : (f_stat (1280 * q_live + 16 * gs + 0)).toInt = 17 := congrArg Int32.toInt kc6
      refine lv_iload_n hx hb dX10_hasPart_29 rfl (lv_at hl 3 rfl) ?_
      refine lv_iconst (v := 1) hx hb dX10_hasPart_30 (by decide) ?_
      refine lv_aload_n hx hb dX10_hasPart_31 rfl (lv_at hl 1 rfl) ?_
      refine lv_iload_n hx hb dX10_hasPart_32 rfl (lv_at hl 2 rfl) ?_
      refine lv_iconst (v := 1) hx hb dX10_hasPart_33 (by decide) ?_
      refine vz_Vi3 (As := [.int (nI gs), .int 1]) (rest := [.int 1, .int n2]) hx hb hml hown hts hK hA hP hD hS (r_get l D g H.size gs 1 h a f_words f_text q_size q_at q_token q_tokenAt q_which q_value q_live q_draft q_hasProgram f_stat f_statements f_entryKind f_entryValue f_firstOf f_catchOf f_catchKind f_catchBlock f_catches f_body f_methods f_above f_kinds q_entries q_blocks q_fault q_faultAt q_faultTold q_checks f_checkHow f_checkAt f_checkValue q_waits f_wait f_waitValue q_deep q_isOver q_piled f_pileKind f_pileStatement f_pileBlock f_pileLast q_planned f_planStatement f_planPart f_planTime f_planKind f_hasRun q_slot f_told f_tape f_failedKind f_cause f_underFirst f_underNext f_failedAt f_underWay f_traces f_closings f_enteredOf q_left q_ended q_signal q_signalValue q_frames f_frameKind f_frameStatement f_frameNow f_pending f_pendingValue f_firstResource f_openedOf f_caught q_acts f_actVar f_actRow f_actMethod f_actStatement q_rows f_rowSize f_rowItem f_passed q_planning q_aloneStatement q_alonePart q_aloneTime q_quiet f_quietStatement f_quietPart f_quietTime f_stack q_stacked q_wrong f_wayOut q_wayOuts (by first | assumption | omega | (clear hP hD hS hl hQ; grind)) (by first | assumption | omega | (clear hP hD hS hl hQ; grind)) (by first | assumption | omega | (clear hP hD hS hl hQ; grind))) kv_X10_456 ⟨Nat.le_of_ble_eq_true rfl, Nat.le_of_ble_eq_true rfl⟩ (q0 := 0) (ci := 10) rfl rfl rfl  hl.1 (Nat.le_of_ble_eq_true rfl) dX10_hasPart_34 ⟨Nat.le_refl _, Nat.le_refl _⟩ rfl (fun v9 _ H locs hp10 _ hP hD hS => ?_)
      try dsimp only at hp10
      subst hp10
      refine vz_Si4 (n9 := 1) (bs2 := fun u : Unit => [rmW g h a f_words f_text q_size q_at q_token q_tokenAt q_which q_value q_live q_draft q_hasProgram f_stat f_statements f_entryKind f_entryValue f_firstOf f_catchOf f_catchKind f_catchBlock f_catches f_body f_methods f_above f_kinds q_entries q_blocks q_fault q_faultAt q_faultTold q_checks f_checkHow f_checkAt f_checkValue q_waits f_wait f_waitValue q_deep q_isOver q_piled f_pileKind f_pileStatement f_pileBlock f_pileLast q_planned f_planStatement f_planPart f_planTime f_planKind f_hasRun q_slot f_told f_tape f_failedKind f_cause f_underFirst f_underNext f_failedAt f_underWay f_traces f_closings f_enteredOf q_left q_ended q_signal q_signalValue q_frames f_frameKind f_frameStatement f_frameNow f_pending f_pendingValue f_firstResource f_openedOf f_caught q_acts f_actVar f_actRow f_actMethod f_actStatement q_rows f_rowSize f_rowItem f_passed q_planning q_aloneStatement q_alonePart q_aloneTime q_quiet f_quietStatement f_quietPart f_quietTime f_stack q_stacked q_wrong f_wayOut q_wayOuts]) (br := [rmW g h a f_words f_text q_size q_at q_token q_tokenAt q_which q_value q_live q_draft q_hasProgram f_stat f_statements f_entryKind f_entryValue f_firstOf f_catchOf f_catchKind f_catchBlock f_catches f_body f_methods f_above f_kinds q_entries q_blocks q_fault q_faultAt q_faultTold q_checks f_checkHow f_checkAt f_checkValue q_waits f_wait f_waitValue q_deep q_isOver q_piled f_pileKind f_pileStatement f_pileBlock f_pileLast q_planned f_planStatement f_planPart f_planTime f_planKind f_hasRun q_slot f_told f_tape f_failedKind f_cause f_underFirst f_underNext f_failedAt f_underWay f_traces f_closings f_enteredOf q_left q_ended q_signal q_signalValue q_frames f_frameKind f_frameStatement f_frameNow f_pending f_pendingValue f_firstResource f_openedOf f_caught q_acts f_actVar f_actRow f_actMethod f_actStatement q_rows f_rowSize f_rowItem f_passed q_planning q_aloneStatement q_alonePart q_aloneTime q_quiet f_quietStatement f_quietPart f_quietTime f_stack q_stacked q_wrong f_wayOut q_wayOuts]) (As := [.int n2, .int 1, .int (f_stat (1280 * q_live + 16 * gs + 1))]) (rest := []) hx hb hml hown hts hK hA hP hD hS (r_in l D g H.size n2 1 (f_stat (1280 * q_live + 16 * gs + 1))) ks_X10_239 ⟨Nat.le_of_ble_eq_true rfl, Nat.le_of_ble_eq_true rfl⟩ [] [0] rfl (by decide) rfl (fun _ => rfl) (fun _ => rfl) hl.1 (Nat.le_of_ble_eq_true rfl) dX10_hasPart_37 ⟨Nat.le_refl _, Nat.le_refl _⟩ rfl (fun v12 _ H locs hz13 _ hP hD hS => ?_)
      rcases hz13 with ⟨rfl, hb14⟩ | ⟨rfl, hb14⟩
      · have ei15 : (1 : Int32).toInt = 1 := rfl
        refine lv_if_ne (tgt := 59) hx hb dX10_hasPart_40 (by decide) (fun _ => ?_) (fun h9 => absurd h9 (by decide))
        refine lv_iconst (v := 1) hx hb dX10_hasPart_59 (by decide) ?_
        refine lv_goto (tgt := 64) hx hb dX10_hasPart_60 (by decide) ?_
        rw [hQ]
        exact vz_zret3 hx hb hr hlk hK hP hD hS () (Or.inr rfl) rfl (Nat.le_refl 0) (Nat.le_refl 0) (by decide) dX10_hasPart_64
      · have ei16 : (1 : Int32).toInt = 1 := rfl
        refine lv_if_ne (tgt := 59) hx hb dX10_hasPart_40 (by decide) (fun h9 => absurd (by decide) h9) (fun _ => ?_)
        refine lv_iload_n hx hb dX10_hasPart_43 rfl (lv_at hl 3 rfl) ?_
        refine lv_iconst (v := 4) hx hb dX10_hasPart_44 (by decide) ?_
        refine lv_iconst (v := 3) hx hb dX10_hasPart_45 (by decide) ?_
        refine lv_aload_n hx hb dX10_hasPart_46 rfl (lv_at hl 1 rfl) ?_
        refine lv_iload_n hx hb dX10_hasPart_47 rfl (lv_at hl 2 rfl) ?_
        refine lv_iconst (v := 1) hx hb dX10_hasPart_48 (by decide) ?_
        refine vz_Vi3 (As := [.int (nI gs), .int 1]) (rest := [.int 3, .int 4, .int n2]) hx hb hml hown hts hK hA hP hD hS (r_get l D g H.size gs 1 h a f_words f_text q_size q_at q_token q_tokenAt q_which q_value q_live q_draft q_hasProgram f_stat f_statements f_entryKind f_entryValue f_firstOf f_catchOf f_catchKind f_catchBlock f_catches f_body f_methods f_above f_kinds q_entries q_blocks q_fault q_faultAt q_faultTold q_checks f_checkHow f_checkAt f_checkValue q_waits f_wait f_waitValue q_deep q_isOver q_piled f_pileKind f_pileStatement f_pileBlock f_pileLast q_planned f_planStatement f_planPart f_planTime f_planKind f_hasRun q_slot f_told f_tape f_failedKind f_cause f_underFirst f_underNext f_failedAt f_underWay f_traces f_closings f_enteredOf q_left q_ended q_signal q_signalValue q_frames f_frameKind f_frameStatement f_frameNow f_pending f_pendingValue f_firstResource f_openedOf f_caught q_acts f_actVar f_actRow f_actMethod f_actStatement q_rows f_rowSize f_rowItem f_passed q_planning q_aloneStatement q_alonePart q_aloneTime q_quiet f_quietStatement f_quietPart f_quietTime f_stack q_stacked q_wrong f_wayOut q_wayOuts (by first | assumption | omega | (clear hP hD hS hl hQ; grind)) (by first | assumption | omega | (clear hP hD hS hl hQ; grind)) (by first | assumption | omega | (clear hP hD hS hl hQ; grind))) kv_X10_456 ⟨Nat.le_of_ble_eq_true rfl, Nat.le_of_ble_eq_true rfl⟩ (q0 := 0) (ci := 10) rfl rfl rfl  hl.1 (Nat.le_of_ble_eq_true rfl) dX10_hasPart_49 ⟨Nat.le_refl _, Nat.le_refl _⟩ rfl (fun v17 _ H locs hp18 _ hP hD hS => ?_)
        try dsimp only at hp18
        subst hp18
        refine lv_iadd hx hb dX10_hasPart_52 ?_
        refine vz_Si4 (n9 := 1) (bs2 := fun u : Unit => [rmW g h a f_words f_text q_size q_at q_token q_tokenAt q_which q_value q_live q_draft q_hasProgram f_stat f_statements f_entryKind f_entryValue f_firstOf f_catchOf f_catchKind f_catchBlock f_catches f_body f_methods f_above f_kinds q_entries q_blocks q_fault q_faultAt q_faultTold q_checks f_checkHow f_checkAt f_checkValue q_waits f_wait f_waitValue q_deep q_isOver q_piled f_pileKind f_pileStatement f_pileBlock f_pileLast q_planned f_planStatement f_planPart f_planTime f_planKind f_hasRun q_slot f_told f_tape f_failedKind f_cause f_underFirst f_underNext f_failedAt f_underWay f_traces f_closings f_enteredOf q_left q_ended q_signal q_signalValue q_frames f_frameKind f_frameStatement f_frameNow f_pending f_pendingValue f_firstResource f_openedOf f_caught q_acts f_actVar f_actRow f_actMethod f_actStatement q_rows f_rowSize f_rowItem f_passed q_planning q_aloneStatement q_alonePart q_aloneTime q_quiet f_quietStatement f_quietPart f_quietTime f_stack q_stacked q_wrong f_wayOut q_wayOuts]) (br := [rmW g h a f_words f_text q_size q_at q_token q_tokenAt q_which q_value q_live q_draft q_hasProgram f_stat f_statements f_entryKind f_entryValue f_firstOf f_catchOf f_catchKind f_catchBlock f_catches f_body f_methods f_above f_kinds q_entries q_blocks q_fault q_faultAt q_faultTold q_checks f_checkHow f_checkAt f_checkValue q_waits f_wait f_waitValue q_deep q_isOver q_piled f_pileKind f_pileStatement f_pileBlock f_pileLast q_planned f_planStatement f_planPart f_planTime f_planKind f_hasRun q_slot f_told f_tape f_failedKind f_cause f_underFirst f_underNext f_failedAt f_underWay f_traces f_closings f_enteredOf q_left q_ended q_signal q_signalValue q_frames f_frameKind f_frameStatement f_frameNow f_pending f_pendingValue f_firstResource f_openedOf f_caught q_acts f_actVar f_actRow f_actMethod f_actStatement q_rows f_rowSize f_rowItem f_passed q_planning q_aloneStatement q_alonePart q_aloneTime q_quiet f_quietStatement f_quietPart f_quietTime f_stack q_stacked q_wrong f_wayOut q_wayOuts]) (As := [.int n2, .int 4, .int (3 + (f_stat (1280 * q_live + 16 * gs + 1)))]) (rest := []) hx hb hml hown hts hK hA hP hD hS (r_in l D g H.size n2 4 (3 + (f_stat (1280 * q_live + 16 * gs + 1)))) ks_X10_239 ⟨Nat.le_of_ble_eq_true rfl, Nat.le_of_ble_eq_true rfl⟩ [] [0] rfl (by decide) rfl (fun _ => rfl) (fun _ => rfl) hl.1 (Nat.le_of_ble_eq_true rfl) dX10_hasPart_53 ⟨Nat.le_refl _, Nat.le_refl _⟩ rfl (fun v20 _ H locs hz21 _ hP hD hS => ?_)
        rcases hz21 with ⟨rfl, hb22⟩ | ⟨rfl, hb22⟩
        · have ei23 : (4 : Int32).toInt = 4 := rfl
          refine lv_if_eq (tgt := 63) hx hb dX10_hasPart_56 (by decide) (fun h9 => absurd h9 (by decide)) (fun _ => ?_)
          refine lv_iconst (v := 1) hx hb dX10_hasPart_59 (by decide) ?_
          refine lv_goto (tgt := 64) hx hb dX10_hasPart_60 (by decide) ?_
          rw [hQ]
          exact vz_zret3 hx hb hr hlk hK hP hD hS () (Or.inr rfl) rfl (Nat.le_refl 0) (Nat.le_refl 0) (by decide) dX10_hasPart_64
        · have ei24 : (4 : Int32).toInt = 4 := rfl
          refine lv_if_eq (tgt := 63) hx hb dX10_hasPart_56 (by decide) (fun _ => ?_) (fun h9 => absurd (by decide) h9)
          refine lv_iconst (v := 0) hx hb dX10_hasPart_63 (by decide) ?_
          rw [hQ]
          exact vz_zret3 hx hb hr hlk hK hP hD hS () (Or.inl rfl) rfl (Nat.le_refl 0) (Nat.le_refl 0) (by decide) dX10_hasPart_64
  · have kn25 : n2.toInt = 0 := congrArg Int32.toInt kc4
    refine lv_iload_n hx hb dX10_hasPart_11 rfl (lv_at hl 0 rfl) ?_
    refine lv_if_ne (tgt := 19) hx hb dX10_hasPart_12 (by decide) (fun kc26 => ?_) (fun kc26 => ?_)
    · have kn27 : ¬ (f_stat (1280 * q_live + 16 * gs + 0)).toInt = 0 := fun q => kc26 (Int32.toInt_inj.mp q)
      refine lv_iconst (v := 0) hx hb dX10_hasPart_19 (by decide) ?_
      refine lv_goto (tgt := 64) hx hb dX10_hasPart_20 (by decide) ?_
      rw [hQ]
      exact vz_zret3 hx hb hr hlk hK hP hD hS () (Or.inl rfl) rfl (Nat.le_refl 0) (Nat.le_refl 0) (by decide) dX10_hasPart_64
    · have kn28 : (f_stat (1280 * q_live + 16 * gs + 0)).toInt = 0 := congrArg Int32.toInt kc26
      refine lv_iconst (v := 1) hx hb dX10_hasPart_15 (by decide) ?_
      refine lv_goto (tgt := 64) hx hb dX10_hasPart_16 (by decide) ?_
      rw [hQ]
      exact vz_zret3 hx hb hr hlk hK hP hD hS () (Or.inr rfl) rfl (Nat.le_refl 0) (Nat.le_refl 0) (by decide) dX10_hasPart_64
theorem dX10_isRun_0 : decode cX10_isRun 0 = .ok (.iload_n 1, 1) := by decide +kernel
theorem dX10_isRun_1 : decode cX10_isRun 1 = .ok (.iconst 0, 1) := by decide +kernel
theorem dX10_isRun_2 : decode cX10_isRun 2 = .ok (.iconst 1, 1) := by decide +kernel
theorem dX10_isRun_3 : decode cX10_isRun 3 = .ok (.invokestatic 239, 3) := by decide +kernel
theorem dX10_isRun_6 : decode cX10_isRun 6 = .ok (.ifCond .eq 16, 3) := by decide +kernel
theorem dX10_isRun_9 : decode cX10_isRun 9 = .ok (.aload_n 0, 1) := by decide +kernel
theorem dX10_isRun_10 : decode cX10_isRun 10 = .ok (.getfield 138, 3) := by decide +kernel
theorem dX10_isRun_13 : decode cX10_isRun 13 = .ok (.iload_n 1, 1) := by decide +kernel
theorem dX10_isRun_14 : decode cX10_isRun 14 = .ok (.baload, 1) := by decide +kernel
theorem dX10_isRun_15 : decode cX10_isRun 15 = .ok (.ifCond .eq 7, 3) := by decide +kernel
theorem dX10_isRun_18 : decode cX10_isRun 18 = .ok (.iconst 1, 1) := by decide +kernel
theorem dX10_isRun_19 : decode cX10_isRun 19 = .ok (.goto 4, 3) := by decide +kernel
theorem dX10_isRun_22 : decode cX10_isRun 22 = .ok (.iconst 0, 1) := by decide +kernel
theorem dX10_isRun_23 : decode cX10_isRun 23 = .ok (.ireturn, 1) := by decide +kernel
set_option maxHeartbeats 8000000 in
set_option maxRecDepth 100000 in
theorem r_isRun (l : Launch) (D : va_G) (g : Nat → ClassId)   (sz : Nat) (h : Nat) (a : Nat → Nat) (f_words : Nat → Int64) (f_text : Nat → Int32) (q_size : Nat) (q_at : Nat) (q_token : Int32) (q_tokenAt : Nat) (q_which : Int32) (q_value : Nat) (q_live : Nat) (q_draft : Nat) (q_hasProgram : Int32) (f_stat : Nat → Int32) (f_statements : Nat → Int32) (f_entryKind : Nat → Int32) (f_entryValue : Nat → Int32) (f_firstOf : Nat → Int32) (f_catchOf : Nat → Int32) (f_catchKind : Nat → Int32) (f_catchBlock : Nat → Int32) (f_catches : Nat → Int32) (f_body : Nat → Int32) (f_methods : Nat → Int32) (f_above : Nat → Int32) (f_kinds : Nat → Int32) (q_entries : Nat) (q_blocks : Nat) (q_fault : Int32) (q_faultAt : Int32) (q_faultTold : Int32) (q_checks : Nat) (f_checkHow : Nat → Int32) (f_checkAt : Nat → Int32) (f_checkValue : Nat → Int32) (q_waits : Nat) (f_wait : Nat → Int32) (f_waitValue : Nat → Int32) (q_deep : Int32) (q_isOver : Int32) (q_piled : Nat) (f_pileKind : Nat → Int32) (f_pileStatement : Nat → Int32) (f_pileBlock : Nat → Int32) (f_pileLast : Nat → Int32) (q_planned : Nat) (f_planStatement : Nat → Int32) (f_planPart : Nat → Int32) (f_planTime : Nat → Int32) (f_planKind : Nat → Int32) (f_hasRun : Nat → Int32) (q_slot : Nat) (f_told : Nat → Int32) (f_tape : Nat → Int32) (f_failedKind : Nat → Int32) (f_cause : Nat → Int32) (f_underFirst : Nat → Int32) (f_underNext : Nat → Int32) (f_failedAt : Nat → Int32) (f_underWay : Nat → Int32) (f_traces : Nat → Int32) (f_closings : Nat → Int32) (f_enteredOf : Nat → Int32) (q_left : Nat) (q_ended : Int32) (q_signal : Int32) (q_signalValue : Int32) (q_frames : Nat) (f_frameKind : Nat → Int32) (f_frameStatement : Nat → Int32) (f_frameNow : Nat → Int32) (f_pending : Nat → Int32) (f_pendingValue : Nat → Int32) (f_firstResource : Nat → Int32) (f_openedOf : Nat → Int32) (f_caught : Nat → Int32) (q_acts : Nat) (f_actVar : Nat → Int32) (f_actRow : Nat → Int32) (f_actMethod : Nat → Int32) (f_actStatement : Nat → Int32) (q_rows : Nat) (f_rowSize : Nat → Int32) (f_rowItem : Nat → Int32) (f_passed : Nat → Int32) (q_planning : Int32) (q_aloneStatement : Int32) (q_alonePart : Int32) (q_aloneTime : Int32) (q_quiet : Nat) (f_quietStatement : Nat → Int32) (f_quietPart : Nat → Int32) (f_quietTime : Nat → Int32) (f_stack : Nat → Int32) (q_stacked : Nat) (q_wrong : Int32) (f_wayOut : Nat → Int32) (q_wayOuts : Nat) (n1 : Int32) : vz_Mi l D (tyG g) yX10_isRun cX10_isRun 2 1 22 0 0 .boolean [.ref h, .int n1] sz (vz_w [rmW g h a f_words f_text q_size q_at q_token q_tokenAt q_which q_value q_live q_draft q_hasProgram f_stat f_statements f_entryKind f_entryValue f_firstOf f_catchOf f_catchKind f_catchBlock f_catches f_body f_methods f_above f_kinds q_entries q_blocks q_fault q_faultAt q_faultTold q_checks f_checkHow f_checkAt f_checkValue q_waits f_wait f_waitValue q_deep q_isOver q_piled f_pileKind f_pileStatement f_pileBlock f_pileLast q_planned f_planStatement f_planPart f_planTime f_planKind f_hasRun q_slot f_told f_tape f_failedKind f_cause f_underFirst f_underNext f_failedAt f_underWay f_traces f_closings f_enteredOf q_left q_ended q_signal q_signalValue q_frames f_frameKind f_frameStatement f_frameNow f_pending f_pendingValue f_firstResource f_openedOf f_caught q_acts f_actVar f_actRow f_actMethod f_actStatement q_rows f_rowSize f_rowItem f_passed q_planning q_aloneStatement q_alonePart q_aloneTime q_quiet f_quietStatement f_quietPart f_quietTime f_stack q_stacked q_wrong f_wayOut q_wayOuts]) (fun r (u : Unit) => ((r = 1 ∧ (0 ≤ n1.toInt ∧ n1.toInt ≤ 1)) ∨ (r = 0 ∧ (True)))) (fun u => vz_w [rmW g h a f_words f_text q_size q_at q_token q_tokenAt q_which q_value q_live q_draft q_hasProgram f_stat f_statements f_entryKind f_entryValue f_firstOf f_catchOf f_catchKind f_catchBlock f_catches f_body f_methods f_above f_kinds q_entries q_blocks q_fault q_faultAt q_faultTold q_checks f_checkHow f_checkAt f_checkValue q_waits f_wait f_waitValue q_deep q_isOver q_piled f_pileKind f_pileStatement f_pileBlock f_pileLast q_planned f_planStatement f_planPart f_planTime f_planKind f_hasRun q_slot f_told f_tape f_failedKind f_cause f_underFirst f_underNext f_failedAt f_underWay f_traces f_closings f_enteredOf q_left q_ended q_signal q_signalValue q_frames f_frameKind f_frameStatement f_frameNow f_pending f_pendingValue f_firstResource f_openedOf f_caught q_acts f_actVar f_actRow f_actMethod f_actStatement q_rows f_rowSize f_rowItem f_passed q_planning q_aloneStatement q_alonePart q_aloneTime q_quiet f_quietStatement f_quietPart f_quietTime f_stack q_stacked q_wrong f_wayOut q_wayOuts]) := by
  refine vz_siQ (by decide) (Nat.le_of_ble_eq_true rfl) (fun p e s m args below meth c hx hb hr hml hts hown hlk hin hK hsz A hA H locs hP hD hS ls hl Q hQ => ?_)
  have hl : lv_has ls 2 [(0, .ref h), (1, .int n1)] := hl
  refine lv_iload_n hx hb dX10_isRun_0 rfl (lv_at hl 1 rfl) ?_
  refine lv_iconst (v := 0) hx hb dX10_isRun_1 (by decide) ?_
  refine lv_iconst (v := 1) hx hb dX10_isRun_2 (by decide) ?_
  refine vz_Si4 (n9 := 1) (bs2 := fun u : Unit => [rmW g h a f_words f_text q_size q_at q_token q_tokenAt q_which q_value q_live q_draft q_hasProgram f_stat f_statements f_entryKind f_entryValue f_firstOf f_catchOf f_catchKind f_catchBlock f_catches f_body f_methods f_above f_kinds q_entries q_blocks q_fault q_faultAt q_faultTold q_checks f_checkHow f_checkAt f_checkValue q_waits f_wait f_waitValue q_deep q_isOver q_piled f_pileKind f_pileStatement f_pileBlock f_pileLast q_planned f_planStatement f_planPart f_planTime f_planKind f_hasRun q_slot f_told f_tape f_failedKind f_cause f_underFirst f_underNext f_failedAt f_underWay f_traces f_closings f_enteredOf q_left q_ended q_signal q_signalValue q_frames f_frameKind f_frameStatement f_frameNow f_pending f_pendingValue f_firstResource f_openedOf f_caught q_acts f_actVar f_actRow f_actMethod f_actStatement q_rows f_rowSize f_rowItem f_passed q_planning q_aloneStatement q_alonePart q_aloneTime q_quiet f_quietStatement f_quietPart f_quietTime f_stack q_stacked q_wrong f_wayOut q_wayOuts]) (br := [rmW g h a f_words f_text q_size q_at q_token q_tokenAt q_which q_value q_live q_draft q_hasProgram f_stat f_statements f_entryKind f_entryValue f_firstOf f_catchOf f_catchKind f_catchBlock f_catches f_body f_methods f_above f_kinds q_entries q_blocks q_fault q_faultAt q_faultTold q_checks f_checkHow f_checkAt f_checkValue q_waits f_wait f_waitValue q_deep q_isOver q_piled f_pileKind f_pileStatement f_pileBlock f_pileLast q_planned f_planStatement f_planPart f_planTime f_planKind f_hasRun q_slot f_told f_tape f_failedKind f_cause f_underFirst f_underNext f_failedAt f_underWay f_traces f_closings f_enteredOf q_left q_ended q_signal q_signalValue q_frames f_frameKind f_frameStatement f_frameNow f_pending f_pendingValue f_firstResource f_openedOf f_caught q_acts f_actVar f_actRow f_actMethod f_actStatement q_rows f_rowSize f_rowItem f_passed q_planning q_aloneStatement q_alonePart q_aloneTime q_quiet f_quietStatement f_quietPart f_quietTime f_stack q_stacked q_wrong f_wayOut q_wayOuts]) (As := [.int n1, .int 0, .int 1]) (rest := []) hx hb hml hown hts hK hA hP hD hS (r_in l D g H.size n1 0 1) ks_X10_239 ⟨Nat.le_of_ble_eq_true rfl, Nat.le_of_ble_eq_true rfl⟩ [] [0] rfl (by decide) rfl (fun _ => rfl) (fun _ => rfl) hl.1 (Nat.le_of_ble_eq_true rfl) dX10_isRun_3 ⟨Nat.le_refl _, Nat.le_refl _⟩ rfl (fun v1 _ H locs hz2 _ hP hD hS => ?_)
  rcases hz2 with ⟨rfl, hb3⟩ | ⟨rfl, hb3⟩
  · have ei4 : (0 : Int32).toInt = 0 := rfl
    have ei5 : (1 : Int32).toInt = 1 := rfl
    refine lv_if_eq (tgt := 22) hx hb dX10_isRun_6 (by decide) (fun h9 => absurd h9 (by decide)) (fun _ => ?_)
    refine lv_aload_n hx hb dX10_isRun_9 rfl (lv_at hl 0 rfl) ?_
    refine va_get (D := D) (ci := 10) (v := .ref (a 28)) (C := RX10) (T := TX10) (N := 96) hx hb hts inlX10 hown hK hP 0 rfl rfl 48 (by decide) (hts _ q222) (fun _ h => h) rfl dX10_isRun_10 ?_
    refine lv_iload_n hx hb dX10_isRun_13 rfl (lv_at hl 1 rfl) ?_
    refine lv_topi (nm_r (e' := (nI (n1.toInt.toNat))) (nI_of9 (by omega)) ?_)
    refine va_zald hx hb hK hP 29 3 rfl rfl (vr_in (by first | omega | (clear hP hD hS hl hQ; grind)) (by decide)) dX10_isRun_14 ?_
    refine lv_topi (nm_r (e' := (f_hasRun (n1.toInt.toNat))) (vr_ld (by first | omega | (clear hP hD hS hl hQ; grind))) ?_)
    refine lv_if_eq (tgt := 22) hx hb dX10_isRun_15 (by decide) (fun kc6 => ?_) (fun kc6 => ?_)
    · have kn7 : (f_hasRun (n1.toInt.toNat)).toInt = 0 := congrArg Int32.toInt kc6
      refine lv_iconst (v := 0) hx hb dX10_isRun_22 (by decide) ?_
      rw [hQ]
      exact vz_zret3 hx hb hr hlk hK hP hD hS () (Or.inr ⟨rfl, trivial⟩) rfl (Nat.le_refl 0) (Nat.le_refl 0) (by decide) dX10_isRun_23
    · have kn8 : ¬ (f_hasRun (n1.toInt.toNat)).toInt = 0 := fun q => kc6 (Int32.toInt_inj.mp q)
      refine lv_iconst (v := 1) hx hb dX10_isRun_18 (by decide) ?_
      refine lv_goto (tgt := 23) hx hb dX10_isRun_19 (by decide) ?_
      rw [hQ]
      exact vz_zret3 hx hb hr hlk hK hP hD hS () (Or.inl ⟨rfl, by omega⟩) rfl (Nat.le_refl 0) (Nat.le_refl 0) (by decide) dX10_isRun_23
  · have ei9 : (0 : Int32).toInt = 0 := rfl
    have ei10 : (1 : Int32).toInt = 1 := rfl
    refine lv_if_eq (tgt := 22) hx hb dX10_isRun_6 (by decide) (fun _ => ?_) (fun h9 => absurd (by decide) h9)
    refine lv_iconst (v := 0) hx hb dX10_isRun_22 (by decide) ?_
    rw [hQ]
    exact vz_zret3 hx hb hr hlk hK hP hD hS () (Or.inr ⟨rfl, trivial⟩) rfl (Nat.le_refl 0) (Nat.le_refl 0) (by decide) dX10_isRun_23
