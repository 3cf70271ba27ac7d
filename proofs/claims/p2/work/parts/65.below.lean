theorem UNS_u1 {uf un : Nat → Int32} {sl c u : Nat} (h : UNS uf un sl c c) (e1 : uf (420 * sl + c) = -9) (e2 : un (420 * sl + c) = -9) (hu : u < c) : UNS (upd uf (420 * sl + u) (nI c)) un sl (c + 1) (c + 1) := by
  intro f hf
  by_cases hq : f = c
  · rw [hq, upd_ne (by omega), e1, e2]; exact ⟨Or.inl rfl, Or.inl rfl⟩
  · obtain ⟨a, b⟩ := h f (by omega)
    refine ⟨?_, UN_mono b (by omega)⟩
    by_cases h2 : f = u
    · rw [h2, upd_at]; exact Or.inr ⟨c, hu, by omega, rfl⟩
    · rw [upd_ne (by omega)]; exact UN_mono a (by omega)
theorem UNS_u2 {uf un : Nat → Int32} {sl c u : Nat} (h : UNS uf un sl c c) (e1 : uf (420 * sl + c) = -9) (e2 : un (420 * sl + c) = -9) (hu : u < c) : UNS uf (upd un (420 * sl + u) (nI c)) sl (c + 1) (c + 1) := by
  intro f hf
  by_cases hq : f = c
  · rw [hq, upd_ne (by omega), e1, e2]; exact ⟨Or.inl rfl, Or.inl rfl⟩
  · obtain ⟨a, b⟩ := h f (by omega)
    refine ⟨UN_mono a (by omega), ?_⟩
    by_cases h2 : f = u
    · rw [h2, upd_at]; exact Or.inr ⟨c, hu, by omega, rfl⟩
    · rw [upd_ne (by omega)]; exact UN_mono b (by omega)
theorem FRM_guard {st : Nat → Int32} {d ns bl : Nat} {gS gB : vgG} {fk fs fn pe pv op ca : Nat → Int32} {c4 k : Nat} (h : FRM st d ns bl gS gB fk fs fn pe pv op ca c4 k) (h3 : fk k = 3) : ∃ (dep : Nat) (ic : Bool) (s : Nat), GD fn pe pv op ca c4 k ∧ dep ≤ 6 ∧ (ic = true → ICd fk fn k) ∧ 1 ≤ cm fk k ∧ k + 12 ≤ 14 * cm fk k + 2 * dep ∧ s < ns ∧ fs k = nI s ∧ gS s = (dep, ic) ∧ okB bl gB (dep + 1, ic) (csh d st s 7) := by
  rcases h with ⟨e, -⟩ | ⟨⟨dep, ic⟩, a1, a2, a3, ⟨e, -⟩ | ⟨e | ⟨e, e1⟩, b1, s, b2, b3, b4, b5⟩⟩
  · rw [h3] at e; exact absurd e (by decide)
  · rw [h3] at e; exact absurd e (by decide)
  · rw [h3] at e; exact absurd e (by decide)
  · exact ⟨dep, ic, s, e1, a1, a2, a3, b1, b2, b3, b4, b5⟩
theorem FRM_loop {st : Nat → Int32} {d ns bl : Nat} {gS gB : vgG} {fk fs fn pe pv op ca : Nat → Int32} {c4 k : Nat} (h : FRM st d ns bl gS gB fk fs fn pe pv op ca c4 k) (h3 : fk k = 2) : ∃ (dep : Nat) (ic : Bool), dep ≤ 6 ∧ (ic = true → ICd fk fn k) ∧ 1 ≤ cm fk k ∧ k + 12 ≤ 14 * cm fk k + 2 * dep ∧ FSX st d ns bl gS gB (dep, ic) (fs k) := by
  rcases h with ⟨e, -⟩ | ⟨⟨dep, ic⟩, a1, a2, a3, ⟨e, -⟩ | ⟨e | ⟨e, e1⟩, b1, b2⟩⟩
  · rw [h3] at e; exact absurd e (by decide)
  · rw [h3] at e; exact absurd e (by decide)
  · exact ⟨dep, ic, a1, a2, a3, b1, b2⟩
  · rw [h3] at e; exact absurd e (by decide)
theorem FRM_block {st : Nat → Int32} {d ns bl : Nat} {gS gB : vgG} {fk fs fn pe pv op ca : Nat → Int32} {c4 k : Nat} (h : FRM st d ns bl gS gB fk fs fn pe pv op ca c4 k) (h3 : fk k = 1) : ∃ (dep : Nat) (ic : Bool), dep ≤ 6 ∧ (ic = true → ICd fk fn k) ∧ 1 ≤ cm fk k ∧ k + 13 ≤ 14 * cm fk k + 2 * dep ∧ okN ns gS (dep, ic) (fn k) := by
  rcases h with ⟨e, -⟩ | ⟨⟨dep, ic⟩, a1, a2, a3, ⟨e, b1, b2⟩ | ⟨e | ⟨e, e1⟩, -⟩⟩
  · rw [h3] at e; exact absurd e (by decide)
  · exact ⟨dep, ic, a1, a2, a3, b1, b2⟩
  · rw [h3] at e; exact absurd e (by decide)
  · rw [h3] at e; exact absurd e (by decide)
theorem FRM_meth {st : Nat → Int32} {d ns bl : Nat} {gS gB : vgG} {fk fs fn pe pv op ca : Nat → Int32} {c4 k : Nat} (h : FRM st d ns bl gS gB fk fs fn pe pv op ca c4 k) (h3 : fk k = 0) : k ≤ 14 * cm fk k ∧ (fs k = -1 ∨ ∃ v : Nat, v ≤ 5 ∧ fs k = nI v) := by
  rcases h with ⟨e, h⟩ | ⟨⟨dep, ic⟩, a1, a2, a3, ⟨e, b1, b2⟩ | ⟨e | ⟨e, e1⟩, -⟩⟩
  · exact h
  · rw [h3] at e; exact absurd e (by decide)
  · rw [h3] at e; exact absurd e (by decide)
  · rw [h3] at e; exact absurd e (by decide)
theorem FRM_kind {st : Nat → Int32} {d ns bl : Nat} {gS gB : vgG} {fk fs fn pe pv op ca : Nat → Int32} {c4 k : Nat} (h : FRM st d ns bl gS gB fk fs fn pe pv op ca c4 k) : fk k = 0 ∨ fk k = 1 ∨ fk k = 2 ∨ fk k = 3 := by
  rcases h with ⟨e, h⟩ | ⟨⟨dep, ic⟩, a1, a2, a3, ⟨e, b1, b2⟩ | ⟨e | ⟨e, e1⟩, -⟩⟩
  · exact Or.inl e
  · exact Or.inr (Or.inl e)
  · exact Or.inr (Or.inr (Or.inl e))
  · exact Or.inr (Or.inr (Or.inr e))
/-- the guard on top is another one -/
theorem FRS_guard {st : Nat → Int32} {d ns bl : Nat} {gS gB : vgG} {fk fs fn pe pv op ca fn2 pe2 pv2 op2 ca2 : Nat → Int32} {c4 c5 m n : Nat} (h : FRS st d ns bl gS gB fk fs fn pe pv op ca c4 n) (hm : m + 1 = n) (h3 : fk m = 3) (hc : c4 ≤ c5) (e3 : ∀ j, j ≠ m → fn2 j = fn j) (e4 : ∀ j, j ≠ m → pe2 j = pe j) (e5 : ∀ j, j ≠ m → pv2 j = pv j) (e6 : ∀ j, j ≠ m → op2 j = op j) (e7 : ∀ j, j ≠ m → ca2 j = ca j) (hg : GD fn2 pe2 pv2 op2 ca2 c5 m) : FRS st d ns bl gS gB fk fs fn2 pe2 pv2 op2 ca2 c5 n := by
  subst hm
  refine FRS_push (FRS_mono h hc (Nat.le_succ m)) (fun _ _ => rfl) (fun _ _ => rfl) (fun j hj => e3 j (by omega)) (fun j hj => e4 j (by omega)) (fun j hj => e5 j (by omega)) (fun j hj => e6 j (by omega)) (fun j hj => e7 j (by omega)) ?_
  obtain ⟨dep, ic, s, -, a1, a2, a3, a4, a5, a6, a7, a8⟩ := FRM_guard (h m (by omega)) h3
  refine Or.inr ⟨(dep, ic), a1, fun z => ?_, a3, Or.inr ⟨Or.inr ⟨h3, hg⟩, a4, s, a5, a6, a7, a8⟩⟩
  obtain ⟨j, z1, z2, z3⟩ := a2 z
  exact ⟨j, z1, z2, (e3 j (by omega)).trans z3⟩
/-- of a loop or a block on top, what comes now is another -/
theorem FRS_now {st : Nat → Int32} {d ns bl : Nat} {gS gB : vgG} {fk fs fn pe pv op ca : Nat → Int32} {c4 m n : Nat} {x : Int32} (h : FRS st d ns bl gS gB fk fs fn pe pv op ca c4 n) (hm : m + 1 = n) (h2 : fk m = 2 ∨ (fk m = 1 ∧ ∀ dep ic, okN ns gS (dep, ic) (fn m) → okN ns gS (dep, ic) x ∨ dep > 6)) : FRS st d ns bl gS gB fk fs (upd fn m x) pe pv op ca c4 n := by
  subst hm
  have L : ∀ j, j < m → upd fn m x j = fn j := fun j hj => upd_ne (by omega)
  refine FRS_push (FRS_mono h (Nat.le_refl _) (Nat.le_succ m)) (fun _ _ => rfl) (fun _ _ => rfl) L (fun _ _ => rfl) (fun _ _ => rfl) (fun _ _ => rfl) (fun _ _ => rfl) ?_
  have hI : ICd fk fn m → ICd fk (upd fn m x) m := fun ⟨j, z1, z2, z3⟩ => ⟨j, z1, z2, (L j z1).trans z3⟩
  rcases h2 with h2 | ⟨h1, hx⟩
  · obtain ⟨dep, ic, a1, a2, a3, a4, a5⟩ := FRM_loop (h m (by omega)) h2
    exact Or.inr ⟨(dep, ic), a1, fun z => hI (a2 z), a3, Or.inr ⟨Or.inl h2, a4, a5⟩⟩
  · obtain ⟨dep, ic, a1, a2, a3, a4, a5⟩ := FRM_block (h m (by omega)) h1
    refine Or.inr ⟨(dep, ic), a1, fun z => hI (a2 z), a3, Or.inl ⟨h1, a4, ?_⟩⟩
    rw [upd_at]
    exact (hx dep ic a5).resolve_right (by omega)
theorem wsum_top {fk fn : Nat → Int32} {m n : Nat} (hm : m + 1 = n) : wsum fk fn n = wsum fk fn m + wt (fk m) (fn m) := by subst hm; rfl
theorem wsum_below {fk fn fn2 : Nat → Int32} {m : Nat} (e : ∀ j, j ≠ m → fn2 j = fn j) : wsum fk fn2 m = wsum fk fn m := wsum_congr m (fun _ _ => rfl) (fun j hj => e j (by omega))
theorem cm_top {fk : Nat → Int32} {m n : Nat} (hm : m + 1 = n) (h : fk m ≠ 0) : cm fk n = cm fk m := by subst hm; rw [cmn_s, if_neg h]; rfl
theorem cm_top0 {fk : Nat → Int32} {m n : Nat} (hm : m + 1 = n) (h : fk m = 0) : cm fk n = cm fk m + 1 := by subst hm; rw [cmn_s, if_pos h]
theorem cm_pos {fk : Nat → Int32} {k : Nat} (h : 1 ≤ cm fk k) : 1 ≤ k := by
  rcases Nat.eq_zero_or_pos k with q | q
  · subst q; exact absurd (show 1 ≤ 0 from h) (by decide)
  · exact q
theorem ab_lt {x y : Int32} {k n : Nat} (hx : x = nI k) (hk : k < 2 ^ 31) (hy : y = -1 ∨ ∃ j : Nat, j < k ∧ y = nI j) (hf : (x.toInt + 1).toNat < n + 1) : (y.toInt + 1).toNat < n := by
  rw [hx, nI_toInt hk] at hf
  rcases hy with hy | ⟨j, h1, hy⟩
  · rw [hy]
    have e3 : (-1 : Int32).toInt = -1 := rfl
    rw [e3]; omega
  · rw [hy, nI_toInt (by omega)]; omega
theorem dX10_suppresses_0 : decode cX10_suppresses 0 = .ok (.sipush 420, 3) := by decide +kernel
theorem dX10_suppresses_3 : decode cX10_suppresses 3 = .ok (.aload_n 0, 1) := by decide +kernel
theorem dX10_suppresses_4 : decode cX10_suppresses 4 = .ok (.getfield 475, 3) := by decide +kernel
theorem dX10_suppresses_7 : decode cX10_suppresses 7 = .ok (.imul, 1) := by decide +kernel
theorem dX10_suppresses_8 : decode cX10_suppresses 8 = .ok (.istore_n 3, 1) := by decide +kernel
theorem dX10_suppresses_9 : decode cX10_suppresses 9 = .ok (.aload_n 0, 1) := by decide +kernel
theorem dX10_suppresses_10 : decode cX10_suppresses 10 = .ok (.getfield 154, 3) := by decide +kernel
theorem dX10_suppresses_13 : decode cX10_suppresses 13 = .ok (.iload_n 3, 1) := by decide +kernel
theorem dX10_suppresses_14 : decode cX10_suppresses 14 = .ok (.iload_n 2, 1) := by decide +kernel
theorem dX10_suppresses_15 : decode cX10_suppresses 15 = .ok (.iadd, 1) := by decide +kernel
theorem dX10_suppresses_16 : decode cX10_suppresses 16 = .ok (.iaload, 1) := by decide +kernel
theorem dX10_suppresses_17 : decode cX10_suppresses 17 = .ok (.bipush (-9), 2) := by decide +kernel
theorem dX10_suppresses_19 : decode cX10_suppresses 19 = .ok (.if_icmp .ne 13, 3) := by decide +kernel
theorem dX10_suppresses_22 : decode cX10_suppresses 22 = .ok (.aload_n 0, 1) := by decide +kernel
theorem dX10_suppresses_23 : decode cX10_suppresses 23 = .ok (.getfield 154, 3) := by decide +kernel
theorem dX10_suppresses_26 : decode cX10_suppresses 26 = .ok (.iload_n 3, 1) := by decide +kernel
theorem dX10_suppresses_27 : decode cX10_suppresses 27 = .ok (.iload_n 2, 1) := by decide +kernel
theorem dX10_suppresses_28 : decode cX10_suppresses 28 = .ok (.iadd, 1) := by decide +kernel
theorem dX10_suppresses_29 : decode cX10_suppresses 29 = .ok (.iload_n 1, 1) := by decide +kernel
theorem dX10_suppresses_30 : decode cX10_suppresses 30 = .ok (.iastore, 1) := by decide +kernel
theorem dX10_suppresses_31 : decode cX10_suppresses 31 = .ok (.return_, 1) := by decide +kernel
theorem dX10_suppresses_32 : decode cX10_suppresses 32 = .ok (.aload_n 0, 1) := by decide +kernel
theorem dX10_suppresses_33 : decode cX10_suppresses 33 = .ok (.getfield 154, 3) := by decide +kernel
theorem dX10_suppresses_36 : decode cX10_suppresses 36 = .ok (.iload_n 3, 1) := by decide +kernel
theorem dX10_suppresses_37 : decode cX10_suppresses 37 = .ok (.iload_n 2, 1) := by decide +kernel
theorem dX10_suppresses_38 : decode cX10_suppresses 38 = .ok (.iadd, 1) := by decide +kernel
theorem dX10_suppresses_39 : decode cX10_suppresses 39 = .ok (.iaload, 1) := by decide +kernel
theorem dX10_suppresses_40 : decode cX10_suppresses 40 = .ok (.istore 4, 2) := by decide +kernel
theorem dX10_suppresses_42 : decode cX10_suppresses 42 = .ok (.aload_n 0, 1) := by decide +kernel
theorem dX10_suppresses_43 : decode cX10_suppresses 43 = .ok (.getfield 157, 3) := by decide +kernel
theorem dX10_suppresses_46 : decode cX10_suppresses 46 = .ok (.iload_n 3, 1) := by decide +kernel
theorem dX10_suppresses_47 : decode cX10_suppresses 47 = .ok (.iload 4, 2) := by decide +kernel
theorem dX10_suppresses_49 : decode cX10_suppresses 49 = .ok (.iadd, 1) := by decide +kernel
theorem dX10_suppresses_50 : decode cX10_suppresses 50 = .ok (.iaload, 1) := by decide +kernel
theorem dX10_suppresses_51 : decode cX10_suppresses 51 = .ok (.bipush (-9), 2) := by decide +kernel
theorem dX10_suppresses_53 : decode cX10_suppresses 53 = .ok (.if_icmp .eq 17, 3) := by decide +kernel
theorem dX10_suppresses_56 : decode cX10_suppresses 56 = .ok (.aload_n 0, 1) := by decide +kernel
theorem dX10_suppresses_57 : decode cX10_suppresses 57 = .ok (.getfield 157, 3) := by decide +kernel
theorem dX10_suppresses_60 : decode cX10_suppresses 60 = .ok (.iload_n 3, 1) := by decide +kernel
theorem dX10_suppresses_61 : decode cX10_suppresses 61 = .ok (.iload 4, 2) := by decide +kernel
theorem dX10_suppresses_63 : decode cX10_suppresses 63 = .ok (.iadd, 1) := by decide +kernel
theorem dX10_suppresses_64 : decode cX10_suppresses 64 = .ok (.iaload, 1) := by decide +kernel
theorem dX10_suppresses_65 : decode cX10_suppresses 65 = .ok (.istore 4, 2) := by decide +kernel
theorem dX10_suppresses_67 : decode cX10_suppresses 67 = .ok (.goto (-25), 3) := by decide +kernel
theorem dX10_suppresses_70 : decode cX10_suppresses 70 = .ok (.aload_n 0, 1) := by decide +kernel
theorem dX10_suppresses_71 : decode cX10_suppresses 71 = .ok (.getfield 157, 3) := by decide +kernel
theorem dX10_suppresses_74 : decode cX10_suppresses 74 = .ok (.iload_n 3, 1) := by decide +kernel
theorem dX10_suppresses_75 : decode cX10_suppresses 75 = .ok (.iload 4, 2) := by decide +kernel
theorem dX10_suppresses_77 : decode cX10_suppresses 77 = .ok (.iadd, 1) := by decide +kernel
theorem dX10_suppresses_78 : decode cX10_suppresses 78 = .ok (.iload_n 1, 1) := by decide +kernel
theorem dX10_suppresses_79 : decode cX10_suppresses 79 = .ok (.iastore, 1) := by decide +kernel
theorem dX10_suppresses_80 : decode cX10_suppresses 80 = .ok (.return_, 1) := by decide +kernel
set_option maxHeartbeats 8000000 in
set_option maxRecDepth 100000 in
theorem r_suppresses (l : Launch) (D : va_G) (g : Nat → ClassId)   (sz : Nat) (gg : Nat) (gu : Nat) (h : Nat) (a : Nat → Nat) (f_words : Nat → Int64) (f_text : Nat → Int32) (q_size : Nat) (q_at : Nat) (q_token : Int32) (q_tokenAt : Nat) (q_which : Int32) (q_value : Nat) (q_live : Nat) (q_draft : Nat) (q_hasProgram : Int32) (f_stat : Nat → Int32) (f_statements : Nat → Int32) (f_entryKind : Nat → Int32) (f_entryValue : Nat → Int32) (f_firstOf : Nat → Int32) (f_catchOf : Nat → Int32) (f_catchKind : Nat → Int32) (f_catchBlock : Nat → Int32) (f_catches : Nat → Int32) (f_body : Nat → Int32) (f_methods : Nat → Int32) (f_above : Nat → Int32) (f_kinds : Nat → Int32) (q_entries : Nat) (q_blocks : Nat) (q_fault : Int32) (q_faultAt : Int32) (q_faultTold : Int32) (q_checks : Nat) (f_checkHow : Nat → Int32) (f_checkAt : Nat → Int32) (f_checkValue : Nat → Int32) (q_waits : Nat) (f_wait : Nat → Int32) (f_waitValue : Nat → Int32) (q_deep : Int32) (q_isOver : Int32) (q_piled : Nat) (f_pileKind : Nat → Int32) (f_pileStatement : Nat → Int32) (f_pileBlock : Nat → Int32) (f_pileLast : Nat → Int32) (q_planned : Nat) (f_planStatement : Nat → Int32) (f_planPart : Nat → Int32) (f_planTime : Nat → Int32) (f_planKind : Nat → Int32) (f_hasRun : Nat → Int32) (q_slot : Nat) (f_told : Nat → Int32) (f_tape : Nat → Int32) (f_failedKind : Nat → Int32) (f_cause : Nat → Int32) (f_underFirst : Nat → Int32) (f_underNext : Nat → Int32) (f_failedAt : Nat → Int32) (f_underWay : Nat → Int32) (f_traces : Nat → Int32) (f_closings : Nat → Int32) (f_enteredOf : Nat → Int32) (q_left : Nat) (q_ended : Int32) (q_signal : Int32) (q_signalValue : Int32) (q_frames : Nat) (f_frameKind : Nat → Int32) (f_frameStatement : Nat → Int32) (f_frameNow : Nat → Int32) (f_pending : Nat → Int32) (f_pendingValue : Nat → Int32) (f_firstResource : Nat → Int32) (f_openedOf : Nat → Int32) (f_caught : Nat → Int32) (q_acts : Nat) (f_actVar : Nat → Int32) (f_actRow : Nat → Int32) (f_actMethod : Nat → Int32) (f_actStatement : Nat → Int32) (q_rows : Nat) (f_rowSize : Nat → Int32) (f_rowItem : Nat → Int32) (f_passed : Nat → Int32) (q_planning : Int32) (q_aloneStatement : Int32) (q_alonePart : Int32) (q_aloneTime : Int32) (q_quiet : Nat) (f_quietStatement : Nat → Int32) (f_quietPart : Nat → Int32) (f_quietTime : Nat → Int32) (f_stack : Nat → Int32) (q_stacked : Nat) (q_wrong : Int32) (f_wayOut : Nat → Int32) (q_wayOuts : Nat) (hsl : q_slot ≤ 2) (hun : UNS f_underFirst f_underNext q_slot gg gg ∧ f_underFirst (420 * q_slot + gg) = -9 ∧ f_underNext (420 * q_slot + gg) = -9) (hu : gu < gg) (hgg : gg ≤ 400) : vz_Mv l D (tyG g) yX10_suppresses cX10_suppresses 5 0 0 0 0 [.ref h, .int (nI gg), .int (nI gu)] sz (vz_w [rmW g h a f_words f_text q_size q_at q_token q_tokenAt q_which q_value q_live q_draft q_hasProgram f_stat f_statements f_entryKind f_entryValue f_firstOf f_catchOf f_catchKind f_catchBlock f_catches f_body f_methods f_above f_kinds q_entries q_blocks q_fault q_faultAt q_faultTold q_checks f_checkHow f_checkAt f_checkValue q_waits f_wait f_waitValue q_deep q_isOver q_piled f_pileKind f_pileStatement f_pileBlock f_pileLast q_planned f_planStatement f_planPart f_planTime f_planKind f_hasRun q_slot f_told f_tape f_failedKind f_cause f_underFirst f_underNext f_failedAt f_underWay f_traces f_closings f_enteredOf q_left q_ended q_signal q_signalValue q_frames f_frameKind f_frameStatement f_frameNow f_pending f_pendingValue f_firstResource f_openedOf f_caught q_acts f_actVar f_actRow f_actMethod f_actStatement q_rows f_rowSize f_rowItem f_passed q_planning q_aloneStatement q_alonePart q_aloneTime q_quiet f_quietStatement f_quietPart f_quietTime f_stack q_stacked q_wrong f_wayOut q_wayOuts]) (fun u : (Nat → Int32) × (Nat → Int32) => (UNS u.1 u.2 q_slot (gg + 1) (gg + 1))) (fun u => vz_w [rmW g h a f_words f_text q_size q_at q_token q_tokenAt q_which q_value q_live q_draft q_hasProgram f_stat f_statements f_entryKind f_entryValue f_firstOf f_catchOf f_catchKind f_catchBlock f_catches f_body f_methods f_above f_kinds q_entries q_blocks q_fault q_faultAt q_faultTold q_checks f_checkHow f_checkAt f_checkValue q_waits f_wait f_waitValue q_deep q_isOver q_piled f_pileKind f_pileStatement f_pileBlock f_pileLast q_planned f_planStatement f_planPart f_planTime f_planKind f_hasRun q_slot f_told f_tape f_failedKind f_cause u.1 u.2 f_failedAt f_underWay f_traces f_closings f_enteredOf q_left q_ended q_signal q_signalValue q_frames f_frameKind f_frameStatement f_frameNow f_pending f_pendingValue f_firstResource f_openedOf f_caught q_acts f_actVar f_actRow f_actMethod f_actStatement q_rows f_rowSize f_rowItem f_passed q_planning q_aloneStatement q_alonePart q_aloneTime q_quiet f_quietStatement f_quietPart f_quietTime f_stack q_stacked q_wrong f_wayOut q_wayOuts]) := by
  refine vz_svQ (by decide) (Nat.le_of_ble_eq_true rfl) (fun p e s m args below meth c hx hb hr hml hts hown hlk hin hK hsz A hA H locs hP hD hS ls hl Q hQ => ?_)
  have hl : lv_has ls 5 [(0, .ref h), (1, .int (nI gg)), (2, .int (nI gu))] := hl
  have J42 : ∀ fu42 : Nat, ∀ (xn4_42 : Nat), gg - xn4_42 < fu42 → (xn4_42 < gg) → ∀ (H : Heap) (locs : List Loc) (ls : Array Slot), va_P D vwCl (vz_w [rmW g h a f_words f_text q_size q_at q_token q_tokenAt q_which q_value q_live q_draft q_hasProgram f_stat f_statements f_entryKind f_entryValue f_firstOf f_catchOf f_catchKind f_catchBlock f_catches f_body f_methods f_above f_kinds q_entries q_blocks q_fault q_faultAt q_faultTold q_checks f_checkHow f_checkAt f_checkValue q_waits f_wait f_waitValue q_deep q_isOver q_piled f_pileKind f_pileStatement f_pileBlock f_pileLast q_planned f_planStatement f_planPart f_planTime f_planKind f_hasRun q_slot f_told f_tape f_failedKind f_cause f_underFirst f_underNext f_failedAt f_underWay f_traces f_closings f_enteredOf q_left q_ended q_signal q_signalValue q_frames f_frameKind f_frameStatement f_frameNow f_pending f_pendingValue f_firstResource f_openedOf f_caught q_acts f_actVar f_actRow f_actMethod f_actStatement q_rows f_rowSize f_rowItem f_passed q_planning q_aloneStatement q_alonePart q_aloneTime q_quiet f_quietStatement f_quietPart f_quietTime f_stack q_stacked q_wrong f_wayOut q_wayOuts]) H → va_D A (vz_w [rmW g h a f_words f_text q_size q_at q_token q_tokenAt q_which q_value q_live q_draft q_hasProgram f_stat f_statements f_entryKind f_entryValue f_firstOf f_catchOf f_catchKind f_catchBlock f_catches f_body f_methods f_above f_kinds q_entries q_blocks q_fault q_faultAt q_faultTold q_checks f_checkHow f_checkAt f_checkValue q_waits f_wait f_waitValue q_deep q_isOver q_piled f_pileKind f_pileStatement f_pileBlock f_pileLast q_planned f_planStatement f_planPart f_planTime f_planKind f_hasRun q_slot f_told f_tape f_failedKind f_cause f_underFirst f_underNext f_failedAt f_underWay f_traces f_closings f_enteredOf q_left q_ended q_signal q_signalValue q_frames f_frameKind f_frameStatement f_frameNow f_pending f_pendingValue f_firstResource f_openedOf f_caught q_acts f_actVar f_actRow f_actMethod f_actStatement q_rows f_rowSize f_rowItem f_passed q_planning q_aloneStatement q_alonePart q_aloneTime q_quiet f_quietStatement f_quietPart f_quietTime f_stack q_stacked q_wrong f_wayOut q_wayOuts]) → va_S A s.heap H locs → lv_has ls 5 [(0, .ref h), (1, .int (nI gg)), (2, .int (nI gu)), (3, .int (nI (420 * q_slot))), (4, .int (nI xn4_42))] → W p l e { frames := 0, cells := 0, slots := 0, locals := 0 } s m args below meth c H locs 0 0 Q (F0 m 42 ls []) := by
    intro fu42
    induction fu42 with
    | zero => intro xn4_42 hf42 hj42_0 H locs ls hP hD hS hl; exact absurd hf42 (Nat.not_lt_zero _)
    | succ fu42 ih42 =>
      intro xn4_42 hf42 hj42_0 H locs ls hP hD hS hl
      refine lv_aload_n hx hb dX10_suppresses_42 rfl (lv_at hl 0 rfl) ?_
      refine va_get (D := D) (ci := 10) (v := .ref (a 34)) (C := RX10) (T := TX10) (N := 96) hx hb hts inlX10 hown hK hP 0 rfl rfl 55 (by decide) (hts _ q228) (fun _ h => h) rfl dX10_suppresses_43 ?_
      refine lv_iload_n hx hb dX10_suppresses_46 rfl (lv_at hl 3 rfl) ?_
      refine lv_iload hx hb dX10_suppresses_47 (lv_at hl 4 rfl) ?_
      refine lv_iadd hx hb dX10_suppresses_49 ?_
      refine lv_topi (nm_r (e' := (nI ((420 * q_slot) + xn4_42))) (nI_add (420 * q_slot) xn4_42) ?_)
      refine va_iald hx hb hK hP 35 0 rfl rfl (vr_in (by first | omega | (clear hP hD hS hl hQ; grind)) (by decide)) dX10_suppresses_50 ?_
      refine lv_topi (nm_r (e' := (f_underNext ((420 * q_slot) + xn4_42))) (vr_ld (by first | omega | (clear hP hD hS hl hQ; grind))) ?_)
      refine lv_bipush (v := (-9)) hx hb dX10_suppresses_51 (by decide) ?_
      refine lv_icmp_eq (tgt := 70) hx hb dX10_suppresses_53 (by decide) (fun kc1 => ?_) (fun kc1 => ?_)
      · have kn2 : (f_underNext ((420 * q_slot) + xn4_42)).toInt = (-9) := congrArg Int32.toInt kc1
        refine lv_aload_n hx hb dX10_suppresses_70 rfl (lv_at hl 0 rfl) ?_
        refine va_get (D := D) (ci := 10) (v := .ref (a 34)) (C := RX10) (T := TX10) (N := 96) hx hb hts inlX10 hown hK hP 0 rfl rfl 55 (by decide) (hts _ q228) (fun _ h => h) rfl dX10_suppresses_71 ?_
        refine lv_iload_n hx hb dX10_suppresses_74 rfl (lv_at hl 3 rfl) ?_
        refine lv_iload hx hb dX10_suppresses_75 (lv_at hl 4 rfl) ?_
        refine lv_iadd hx hb dX10_suppresses_77 ?_
        refine lv_topi (nm_r (e' := (nI ((420 * q_slot) + xn4_42))) (nI_add (420 * q_slot) xn4_42) ?_)
        refine lv_iload_n hx hb dX10_suppresses_78 rfl (lv_at hl 1 rfl) ?_
        refine va_iast hx hb hK hP hD hS 35 0 rfl rfl (vr_in (by first | omega | (clear hP hD hS hl hQ; grind)) (by decide)) dX10_suppresses_79 (fun H locs hP hD hS => ?_)
        obtain ⟨f_underNext_3, hf_underNext_3, hP, hD⟩ : ∃ z : Nat → Int32, z = upd f_underNext ((420 * q_slot) + xn4_42) (nI gg) ∧ va_P D vwCl (vz_w [rmW g h a f_words f_text q_size q_at q_token q_tokenAt q_which q_value q_live q_draft q_hasProgram f_stat f_statements f_entryKind f_entryValue f_firstOf f_catchOf f_catchKind f_catchBlock f_catches f_body f_methods f_above f_kinds q_entries q_blocks q_fault q_faultAt q_faultTold q_checks f_checkHow f_checkAt f_checkValue q_waits f_wait f_waitValue q_deep q_isOver q_piled f_pileKind f_pileStatement f_pileBlock f_pileLast q_planned f_planStatement f_planPart f_planTime f_planKind f_hasRun q_slot f_told f_tape f_failedKind f_cause f_underFirst z f_failedAt f_underWay f_traces f_closings f_enteredOf q_left q_ended q_signal q_signalValue q_frames f_frameKind f_frameStatement f_frameNow f_pending f_pendingValue f_firstResource f_openedOf f_caught q_acts f_actVar f_actRow f_actMethod f_actStatement q_rows f_rowSize f_rowItem f_passed q_planning q_aloneStatement q_alonePart q_aloneTime q_quiet f_quietStatement f_quietPart f_quietTime f_stack q_stacked q_wrong f_wayOut q_wayOuts]) H ∧ va_D A (vz_w [rmW g h a f_words f_text q_size q_at q_token q_tokenAt q_which q_value q_live q_draft q_hasProgram f_stat f_statements f_entryKind f_entryValue f_firstOf f_catchOf f_catchKind f_catchBlock f_catches f_body f_methods f_above f_kinds q_entries q_blocks q_fault q_faultAt q_faultTold q_checks f_checkHow f_checkAt f_checkValue q_waits f_wait f_waitValue q_deep q_isOver q_piled f_pileKind f_pileStatement f_pileBlock f_pileLast q_planned f_planStatement f_planPart f_planTime f_planKind f_hasRun q_slot f_told f_tape f_failedKind f_cause f_underFirst z f_failedAt f_underWay f_traces f_closings f_enteredOf q_left q_ended q_signal q_signalValue q_frames f_frameKind f_frameStatement f_frameNow f_pending f_pendingValue f_firstResource f_openedOf f_caught q_acts f_actVar f_actRow f_actMethod f_actStatement q_rows f_rowSize f_rowItem f_passed q_planning q_aloneStatement q_alonePart q_aloneTime q_quiet f_quietStatement f_quietPart f_quietTime f_stack q_stacked q_wrong f_wayOut q_wayOuts]) := ⟨_, vr_st (by first | omega | (clear hP hD hS hl hQ; grind)), hP, hD⟩
        rw [hQ]
        exact vz_vret3 hx hb hr hlk hK hP hD hS (f_underFirst, f_underNext_3) (by (try dsimp only) <;> (rw [hf_underNext_3]; exact UNS_u2 hun.1 hun.2.1 hun.2.2 hj42_0)) rfl (Nat.le_refl 0) (Nat.le_refl 0) dX10_suppresses_80
      · have kn4 : ¬ (f_underNext ((420 * q_slot) + xn4_42)).toInt = (-9) := fun q => kc1 (Int32.toInt_inj.mp q)
        refine lv_aload_n hx hb dX10_suppresses_56 rfl (lv_at hl 0 rfl) ?_
        refine va_get (D := D) (ci := 10) (v := .ref (a 34)) (C := RX10) (T := TX10) (N := 96) hx hb hts inlX10 hown hK hP 0 rfl rfl 55 (by decide) (hts _ q228) (fun _ h => h) rfl dX10_suppresses_57 ?_
        refine lv_iload_n hx hb dX10_suppresses_60 rfl (lv_at hl 3 rfl) ?_
        refine lv_iload hx hb dX10_suppresses_61 (lv_at hl 4 rfl) ?_
        refine lv_iadd hx hb dX10_suppresses_63 ?_
        refine lv_topi (nm_r (e' := (nI ((420 * q_slot) + xn4_42))) (nI_add (420 * q_slot) xn4_42) ?_)
        refine va_iald hx hb hK hP 35 0 rfl rfl (vr_in (by first | omega | (clear hP hD hS hl hQ; grind)) (by decide)) dX10_suppresses_64 ?_
        refine lv_topi (nm_r (e' := (f_underNext ((420 * q_slot) + xn4_42))) (vr_ld (by first | omega | (clear hP hD hS hl hQ; grind))) ?_)
        obtain ⟨y8, hy8, hy7, hy9⟩ := (hun.1 xn4_42 hj42_0).2.resolve_left kc1
        refine lv_topi (nm_r (e' := (nI y8)) hy9 ?_)
        refine lv_istore (lv' := [(4, .int (nI y8)), (0, .ref h), (1, .int (nI gg)), (2, .int (nI gu)), (3, .int (nI (420 * q_slot)))]) hx hb dX10_suppresses_65 hl (by decide) rfl (fun ls hl => ?_)
        refine lv_goto (tgt := 42) hx hb dX10_suppresses_67 (by decide) ?_
        exact ih42 y8 (by first | omega | (clear hP hD hS hl hQ; grind)) (by first | assumption | omega | (clear hP hD hS hl hQ; grind)) H locs ls hP hD hS (lv_sub hl [1, 2, 3, 4, 0] rfl)
  refine lv_sipush (v := 420) hx hb dX10_suppresses_0 (by decide) ?_
  refine lv_aload_n hx hb dX10_suppresses_3 rfl (lv_at hl 0 rfl) ?_
  refine va_get (D := D) (ci := 10) (v := .int (nI q_slot)) (C := RX10) (T := TX10) (N := 96) hx hb hts inlX10 hown hK hP 0 rfl rfl 49 (by decide) (hts _ q1359) (fun _ h => h) rfl dX10_suppresses_4 ?_
  refine lv_imul hx hb dX10_suppresses_7 ?_
  refine lv_topi (nm_r (e' := (nI (420 * q_slot))) (vz_mul 420 q_slot) ?_)
  refine lv_istore_n (lv' := [(3, .int (nI (420 * q_slot))), (0, .ref h), (1, .int (nI gg)), (2, .int (nI gu))]) hx hb dX10_suppresses_8 rfl hl (by decide) rfl (fun ls hl => ?_)
  refine lv_aload_n hx hb dX10_suppresses_9 rfl (lv_at hl 1 rfl) ?_
  refine va_get (D := D) (ci := 10) (v := .ref (a 33)) (C := RX10) (T := TX10) (N := 96) hx hb hts inlX10 hown hK hP 0 rfl rfl 54 (by decide) (hts _ q227) (fun _ h => h) rfl dX10_suppresses_10 ?_
  refine lv_iload_n hx hb dX10_suppresses_13 rfl (lv_at hl 0 rfl) ?_
  refine lv_iload_n hx hb dX10_suppresses_14 rfl (lv_at hl 3 rfl) ?_
  refine lv_iadd hx hb dX10_suppresses_15 ?_
  refine lv_topi (nm_r (e' := (nI ((420 * q_slot) + gu))) (nI_add (420 * q_slot) gu) ?_)
  refine va_iald hx hb hK hP 34 0 rfl rfl (vr_in (by first | omega | (clear hP hD hS hl hQ; grind)) (by decide)) dX10_suppresses_16 ?_
  refine lv_topi (nm_r (e' := (f_underFirst ((420 * q_slot) + gu))) (vr_ld (by first | omega | (clear hP hD hS hl hQ; grind))) ?_)
  refine lv_bipush (v := (-9)) hx hb dX10_suppresses_17 (by decide) ?_
  refine lv_icmp_ne (tgt := 32) hx hb dX10_suppresses_19 (by decide) (fun kc1 => ?_) (fun kc1 => ?_)
  · have kn2 : ¬ (f_underFirst ((420 * q_slot) + gu)).toInt = (-9) := fun q => kc1 (Int32.toInt_inj.mp q)
    refine lv_aload_n hx hb dX10_suppresses_32 rfl (lv_at hl 1 rfl) ?_
    refine va_get (D := D) (ci := 10) (v := .ref (a 33)) (C := RX10) (T := TX10) (N := 96) hx hb hts inlX10 hown hK hP 0 rfl rfl 54 (by decide) (hts _ q227) (fun _ h => h) rfl dX10_suppresses_33 ?_
    refine lv_iload_n hx hb dX10_suppresses_36 rfl (lv_at hl 0 rfl) ?_
    refine lv_iload_n hx hb dX10_suppresses_37 rfl (lv_at hl 3 rfl) ?_
    refine lv_iadd hx hb dX10_suppresses_38 ?_
    refine lv_topi (nm_r (e' := (nI ((420 * q_slot) + gu))) (nI_add (420 * q_slot) gu) ?_)
    refine va_iald hx hb hK hP 34 0 rfl rfl (vr_in (by first | omega | (clear hP hD hS hl hQ; grind)) (by decide)) dX10_suppresses_39 ?_
    refine lv_topi (nm_r (e' := (f_underFirst ((420 * q_slot) + gu))) (vr_ld (by first | omega | (clear hP hD hS hl hQ; grind))) ?_)
    obtain ⟨x8, hx8, hx7, hx9⟩ := (hun.1 gu hu).1.resolve_left kc1
    refine lv_topi (nm_r (e' := (nI x8)) hx9 ?_)
    refine lv_istore (lv' := [(4, .int (nI x8)), (3, .int (nI (420 * q_slot))), (0, .ref h), (1, .int (nI gg)), (2, .int (nI gu))]) hx hb dX10_suppresses_40 hl (by decide) rfl (fun ls hl => ?_)
    exact J42 (gg - x8 + 1) x8 (Nat.lt_succ_self _) (by first | assumption | omega | (clear hP hD hS hl hQ; grind)) H locs ls hP hD hS (lv_sub hl [2, 3, 4, 1, 0] rfl)
  · have kn3 : (f_underFirst ((420 * q_slot) + gu)).toInt = (-9) := congrArg Int32.toInt kc1
    refine lv_aload_n hx hb dX10_suppresses_22 rfl (lv_at hl 1 rfl) ?_
    refine va_get (D := D) (ci := 10) (v := .ref (a 33)) (C := RX10) (T := TX10) (N := 96) hx hb hts inlX10 hown hK hP 0 rfl rfl 54 (by decide) (hts _ q227) (fun _ h => h) rfl dX10_suppresses_23 ?_
    refine lv_iload_n hx hb dX10_suppresses_26 rfl (lv_at hl 0 rfl) ?_
    refine lv_iload_n hx hb dX10_suppresses_27 rfl (lv_at hl 3 rfl) ?_
    refine lv_iadd hx hb dX10_suppresses_28 ?_
    refine lv_topi (nm_r (e' := (nI ((420 * q_slot) + gu))) (nI_add (420 * q_slot) gu) ?_)
    refine lv_iload_n hx hb dX10_suppresses_29 rfl (lv_at hl 2 rfl) ?_
    refine va_iast hx hb hK hP hD hS 34 0 rfl rfl (vr_in (by first | omega | (clear hP hD hS hl hQ; grind)) (by decide)) dX10_suppresses_30 (fun H locs hP hD hS => ?_)
    obtain ⟨f_underFirst_4, hf_underFirst_4, hP, hD⟩ : ∃ z : Nat → Int32, z = upd f_underFirst ((420 * q_slot) + gu) (nI gg) ∧ va_P D vwCl (vz_w [rmW g h a f_words f_text q_size q_at q_token q_tokenAt q_which q_value q_live q_draft q_hasProgram f_stat f_statements f_entryKind f_entryValue f_firstOf f_catchOf f_catchKind f_catchBlock f_catches f_body f_methods f_above f_kinds q_entries q_blocks q_fault q_faultAt q_faultTold q_checks f_checkHow f_checkAt f_checkValue q_waits f_wait f_waitValue q_deep q_isOver q_piled f_pileKind f_pileStatement f_pileBlock f_pileLast q_planned f_planStatement f_planPart f_planTime f_planKind f_hasRun q_slot f_told f_tape f_failedKind f_cause z f_underNext f_failedAt f_underWay f_traces f_closings f_enteredOf q_left q_ended q_signal q_signalValue q_frames f_frameKind f_frameStatement f_frameNow f_pending f_pendingValue f_firstResource f_openedOf f_caught q_acts f_actVar f_actRow f_actMethod f_actStatement q_rows f_rowSize f_rowItem f_passed q_planning q_aloneStatement q_alonePart q_aloneTime q_quiet f_quietStatement f_quietPart f_quietTime f_stack q_stacked q_wrong f_wayOut q_wayOuts]) H ∧ va_D A (vz_w [rmW g h a f_words f_text q_size q_at q_token q_tokenAt q_which q_value q_live q_draft q_hasProgram f_stat f_statements f_entryKind f_entryValue f_firstOf f_catchOf f_catchKind f_catchBlock f_catches f_body f_methods f_above f_kinds q_entries q_blocks q_fault q_faultAt q_faultTold q_checks f_checkHow f_checkAt f_checkValue q_waits f_wait f_waitValue q_deep q_isOver q_piled f_pileKind f_pileStatement f_pileBlock f_pileLast q_planned f_planStatement f_planPart f_planTime f_planKind f_hasRun q_slot f_told f_tape f_failedKind f_cause z f_underNext f_failedAt f_underWay f_traces f_closings f_enteredOf q_left q_ended q_signal q_signalValue q_frames f_frameKind f_frameStatement f_frameNow f_pending f_pendingValue f_firstResource f_openedOf f_caught q_acts f_actVar f_actRow f_actMethod f_actStatement q_rows f_rowSize f_rowItem f_passed q_planning q_aloneStatement q_alonePart q_aloneTime q_quiet f_quietStatement f_quietPart f_quietTime f_stack q_stacked q_wrong f_wayOut q_wayOuts]) := ⟨_, vr_st (by first | omega | (clear hP hD hS hl hQ; grind)), hP, hD⟩
    rw [hQ]
    exact vz_vret3 hx hb hr hlk hK hP hD hS (f_underFirst_4, f_underNext) (by (try dsimp only) <;> (rw [hf_underFirst_4]; exact UNS_u1 hun.1 hun.2.1 hun.2.2 hu)) rfl (Nat.le_refl 0) (Nat.le_refl 0) dX10_suppresses_31
theorem dX10_isAbove_0 : decode cX10_isAbove 0 = .ok (.iload_n 2, 1) := by decide +kernel
theorem dX10_isAbove_1 : decode cX10_isAbove 1 = .ok (.istore_n 3, 1) := by decide +kernel
theorem dX10_isAbove_2 : decode cX10_isAbove 2 = .ok (.iload_n 3, 1) := by decide +kernel
theorem dX10_isAbove_3 : decode cX10_isAbove 3 = .ok (.ifCond .lt 26, 3) := by decide +kernel
theorem dX10_isAbove_6 : decode cX10_isAbove 6 = .ok (.iload_n 3, 1) := by decide +kernel
theorem dX10_isAbove_7 : decode cX10_isAbove 7 = .ok (.iload_n 1, 1) := by decide +kernel
theorem dX10_isAbove_8 : decode cX10_isAbove 8 = .ok (.if_icmp .eq 21, 3) := by decide +kernel
theorem dX10_isAbove_11 : decode cX10_isAbove 11 = .ok (.aload_n 0, 1) := by decide +kernel
theorem dX10_isAbove_12 : decode cX10_isAbove 12 = .ok (.getfield 93, 3) := by decide +kernel
theorem dX10_isAbove_15 : decode cX10_isAbove 15 = .ok (.bipush 16, 2) := by decide +kernel
theorem dX10_isAbove_17 : decode cX10_isAbove 17 = .ok (.aload_n 0, 1) := by decide +kernel
theorem dX10_isAbove_18 : decode cX10_isAbove 18 = .ok (.getfield 235, 3) := by decide +kernel
theorem dX10_isAbove_21 : decode cX10_isAbove 21 = .ok (.imul, 1) := by decide +kernel
theorem dX10_isAbove_22 : decode cX10_isAbove 22 = .ok (.iload_n 3, 1) := by decide +kernel
theorem dX10_isAbove_23 : decode cX10_isAbove 23 = .ok (.iadd, 1) := by decide +kernel
theorem dX10_isAbove_24 : decode cX10_isAbove 24 = .ok (.iaload, 1) := by decide +kernel
theorem dX10_isAbove_25 : decode cX10_isAbove 25 = .ok (.istore_n 3, 1) := by decide +kernel
theorem dX10_isAbove_26 : decode cX10_isAbove 26 = .ok (.goto (-24), 3) := by decide +kernel
theorem dX10_isAbove_29 : decode cX10_isAbove 29 = .ok (.iload_n 3, 1) := by decide +kernel
theorem dX10_isAbove_30 : decode cX10_isAbove 30 = .ok (.ifCond .lt 7, 3) := by decide +kernel
theorem dX10_isAbove_33 : decode cX10_isAbove 33 = .ok (.iconst 1, 1) := by decide +kernel
theorem dX10_isAbove_34 : decode cX10_isAbove 34 = .ok (.goto 4, 3) := by decide +kernel
theorem dX10_isAbove_37 : decode cX10_isAbove 37 = .ok (.iconst 0, 1) := by decide +kernel
theorem dX10_isAbove_38 : decode cX10_isAbove 38 = .ok (.ireturn, 1) := by decide +kernel
set_option maxHeartbeats 8000000 in
set_option maxRecDepth 100000 in
theorem r_isAbove (l : Launch) (D : va_G) (g : Nat → ClassId)   (sz : Nat) (gk : Nat) (ns : Nat) (bl : Nat) (nc : Nat) (nm : Nat) (nk : Nat) (en : Nat) (gS : vgG) (gB : vgG) (h : Nat) (a : Nat → Nat) (f_words : Nat → Int64) (f_text : Nat → Int32) (q_size : Nat) (q_at : Nat) (q_token : Int32) (q_tokenAt : Nat) (q_which : Int32) (q_value : Nat) (q_live : Nat) (q_draft : Nat) (q_hasProgram : Int32) (f_stat : Nat → Int32) (f_statements : Nat → Int32) (f_entryKind : Nat → Int32) (f_entryValue : Nat → Int32) (f_firstOf : Nat → Int32) (f_catchOf : Nat → Int32) (f_catchKind : Nat → Int32) (f_catchBlock : Nat → Int32) (f_catches : Nat → Int32) (f_body : Nat → Int32) (f_methods : Nat → Int32) (f_above : Nat → Int32) (f_kinds : Nat → Int32) (q_entries : Nat) (q_blocks : Nat) (q_fault : Int32) (q_faultAt : Int32) (q_faultTold : Int32) (q_checks : Nat) (f_checkHow : Nat → Int32) (f_checkAt : Nat → Int32) (f_checkValue : Nat → Int32) (q_waits : Nat) (f_wait : Nat → Int32) (f_waitValue : Nat → Int32) (q_deep : Int32) (q_isOver : Int32) (q_piled : Nat) (f_pileKind : Nat → Int32) (f_pileStatement : Nat → Int32) (f_pileBlock : Nat → Int32) (f_pileLast : Nat → Int32) (q_planned : Nat) (f_planStatement : Nat → Int32) (f_planPart : Nat → Int32) (f_planTime : Nat → Int32) (f_planKind : Nat → Int32) (f_hasRun : Nat → Int32) (q_slot : Nat) (f_told : Nat → Int32) (f_tape : Nat → Int32) (f_failedKind : Nat → Int32) (f_cause : Nat → Int32) (f_underFirst : Nat → Int32) (f_underNext : Nat → Int32) (f_failedAt : Nat → Int32) (f_underWay : Nat → Int32) (f_traces : Nat → Int32) (f_closings : Nat → Int32) (f_enteredOf : Nat → Int32) (q_left : Nat) (q_ended : Int32) (q_signal : Int32) (q_signalValue : Int32) (q_frames : Nat) (f_frameKind : Nat → Int32) (f_frameStatement : Nat → Int32) (f_frameNow : Nat → Int32) (f_pending : Nat → Int32) (f_pendingValue : Nat → Int32) (f_firstResource : Nat → Int32) (f_openedOf : Nat → Int32) (f_caught : Nat → Int32) (q_acts : Nat) (f_actVar : Nat → Int32) (f_actRow : Nat → Int32) (f_actMethod : Nat → Int32) (f_actStatement : Nat → Int32) (q_rows : Nat) (f_rowSize : Nat → Int32) (f_rowItem : Nat → Int32) (f_passed : Nat → Int32) (q_planning : Int32) (q_aloneStatement : Int32) (q_alonePart : Int32) (q_aloneTime : Int32) (q_quiet : Nat) (f_quietStatement : Nat → Int32) (f_quietPart : Nat → Int32) (f_quietTime : Nat → Int32) (f_stack : Nat → Int32) (q_stacked : Nat) (q_wrong : Int32) (f_wayOut : Nat → Int32) (q_wayOuts : Nat) (n1 : Int32) (hlv : q_live ≤ 1) (hwx : WLX f_stat f_entryKind f_entryValue f_firstOf f_catchOf f_catchKind f_catchBlock f_body f_above f_statements f_catches f_methods f_kinds q_live ns bl nc nm nk en gS gB) (hk : gk < nk) : vz_Mi l D (tyG g) yX10_isAbove cX10_isAbove 4 0 0 0 0 .boolean [.ref h, .int n1, .int (nI gk)] sz (vz_w [rmW g h a f_words f_text q_size q_at q_token q_tokenAt q_which q_value q_live q_draft q_hasProgram f_stat f_statements f_entryKind f_entryValue f_firstOf f_catchOf f_catchKind f_catchBlock f_catches f_body f_methods f_above f_kinds q_entries q_blocks q_fault q_faultAt q_faultTold q_checks f_checkHow f_checkAt f_checkValue q_waits f_wait f_waitValue q_deep q_isOver q_piled f_pileKind f_pileStatement f_pileBlock f_pileLast q_planned f_planStatement f_planPart f_planTime f_planKind f_hasRun q_slot f_told f_tape f_failedKind f_cause f_underFirst f_underNext f_failedAt f_underWay f_traces f_closings f_enteredOf q_left q_ended q_signal q_signalValue q_frames f_frameKind f_frameStatement f_frameNow f_pending f_pendingValue f_firstResource f_openedOf f_caught q_acts f_actVar f_actRow f_actMethod f_actStatement q_rows f_rowSize f_rowItem f_passed q_planning q_aloneStatement q_alonePart q_aloneTime q_quiet f_quietStatement f_quietPart f_quietTime f_stack q_stacked q_wrong f_wayOut q_wayOuts]) (fun r (u : Unit) => (r = 0 ∨ r = 1)) (fun u => vz_w [rmW g h a f_words f_text q_size q_at q_token q_tokenAt q_which q_value q_live q_draft q_hasProgram f_stat f_statements f_entryKind f_entryValue f_firstOf f_catchOf f_catchKind f_catchBlock f_catches f_body f_methods f_above f_kinds q_entries q_blocks q_fault q_faultAt q_faultTold q_checks f_checkHow f_checkAt f_checkValue q_waits f_wait f_waitValue q_deep q_isOver q_piled f_pileKind f_pileStatement f_pileBlock f_pileLast q_planned f_planStatement f_planPart f_planTime f_planKind f_hasRun q_slot f_told f_tape f_failedKind f_cause f_underFirst f_underNext f_failedAt f_underWay f_traces f_closings f_enteredOf q_left q_ended q_signal q_signalValue q_frames f_frameKind f_frameStatement f_frameNow f_pending f_pendingValue f_firstResource f_openedOf f_caught q_acts f_actVar f_actRow f_actMethod f_actStatement q_rows f_rowSize f_rowItem f_passed q_planning q_aloneStatement q_alonePart q_aloneTime q_quiet f_quietStatement f_quietPart f_quietTime f_stack q_stacked q_wrong f_wayOut q_wayOuts]) := by
  refine vz_siQ (by decide) (Nat.le_of_ble_eq_true rfl) (fun p e s m args below meth c hx hb hr hml hts hown hlk hin hK hsz A hA H locs hP hD hS ls hl Q hQ => ?_)
  have hl : lv_has ls 4 [(0, .ref h), (1, .int n1), (2, .int (nI gk))] := hl
  have J2 : ∀ fu2 : Nat, ∀ (x3_2 : Int32), (x3_2.toInt + 1).toNat < fu2 → (x3_2 = -1 ∨ ∃ k : Nat, k < nk ∧ x3_2 = nI k) → ∀ (H : Heap) (locs : List Loc) (ls : Array Slot), va_P D vwCl (vz_w [rmW g h a f_words f_text q_size q_at q_token q_tokenAt q_which q_value q_live q_draft q_hasProgram f_stat f_statements f_entryKind f_entryValue f_firstOf f_catchOf f_catchKind f_catchBlock f_catches f_body f_methods f_above f_kinds q_entries q_blocks q_fault q_faultAt q_faultTold q_checks f_checkHow f_checkAt f_checkValue q_waits f_wait f_waitValue q_deep q_isOver q_piled f_pileKind f_pileStatement f_pileBlock f_pileLast q_planned f_planStatement f_planPart f_planTime f_planKind f_hasRun q_slot f_told f_tape f_failedKind f_cause f_underFirst f_underNext f_failedAt f_underWay f_traces f_closings f_enteredOf q_left q_ended q_signal q_signalValue q_frames f_frameKind f_frameStatement f_frameNow f_pending f_pendingValue f_firstResource f_openedOf f_caught q_acts f_actVar f_actRow f_actMethod f_actStatement q_rows f_rowSize f_rowItem f_passed q_planning q_aloneStatement q_alonePart q_aloneTime q_quiet f_quietStatement f_quietPart f_quietTime f_stack q_stacked q_wrong f_wayOut q_wayOuts]) H → va_D A (vz_w [rmW g h a f_words f_text q_size q_at q_token q_tokenAt q_which q_value q_live q_draft q_hasProgram f_stat f_statements f_entryKind f_entryValue f_firstOf f_catchOf f_catchKind f_catchBlock f_catches f_body f_methods f_above f_kinds q_entries q_blocks q_fault q_faultAt q_faultTold q_checks f_checkHow f_checkAt f_checkValue q_waits f_wait f_waitValue q_deep q_isOver q_piled f_pileKind f_pileStatement f_pileBlock f_pileLast q_planned f_planStatement f_planPart f_planTime f_planKind f_hasRun q_slot f_told f_tape f_failedKind f_cause f_underFirst f_underNext f_failedAt f_underWay f_traces f_closings f_enteredOf q_left q_ended q_signal q_signalValue q_frames f_frameKind f_frameStatement f_frameNow f_pending f_pendingValue f_firstResource f_openedOf f_caught q_acts f_actVar f_actRow f_actMethod f_actStatement q_rows f_rowSize f_rowItem f_passed q_planning q_aloneStatement q_alonePart q_aloneTime q_quiet f_quietStatement f_quietPart f_quietTime f_stack q_stacked q_wrong f_wayOut q_wayOuts]) → va_S A s.heap H locs → lv_has ls 4 [(0, .ref h), (1, .int n1), (2, .int (nI gk)), (3, .int x3_2)] → W p l e { frames := 0, cells := 0, slots := 0, locals := 0 } s m args below meth c H locs 0 0 Q (F0 m 2 ls []) := by
    intro fu2
    induction fu2 with
    | zero => intro x3_2 hf2 hj2_0 H locs ls hP hD hS hl; exact absurd hf2 (Nat.not_lt_zero _)
    | succ fu2 ih2 =>
      intro x3_2 hf2 hj2_0 H locs ls hP hD hS hl
      refine lv_iload_n hx hb dX10_isAbove_2 rfl (lv_at hl 3 rfl) ?_
      refine lv_if_lt (tgt := 29) hx hb dX10_isAbove_3 (by decide) (fun kc1 => ?_) (fun kc1 => ?_)
      · have kn2 : x3_2.toInt < 0 := Int32.lt_iff_toInt_lt.mp kc1
        refine lv_iload_n hx hb dX10_isAbove_29 rfl (lv_at hl 3 rfl) ?_
        refine lv_if_lt (tgt := 37) hx hb dX10_isAbove_30 (by decide) (fun kc3 => ?_) (fun kc3 => ?_)
        · have kn4 : x3_2.toInt < 0 := Int32.lt_iff_toInt_lt.mp kc3
          refine lv_iconst (v := 0) hx hb dX10_isAbove_37 (by decide) ?_
          rw [hQ]
          exact vz_zret3 hx hb hr hlk hK hP hD hS () (Or.inl rfl) rfl (Nat.le_refl 0) (Nat.le_refl 0) (by decide) dX10_isAbove_38
        · have kn5 : ¬ x3_2.toInt < 0 := fun q => kc3 (Int32.lt_iff_toInt_lt.mpr q)
          refine lv_iconst (v := 1) hx hb dX10_isAbove_33 (by decide) ?_
          refine lv_goto (tgt := 38) hx hb dX10_isAbove_34 (by decide) ?_
          rw [hQ]
          exact vz_zret3 hx hb hr hlk hK hP hD hS () (Or.inr rfl) rfl (Nat.le_refl 0) (Nat.le_refl 0) (by decide) dX10_isAbove_38
      · have kn6 : ¬ x3_2.toInt < 0 := fun q => kc1 (Int32.lt_iff_toInt_lt.mpr q)
        refine lv_iload_n hx hb dX10_isAbove_6 rfl (lv_at hl 3 rfl) ?_
        refine lv_iload_n hx hb dX10_isAbove_7 rfl (lv_at hl 1 rfl) ?_
        refine lv_icmp_eq (tgt := 29) hx hb dX10_isAbove_8 (by decide) (fun kc7 => ?_) (fun kc7 => ?_)
        · have kn8 : x3_2.toInt = n1.toInt := congrArg Int32.toInt kc7
          refine lv_iload_n hx hb dX10_isAbove_29 rfl (lv_at hl 3 rfl) ?_
          refine lv_if_lt (tgt := 37) hx hb dX10_isAbove_30 (by decide) (fun kc9 => ?_) (fun kc9 => ?_)
          · have kn10 : x3_2.toInt < 0 := Int32.lt_iff_toInt_lt.mp kc9
            refine lv_iconst (v := 0) hx hb dX10_isAbove_37 (by decide) ?_
            rw [hQ]
            exact vz_zret3 hx hb hr hlk hK hP hD hS () (Or.inl rfl) rfl (Nat.le_refl 0) (Nat.le_refl 0) (by decide) dX10_isAbove_38
          · have kn11 : ¬ x3_2.toInt < 0 := fun q => kc9 (Int32.lt_iff_toInt_lt.mpr q)
            refine lv_iconst (v := 1) hx hb dX10_isAbove_33 (by decide) ?_
            refine lv_goto (tgt := 38) hx hb dX10_isAbove_34 (by decide) ?_
            rw [hQ]
            exact vz_zret3 hx hb hr hlk hK hP hD hS () (Or.inr rfl) rfl (Nat.le_refl 0) (Nat.le_refl 0) (by decide) dX10_isAbove_38
        · have kn12 : ¬ x3_2.toInt = n1.toInt := fun q => kc7 (Int32.toInt_inj.mp q)
          obtain ⟨k8, hk8, hk9⟩ := hj2_0.resolve_left (fun q => by have z := kc1; rw [q] at z; exact absurd (by decide) z)
          have hk16 : k8 < 16 := Nat.lt_of_lt_of_le hk8 hwx.2.1.2.2.2.2.2.2.2.2
          have hab : f_above (16 * q_live + k8) = -1 ∨ ∃ j : Nat, j < k8 ∧ f_above (16 * q_live + k8) = nI j := by have q := hwx.2.1.2.2.2.1 k8 hk8; rw [gsh_in hk16] at q; exact q.imp id (fun z => z.resolve_right id)
          refine lv_aload_n hx hb dX10_isAbove_11 rfl (lv_at hl 0 rfl) ?_
          refine va_get (D := D) (ci := 10) (v := .ref (a 13)) (C := RX10) (T := TX10) (N := 96) hx hb hts inlX10 hown hK hP 0 rfl rfl 22 (by decide) (hts _ q206) (fun _ h => h) rfl dX10_isAbove_12 ?_
          refine lv_bipush (v := 16) hx hb dX10_isAbove_15 (by decide) ?_
          refine lv_aload_n hx hb dX10_isAbove_17 rfl (lv_at hl 0 rfl) ?_
          refine va_get (D := D) (ci := 10) (v := .int (nI q_live)) (C := RX10) (T := TX10) (N := 96) hx hb hts inlX10 hown hK hP 0 rfl rfl 8 (by decide) (hts _ q254) (fun _ h => h) rfl dX10_isAbove_18 ?_
          refine lv_imul hx hb dX10_isAbove_21 ?_
          refine lv_topi (nm_r (e' := (nI (16 * q_live))) (vz_mul 16 q_live) ?_)
          refine lv_iload_n hx hb dX10_isAbove_22 rfl (lv_at hl 3 rfl) ?_
          refine lv_topi (nm_r (e' := (nI k8)) hk9 ?_)
          refine lv_iadd hx hb dX10_isAbove_23 ?_
          refine lv_topi (nm_r (e' := (nI ((16 * q_live) + k8))) (nI_add (16 * q_live) k8) ?_)
          refine va_iald hx hb hK hP 14 0 rfl rfl (vr_in (by first | omega | (clear hP hD hS hl hQ; grind)) (by decide)) dX10_isAbove_24 ?_
          refine lv_topi (nm_r (e' := (f_above ((16 * q_live) + k8))) (vr_ld (by first | omega | (clear hP hD hS hl hQ; grind))) ?_)
          refine lv_istore_n (lv' := [(3, .int (f_above ((16 * q_live) + k8))), (0, .ref h), (1, .int n1), (2, .int (nI gk))]) hx hb dX10_isAbove_25 rfl hl (by decide) rfl (fun ls hl => ?_)
          refine lv_goto (tgt := 2) hx hb dX10_isAbove_26 (by decide) ?_
          exact ih2 (f_above ((16 * q_live) + k8)) (ab_lt hk9 (by omega) hab hf2) (hab.imp id (fun ⟨j, z1, z2⟩ => ⟨j, Nat.lt_trans z1 hk8, z2⟩)) H locs ls hP hD hS (lv_sub hl [1, 2, 3, 0] rfl)
  refine lv_iload_n hx hb dX10_isAbove_0 rfl (lv_at hl 2 rfl) ?_
  refine lv_istore_n (lv' := [(3, .int (nI gk)), (0, .ref h), (1, .int n1), (2, .int (nI gk))]) hx hb dX10_isAbove_1 rfl hl (by decide) rfl (fun ls hl => ?_)
  exact J2 (((nI gk).toInt + 1).toNat + 1) (nI gk) (Nat.lt_succ_self _) (Or.inr ⟨gk, hk, rfl⟩) H locs ls hP hD hS (lv_sub hl [1, 2, 3, 0] rfl)
theorem q1498 : Cond.methodLink RX10 466 yX10_isAbove ∈ wsL_law := mT_8 (List.mem_of_getElem? (i := 155) rfl) rfl
theorem q1499 : Cond.instanceMethod yX10_isAbove ∈ wsL_law := mT_8 (List.mem_of_getElem? (i := 157) rfl) rfl
theorem q1500 : Cond.selects RX10 yX10_isAbove yX10_isAbove ∈ wsL_law := mS_10 (q := (yX10_isAbove, 96)) (List.mem_of_getElem? (i := 10) rfl) rfl
theorem q1501 : Cond.code yX10_isAbove cX10_isAbove 4 (some .boolean) ∈ wsL_law := mT_8 (List.mem_of_getElem? (i := 158) rfl) rfl
theorem kv_X10_466 : vz_cv RX10 466 yX10_isAbove cX10_isAbove 4 (some .boolean) 2 := ⟨q1498, q1499, q1500, q5, q1501, by decide +kernel⟩
theorem dX10_catchFor_0 : decode cX10_catchFor 0 = .ok (.iconst 0, 1) := by decide +kernel
theorem dX10_catchFor_1 : decode cX10_catchFor 1 = .ok (.istore_n 3, 1) := by decide +kernel
theorem dX10_catchFor_2 : decode cX10_catchFor 2 = .ok (.iload_n 3, 1) := by decide +kernel
theorem dX10_catchFor_3 : decode cX10_catchFor 3 = .ok (.aload_n 0, 1) := by decide +kernel
theorem dX10_catchFor_4 : decode cX10_catchFor 4 = .ok (.getfield 84, 3) := by decide +kernel
theorem dX10_catchFor_7 : decode cX10_catchFor 7 = .ok (.aload_n 0, 1) := by decide +kernel
theorem dX10_catchFor_8 : decode cX10_catchFor 8 = .ok (.getfield 235, 3) := by decide +kernel
theorem dX10_catchFor_11 : decode cX10_catchFor 11 = .ok (.iaload, 1) := by decide +kernel
theorem dX10_catchFor_12 : decode cX10_catchFor 12 = .ok (.if_icmp .ge 50, 3) := by decide +kernel
theorem dX10_catchFor_15 : decode cX10_catchFor 15 = .ok (.sipush 160, 3) := by decide +kernel
theorem dX10_catchFor_18 : decode cX10_catchFor 18 = .ok (.aload_n 0, 1) := by decide +kernel
theorem dX10_catchFor_19 : decode cX10_catchFor 19 = .ok (.getfield 235, 3) := by decide +kernel
theorem dX10_catchFor_22 : decode cX10_catchFor 22 = .ok (.imul, 1) := by decide +kernel
theorem dX10_catchFor_23 : decode cX10_catchFor 23 = .ok (.iload_n 3, 1) := by decide +kernel
theorem dX10_catchFor_24 : decode cX10_catchFor 24 = .ok (.iadd, 1) := by decide +kernel
theorem dX10_catchFor_25 : decode cX10_catchFor 25 = .ok (.istore 4, 2) := by decide +kernel
theorem dX10_catchFor_27 : decode cX10_catchFor 27 = .ok (.aload_n 0, 1) := by decide +kernel
theorem dX10_catchFor_28 : decode cX10_catchFor 28 = .ok (.getfield 75, 3) := by decide +kernel
theorem dX10_catchFor_31 : decode cX10_catchFor 31 = .ok (.iload 4, 2) := by decide +kernel
theorem dX10_catchFor_33 : decode cX10_catchFor 33 = .ok (.iaload, 1) := by decide +kernel
theorem dX10_catchFor_34 : decode cX10_catchFor 34 = .ok (.iload_n 1, 1) := by decide +kernel
theorem dX10_catchFor_35 : decode cX10_catchFor 35 = .ok (.if_icmp .ne 21, 3) := by decide +kernel
theorem dX10_catchFor_38 : decode cX10_catchFor 38 = .ok (.aload_n 0, 1) := by decide +kernel
theorem dX10_catchFor_39 : decode cX10_catchFor 39 = .ok (.aload_n 0, 1) := by decide +kernel
theorem dX10_catchFor_40 : decode cX10_catchFor 40 = .ok (.getfield 78, 3) := by decide +kernel
theorem dX10_catchFor_43 : decode cX10_catchFor 43 = .ok (.iload 4, 2) := by decide +kernel
theorem dX10_catchFor_45 : decode cX10_catchFor 45 = .ok (.iaload, 1) := by decide +kernel
theorem dX10_catchFor_46 : decode cX10_catchFor 46 = .ok (.iload_n 2, 1) := by decide +kernel
theorem dX10_catchFor_47 : decode cX10_catchFor 47 = .ok (.invokevirtual 466, 3) := by decide +kernel
theorem dX10_catchFor_50 : decode cX10_catchFor 50 = .ok (.ifCond .eq 6, 3) := by decide +kernel
theorem dX10_catchFor_53 : decode cX10_catchFor 53 = .ok (.iload 4, 2) := by decide +kernel
theorem dX10_catchFor_55 : decode cX10_catchFor 55 = .ok (.ireturn, 1) := by decide +kernel
theorem dX10_catchFor_56 : decode cX10_catchFor 56 = .ok (.iinc 3 1, 3) := by decide +kernel
theorem dX10_catchFor_59 : decode cX10_catchFor 59 = .ok (.goto (-57), 3) := by decide +kernel
theorem dX10_catchFor_62 : decode cX10_catchFor 62 = .ok (.iconst (-1), 1) := by decide +kernel
theorem dX10_catchFor_63 : decode cX10_catchFor 63 = .ok (.ireturn, 1) := by decide +kernel
set_option maxHeartbeats 8000000 in
set_option maxRecDepth 100000 in
theorem r_catchFor (l : Launch) (D : va_G) (g : Nat → ClassId)   (sz : Nat) (gs : Nat) (gk : Nat) (ns : Nat) (bl : Nat) (nc : Nat) (nm : Nat) (nk : Nat) (en : Nat) (gS : vgG) (gB : vgG) (h : Nat) (a : Nat → Nat) (f_words : Nat → Int64) (f_text : Nat → Int32) (q_size : Nat) (q_at : Nat) (q_token : Int32) (q_tokenAt : Nat) (q_which : Int32) (q_value : Nat) (q_live : Nat) (q_draft : Nat) (q_hasProgram : Int32) (f_stat : Nat → Int32) (f_statements : Nat → Int32) (f_entryKind : Nat → Int32) (f_entryValue : Nat → Int32) (f_firstOf : Nat → Int32) (f_catchOf : Nat → Int32) (f_catchKind : Nat → Int32) (f_catchBlock : Nat → Int32) (f_catches : Nat → Int32) (f_body : Nat → Int32) (f_methods : Nat → Int32) (f_above : Nat → Int32) (f_kinds : Nat → Int32) (q_entries : Nat) (q_blocks : Nat) (q_fault : Int32) (q_faultAt : Int32) (q_faultTold : Int32) (q_checks : Nat) (f_checkHow : Nat → Int32) (f_checkAt : Nat → Int32) (f_checkValue : Nat → Int32) (q_waits : Nat) (f_wait : Nat → Int32) (f_waitValue : Nat → Int32) (q_deep : Int32) (q_isOver : Int32) (q_piled : Nat) (f_pileKind : Nat → Int32) (f_pileStatement : Nat → Int32) (f_pileBlock : Nat → Int32) (f_pileLast : Nat → Int32) (q_planned : Nat) (f_planStatement : Nat → Int32) (f_planPart : Nat → Int32) (f_planTime : Nat → Int32) (f_planKind : Nat → Int32) (f_hasRun : Nat → Int32) (q_slot : Nat) (f_told : Nat → Int32) (f_tape : Nat → Int32) (f_failedKind : Nat → Int32) (f_cause : Nat → Int32) (f_underFirst : Nat → Int32) (f_underNext : Nat → Int32) (f_failedAt : Nat → Int32) (f_underWay : Nat → Int32) (f_traces : Nat → Int32) (f_closings : Nat → Int32) (f_enteredOf : Nat → Int32) (q_left : Nat) (q_ended : Int32) (q_signal : Int32) (q_signalValue : Int32) (q_frames : Nat) (f_frameKind : Nat → Int32) (f_frameStatement : Nat → Int32) (f_frameNow : Nat → Int32) (f_pending : Nat → Int32) (f_pendingValue : Nat → Int32) (f_firstResource : Nat → Int32) (f_openedOf : Nat → Int32) (f_caught : Nat → Int32) (q_acts : Nat) (f_actVar : Nat → Int32) (f_actRow : Nat → Int32) (f_actMethod : Nat → Int32) (f_actStatement : Nat → Int32) (q_rows : Nat) (f_rowSize : Nat → Int32) (f_rowItem : Nat → Int32) (f_passed : Nat → Int32) (q_planning : Int32) (q_aloneStatement : Int32) (q_alonePart : Int32) (q_aloneTime : Int32) (q_quiet : Nat) (f_quietStatement : Nat → Int32) (f_quietPart : Nat → Int32) (f_quietTime : Nat → Int32) (f_stack : Nat → Int32) (q_stacked : Nat) (q_wrong : Int32) (f_wayOut : Nat → Int32) (q_wayOuts : Nat) (hlv : q_live ≤ 1) (hwx : WLX f_stat f_entryKind f_entryValue f_firstOf f_catchOf f_catchKind f_catchBlock f_body f_above f_statements f_catches f_methods f_kinds q_live ns bl nc nm nk en gS gB) (hs : gs < ns) (hk : gk < nk) : vz_Mi l D (tyG g) yX10_catchFor cX10_catchFor 5 1 23 0 0 .int [.ref h, .int (nI gs), .int (nI gk)] sz (vz_w [rmW g h a f_words f_text q_size q_at q_token q_tokenAt q_which q_value q_live q_draft q_hasProgram f_stat f_statements f_entryKind f_entryValue f_firstOf f_catchOf f_catchKind f_catchBlock f_catches f_body f_methods f_above f_kinds q_entries q_blocks q_fault q_faultAt q_faultTold q_checks f_checkHow f_checkAt f_checkValue q_waits f_wait f_waitValue q_deep q_isOver q_piled f_pileKind f_pileStatement f_pileBlock f_pileLast q_planned f_planStatement f_planPart f_planTime f_planKind f_hasRun q_slot f_told f_tape f_failedKind f_cause f_underFirst f_underNext f_failedAt f_underWay f_traces f_closings f_enteredOf q_left q_ended q_signal q_signalValue q_frames f_frameKind f_frameStatement f_frameNow f_pending f_pendingValue f_firstResource f_openedOf f_caught q_acts f_actVar f_actRow f_actMethod f_actStatement q_rows f_rowSize f_rowItem f_passed q_planning q_aloneStatement q_alonePart q_aloneTime q_quiet f_quietStatement f_quietPart f_quietTime f_stack q_stacked q_wrong f_wayOut q_wayOuts]) (fun r (u : Unit) => (r = -1 ∨ ∃ cc : Nat, r = nI cc ∧ cc < 320 ∧ okB bl gB ((gS gs).1 + 1, true) (f_catchBlock cc))) (fun u => vz_w [rmW g h a f_words f_text q_size q_at q_token q_tokenAt q_which q_value q_live q_draft q_hasProgram f_stat f_statements f_entryKind f_entryValue f_firstOf f_catchOf f_catchKind f_catchBlock f_catches f_body f_methods f_above f_kinds q_entries q_blocks q_fault q_faultAt q_faultTold q_checks f_checkHow f_checkAt f_checkValue q_waits f_wait f_waitValue q_deep q_isOver q_piled f_pileKind f_pileStatement f_pileBlock f_pileLast q_planned f_planStatement f_planPart f_planTime f_planKind f_hasRun q_slot f_told f_tape f_failedKind f_cause f_underFirst f_underNext f_failedAt f_underWay f_traces f_closings f_enteredOf q_left q_ended q_signal q_signalValue q_frames f_frameKind f_frameStatement f_frameNow f_pending f_pendingValue f_firstResource f_openedOf f_caught q_acts f_actVar f_actRow f_actMethod f_actStatement q_rows f_rowSize f_rowItem f_passed q_planning q_aloneStatement q_alonePart q_aloneTime q_quiet f_quietStatement f_quietPart f_quietTime f_stack q_stacked q_wrong f_wayOut q_wayOuts]) := by
  refine vz_siQ (by decide) (Nat.le_of_ble_eq_true rfl) (fun p e s m args below meth c hx hb hr hml hts hown hlk hin hK hsz A hA H locs hP hD hS ls hl Q hQ => ?_)
  have hl : lv_has ls 5 [(0, .ref h), (1, .int (nI gs)), (2, .int (nI gk))] := hl
  have hnc1 : nc ≤ 160 := hwx.2.1.2.2.2.2.2.2.1
  have hns8 : ns ≤ 80 := hwx.2.1.2.2.2.2.1
  have J2 : ∀ fu2 : Nat, ∀ (xn3_2 : Nat), nc - xn3_2 < fu2 → (xn3_2 ≤ nc) → ∀ (H : Heap) (locs : List Loc) (ls : Array Slot), va_P D vwCl (vz_w [rmW g h a f_words f_text q_size q_at q_token q_tokenAt q_which q_value q_live q_draft q_hasProgram f_stat f_statements f_entryKind f_entryValue f_firstOf f_catchOf f_catchKind f_catchBlock f_catches f_body f_methods f_above f_kinds q_entries q_blocks q_fault q_faultAt q_faultTold q_checks f_checkHow f_checkAt f_checkValue q_waits f_wait f_waitValue q_deep q_isOver q_piled f_pileKind f_pileStatement f_pileBlock f_pileLast q_planned f_planStatement f_planPart f_planTime f_planKind f_hasRun q_slot f_told f_tape f_failedKind f_cause f_underFirst f_underNext f_failedAt f_underWay f_traces f_closings f_enteredOf q_left q_ended q_signal q_signalValue q_frames f_frameKind f_frameStatement f_frameNow f_pending f_pendingValue f_firstResource f_openedOf f_caught q_acts f_actVar f_actRow f_actMethod f_actStatement q_rows f_rowSize f_rowItem f_passed q_planning q_aloneStatement q_alonePart q_aloneTime q_quiet f_quietStatement f_quietPart f_quietTime f_stack q_stacked q_wrong f_wayOut q_wayOuts]) H → va_D A (vz_w [rmW g h a f_words f_text q_size q_at q_token q_tokenAt q_which q_value q_live q_draft q_hasProgram f_stat f_statements f_entryKind f_entryValue f_firstOf f_catchOf f_catchKind f_catchBlock f_catches f_body f_methods f_above f_kinds q_entries q_blocks q_fault q_faultAt q_faultTold q_checks f_checkHow f_checkAt f_checkValue q_waits f_wait f_waitValue q_deep q_isOver q_piled f_pileKind f_pileStatement f_pileBlock f_pileLast q_planned f_planStatement f_planPart f_planTime f_planKind f_hasRun q_slot f_told f_tape f_failedKind f_cause f_underFirst f_underNext f_failedAt f_underWay f_traces f_closings f_enteredOf q_left q_ended q_signal q_signalValue q_frames f_frameKind f_frameStatement f_frameNow f_pending f_pendingValue f_firstResource f_openedOf f_caught q_acts f_actVar f_actRow f_actMethod f_actStatement q_rows f_rowSize f_rowItem f_passed q_planning q_aloneStatement q_alonePart q_aloneTime q_quiet f_quietStatement f_quietPart f_quietTime f_stack q_stacked q_wrong f_wayOut q_wayOuts]) → va_S A s.heap H locs → lv_has ls 5 [(0, .ref h), (1, .int (nI gs)), (2, .int (nI gk)), (3, .int (nI xn3_2))] → W p l e { frames := 1, cells := 0, slots := 0, locals := 23 } s m args below meth c H locs 0 0 Q (F0 m 2 ls []) := by
    intro fu2
    induction fu2 with
    | zero => intro xn3_2 hf2 hj2_0 H locs ls hP hD hS hl; exact absurd hf2 (Nat.not_lt_zero _)
    | succ fu2 ih2 =>
      intro xn3_2 hf2 hj2_0 H locs ls hP hD hS hl
      refine lv_iload_n hx hb dX10_catchFor_2 rfl (lv_at hl 3 rfl) ?_
      refine lv_aload_n hx hb dX10_catchFor_3 rfl (lv_at hl 0 rfl) ?_
      refine va_get (D := D) (ci := 10) (v := .ref (a 10)) (C := RX10) (T := TX10) (N := 96) hx hb hts inlX10 hown hK hP 0 rfl rfl 19 (by decide) (hts _ q203) (fun _ h => h) rfl dX10_catchFor_4 ?_
      refine lv_aload_n hx hb dX10_catchFor_7 rfl (lv_at hl 0 rfl) ?_
      refine va_get (D := D) (ci := 10) (v := .int (nI q_live)) (C := RX10) (T := TX10) (N := 96) hx hb hts inlX10 hown hK hP 0 rfl rfl 8 (by decide) (hts _ q254) (fun _ h => h) rfl dX10_catchFor_8 ?_
      refine va_iald hx hb hK hP 11 0 rfl rfl (vr_in (by first | omega | (clear hP hD hS hl hQ; grind)) (by decide)) dX10_catchFor_11 ?_
      refine lv_topi (nm_r (e' := (f_catches q_live)) (vr_ld (by first | omega | (clear hP hD hS hl hQ; grind))) ?_)
      refine lv_topi (nm_r (e' := (nI nc)) hwx.2.2.2.2.2.1 ?_)
      refine lv_icmp_ge (tgt := 62) hx hb dX10_catchFor_12 (by decide) (fun kc1 => ?_) (fun kc1 => ?_)
      · try (have kn2 : nc ≤ xn3_2 := (vr_le (a := nc) (b := xn3_2) (by first | omega | (clear hP hD hS hl hQ; grind)) (by first | omega | (clear hP hD hS hl hQ; grind))).mp kc1)
        refine lv_iconst (v := (-1)) hx hb dX10_catchFor_62 (by decide) ?_
        rw [hQ]
        exact vz_iret3 hx hb hr hlk hK hP hD hS () (Or.inl rfl) rfl (Nat.le_refl 0) (Nat.le_refl 0) dX10_catchFor_63
      · try (have kn3 : xn3_2 < nc := Nat.not_le.mp (fun h9 => kc1 ((vr_le (a := nc) (b := xn3_2) (by first | omega | (clear hP hD hS hl hQ; grind)) (by first | omega | (clear hP hD hS hl hQ; grind))).mpr h9)))
        have hlt9 : xn3_2 < nc := by omega
        refine lv_sipush (v := 160) hx hb dX10_catchFor_15 (by decide) ?_
        refine lv_aload_n hx hb dX10_catchFor_18 rfl (lv_at hl 0 rfl) ?_
        refine va_get (D := D) (ci := 10) (v := .int (nI q_live)) (C := RX10) (T := TX10) (N := 96) hx hb hts inlX10 hown hK hP 0 rfl rfl 8 (by decide) (hts _ q254) (fun _ h => h) rfl dX10_catchFor_19 ?_
        refine lv_imul hx hb dX10_catchFor_22 ?_
        refine lv_topi (nm_r (e' := (nI (160 * q_live))) (vz_mul 160 q_live) ?_)
        refine lv_iload_n hx hb dX10_catchFor_23 rfl (lv_at hl 3 rfl) ?_
        refine lv_iadd hx hb dX10_catchFor_24 ?_
        refine lv_topi (nm_r (e' := (nI ((160 * q_live) + xn3_2))) (nI_add (160 * q_live) xn3_2) ?_)
        refine lv_istore (lv' := [(4, .int (nI ((160 * q_live) + xn3_2))), (0, .ref h), (1, .int (nI gs)), (2, .int (nI gk)), (3, .int (nI xn3_2))]) hx hb dX10_catchFor_25 hl (by decide) rfl (fun ls hl => ?_)
        refine lv_aload_n hx hb dX10_catchFor_27 rfl (lv_at hl 1 rfl) ?_
        refine va_get (D := D) (ci := 10) (v := .ref (a 7)) (C := RX10) (T := TX10) (N := 96) hx hb hts inlX10 hown hK hP 0 rfl rfl 16 (by decide) (hts _ q200) (fun _ h => h) rfl dX10_catchFor_28 ?_
        refine lv_iload hx hb dX10_catchFor_31 (lv_at hl 0 rfl) ?_
        refine va_iald hx hb hK hP 8 0 rfl rfl (vr_in (by first | omega | (clear hP hD hS hl hQ; grind)) (by decide)) dX10_catchFor_33 ?_
        refine lv_topi (nm_r (e' := (f_catchOf ((160 * q_live) + xn3_2))) (vr_ld (by first | omega | (clear hP hD hS hl hQ; grind))) ?_)
        refine lv_iload_n hx hb dX10_catchFor_34 rfl (lv_at hl 2 rfl) ?_
        refine lv_icmp_ne (tgt := 56) hx hb dX10_catchFor_35 (by decide) (fun kc4 => ?_) (fun kc4 => ?_)
        · try (have kn5 : ¬ (f_catchOf ((160 * q_live) + xn3_2)).toInt = ((gs : Nat) : Int) := by (have q : ¬ (f_catchOf ((160 * q_live) + xn3_2)).toInt = (nI gs).toInt := fun q => kc4 (Int32.toInt_inj.mp q)); rw [nI_toInt (n := gs) (by first | omega | (clear hP hD hS hl hQ; grind))] at q; exact q)
          refine lv_iinc (v := (nI (xn3_2 + 1))) (lv' := [(3, .int (nI (xn3_2 + 1))), (4, .int (nI ((160 * q_live) + xn3_2))), (0, .ref h), (1, .int (nI gs)), (2, .int (nI gk))]) hx hb dX10_catchFor_56 hl (k := 4) rfl (nI_add xn3_2 1) (by decide) rfl (fun ls hl => ?_)
          refine lv_goto (tgt := 2) hx hb dX10_catchFor_59 (by decide) ?_
          exact ih2 (xn3_2 + 1) (by first | omega | (clear hP hD hS hl hQ; grind)) (by first | assumption | omega | (clear hP hD hS hl hQ; grind)) H locs ls hP hD hS (lv_sub hl [2, 3, 4, 0] rfl)
        · try (have kn6 : (f_catchOf ((160 * q_live) + xn3_2)).toInt = ((gs : Nat) : Int) := by (have q : (f_catchOf ((160 * q_live) + xn3_2)).toInt = (nI gs).toInt := congrArg Int32.toInt kc4); rw [nI_toInt (n := gs) (by first | omega | (clear hP hD hS hl hQ; grind))] at q; exact q)
          refine lv_aload_n hx hb dX10_catchFor_38 rfl (lv_at hl 1 rfl) ?_
          refine lv_aload_n hx hb dX10_catchFor_39 rfl (lv_at hl 1 rfl) ?_
          refine va_get (D := D) (ci := 10) (v := .ref (a 8)) (C := RX10) (T := TX10) (N := 96) hx hb hts inlX10 hown hK hP 0 rfl rfl 17 (by decide) (hts _ q201) (fun _ h => h) rfl dX10_catchFor_40 ?_
          refine lv_iload hx hb dX10_catchFor_43 (lv_at hl 0 rfl) ?_
          refine va_iald hx hb hK hP 9 0 rfl rfl (vr_in (by first | omega | (clear hP hD hS hl hQ; grind)) (by decide)) dX10_catchFor_45 ?_
          refine lv_topi (nm_r (e' := (f_catchKind ((160 * q_live) + xn3_2))) (vr_ld (by first | omega | (clear hP hD hS hl hQ; grind))) ?_)
          refine lv_iload_n hx hb dX10_catchFor_46 rfl (lv_at hl 3 rfl) ?_
          refine vz_Vi3 (As := [.int (f_catchKind ((160 * q_live) + xn3_2)), .int (nI gk)]) (rest := []) hx hb hml hown hts hK hA hP hD hS (r_isAbove l D g H.size gk ns bl nc nm nk en gS gB h a f_words f_text q_size q_at q_token q_tokenAt q_which q_value q_live q_draft q_hasProgram f_stat f_statements f_entryKind f_entryValue f_firstOf f_catchOf f_catchKind f_catchBlock f_catches f_body f_methods f_above f_kinds q_entries q_blocks q_fault q_faultAt q_faultTold q_checks f_checkHow f_checkAt f_checkValue q_waits f_wait f_waitValue q_deep q_isOver q_piled f_pileKind f_pileStatement f_pileBlock f_pileLast q_planned f_planStatement f_planPart f_planTime f_planKind f_hasRun q_slot f_told f_tape f_failedKind f_cause f_underFirst f_underNext f_failedAt f_underWay f_traces f_closings f_enteredOf q_left q_ended q_signal q_signalValue q_frames f_frameKind f_frameStatement f_frameNow f_pending f_pendingValue f_firstResource f_openedOf f_caught q_acts f_actVar f_actRow f_actMethod f_actStatement q_rows f_rowSize f_rowItem f_passed q_planning q_aloneStatement q_alonePart q_aloneTime q_quiet f_quietStatement f_quietPart f_quietTime f_stack q_stacked q_wrong f_wayOut q_wayOuts (f_catchKind ((160 * q_live) + xn3_2)) (by first | assumption | omega | (clear hP hD hS hl hQ; grind)) (by first | assumption | omega | (clear hP hD hS hl hQ; grind)) (by first | assumption | omega | (clear hP hD hS hl hQ; grind))) kv_X10_466 ⟨Nat.le_of_ble_eq_true rfl, Nat.le_of_ble_eq_true rfl⟩ (q0 := 0) (ci := 10) rfl rfl rfl  hl.1 (Nat.le_of_ble_eq_true rfl) dX10_catchFor_47 ⟨Nat.le_refl _, Nat.le_refl _⟩ rfl (fun v7 _ H locs hz8 _ hP hD hS => ?_)
          refine lv_if_eq (tgt := 56) hx hb dX10_catchFor_50 (by decide) (fun kc9 => ?_) (fun kc9 => ?_)
          · have kn10 : v7.toInt = 0 := congrArg Int32.toInt kc9
            refine lv_iinc (v := (nI (xn3_2 + 1))) (lv' := [(3, .int (nI (xn3_2 + 1))), (4, .int (nI ((160 * q_live) + xn3_2))), (0, .ref h), (1, .int (nI gs)), (2, .int (nI gk))]) hx hb dX10_catchFor_56 hl (k := 4) rfl (nI_add xn3_2 1) (by decide) rfl (fun ls hl => ?_)
            refine lv_goto (tgt := 2) hx hb dX10_catchFor_59 (by decide) ?_
            exact ih2 (xn3_2 + 1) (by first | omega | (clear hP hD hS hl hQ; grind)) (by first | assumption | omega | (clear hP hD hS hl hQ; grind)) H locs ls hP hD hS (lv_sub hl [2, 3, 4, 0] rfl)
          · have kn11 : ¬ v7.toInt = 0 := fun q => kc9 (Int32.toInt_inj.mp q)
            refine lv_iload hx hb dX10_catchFor_53 (lv_at hl 0 rfl) ?_
            rw [hQ]
            exact vz_iret3 hx hb hr hlk hK hP hD hS () ((by obtain ⟨s9, y1, y2, y3, y4⟩ := hwx.2.1.2.1 xn3_2 hlt9; rw [gsh_in (by omega)] at y2 y4; have e : s9 = gs := nI_ij (y2.symm.trans kc4) (by omega) (by omega); rw [e] at y4; exact Or.inr ⟨160 * q_live + xn3_2, rfl, by omega, y4⟩)) rfl (Nat.le_refl 0) (Nat.le_refl 0) dX10_catchFor_55
  refine lv_iconst (v := 0) hx hb dX10_catchFor_0 (by decide) ?_
  refine lv_istore_n (lv' := [(3, .int 0), (0, .ref h), (1, .int (nI gs)), (2, .int (nI gk))]) hx hb dX10_catchFor_1 rfl hl (by decide) rfl (fun ls hl => ?_)
  exact J2 (nc - 0 + 1) 0 (Nat.lt_succ_self _) (by first | assumption | omega | (clear hP hD hS hl hQ; grind)) H locs ls hP hD hS (lv_sub hl [1, 2, 3, 0] rfl)
