set_option maxHeartbeats 8000000 in
set_option maxRecDepth 100000 in
theorem a_W_append (l : Launch) (D : va_G) (g : Nat → ClassId)   (sz : Nat) (h : Nat) (wa : Nat → Nat) (wi : Nat → Int32) (wr : Nat → Nat) (wf : Nat → Nat → Int32) (ph : Nat) (rh : Nat) (la : Nat → Nat) (pa : Nat → Nat) (pr : Nat → Nat) (pf : Nat → Nat → Int32) (ca : Nat → Nat) (ci : Nat → Int32) (cr : Nat → Nat) (cf : Nat → Nat → Int32) (lr : Nat → Nat) (lf : Nat → Nat → Int32) (lmx : Nat) (n1 : Int32) (n2 : Int32) (hw_w : ∀ k, wr k ≤ woW_lim k) (hw_p : ∀ k, pr k ≤ pgW_lim k) (hw_c : ∀ k, cr k ≤ rcW_lim k) (hw_l : ∀ k, lr k ≤ (plW_lim lmx) k) (hmx_l : lmx ≤ 30) : vz_Mv l D (tyG g) yX8_append cX8_append 4 2 48 0 0 [.ref h, .int n1, .int n2] sz ((woW g h wa wi wr wf ph rh (la 0)) ++ (pgW g ph pa pr pf) ++ (rcW g rh ca ci cr cf) ++ (plW g la lr lf lmx)) (fun u : (Nat → Int32) × (Nat → Nat) × (Nat → Nat → Int32) × (Nat → Nat) × (Nat → Nat → Int32) => (∀ k, u.2.1 k ≤ woW_lim k) ∧ (∀ k, u.2.2.2.1 k ≤ rcW_lim k)) (fun u => (woW g h wa u.1 u.2.1 u.2.2.1 ph rh (la 0)) ++ (pgW g ph pa pr pf) ++ (rcW g rh ca ci u.2.2.2.1 u.2.2.2.2) ++ (plW g la lr lf lmx)) := by
  refine vz_svQ (by decide) (Nat.le_of_ble_eq_true rfl) (fun p e s m args below meth c hx hb hr hml hts hown hlk hin hK hsz A hA H locs hP hD hS ls hl Q hQ => ?_)
  have hl : lv_has ls 4 [(0, .ref h), (1, .int n1), (2, .int n2)] := hl
  have J45 : ∀ (x3_45 : Int32), ∀ (wi_45 : Nat → Int32), ∀ (wr_45 : Nat → Nat), ∀ (wf_45 : Nat → Nat → Int32), ∀ (cr_45 : Nat → Nat), ∀ (cf_45 : Nat → Nat → Int32), (∀ k, wr_45 k ≤ woW_lim k) → (∀ k, cr_45 k ≤ rcW_lim k) → ∀ (H : Heap) (locs : List Loc) (ls : Array Slot), va_P D vwCl ((woW g h wa wi_45 wr_45 wf_45 ph rh (la 0)) ++ (pgW g ph pa pr pf) ++ (rcW g rh ca ci cr_45 cf_45) ++ (plW g la lr lf lmx)) H → va_D A ((woW g h wa wi_45 wr_45 wf_45 ph rh (la 0)) ++ (pgW g ph pa pr pf) ++ (rcW g rh ca ci cr_45 cf_45) ++ (plW g la lr lf lmx)) → va_S A s.heap H locs → lv_has ls 4 [(0, .ref h), (1, .int n1), (2, .int n2), (3, .int x3_45)] → W p l e { frames := 2, cells := 0, slots := 0, locals := 48 } s m args below meth c H locs 0 0 Q (F0 m 45 ls []) := by
    intro x3_45 wi_45 wr_45 wf_45 cr_45 cf_45 hw_w_45 hw_c_45 H locs ls hP hD hS hl
    rw [hQ]
    exact vz_vret3 hx hb hr hlk hK hP hD hS (wi_45, wr_45, wf_45, cr_45, cf_45) (⟨hw_w_45, hw_c_45⟩) rfl (Nat.le_refl 0) (Nat.le_refl 0) dX8_append_45
  refine lv_aload_n hx hb dX8_append_0 rfl (lv_at hl 0 rfl) ?_
  refine lv_iload_n hx hb dX8_append_1 rfl (lv_at hl 1 rfl) ?_
  refine lv_iconst (v := 0) hx hb dX8_append_2 (by decide) ?_
  refine vz_Vi3 (As := [.int n1, .int 0]) (rest := []) hx hb hml hown hts hK hA hP hD hS (a_W_pass l D g H.size h wa wi wr wf ph rh la pa pr pf ca ci cr cf lr lf lmx n1 0 hw_w hw_p hw_c hw_l hmx_l) kv_X8_120 ⟨Nat.le_of_ble_eq_true rfl, Nat.le_of_ble_eq_true rfl⟩ (q0 := 0) (ci := 8) rfl rfl rfl  hl.1 (Nat.le_of_ble_eq_true rfl) dX8_append_3 ⟨Nat.le_refl _, Nat.le_refl _⟩ rfl (fun v4 ⟨wr_1, wf_2⟩ H locs hw_3 _ hP hD hS => ?_)
  try dsimp only at hw_3
  replace hP : va_P D vwCl ((woW g h wa wi wr_1 wf_2 ph rh (la 0)) ++ (pgW g ph pa pr pf) ++ (rcW g rh ca ci cr cf) ++ (plW g la lr lf lmx)) H := hP
  replace hD : va_D A ((woW g h wa wi wr_1 wf_2 ph rh (la 0)) ++ (pgW g ph pa pr pf) ++ (rcW g rh ca ci cr cf) ++ (plW g la lr lf lmx)) := hD
  refine lv_istore_n (lv' := [(3, .int v4), (0, .ref h), (1, .int n1), (2, .int n2)]) hx hb dX8_append_6 rfl hl (by decide) rfl (fun ls hl => ?_)
  refine lv_iload_n hx hb dX8_append_7 rfl (lv_at hl 0 rfl) ?_
  refine lv_bipush (v := (-9)) hx hb dX8_append_8 (by decide) ?_
  refine lv_icmp_ne (tgt := 38) hx hb dX8_append_10 (by decide) (fun kc5 => ?_) (fun kc5 => ?_)
  · refine lv_aload_n hx hb dX8_append_38 rfl (lv_at hl 1 rfl) ?_
    refine lv_iload_n hx hb dX8_append_39 rfl (lv_at hl 0 rfl) ?_
    refine lv_bipush (v := (-9)) hx hb dX8_append_40 (by decide) ?_
    refine vz_Vv3 (As := [.int v4, .int (-9)]) (rest := []) hx hb hml hown hts hK hA hP hD hS (a_W_raise l D g H.size h wa wi wr_1 wf_2 ph rh la pa pr pf ca ci cr cf lr lf lmx v4 (-9) hw_3 hw_p hw_c hw_l hmx_l) kv_X8_126 ⟨Nat.le_of_ble_eq_true rfl, Nat.le_of_ble_eq_true rfl⟩ (q0 := 0) (ci := 8) rfl rfl rfl  hl.1 (Nat.le_of_ble_eq_true rfl) dX8_append_42 ⟨Nat.le_refl _, Nat.le_refl _⟩ rfl (fun ⟨wi_6, cr_7, cf_8⟩ H locs hw_9 _ hP hD hS => ?_)
    try dsimp only at hw_9
    replace hP : va_P D vwCl ((woW g h wa wi_6 wr_1 wf_2 ph rh (la 0)) ++ (pgW g ph pa pr pf) ++ (rcW g rh ca ci cr_7 cf_8) ++ (plW g la lr lf lmx)) H := hP
    replace hD : va_D A ((woW g h wa wi_6 wr_1 wf_2 ph rh (la 0)) ++ (pgW g ph pa pr pf) ++ (rcW g rh ca ci cr_7 cf_8) ++ (plW g la lr lf lmx)) := hD
    exact J45 v4 wi_6 wr_1 wf_2 cr_7 cf_8 hw_3 hw_9 H locs ls hP hD hS (lv_sub hl [1, 2, 3, 0] rfl)
  · refine lv_aload_n hx hb dX8_append_13 rfl (lv_at hl 1 rfl) ?_
    refine va_get (D := D) (ci := 8) (v := .ref rh) (C := RX8) (T := TX8) (N := 11) hx hb hts inlX8 hown hK hP 0 rfl rfl 6 (by decide) (hts _ q132) (fun _ h => h) rfl dX8_append_14 ?_
    refine va_get (D := D) (ci := 4) (v := .ref (ca 0)) (C := RX4) (T := TX4) (N := 12) hx hb hts inlX4 hown hK hP 22 rfl rfl 0 (by decide) (hts _ q1128) (fun _ h => h) rfl dX8_append_17 ?_
    refine lv_aload_n hx hb dX8_append_20 rfl (lv_at hl 1 rfl) ?_
    refine va_get (D := D) (ci := 8) (v := .ref rh) (C := RX8) (T := TX8) (N := 11) hx hb hts inlX8 hown hK hP 0 rfl rfl 6 (by decide) (hts _ q132) (fun _ h => h) rfl dX8_append_21 ?_
    refine va_get (D := D) (ci := 4) (v := .ref (ca 0)) (C := RX4) (T := TX4) (N := 12) hx hb hts inlX4 hown hK hP 22 rfl rfl 0 (by decide) (hts _ q1128) (fun _ h => h) rfl dX8_append_24 ?_
    refine vz_Vi2 (ws' := fun u : (Nat × (Nat → Int32)) => (woW g h wa wi wr_1 wf_2 ph rh (la 0)) ++ (pgW g ph pa pr pf) ++ (rcW g rh ca ci (vz_un cr 0 u.1) (vz_uf cf 0 u.2)) ++ (plW g la lr lf lmx)) (As := []) (rest := [.ref (ca 0)]) hx hb hml hown hts hK hA hP hD hS (c_T_add l D g (ca 0) (ca 1) H.size 1 400 (cr 0) 400 (cf 0) ⟨rfl, by decide, by decide, by decide, by decide, hw_c 0⟩) kv_X8_83 ⟨Nat.le_of_ble_eq_true rfl, Nat.le_of_ble_eq_true rfl⟩ (q0 := 23) (ci := 6) rfl rfl rfl [23, 24] rfl (by decide) (fun _ => rfl) (fun _ => rfl) hl.1 (Nat.le_of_ble_eq_true rfl) dX8_append_27 ⟨Nat.le_refl _, Nat.le_refl _⟩ rfl (fun v12 ⟨u10R, u10f⟩ H locs ha11 _ hP hD hS => ?_)
    have hq : (cr 0) ≤ 400 := hw_c 0
    replace ha11 : u10R ≤ 400 := by rcases ha11 with ⟨z1, -, z2, -⟩ | ⟨z1, -, z2, -⟩ <;> (dsimp only at z2; omega)
    obtain ⟨cr_13, hw_cr_13, cf_14, hP, hD⟩ : ∃ cr_13 : Nat → Nat, (∀ k, cr_13 k ≤ rcW_lim k) ∧ ∃ cf_14 : Nat → Nat → Int32, va_P D vwCl ((woW g h wa wi wr_1 wf_2 ph rh (la 0)) ++ (pgW g ph pa pr pf) ++ (rcW g rh ca ci cr_13 cf_14) ++ (plW g la lr lf lmx)) H ∧ va_D A ((woW g h wa wi wr_1 wf_2 ph rh (la 0)) ++ (pgW g ph pa pr pf) ++ (rcW g rh ca ci cr_13 cf_14) ++ (plW g la lr lf lmx)) := ⟨(vz_un cr 0 u10R), (vz_wf hw_c (t := 0) (v := u10R) (ha11)), (vz_uf cf 0 u10f), hP, hD⟩
    refine lv_iconst (v := 0) hx hb dX8_append_30 (by decide) ?_
    refine lv_iload_n hx hb dX8_append_31 rfl (lv_at hl 3 rfl) ?_
    refine vz_Vv2 (ws' := fun u : (Nat → Int32) => (woW g h wa wi wr_1 wf_2 ph rh (la 0)) ++ (pgW g ph pa pr pf) ++ (rcW g rh ca ci cr_13 (vz_uf cf_14 0 u)) ++ (plW g la lr lf lmx)) (As := [.int v12, .int 0, .int n2]) (rest := []) hx hb hml hown hts hK hA hP hD hS (c_T_set l D g (ca 0) (ca 1) H.size 1 400 (cr_13 0) 400 (cf_14 0) v12 0 n2 ⟨rfl, by decide, by decide, by decide, by decide, hw_cr_13 0⟩) kv_X8_91 ⟨Nat.le_of_ble_eq_true rfl, Nat.le_of_ble_eq_true rfl⟩ (q0 := 23) (ci := 6) rfl rfl rfl [23, 24] rfl (by decide) (fun _ => rfl) (fun _ => rfl) hl.1 (Nat.le_of_ble_eq_true rfl) dX8_append_32 ⟨Nat.le_refl _, Nat.le_refl _⟩ rfl (fun nf15 H locs _ _ hP hD hS => ?_)
    obtain ⟨cf_16, hP, hD⟩ : ∃ cf_16 : Nat → Nat → Int32, va_P D vwCl ((woW g h wa wi wr_1 wf_2 ph rh (la 0)) ++ (pgW g ph pa pr pf) ++ (rcW g rh ca ci cr_13 cf_16) ++ (plW g la lr lf lmx)) H ∧ va_D A ((woW g h wa wi wr_1 wf_2 ph rh (la 0)) ++ (pgW g ph pa pr pf) ++ (rcW g rh ca ci cr_13 cf_16) ++ (plW g la lr lf lmx)) := ⟨(vz_uf cf_14 0 nf15), hP, hD⟩
    refine lv_goto (tgt := 45) hx hb dX8_append_35 (by decide) ?_
    exact J45 v4 wi wr_1 wf_2 cr_13 cf_16 hw_3 hw_cr_13 H locs ls hP hD hS (lv_sub hl [1, 2, 3, 0] rfl)
theorem q130 : Cond.fieldLink RX8 9 "WaysAtlas$World" "program" "LWaysAtlas$Program;" ∈ wsL_law := mT_2 (List.mem_of_getElem? (i := 44) rfl) rfl
theorem q1020 : Cond.fieldLink RX8 53 "WaysAtlas$Program" "statements" "LWaysAtlas$Table;" ∈ wsL_law := mT_1 (List.mem_of_getElem? (i := 81) rfl) rfl
theorem q1215 : Cond.fieldLink RX8 129 "WaysAtlas$RunRecord" "opened" "I" ∈ wsL_law := mT_1 (List.mem_of_getElem? (i := 230) rfl) rfl
theorem q1216 : Cond.methodLink RX8 132 yX8_setSlot ∈ wsL_law := mT_5 (List.mem_of_getElem? (i := 127) rfl) rfl
theorem q1165 : Cond.instanceMethod yX8_setSlot ∈ wsL_law := mT_5 (List.mem_of_getElem? (i := 79) rfl) rfl
theorem q1166 : Cond.selects RX8 yX8_setSlot yX8_setSlot ∈ wsL_law := mT_5 (List.mem_of_getElem? (i := 80) rfl) rfl
theorem q1167 : Cond.code yX8_setSlot cX8_setSlot 4 none ∈ wsL_law := mT_5 (List.mem_of_getElem? (i := 81) rfl) rfl
theorem kv_X8_132 : vz_cv RX8 132 yX8_setSlot cX8_setSlot 4 none 3 := ⟨q1216, q1165, q1166, q47, q1167, by decide +kernel⟩
theorem dX8_open_0 : decode cX8_open 0 = .ok (.aload_n 0, 1) := by decide +kernel
theorem dX8_open_1 : decode cX8_open 1 = .ok (.iload_n 1, 1) := by decide +kernel
theorem dX8_open_2 : decode cX8_open 2 = .ok (.iconst 1, 1) := by decide +kernel
theorem dX8_open_3 : decode cX8_open 3 = .ok (.iload_n 2, 1) := by decide +kernel
theorem dX8_open_4 : decode cX8_open 4 = .ok (.iadd, 1) := by decide +kernel
theorem dX8_open_5 : decode cX8_open 5 = .ok (.invokevirtual 120, 3) := by decide +kernel
theorem dX8_open_8 : decode cX8_open 8 = .ok (.istore_n 3, 1) := by decide +kernel
theorem dX8_open_9 : decode cX8_open 9 = .ok (.iload_n 3, 1) := by decide +kernel
theorem dX8_open_10 : decode cX8_open 10 = .ok (.bipush (-9), 2) := by decide +kernel
theorem dX8_open_12 : decode cX8_open 12 = .ok (.if_icmp .ne 47, 3) := by decide +kernel
theorem dX8_open_15 : decode cX8_open 15 = .ok (.aload_n 0, 1) := by decide +kernel
theorem dX8_open_16 : decode cX8_open 16 = .ok (.aload_n 0, 1) := by decide +kernel
theorem dX8_open_17 : decode cX8_open 17 = .ok (.getfield 9, 3) := by decide +kernel
theorem dX8_open_20 : decode cX8_open 20 = .ok (.getfield 53, 3) := by decide +kernel
theorem dX8_open_23 : decode cX8_open 23 = .ok (.iload_n 1, 1) := by decide +kernel
theorem dX8_open_24 : decode cX8_open 24 = .ok (.bipush 9, 2) := by decide +kernel
theorem dX8_open_26 : decode cX8_open 26 = .ok (.invokevirtual 110, 3) := by decide +kernel
theorem dX8_open_29 : decode cX8_open 29 = .ok (.bipush 8, 2) := by decide +kernel
theorem dX8_open_31 : decode cX8_open 31 = .ok (.iload_n 2, 1) := by decide +kernel
theorem dX8_open_32 : decode cX8_open 32 = .ok (.iadd, 1) := by decide +kernel
theorem dX8_open_33 : decode cX8_open 33 = .ok (.aload_n 0, 1) := by decide +kernel
theorem dX8_open_34 : decode cX8_open 34 = .ok (.getfield 19, 3) := by decide +kernel
theorem dX8_open_37 : decode cX8_open 37 = .ok (.getfield 129, 3) := by decide +kernel
theorem dX8_open_40 : decode cX8_open 40 = .ok (.invokevirtual 132, 3) := by decide +kernel
theorem dX8_open_43 : decode cX8_open 43 = .ok (.aload_n 0, 1) := by decide +kernel
theorem dX8_open_44 : decode cX8_open 44 = .ok (.getfield 19, 3) := by decide +kernel
theorem dX8_open_47 : decode cX8_open 47 = .ok (.dup, 1) := by decide +kernel
theorem dX8_open_48 : decode cX8_open 48 = .ok (.getfield 129, 3) := by decide +kernel
theorem dX8_open_51 : decode cX8_open 51 = .ok (.iconst 1, 1) := by decide +kernel
theorem dX8_open_52 : decode cX8_open 52 = .ok (.iadd, 1) := by decide +kernel
theorem dX8_open_53 : decode cX8_open 53 = .ok (.putfield 129, 3) := by decide +kernel
theorem dX8_open_56 : decode cX8_open 56 = .ok (.goto 10, 3) := by decide +kernel
theorem dX8_open_59 : decode cX8_open 59 = .ok (.aload_n 0, 1) := by decide +kernel
theorem dX8_open_60 : decode cX8_open 60 = .ok (.iload_n 3, 1) := by decide +kernel
theorem dX8_open_61 : decode cX8_open 61 = .ok (.bipush (-9), 2) := by decide +kernel
theorem dX8_open_63 : decode cX8_open 63 = .ok (.invokevirtual 126, 3) := by decide +kernel
theorem dX8_open_66 : decode cX8_open 66 = .ok (.return_, 1) := by decide +kernel
set_option maxHeartbeats 8000000 in
set_option maxRecDepth 100000 in
theorem a_W_open (l : Launch) (D : va_G) (g : Nat → ClassId)   (sz : Nat) (h : Nat) (wa : Nat → Nat) (wi : Nat → Int32) (wr : Nat → Nat) (wf : Nat → Nat → Int32) (ph : Nat) (rh : Nat) (la : Nat → Nat) (pa : Nat → Nat) (pr : Nat → Nat) (pf : Nat → Nat → Int32) (ca : Nat → Nat) (ci : Nat → Int32) (cr : Nat → Nat) (cf : Nat → Nat → Int32) (lr : Nat → Nat) (lf : Nat → Nat → Int32) (lmx : Nat) (n1 : Int32) (n2 : Int32) (hw_w : ∀ k, wr k ≤ woW_lim k) (hw_p : ∀ k, pr k ≤ pgW_lim k) (hw_c : ∀ k, cr k ≤ rcW_lim k) (hw_l : ∀ k, lr k ≤ (plW_lim lmx) k) (hmx_l : lmx ≤ 30) : vz_Mv l D (tyG g) yX8_open cX8_open 4 2 48 0 0 [.ref h, .int n1, .int n2] sz ((woW g h wa wi wr wf ph rh (la 0)) ++ (pgW g ph pa pr pf) ++ (rcW g rh ca ci cr cf) ++ (plW g la lr lf lmx)) (fun u : (Nat → Int32) × (Nat → Nat) × (Nat → Nat → Int32) × (Nat → Int32) × (Nat → Nat) × (Nat → Nat → Int32) => (∀ k, u.2.1 k ≤ woW_lim k) ∧ (∀ k, u.2.2.2.2.1 k ≤ rcW_lim k)) (fun u => (woW g h wa u.1 u.2.1 u.2.2.1 ph rh (la 0)) ++ (pgW g ph pa pr pf) ++ (rcW g rh ca u.2.2.2.1 u.2.2.2.2.1 u.2.2.2.2.2) ++ (plW g la lr lf lmx)) := by
  refine vz_svQ (by decide) (Nat.le_of_ble_eq_true rfl) (fun p e s m args below meth c hx hb hr hml hts hown hlk hin hK hsz A hA H locs hP hD hS ls hl Q hQ => ?_)
  have hl : lv_has ls 4 [(0, .ref h), (1, .int n1), (2, .int n2)] := hl
  have J66 : ∀ (x3_66 : Int32), ∀ (wi_66 : Nat → Int32), ∀ (wr_66 : Nat → Nat), ∀ (wf_66 : Nat → Nat → Int32), ∀ (ci_66 : Nat → Int32), ∀ (cr_66 : Nat → Nat), ∀ (cf_66 : Nat → Nat → Int32), (∀ k, wr_66 k ≤ woW_lim k) → (∀ k, cr_66 k ≤ rcW_lim k) → ∀ (H : Heap) (locs : List Loc) (ls : Array Slot), va_P D vwCl ((woW g h wa wi_66 wr_66 wf_66 ph rh (la 0)) ++ (pgW g ph pa pr pf) ++ (rcW g rh ca ci_66 cr_66 cf_66) ++ (plW g la lr lf lmx)) H → va_D A ((woW g h wa wi_66 wr_66 wf_66 ph rh (la 0)) ++ (pgW g ph pa pr pf) ++ (rcW g rh ca ci_66 cr_66 cf_66) ++ (plW g la lr lf lmx)) → va_S A s.heap H locs → lv_has ls 4 [(0, .ref h), (1, .int n1), (2, .int n2), (3, .int x3_66)] → W p l e { frames := 2, cells := 0, slots := 0, locals := 48 } s m args below meth c H locs 0 0 Q (F0 m 66 ls []) := by
    intro x3_66 wi_66 wr_66 wf_66 ci_66 cr_66 cf_66 hw_w_66 hw_c_66 H locs ls hP hD hS hl
    rw [hQ]
    exact vz_vret3 hx hb hr hlk hK hP hD hS (wi_66, wr_66, wf_66, ci_66, cr_66, cf_66) (⟨hw_w_66, hw_c_66⟩) rfl (Nat.le_refl 0) (Nat.le_refl 0) dX8_open_66
  refine lv_aload_n hx hb dX8_open_0 rfl (lv_at hl 0 rfl) ?_
  refine lv_iload_n hx hb dX8_open_1 rfl (lv_at hl 1 rfl) ?_
  refine lv_iconst (v := 1) hx hb dX8_open_2 (by decide) ?_
  refine lv_iload_n hx hb dX8_open_3 rfl (lv_at hl 2 rfl) ?_
  refine lv_iadd hx hb dX8_open_4 ?_
  refine vz_Vi3 (As := [.int n1, .int (1 + n2)]) (rest := []) hx hb hml hown hts hK hA hP hD hS (a_W_pass l D g H.size h wa wi wr wf ph rh la pa pr pf ca ci cr cf lr lf lmx n1 (1 + n2) hw_w hw_p hw_c hw_l hmx_l) kv_X8_120 ⟨Nat.le_of_ble_eq_true rfl, Nat.le_of_ble_eq_true rfl⟩ (q0 := 0) (ci := 8) rfl rfl rfl  hl.1 (Nat.le_of_ble_eq_true rfl) dX8_open_5 ⟨Nat.le_refl _, Nat.le_refl _⟩ rfl (fun v4 ⟨wr_1, wf_2⟩ H locs hw_3 _ hP hD hS => ?_)
  try dsimp only at hw_3
  replace hP : va_P D vwCl ((woW g h wa wi wr_1 wf_2 ph rh (la 0)) ++ (pgW g ph pa pr pf) ++ (rcW g rh ca ci cr cf) ++ (plW g la lr lf lmx)) H := hP
  replace hD : va_D A ((woW g h wa wi wr_1 wf_2 ph rh (la 0)) ++ (pgW g ph pa pr pf) ++ (rcW g rh ca ci cr cf) ++ (plW g la lr lf lmx)) := hD
  refine lv_istore_n (lv' := [(3, .int v4), (0, .ref h), (1, .int n1), (2, .int n2)]) hx hb dX8_open_8 rfl hl (by decide) rfl (fun ls hl => ?_)
  refine lv_iload_n hx hb dX8_open_9 rfl (lv_at hl 0 rfl) ?_
  refine lv_bipush (v := (-9)) hx hb dX8_open_10 (by decide) ?_
  refine lv_icmp_ne (tgt := 59) hx hb dX8_open_12 (by decide) (fun kc5 => ?_) (fun kc5 => ?_)
  · refine lv_aload_n hx hb dX8_open_59 rfl (lv_at hl 1 rfl) ?_
    refine lv_iload_n hx hb dX8_open_60 rfl (lv_at hl 0 rfl) ?_
    refine lv_bipush (v := (-9)) hx hb dX8_open_61 (by decide) ?_
    refine vz_Vv3 (As := [.int v4, .int (-9)]) (rest := []) hx hb hml hown hts hK hA hP hD hS (a_W_raise l D g H.size h wa wi wr_1 wf_2 ph rh la pa pr pf ca ci cr cf lr lf lmx v4 (-9) hw_3 hw_p hw_c hw_l hmx_l) kv_X8_126 ⟨Nat.le_of_ble_eq_true rfl, Nat.le_of_ble_eq_true rfl⟩ (q0 := 0) (ci := 8) rfl rfl rfl  hl.1 (Nat.le_of_ble_eq_true rfl) dX8_open_63 ⟨Nat.le_refl _, Nat.le_refl _⟩ rfl (fun ⟨wi_6, cr_7, cf_8⟩ H locs hw_9 _ hP hD hS => ?_)
    try dsimp only at hw_9
    replace hP : va_P D vwCl ((woW g h wa wi_6 wr_1 wf_2 ph rh (la 0)) ++ (pgW g ph pa pr pf) ++ (rcW g rh ca ci cr_7 cf_8) ++ (plW g la lr lf lmx)) H := hP
    replace hD : va_D A ((woW g h wa wi_6 wr_1 wf_2 ph rh (la 0)) ++ (pgW g ph pa pr pf) ++ (rcW g rh ca ci cr_7 cf_8) ++ (plW g la lr lf lmx)) := hD
    exact J66 v4 wi_6 wr_1 wf_2 ci cr_7 cf_8 hw_3 hw_9 H locs ls hP hD hS (lv_sub hl [1, 2, 3, 0] rfl)
  · refine lv_aload_n hx hb dX8_open_15 rfl (lv_at hl 1 rfl) ?_
    refine lv_aload_n hx hb dX8_open_16 rfl (lv_at hl 1 rfl) ?_
    refine va_get (D := D) (ci := 8) (v := .ref ph) (C := RX8) (T := TX8) (N := 11) hx hb hts inlX8 hown hK hP 0 rfl rfl 5 (by decide) (hts _ q130) (fun _ h => h) rfl dX8_open_17 ?_
    refine va_get (D := D) (ci := 2) (v := .ref (pa 0)) (C := RX2) (T := TX2) (N := 5) hx hb hts inlX2 hown hK hP 11 rfl rfl 0 (by decide) (hts _ q1020) (fun _ h => h) rfl dX8_open_20 ?_
    refine lv_iload_n hx hb dX8_open_23 rfl (lv_at hl 2 rfl) ?_
    refine lv_bipush (v := 9) hx hb dX8_open_24 (by decide) ?_
    refine vz_Vi2 (ws' := fun u : Unit => (woW g h wa wi wr_1 wf_2 ph rh (la 0)) ++ (pgW g ph pa pr pf) ++ (rcW g rh ca ci cr cf) ++ (plW g la lr lf lmx)) (As := [.int n1, .int 9]) (rest := [.ref h]) hx hb hml hown hts hK hA hP hD hS (c_T_get l D g (pa 0) (pa 1) H.size 12 80 (pr 0) 960 (pf 0) n1 9 ⟨rfl, by decide, by decide, by decide, by decide, hw_p 0⟩) kv_X8_110 ⟨Nat.le_of_ble_eq_true rfl, Nat.le_of_ble_eq_true rfl⟩ (q0 := 12) (ci := 6) rfl rfl rfl [12, 13] rfl (by decide) (fun _ => rfl) (fun _ => rfl) hl.1 (Nat.le_of_ble_eq_true rfl) dX8_open_26 ⟨Nat.le_refl _, Nat.le_refl _⟩ rfl (fun v10 _ H locs he11 _ hP hD hS => ?_)
    refine lv_bipush (v := 8) hx hb dX8_open_29 (by decide) ?_
    refine lv_iload_n hx hb dX8_open_31 rfl (lv_at hl 3 rfl) ?_
    refine lv_iadd hx hb dX8_open_32 ?_
    refine lv_aload_n hx hb dX8_open_33 rfl (lv_at hl 1 rfl) ?_
    refine va_get (D := D) (ci := 8) (v := .ref rh) (C := RX8) (T := TX8) (N := 11) hx hb hts inlX8 hown hK hP 0 rfl rfl 6 (by decide) (hts _ q132) (fun _ h => h) rfl dX8_open_34 ?_
    refine va_get (D := D) (ci := 4) (v := .int (ci 3)) (C := RX4) (T := TX4) (N := 12) hx hb hts inlX4 hown hK hP 22 rfl rfl 8 (by decide) (hts _ q1215) (fun _ h => h) rfl dX8_open_37 ?_
    refine vz_Vv3 (As := [.int v10, .int (8 + n2), .int (ci 3)]) (rest := []) hx hb hml hown hts hK hA hP hD hS (a_W_setSlot l D g H.size h wa wi wr_1 wf_2 ph rh la pa pr pf ca ci cr cf lr lf lmx v10 (8 + n2) (ci 3) hw_3 hw_p hw_c hw_l hmx_l) kv_X8_132 ⟨Nat.le_of_ble_eq_true rfl, Nat.le_of_ble_eq_true rfl⟩ (q0 := 0) (ci := 8) rfl rfl rfl  hl.1 (Nat.le_of_ble_eq_true rfl) dX8_open_40 ⟨Nat.le_refl _, Nat.le_refl _⟩ rfl (fun wf_12 H locs _ _ hP hD hS => ?_)
    replace hP : va_P D vwCl ((woW g h wa wi wr_1 wf_12 ph rh (la 0)) ++ (pgW g ph pa pr pf) ++ (rcW g rh ca ci cr cf) ++ (plW g la lr lf lmx)) H := hP
    replace hD : va_D A ((woW g h wa wi wr_1 wf_12 ph rh (la 0)) ++ (pgW g ph pa pr pf) ++ (rcW g rh ca ci cr cf) ++ (plW g la lr lf lmx)) := hD
    refine lv_aload_n hx hb dX8_open_43 rfl (lv_at hl 1 rfl) ?_
    refine va_get (D := D) (ci := 8) (v := .ref rh) (C := RX8) (T := TX8) (N := 11) hx hb hts inlX8 hown hK hP 0 rfl rfl 6 (by decide) (hts _ q132) (fun _ h => h) rfl dX8_open_44 ?_
    refine lv_dup hx hb dX8_open_47 rfl ?_
    refine va_get (D := D) (ci := 4) (v := .int (ci 3)) (C := RX4) (T := TX4) (N := 12) hx hb hts inlX4 hown hK hP 22 rfl rfl 8 (by decide) (hts _ q1215) (fun _ h => h) rfl dX8_open_48 ?_
    refine lv_iconst (v := 1) hx hb dX8_open_51 (by decide) ?_
    refine lv_iadd hx hb dX8_open_52 ?_
    refine va_put (D := D) (ci := 4) (v := .int ((ci 3) + 1)) (ty := .int) (C := RX4) (T := TX4) (N := 12) hx hb hts inlX4 tyX4 tyX4_ok nmX4 hown hK hP hD hS 22 rfl rfl 8 (by decide) (hts _ q1215) (fun _ h => h) rfl (by decide +kernel) rfl rfl (Nat.le_of_ble_eq_true rfl) dX8_open_53 (fun H locs hP hD hS => ?_)
    obtain ⟨ci_13, hci_13, hP, hD⟩ : ∃ ci_13 : Nat → Int32, (ci_13 = (upd ci 3 ((ci 3) + 1))) ∧ va_P D vwCl ((woW g h wa wi wr_1 wf_12 ph rh (la 0)) ++ (pgW g ph pa pr pf) ++ (rcW g rh ca ci_13 cr cf) ++ (plW g la lr lf lmx)) H ∧ va_D A ((woW g h wa wi wr_1 wf_12 ph rh (la 0)) ++ (pgW g ph pa pr pf) ++ (rcW g rh ca ci_13 cr cf) ++ (plW g la lr lf lmx)) := ⟨(upd ci 3 ((ci 3) + 1)), rfl, hP, hD⟩
    refine lv_goto (tgt := 66) hx hb dX8_open_56 (by decide) ?_
    exact J66 v4 wi wr_1 wf_12 ci_13 cr cf hw_3 hw_c H locs ls hP hD hS (lv_sub hl [1, 2, 3, 0] rfl)
theorem q1226 : Cond.methodLink RX8 135 yX8_slot ∈ wsL_law := mT_5 (List.mem_of_getElem? (i := 136) rfl) rfl
theorem q1177 : Cond.instanceMethod yX8_slot ∈ wsL_law := mT_5 (List.mem_of_getElem? (i := 91) rfl) rfl
theorem q1178 : Cond.selects RX8 yX8_slot yX8_slot ∈ wsL_law := mT_5 (List.mem_of_getElem? (i := 92) rfl) rfl
theorem q1179 : Cond.code yX8_slot cX8_slot 3 (some .int) ∈ wsL_law := mT_5 (List.mem_of_getElem? (i := 93) rfl) rfl
theorem kv_X8_135 : vz_cv RX8 135 yX8_slot cX8_slot 3 (some .int) 2 := ⟨q1226, q1177, q1178, q47, q1179, by decide +kernel⟩
theorem q1225 : Cond.fieldLink RX8 138 "WaysAtlas$RunRecord" "closings" "LWaysAtlas$Table;" ∈ wsL_law := mT_1 (List.mem_of_getElem? (i := 216) rfl) rfl
theorem dX8_close_0 : decode cX8_close 0 = .ok (.aload_n 0, 1) := by decide +kernel
theorem dX8_close_1 : decode cX8_close 1 = .ok (.aload_n 0, 1) := by decide +kernel
theorem dX8_close_2 : decode cX8_close 2 = .ok (.getfield 9, 3) := by decide +kernel
theorem dX8_close_5 : decode cX8_close 5 = .ok (.getfield 53, 3) := by decide +kernel
theorem dX8_close_8 : decode cX8_close 8 = .ok (.iload_n 1, 1) := by decide +kernel
theorem dX8_close_9 : decode cX8_close 9 = .ok (.bipush 9, 2) := by decide +kernel
theorem dX8_close_11 : decode cX8_close 11 = .ok (.invokevirtual 110, 3) := by decide +kernel
theorem dX8_close_14 : decode cX8_close 14 = .ok (.bipush 8, 2) := by decide +kernel
theorem dX8_close_16 : decode cX8_close 16 = .ok (.iload_n 2, 1) := by decide +kernel
theorem dX8_close_17 : decode cX8_close 17 = .ok (.iadd, 1) := by decide +kernel
theorem dX8_close_18 : decode cX8_close 18 = .ok (.invokevirtual 135, 3) := by decide +kernel
theorem dX8_close_21 : decode cX8_close 21 = .ok (.istore_n 3, 1) := by decide +kernel
theorem dX8_close_22 : decode cX8_close 22 = .ok (.aload_n 0, 1) := by decide +kernel
theorem dX8_close_23 : decode cX8_close 23 = .ok (.getfield 19, 3) := by decide +kernel
theorem dX8_close_26 : decode cX8_close 26 = .ok (.getfield 138, 3) := by decide +kernel
theorem dX8_close_29 : decode cX8_close 29 = .ok (.aload_n 0, 1) := by decide +kernel
theorem dX8_close_30 : decode cX8_close 30 = .ok (.getfield 19, 3) := by decide +kernel
theorem dX8_close_33 : decode cX8_close 33 = .ok (.getfield 138, 3) := by decide +kernel
theorem dX8_close_36 : decode cX8_close 36 = .ok (.invokevirtual 83, 3) := by decide +kernel
theorem dX8_close_39 : decode cX8_close 39 = .ok (.iconst 0, 1) := by decide +kernel
theorem dX8_close_40 : decode cX8_close 40 = .ok (.iload_n 3, 1) := by decide +kernel
theorem dX8_close_41 : decode cX8_close 41 = .ok (.invokevirtual 91, 3) := by decide +kernel
theorem dX8_close_44 : decode cX8_close 44 = .ok (.aload_n 0, 1) := by decide +kernel
theorem dX8_close_45 : decode cX8_close 45 = .ok (.iconst 0, 1) := by decide +kernel
theorem dX8_close_46 : decode cX8_close 46 = .ok (.iload_n 1, 1) := by decide +kernel
theorem dX8_close_47 : decode cX8_close 47 = .ok (.invokevirtual 95, 3) := by decide +kernel
theorem dX8_close_50 : decode cX8_close 50 = .ok (.aload_n 0, 1) := by decide +kernel
theorem dX8_close_51 : decode cX8_close 51 = .ok (.iload_n 1, 1) := by decide +kernel
theorem dX8_close_52 : decode cX8_close 52 = .ok (.iconst 4, 1) := by decide +kernel
theorem dX8_close_53 : decode cX8_close 53 = .ok (.iload_n 2, 1) := by decide +kernel
theorem dX8_close_54 : decode cX8_close 54 = .ok (.iadd, 1) := by decide +kernel
theorem dX8_close_55 : decode cX8_close 55 = .ok (.invokevirtual 120, 3) := by decide +kernel
theorem dX8_close_58 : decode cX8_close 58 = .ok (.istore 4, 2) := by decide +kernel
theorem dX8_close_60 : decode cX8_close 60 = .ok (.iload 4, 2) := by decide +kernel
theorem dX8_close_62 : decode cX8_close 62 = .ok (.bipush (-9), 2) := by decide +kernel
theorem dX8_close_64 : decode cX8_close 64 = .ok (.if_icmp .eq 11, 3) := by decide +kernel
theorem dX8_close_67 : decode cX8_close 67 = .ok (.aload_n 0, 1) := by decide +kernel
theorem dX8_close_68 : decode cX8_close 68 = .ok (.iload 4, 2) := by decide +kernel
theorem dX8_close_70 : decode cX8_close 70 = .ok (.bipush (-9), 2) := by decide +kernel
theorem dX8_close_72 : decode cX8_close 72 = .ok (.invokevirtual 126, 3) := by decide +kernel
theorem dX8_close_75 : decode cX8_close 75 = .ok (.return_, 1) := by decide +kernel
set_option maxHeartbeats 8000000 in
set_option maxRecDepth 100000 in
theorem a_W_close (l : Launch) (D : va_G) (g : Nat → ClassId)   (sz : Nat) (h : Nat) (wa : Nat → Nat) (wi : Nat → Int32) (wr : Nat → Nat) (wf : Nat → Nat → Int32) (ph : Nat) (rh : Nat) (la : Nat → Nat) (pa : Nat → Nat) (pr : Nat → Nat) (pf : Nat → Nat → Int32) (ca : Nat → Nat) (ci : Nat → Int32) (cr : Nat → Nat) (cf : Nat → Nat → Int32) (lr : Nat → Nat) (lf : Nat → Nat → Int32) (lmx : Nat) (n1 : Int32) (n2 : Int32) (hw_w : ∀ k, wr k ≤ woW_lim k) (hw_p : ∀ k, pr k ≤ pgW_lim k) (hw_c : ∀ k, cr k ≤ rcW_lim k) (hw_l : ∀ k, lr k ≤ (plW_lim lmx) k) (hmx_l : lmx ≤ 30) : vz_Mv l D (tyG g) yX8_close cX8_close 5 2 48 0 0 [.ref h, .int n1, .int n2] sz ((woW g h wa wi wr wf ph rh (la 0)) ++ (pgW g ph pa pr pf) ++ (rcW g rh ca ci cr cf) ++ (plW g la lr lf lmx)) (fun u : (Nat → Int32) × (Nat → Nat) × (Nat → Nat → Int32) × (Nat → Nat) × (Nat → Nat → Int32) => (∀ k, u.2.1 k ≤ woW_lim k) ∧ (∀ k, u.2.2.2.1 k ≤ rcW_lim k)) (fun u => (woW g h wa u.1 u.2.1 u.2.2.1 ph rh (la 0)) ++ (pgW g ph pa pr pf) ++ (rcW g rh ca ci u.2.2.2.1 u.2.2.2.2) ++ (plW g la lr lf lmx)) := by
  refine vz_svQ (by decide) (Nat.le_of_ble_eq_true rfl) (fun p e s m args below meth c hx hb hr hml hts hown hlk hin hK hsz A hA H locs hP hD hS ls hl Q hQ => ?_)
  have hl : lv_has ls 5 [(0, .ref h), (1, .int n1), (2, .int n2)] := hl
  have J75 : ∀ (x3_75 : Int32), ∀ (x4_75 : Int32), ∀ (wi_75 : Nat → Int32), ∀ (wr_75 : Nat → Nat), ∀ (wf_75 : Nat → Nat → Int32), ∀ (cr_75 : Nat → Nat), ∀ (cf_75 : Nat → Nat → Int32), (∀ k, wr_75 k ≤ woW_lim k) → (∀ k, cr_75 k ≤ rcW_lim k) → ∀ (H : Heap) (locs : List Loc) (ls : Array Slot), va_P D vwCl ((woW g h wa wi_75 wr_75 wf_75 ph rh (la 0)) ++ (pgW g ph pa pr pf) ++ (rcW g rh ca ci cr_75 cf_75) ++ (plW g la lr lf lmx)) H → va_D A ((woW g h wa wi_75 wr_75 wf_75 ph rh (la 0)) ++ (pgW g ph pa pr pf) ++ (rcW g rh ca ci cr_75 cf_75) ++ (plW g la lr lf lmx)) → va_S A s.heap H locs → lv_has ls 5 [(0, .ref h), (1, .int n1), (2, .int n2), (3, .int x3_75), (4, .int x4_75)] → W p l e { frames := 2, cells := 0, slots := 0, locals := 48 } s m args below meth c H locs 0 0 Q (F0 m 75 ls []) := by
    intro x3_75 x4_75 wi_75 wr_75 wf_75 cr_75 cf_75 hw_w_75 hw_c_75 H locs ls hP hD hS hl
    rw [hQ]
    exact vz_vret3 hx hb hr hlk hK hP hD hS (wi_75, wr_75, wf_75, cr_75, cf_75) (⟨hw_w_75, hw_c_75⟩) rfl (Nat.le_refl 0) (Nat.le_refl 0) dX8_close_75
  refine lv_aload_n hx hb dX8_close_0 rfl (lv_at hl 0 rfl) ?_
  refine lv_aload_n hx hb dX8_close_1 rfl (lv_at hl 0 rfl) ?_
  refine va_get (D := D) (ci := 8) (v := .ref ph) (C := RX8) (T := TX8) (N := 11) hx hb hts inlX8 hown hK hP 0 rfl rfl 5 (by decide) (hts _ q130) (fun _ h => h) rfl dX8_close_2 ?_
  refine va_get (D := D) (ci := 2) (v := .ref (pa 0)) (C := RX2) (T := TX2) (N := 5) hx hb hts inlX2 hown hK hP 11 rfl rfl 0 (by decide) (hts _ q1020) (fun _ h => h) rfl dX8_close_5 ?_
  refine lv_iload_n hx hb dX8_close_8 rfl (lv_at hl 1 rfl) ?_
  refine lv_bipush (v := 9) hx hb dX8_close_9 (by decide) ?_
  refine vz_Vi2 (ws' := fun u : Unit => (woW g h wa wi wr wf ph rh (la 0)) ++ (pgW g ph pa pr pf) ++ (rcW g rh ca ci cr cf) ++ (plW g la lr lf lmx)) (As := [.int n1, .int 9]) (rest := [.ref h]) hx hb hml hown hts hK hA hP hD hS (c_T_get l D g (pa 0) (pa 1) H.size 12 80 (pr 0) 960 (pf 0) n1 9 ⟨rfl, by decide, by decide, by decide, by decide, hw_p 0⟩) kv_X8_110 ⟨Nat.le_of_ble_eq_true rfl, Nat.le_of_ble_eq_true rfl⟩ (q0 := 12) (ci := 6) rfl rfl rfl [12, 13] rfl (by decide) (fun _ => rfl) (fun _ => rfl) hl.1 (Nat.le_of_ble_eq_true rfl) dX8_close_11 ⟨Nat.le_refl _, Nat.le_refl _⟩ rfl (fun v1 _ H locs he2 _ hP hD hS => ?_)
  refine lv_bipush (v := 8) hx hb dX8_close_14 (by decide) ?_
  refine lv_iload_n hx hb dX8_close_16 rfl (lv_at hl 2 rfl) ?_
  refine lv_iadd hx hb dX8_close_17 ?_
  refine vz_Vi3 (As := [.int v1, .int (8 + n2)]) (rest := []) hx hb hml hown hts hK hA hP hD hS (a_W_slot l D g H.size h wa wi wr wf ph rh la pa pr pf ca ci cr cf lr lf lmx v1 (8 + n2) hw_w hw_p hw_c hw_l hmx_l) kv_X8_135 ⟨Nat.le_of_ble_eq_true rfl, Nat.le_of_ble_eq_true rfl⟩ (q0 := 0) (ci := 8) rfl rfl rfl  hl.1 (Nat.le_of_ble_eq_true rfl) dX8_close_18 ⟨Nat.le_refl _, Nat.le_refl _⟩ rfl (fun v3 _ H locs _ _ hP hD hS => ?_)
  refine lv_istore_n (lv' := [(3, .int v3), (0, .ref h), (1, .int n1), (2, .int n2)]) hx hb dX8_close_21 rfl hl (by decide) rfl (fun ls hl => ?_)
  refine lv_aload_n hx hb dX8_close_22 rfl (lv_at hl 1 rfl) ?_
  refine va_get (D := D) (ci := 8) (v := .ref rh) (C := RX8) (T := TX8) (N := 11) hx hb hts inlX8 hown hK hP 0 rfl rfl 6 (by decide) (hts _ q132) (fun _ h => h) rfl dX8_close_23 ?_
  refine va_get (D := D) (ci := 4) (v := .ref (ca 6)) (C := RX4) (T := TX4) (N := 12) hx hb hts inlX4 hown hK hP 22 rfl rfl 3 (by decide) (hts _ q1225) (fun _ h => h) rfl dX8_close_26 ?_
  refine lv_aload_n hx hb dX8_close_29 rfl (lv_at hl 1 rfl) ?_
  refine va_get (D := D) (ci := 8) (v := .ref rh) (C := RX8) (T := TX8) (N := 11) hx hb hts inlX8 hown hK hP 0 rfl rfl 6 (by decide) (hts _ q132) (fun _ h => h) rfl dX8_close_30 ?_
  refine va_get (D := D) (ci := 4) (v := .ref (ca 6)) (C := RX4) (T := TX4) (N := 12) hx hb hts inlX4 hown hK hP 22 rfl rfl 3 (by decide) (hts _ q1225) (fun _ h => h) rfl dX8_close_33 ?_
  refine vz_Vi2 (ws' := fun u : (Nat × (Nat → Int32)) => (woW g h wa wi wr wf ph rh (la 0)) ++ (pgW g ph pa pr pf) ++ (rcW g rh ca ci (vz_un cr 3 u.1) (vz_uf cf 3 u.2)) ++ (plW g la lr lf lmx)) (As := []) (rest := [.ref (ca 6)]) hx hb hml hown hts hK hA hP hD hS (c_T_add l D g (ca 6) (ca 7) H.size 1 400 (cr 3) 400 (cf 3) ⟨rfl, by decide, by decide, by decide, by decide, hw_c 3⟩) kv_X8_83 ⟨Nat.le_of_ble_eq_true rfl, Nat.le_of_ble_eq_true rfl⟩ (q0 := 29) (ci := 6) rfl rfl rfl [29, 30] rfl (by decide) (fun _ => rfl) (fun _ => rfl) hl.1 (Nat.le_of_ble_eq_true rfl) dX8_close_36 ⟨Nat.le_refl _, Nat.le_refl _⟩ rfl (fun v6 ⟨u4R, u4f⟩ H locs ha5 _ hP hD hS => ?_)
  have hq : (cr 3) ≤ 400 := hw_c 3
  replace ha5 : u4R ≤ 400 := by rcases ha5 with ⟨z1, -, z2, -⟩ | ⟨z1, -, z2, -⟩ <;> (dsimp only at z2; omega)
  obtain ⟨cr_7, hw_cr_7, cf_8, hP, hD⟩ : ∃ cr_7 : Nat → Nat, (∀ k, cr_7 k ≤ rcW_lim k) ∧ ∃ cf_8 : Nat → Nat → Int32, va_P D vwCl ((woW g h wa wi wr wf ph rh (la 0)) ++ (pgW g ph pa pr pf) ++ (rcW g rh ca ci cr_7 cf_8) ++ (plW g la lr lf lmx)) H ∧ va_D A ((woW g h wa wi wr wf ph rh (la 0)) ++ (pgW g ph pa pr pf) ++ (rcW g rh ca ci cr_7 cf_8) ++ (plW g la lr lf lmx)) := ⟨(vz_un cr 3 u4R), (vz_wf hw_c (t := 3) (v := u4R) (ha5)), (vz_uf cf 3 u4f), hP, hD⟩
  refine lv_iconst (v := 0) hx hb dX8_close_39 (by decide) ?_
  refine lv_iload_n hx hb dX8_close_40 rfl (lv_at hl 0 rfl) ?_
  refine vz_Vv2 (ws' := fun u : (Nat → Int32) => (woW g h wa wi wr wf ph rh (la 0)) ++ (pgW g ph pa pr pf) ++ (rcW g rh ca ci cr_7 (vz_uf cf_8 3 u)) ++ (plW g la lr lf lmx)) (As := [.int v6, .int 0, .int v3]) (rest := []) hx hb hml hown hts hK hA hP hD hS (c_T_set l D g (ca 6) (ca 7) H.size 1 400 (cr_7 3) 400 (cf_8 3) v6 0 v3 ⟨rfl, by decide, by decide, by decide, by decide, hw_cr_7 3⟩) kv_X8_91 ⟨Nat.le_of_ble_eq_true rfl, Nat.le_of_ble_eq_true rfl⟩ (q0 := 29) (ci := 6) rfl rfl rfl [29, 30] rfl (by decide) (fun _ => rfl) (fun _ => rfl) hl.1 (Nat.le_of_ble_eq_true rfl) dX8_close_41 ⟨Nat.le_refl _, Nat.le_refl _⟩ rfl (fun nf9 H locs _ _ hP hD hS => ?_)
  obtain ⟨cf_10, hP, hD⟩ : ∃ cf_10 : Nat → Nat → Int32, va_P D vwCl ((woW g h wa wi wr wf ph rh (la 0)) ++ (pgW g ph pa pr pf) ++ (rcW g rh ca ci cr_7 cf_10) ++ (plW g la lr lf lmx)) H ∧ va_D A ((woW g h wa wi wr wf ph rh (la 0)) ++ (pgW g ph pa pr pf) ++ (rcW g rh ca ci cr_7 cf_10) ++ (plW g la lr lf lmx)) := ⟨(vz_uf cf_8 3 nf9), hP, hD⟩
  refine lv_aload_n hx hb dX8_close_44 rfl (lv_at hl 1 rfl) ?_
  refine lv_iconst (v := 0) hx hb dX8_close_45 (by decide) ?_
  refine lv_iload_n hx hb dX8_close_46 rfl (lv_at hl 2 rfl) ?_
  refine vz_Vv3 (As := [.int 0, .int n1]) (rest := []) hx hb hml hown hts hK hA hP hD hS (a_W_setNow l D g H.size h wa wi wr wf ph rh la pa pr pf ca ci cr_7 cf_10 lr lf lmx 0 n1 hw_w hw_p hw_cr_7 hw_l hmx_l) kv_X8_95 ⟨Nat.le_of_ble_eq_true rfl, Nat.le_of_ble_eq_true rfl⟩ (q0 := 0) (ci := 8) rfl rfl rfl  hl.1 (Nat.le_of_ble_eq_true rfl) dX8_close_47 ⟨Nat.le_refl _, Nat.le_refl _⟩ rfl (fun wf_11 H locs _ _ hP hD hS => ?_)
  replace hP : va_P D vwCl ((woW g h wa wi wr wf_11 ph rh (la 0)) ++ (pgW g ph pa pr pf) ++ (rcW g rh ca ci cr_7 cf_10) ++ (plW g la lr lf lmx)) H := hP
  replace hD : va_D A ((woW g h wa wi wr wf_11 ph rh (la 0)) ++ (pgW g ph pa pr pf) ++ (rcW g rh ca ci cr_7 cf_10) ++ (plW g la lr lf lmx)) := hD
  refine lv_aload_n hx hb dX8_close_50 rfl (lv_at hl 1 rfl) ?_
  refine lv_iload_n hx hb dX8_close_51 rfl (lv_at hl 2 rfl) ?_
  refine lv_iconst (v := 4) hx hb dX8_close_52 (by decide) ?_
  refine lv_iload_n hx hb dX8_close_53 rfl (lv_at hl 3 rfl) ?_
  refine lv_iadd hx hb dX8_close_54 ?_
  refine vz_Vi3 (As := [.int n1, .int (4 + n2)]) (rest := []) hx hb hml hown hts hK hA hP hD hS (a_W_pass l D g H.size h wa wi wr wf_11 ph rh la pa pr pf ca ci cr_7 cf_10 lr lf lmx n1 (4 + n2) hw_w hw_p hw_cr_7 hw_l hmx_l) kv_X8_120 ⟨Nat.le_of_ble_eq_true rfl, Nat.le_of_ble_eq_true rfl⟩ (q0 := 0) (ci := 8) rfl rfl rfl  hl.1 (Nat.le_of_ble_eq_true rfl) dX8_close_55 ⟨Nat.le_refl _, Nat.le_refl _⟩ rfl (fun v15 ⟨wr_12, wf_13⟩ H locs hw_14 _ hP hD hS => ?_)
  try dsimp only at hw_14
  replace hP : va_P D vwCl ((woW g h wa wi wr_12 wf_13 ph rh (la 0)) ++ (pgW g ph pa pr pf) ++ (rcW g rh ca ci cr_7 cf_10) ++ (plW g la lr lf lmx)) H := hP
  replace hD : va_D A ((woW g h wa wi wr_12 wf_13 ph rh (la 0)) ++ (pgW g ph pa pr pf) ++ (rcW g rh ca ci cr_7 cf_10) ++ (plW g la lr lf lmx)) := hD
  refine lv_istore (lv' := [(4, .int v15), (3, .int v3), (0, .ref h), (1, .int n1), (2, .int n2)]) hx hb dX8_close_58 hl (by decide) rfl (fun ls hl => ?_)
  refine lv_iload hx hb dX8_close_60 (lv_at hl 0 rfl) ?_
  refine lv_bipush (v := (-9)) hx hb dX8_close_62 (by decide) ?_
  refine lv_icmp_eq (tgt := 75) hx hb dX8_close_64 (by decide) (fun kc16 => ?_) (fun kc16 => ?_)
  · exact J75 v3 v15 wi wr_12 wf_13 cr_7 cf_10 hw_14 hw_cr_7 H locs ls hP hD hS (lv_sub hl [2, 3, 4, 1, 0] rfl)
  · refine lv_aload_n hx hb dX8_close_67 rfl (lv_at hl 2 rfl) ?_
    refine lv_iload hx hb dX8_close_68 (lv_at hl 0 rfl) ?_
    refine lv_bipush (v := (-9)) hx hb dX8_close_70 (by decide) ?_
    refine vz_Vv3 (As := [.int v15, .int (-9)]) (rest := []) hx hb hml hown hts hK hA hP hD hS (a_W_raise l D g H.size h wa wi wr_12 wf_13 ph rh la pa pr pf ca ci cr_7 cf_10 lr lf lmx v15 (-9) hw_14 hw_p hw_cr_7 hw_l hmx_l) kv_X8_126 ⟨Nat.le_of_ble_eq_true rfl, Nat.le_of_ble_eq_true rfl⟩ (q0 := 0) (ci := 8) rfl rfl rfl  hl.1 (Nat.le_of_ble_eq_true rfl) dX8_close_72 ⟨Nat.le_refl _, Nat.le_refl _⟩ rfl (fun ⟨wi_17, cr_18, cf_19⟩ H locs hw_20 _ hP hD hS => ?_)
    try dsimp only at hw_20
    replace hP : va_P D vwCl ((woW g h wa wi_17 wr_12 wf_13 ph rh (la 0)) ++ (pgW g ph pa pr pf) ++ (rcW g rh ca ci cr_18 cf_19) ++ (plW g la lr lf lmx)) H := hP
    replace hD : va_D A ((woW g h wa wi_17 wr_12 wf_13 ph rh (la 0)) ++ (pgW g ph pa pr pf) ++ (rcW g rh ca ci cr_18 cf_19) ++ (plW g la lr lf lmx)) := hD
    exact J75 v3 v15 wi_17 wr_12 wf_13 cr_18 cf_19 hw_14 hw_20 H locs ls hP hD hS (lv_sub hl [2, 3, 4, 1, 0] rfl)
theorem q1249 : Cond.fieldLink RX8 141 "WaysAtlas$RunRecord" "entries" "LWaysAtlas$Table;" ∈ wsL_law := mT_1 (List.mem_of_getElem? (i := 219) rfl) rfl
theorem dX8_finish_0 : decode cX8_finish 0 = .ok (.aload_n 0, 1) := by decide +kernel
theorem dX8_finish_1 : decode cX8_finish 1 = .ok (.getfield 19, 3) := by decide +kernel
theorem dX8_finish_4 : decode cX8_finish 4 = .ok (.getfield 141, 3) := by decide +kernel
theorem dX8_finish_7 : decode cX8_finish 7 = .ok (.iload_n 1, 1) := by decide +kernel
theorem dX8_finish_8 : decode cX8_finish 8 = .ok (.iconst 0, 1) := by decide +kernel
theorem dX8_finish_9 : decode cX8_finish 9 = .ok (.aload_n 0, 1) := by decide +kernel
theorem dX8_finish_10 : decode cX8_finish 10 = .ok (.getfield 19, 3) := by decide +kernel
theorem dX8_finish_13 : decode cX8_finish 13 = .ok (.getfield 141, 3) := by decide +kernel
theorem dX8_finish_16 : decode cX8_finish 16 = .ok (.iload_n 1, 1) := by decide +kernel
theorem dX8_finish_17 : decode cX8_finish 17 = .ok (.iconst 0, 1) := by decide +kernel
theorem dX8_finish_18 : decode cX8_finish 18 = .ok (.invokevirtual 110, 3) := by decide +kernel
theorem dX8_finish_21 : decode cX8_finish 21 = .ok (.iconst 1, 1) := by decide +kernel
theorem dX8_finish_22 : decode cX8_finish 22 = .ok (.iadd, 1) := by decide +kernel
theorem dX8_finish_23 : decode cX8_finish 23 = .ok (.invokevirtual 91, 3) := by decide +kernel
theorem dX8_finish_26 : decode cX8_finish 26 = .ok (.return_, 1) := by decide +kernel
set_option maxHeartbeats 8000000 in
set_option maxRecDepth 100000 in
theorem a_W_finish (l : Launch) (D : va_G) (g : Nat → ClassId)   (sz : Nat) (h : Nat) (wa : Nat → Nat) (wi : Nat → Int32) (wr : Nat → Nat) (wf : Nat → Nat → Int32) (ph : Nat) (rh : Nat) (la : Nat → Nat) (pa : Nat → Nat) (pr : Nat → Nat) (pf : Nat → Nat → Int32) (ca : Nat → Nat) (ci : Nat → Int32) (cr : Nat → Nat) (cf : Nat → Nat → Int32) (lr : Nat → Nat) (lf : Nat → Nat → Int32) (lmx : Nat) (n1 : Int32) (hw_w : ∀ k, wr k ≤ woW_lim k) (hw_p : ∀ k, pr k ≤ pgW_lim k) (hw_c : ∀ k, cr k ≤ rcW_lim k) (hw_l : ∀ k, lr k ≤ (plW_lim lmx) k) (hmx_l : lmx ≤ 30) : vz_Mv l D (tyG g) yX8_finish cX8_finish 2 1 24 0 0 [.ref h, .int n1] sz ((woW g h wa wi wr wf ph rh (la 0)) ++ (pgW g ph pa pr pf) ++ (rcW g rh ca ci cr cf) ++ (plW g la lr lf lmx)) (fun u : (Nat → Nat → Int32) => True) (fun u => (woW g h wa wi wr wf ph rh (la 0)) ++ (pgW g ph pa pr pf) ++ (rcW g rh ca ci cr u) ++ (plW g la lr lf lmx)) := by
  refine vz_svQ (by decide) (Nat.le_of_ble_eq_true rfl) (fun p e s m args below meth c hx hb hr hml hts hown hlk hin hK hsz A hA H locs hP hD hS ls hl Q hQ => ?_)
  have hl : lv_has ls 2 [(0, .ref h), (1, .int n1)] := hl
  refine lv_aload_n hx hb dX8_finish_0 rfl (lv_at hl 0 rfl) ?_
  refine va_get (D := D) (ci := 8) (v := .ref rh) (C := RX8) (T := TX8) (N := 11) hx hb hts inlX8 hown hK hP 0 rfl rfl 6 (by decide) (hts _ q132) (fun _ h => h) rfl dX8_finish_1 ?_
  refine va_get (D := D) (ci := 4) (v := .ref (ca 8)) (C := RX4) (T := TX4) (N := 12) hx hb hts inlX4 hown hK hP 22 rfl rfl 4 (by decide) (hts _ q1249) (fun _ h => h) rfl dX8_finish_4 ?_
  refine lv_iload_n hx hb dX8_finish_7 rfl (lv_at hl 1 rfl) ?_
  refine lv_iconst (v := 0) hx hb dX8_finish_8 (by decide) ?_
  refine lv_aload_n hx hb dX8_finish_9 rfl (lv_at hl 0 rfl) ?_
  refine va_get (D := D) (ci := 8) (v := .ref rh) (C := RX8) (T := TX8) (N := 11) hx hb hts inlX8 hown hK hP 0 rfl rfl 6 (by decide) (hts _ q132) (fun _ h => h) rfl dX8_finish_10 ?_
  refine va_get (D := D) (ci := 4) (v := .ref (ca 8)) (C := RX4) (T := TX4) (N := 12) hx hb hts inlX4 hown hK hP 22 rfl rfl 4 (by decide) (hts _ q1249) (fun _ h => h) rfl dX8_finish_13 ?_
  refine lv_iload_n hx hb dX8_finish_16 rfl (lv_at hl 1 rfl) ?_
  refine lv_iconst (v := 0) hx hb dX8_finish_17 (by decide) ?_
  refine vz_Vi2 (ws' := fun u : Unit => (woW g h wa wi wr wf ph rh (la 0)) ++ (pgW g ph pa pr pf) ++ (rcW g rh ca ci cr cf) ++ (plW g la lr lf lmx)) (As := [.int n1, .int 0]) (rest := [.int 0, .int n1, .ref (ca 8)]) hx hb hml hown hts hK hA hP hD hS (c_T_get l D g (ca 8) (ca 9) H.size 1 80 (cr 4) 80 (cf 4) n1 0 ⟨rfl, by decide, by decide, by decide, by decide, hw_c 4⟩) kv_X8_110 ⟨Nat.le_of_ble_eq_true rfl, Nat.le_of_ble_eq_true rfl⟩ (q0 := 31) (ci := 6) rfl rfl rfl [31, 32] rfl (by decide) (fun _ => rfl) (fun _ => rfl) hl.1 (Nat.le_of_ble_eq_true rfl) dX8_finish_18 ⟨Nat.le_refl _, Nat.le_refl _⟩ rfl (fun v1 _ H locs he2 _ hP hD hS => ?_)
  refine lv_iconst (v := 1) hx hb dX8_finish_21 (by decide) ?_
  refine lv_iadd hx hb dX8_finish_22 ?_
  refine vz_Vv2 (ws' := fun u : (Nat → Int32) => (woW g h wa wi wr wf ph rh (la 0)) ++ (pgW g ph pa pr pf) ++ (rcW g rh ca ci cr (vz_uf cf 4 u)) ++ (plW g la lr lf lmx)) (As := [.int n1, .int 0, .int (v1 + 1)]) (rest := []) hx hb hml hown hts hK hA hP hD hS (c_T_set l D g (ca 8) (ca 9) H.size 1 80 (cr 4) 80 (cf 4) n1 0 (v1 + 1) ⟨rfl, by decide, by decide, by decide, by decide, hw_c 4⟩) kv_X8_91 ⟨Nat.le_of_ble_eq_true rfl, Nat.le_of_ble_eq_true rfl⟩ (q0 := 31) (ci := 6) rfl rfl rfl [31, 32] rfl (by decide) (fun _ => rfl) (fun _ => rfl) hl.1 (Nat.le_of_ble_eq_true rfl) dX8_finish_23 ⟨Nat.le_refl _, Nat.le_refl _⟩ rfl (fun nf3 H locs _ _ hP hD hS => ?_)
  obtain ⟨cf_4, hP, hD⟩ : ∃ cf_4 : Nat → Nat → Int32, va_P D vwCl ((woW g h wa wi wr wf ph rh (la 0)) ++ (pgW g ph pa pr pf) ++ (rcW g rh ca ci cr cf_4) ++ (plW g la lr lf lmx)) H ∧ va_D A ((woW g h wa wi wr wf ph rh (la 0)) ++ (pgW g ph pa pr pf) ++ (rcW g rh ca ci cr cf_4) ++ (plW g la lr lf lmx)) := ⟨(vz_uf cf 4 nf3), hP, hD⟩
  rw [hQ]
  exact vz_vret3 hx hb hr hlk hK hP hD hS cf_4 trivial rfl (Nat.le_refl 0) (Nat.le_refl 0) dX8_finish_26
theorem dX8_apply_0 : decode cX8_apply 0 = .ok (.iload_n 1, 1) := by decide +kernel
theorem dX8_apply_1 : decode cX8_apply 1 = .ok (.tableswitch 43 42 45 #[39, 31, 43, 35], 31) := by decide +kernel
theorem dX8_apply_32 : decode cX8_apply 32 = .ok (.iload_n 2, 1) := by decide +kernel
theorem dX8_apply_33 : decode cX8_apply 33 = .ok (.iload_n 3, 1) := by decide +kernel
theorem dX8_apply_34 : decode cX8_apply 34 = .ok (.iadd, 1) := by decide +kernel
theorem dX8_apply_35 : decode cX8_apply 35 = .ok (.ireturn, 1) := by decide +kernel
theorem dX8_apply_36 : decode cX8_apply 36 = .ok (.iload_n 2, 1) := by decide +kernel
theorem dX8_apply_37 : decode cX8_apply 37 = .ok (.iload_n 3, 1) := by decide +kernel
theorem dX8_apply_38 : decode cX8_apply 38 = .ok (.isub, 1) := by decide +kernel
theorem dX8_apply_39 : decode cX8_apply 39 = .ok (.ireturn, 1) := by decide +kernel
theorem dX8_apply_40 : decode cX8_apply 40 = .ok (.iload_n 2, 1) := by decide +kernel
theorem dX8_apply_41 : decode cX8_apply 41 = .ok (.iload_n 3, 1) := by decide +kernel
theorem dX8_apply_42 : decode cX8_apply 42 = .ok (.imul, 1) := by decide +kernel
theorem dX8_apply_43 : decode cX8_apply 43 = .ok (.ireturn, 1) := by decide +kernel
theorem dX8_apply_44 : decode cX8_apply 44 = .ok (.iload_n 3, 1) := by decide +kernel
theorem dX8_apply_45 : decode cX8_apply 45 = .ok (.ifCond .ne 12, 3) := by decide +kernel
theorem dX8_apply_48 : decode cX8_apply 48 = .ok (.aload_n 0, 1) := by decide +kernel
theorem dX8_apply_49 : decode cX8_apply 49 = .ok (.iconst 2, 1) := by decide +kernel
theorem dX8_apply_50 : decode cX8_apply 50 = .ok (.bipush (-9), 2) := by decide +kernel
theorem dX8_apply_52 : decode cX8_apply 52 = .ok (.invokevirtual 126, 3) := by decide +kernel
theorem dX8_apply_55 : decode cX8_apply 55 = .ok (.iconst 0, 1) := by decide +kernel
theorem dX8_apply_56 : decode cX8_apply 56 = .ok (.ireturn, 1) := by decide +kernel
theorem dX8_apply_57 : decode cX8_apply 57 = .ok (.iload_n 1, 1) := by decide +kernel
theorem dX8_apply_58 : decode cX8_apply 58 = .ok (.bipush 47, 2) := by decide +kernel
theorem dX8_apply_60 : decode cX8_apply 60 = .ok (.if_icmp .ne 9, 3) := by decide +kernel
theorem dX8_apply_63 : decode cX8_apply 63 = .ok (.iload_n 2, 1) := by decide +kernel
theorem dX8_apply_64 : decode cX8_apply 64 = .ok (.iload_n 3, 1) := by decide +kernel
theorem dX8_apply_65 : decode cX8_apply 65 = .ok (.idiv, 1) := by decide +kernel
theorem dX8_apply_66 : decode cX8_apply 66 = .ok (.goto 6, 3) := by decide +kernel
theorem dX8_apply_69 : decode cX8_apply 69 = .ok (.iload_n 2, 1) := by decide +kernel
theorem dX8_apply_70 : decode cX8_apply 70 = .ok (.iload_n 3, 1) := by decide +kernel
theorem dX8_apply_71 : decode cX8_apply 71 = .ok (.irem, 1) := by decide +kernel
theorem dX8_apply_72 : decode cX8_apply 72 = .ok (.ireturn, 1) := by decide +kernel
set_option maxHeartbeats 8000000 in
set_option maxRecDepth 100000 in
theorem a_W_apply (l : Launch) (D : va_G) (g : Nat → ClassId)   (sz : Nat) (h : Nat) (wa : Nat → Nat) (wi : Nat → Int32) (wr : Nat → Nat) (wf : Nat → Nat → Int32) (ph : Nat) (rh : Nat) (la : Nat → Nat) (pa : Nat → Nat) (pr : Nat → Nat) (pf : Nat → Nat → Int32) (ca : Nat → Nat) (ci : Nat → Int32) (cr : Nat → Nat) (cf : Nat → Nat → Int32) (lr : Nat → Nat) (lf : Nat → Nat → Int32) (lmx : Nat) (n1 : Int32) (n2 : Int32) (n3 : Int32) (hw_w : ∀ k, wr k ≤ woW_lim k) (hw_p : ∀ k, pr k ≤ pgW_lim k) (hw_c : ∀ k, cr k ≤ rcW_lim k) (hw_l : ∀ k, lr k ≤ (plW_lim lmx) k) (hmx_l : lmx ≤ 30) : vz_Mi l D (tyG g) yX8_apply cX8_apply 4 2 48 0 0 .int [.ref h, .int n1, .int n2, .int n3] sz ((woW g h wa wi wr wf ph rh (la 0)) ++ (pgW g ph pa pr pf) ++ (rcW g rh ca ci cr cf) ++ (plW g la lr lf lmx)) (fun r (u : (Nat → Int32) × (Nat → Nat) × (Nat → Nat → Int32)) => (∀ k, u.2.1 k ≤ rcW_lim k)) (fun u => (woW g h wa u.1 wr wf ph rh (la 0)) ++ (pgW g ph pa pr pf) ++ (rcW g rh ca ci u.2.1 u.2.2) ++ (plW g la lr lf lmx)) := by
  refine vz_siQ (by decide) (Nat.le_of_ble_eq_true rfl) (fun p e s m args below meth c hx hb hr hml hts hown hlk hin hK hsz A hA H locs hP hD hS ls hl Q hQ => ?_)
  have hl : lv_has ls 4 [(0, .ref h), (1, .int n1), (2, .int n2), (3, .int n3)] := hl
  have J72 : ∀ (y0_72 : Int32), ∀ (wi_72 : Nat → Int32), ∀ (cr_72 : Nat → Nat), ∀ (cf_72 : Nat → Nat → Int32), (∀ k, cr_72 k ≤ rcW_lim k) → ∀ (H : Heap) (locs : List Loc) (ls : Array Slot), va_P D vwCl ((woW g h wa wi_72 wr wf ph rh (la 0)) ++ (pgW g ph pa pr pf) ++ (rcW g rh ca ci cr_72 cf_72) ++ (plW g la lr lf lmx)) H → va_D A ((woW g h wa wi_72 wr wf ph rh (la 0)) ++ (pgW g ph pa pr pf) ++ (rcW g rh ca ci cr_72 cf_72) ++ (plW g la lr lf lmx)) → va_S A s.heap H locs → lv_has ls 4 [(0, .ref h), (1, .int n1), (2, .int n2), (3, .int n3)] → W p l e { frames := 2, cells := 0, slots := 0, locals := 48 } s m args below meth c H locs 0 0 Q (F0 m 72 ls [.int y0_72]) := by
    intro y0_72 wi_72 cr_72 cf_72 hw_c_72 H locs ls hP hD hS hl
    rw [hQ]
    exact vz_iret3 hx hb hr hlk hK hP hD hS (wi_72, cr_72, cf_72) hw_c_72 rfl (Nat.le_refl 0) (Nat.le_refl 0) dX8_apply_72
  refine lv_iload_n hx hb dX8_apply_0 rfl (lv_at hl 1 rfl) ?_
  have S1_32 : W p l e { frames := 2, cells := 0, slots := 0, locals := 48 } s m args below meth c H locs 0 0 Q (F0 m 32 ls []) := by
    refine lv_iload_n hx hb dX8_apply_32 rfl (lv_at hl 2 rfl) ?_
    refine lv_iload_n hx hb dX8_apply_33 rfl (lv_at hl 3 rfl) ?_
    refine lv_iadd hx hb dX8_apply_34 ?_
    rw [hQ]
    exact vz_iret3 hx hb hr hlk hK hP hD hS (wi, cr, cf) hw_c rfl (Nat.le_refl 0) (Nat.le_refl 0) dX8_apply_35
  have S1_36 : W p l e { frames := 2, cells := 0, slots := 0, locals := 48 } s m args below meth c H locs 0 0 Q (F0 m 36 ls []) := by
    refine lv_iload_n hx hb dX8_apply_36 rfl (lv_at hl 2 rfl) ?_
    refine lv_iload_n hx hb dX8_apply_37 rfl (lv_at hl 3 rfl) ?_
    refine lv_isub hx hb dX8_apply_38 ?_
    rw [hQ]
    exact vz_iret3 hx hb hr hlk hK hP hD hS (wi, cr, cf) hw_c rfl (Nat.le_refl 0) (Nat.le_refl 0) dX8_apply_39
  have S1_40 : W p l e { frames := 2, cells := 0, slots := 0, locals := 48 } s m args below meth c H locs 0 0 Q (F0 m 40 ls []) := by
    refine lv_iload_n hx hb dX8_apply_40 rfl (lv_at hl 2 rfl) ?_
    refine lv_iload_n hx hb dX8_apply_41 rfl (lv_at hl 3 rfl) ?_
    refine lv_imul hx hb dX8_apply_42 ?_
    rw [hQ]
    exact vz_iret3 hx hb hr hlk hK hP hD hS (wi, cr, cf) hw_c rfl (Nat.le_refl 0) (Nat.le_refl 0) dX8_apply_43
  have S1_44 : W p l e { frames := 2, cells := 0, slots := 0, locals := 48 } s m args below meth c H locs 0 0 Q (F0 m 44 ls []) := by
    refine lv_iload_n hx hb dX8_apply_44 rfl (lv_at hl 3 rfl) ?_
    refine lv_if_ne (tgt := 57) hx hb dX8_apply_45 (by decide) (fun kc1 => ?_) (fun kc1 => ?_)
    · refine lv_iload_n hx hb dX8_apply_57 rfl (lv_at hl 1 rfl) ?_
      refine lv_bipush (v := 47) hx hb dX8_apply_58 (by decide) ?_
      refine lv_icmp_ne (tgt := 69) hx hb dX8_apply_60 (by decide) (fun kc2 => ?_) (fun kc2 => ?_)
      · refine lv_iload_n hx hb dX8_apply_69 rfl (lv_at hl 2 rfl) ?_
        refine lv_iload_n hx hb dX8_apply_70 rfl (lv_at hl 3 rfl) ?_
        refine lv_irem hx hb dX8_apply_71 (kc1) ?_
        exact J72 (n2 - n2 / n3 * n3) wi cr cf hw_c H locs ls hP hD hS (lv_sub hl [0, 1, 2, 3] rfl)
      · refine lv_iload_n hx hb dX8_apply_63 rfl (lv_at hl 2 rfl) ?_
        refine lv_iload_n hx hb dX8_apply_64 rfl (lv_at hl 3 rfl) ?_
        refine lv_idiv hx hb dX8_apply_65 (kc1) ?_
        refine lv_goto (tgt := 72) hx hb dX8_apply_66 (by decide) ?_
        exact J72 (n2 / n3) wi cr cf hw_c H locs ls hP hD hS (lv_sub hl [0, 1, 2, 3] rfl)
    · refine lv_aload_n hx hb dX8_apply_48 rfl (lv_at hl 0 rfl) ?_
      refine lv_iconst (v := 2) hx hb dX8_apply_49 (by decide) ?_
      refine lv_bipush (v := (-9)) hx hb dX8_apply_50 (by decide) ?_
      refine vz_Vv3 (As := [.int 2, .int (-9)]) (rest := []) hx hb hml hown hts hK hA hP hD hS (a_W_raise l D g H.size h wa wi wr wf ph rh la pa pr pf ca ci cr cf lr lf lmx 2 (-9) hw_w hw_p hw_c hw_l hmx_l) kv_X8_126 ⟨Nat.le_of_ble_eq_true rfl, Nat.le_of_ble_eq_true rfl⟩ (q0 := 0) (ci := 8) rfl rfl rfl  hl.1 (Nat.le_of_ble_eq_true rfl) dX8_apply_52 ⟨Nat.le_refl _, Nat.le_refl _⟩ rfl (fun ⟨wi_3, cr_4, cf_5⟩ H locs hw_6 _ hP hD hS => ?_)
      try dsimp only at hw_6
      replace hP : va_P D vwCl ((woW g h wa wi_3 wr wf ph rh (la 0)) ++ (pgW g ph pa pr pf) ++ (rcW g rh ca ci cr_4 cf_5) ++ (plW g la lr lf lmx)) H := hP
      replace hD : va_D A ((woW g h wa wi_3 wr wf ph rh (la 0)) ++ (pgW g ph pa pr pf) ++ (rcW g rh ca ci cr_4 cf_5) ++ (plW g la lr lf lmx)) := hD
      refine lv_iconst (v := 0) hx hb dX8_apply_55 (by decide) ?_
      rw [hQ]
      exact vz_iret3 hx hb hr hlk hK hP hD hS (wi_3, cr_4, cf_5) hw_6 rfl (Nat.le_refl 0) (Nat.le_refl 0) dX8_apply_56
  refine vz_tsw (td := 44) hx hb dX8_apply_1 (by decide) [40, 32, 44, 36] (by decide) (by decide) (fun hv => ?_) (fun k t hk hv => ?_)
  · exact S1_44
  · have hm := List.mem_of_getElem? hk
    simp only [List.mem_cons, List.not_mem_nil, or_false] at hm
    rcases hm with rfl | rfl | rfl | rfl
    · exact S1_40
    · exact S1_32
    · exact S1_44
    · exact S1_36
theorem dX8_compares_0 : decode cX8_compares 0 = .ok (.iload_n 1, 1) := by decide +kernel
theorem dX8_compares_1 : decode cX8_compares 1 = .ok (.bipush 61, 2) := by decide +kernel
theorem dX8_compares_3 : decode cX8_compares 3 = .ok (.if_icmp .ne 16, 3) := by decide +kernel
theorem dX8_compares_6 : decode cX8_compares 6 = .ok (.iload_n 2, 1) := by decide +kernel
theorem dX8_compares_7 : decode cX8_compares 7 = .ok (.iload_n 3, 1) := by decide +kernel
theorem dX8_compares_8 : decode cX8_compares 8 = .ok (.if_icmp .ne 7, 3) := by decide +kernel
theorem dX8_compares_11 : decode cX8_compares 11 = .ok (.iconst 1, 1) := by decide +kernel
theorem dX8_compares_12 : decode cX8_compares 12 = .ok (.goto 36, 3) := by decide +kernel
theorem dX8_compares_15 : decode cX8_compares 15 = .ok (.iconst 0, 1) := by decide +kernel
theorem dX8_compares_16 : decode cX8_compares 16 = .ok (.goto 32, 3) := by decide +kernel
theorem dX8_compares_19 : decode cX8_compares 19 = .ok (.iload_n 1, 1) := by decide +kernel
theorem dX8_compares_20 : decode cX8_compares 20 = .ok (.bipush 60, 2) := by decide +kernel
theorem dX8_compares_22 : decode cX8_compares 22 = .ok (.if_icmp .ne 16, 3) := by decide +kernel
theorem dX8_compares_25 : decode cX8_compares 25 = .ok (.iload_n 2, 1) := by decide +kernel
theorem dX8_compares_26 : decode cX8_compares 26 = .ok (.iload_n 3, 1) := by decide +kernel
theorem dX8_compares_27 : decode cX8_compares 27 = .ok (.if_icmp .ge 7, 3) := by decide +kernel
theorem dX8_compares_30 : decode cX8_compares 30 = .ok (.iconst 1, 1) := by decide +kernel
theorem dX8_compares_31 : decode cX8_compares 31 = .ok (.goto 17, 3) := by decide +kernel
theorem dX8_compares_34 : decode cX8_compares 34 = .ok (.iconst 0, 1) := by decide +kernel
theorem dX8_compares_35 : decode cX8_compares 35 = .ok (.goto 13, 3) := by decide +kernel
theorem dX8_compares_38 : decode cX8_compares 38 = .ok (.iload_n 2, 1) := by decide +kernel
theorem dX8_compares_39 : decode cX8_compares 39 = .ok (.iload_n 3, 1) := by decide +kernel
theorem dX8_compares_40 : decode cX8_compares 40 = .ok (.if_icmp .le 7, 3) := by decide +kernel
theorem dX8_compares_43 : decode cX8_compares 43 = .ok (.iconst 1, 1) := by decide +kernel
theorem dX8_compares_44 : decode cX8_compares 44 = .ok (.goto 4, 3) := by decide +kernel
theorem dX8_compares_47 : decode cX8_compares 47 = .ok (.iconst 0, 1) := by decide +kernel
theorem dX8_compares_48 : decode cX8_compares 48 = .ok (.ireturn, 1) := by decide +kernel
set_option maxHeartbeats 8000000 in
set_option maxRecDepth 100000 in
theorem a_W_compares (l : Launch) (D : va_G) (g : Nat → ClassId)   (sz : Nat) (h : Nat) (wa : Nat → Nat) (wi : Nat → Int32) (wr : Nat → Nat) (wf : Nat → Nat → Int32) (ph : Nat) (rh : Nat) (la : Nat → Nat) (pa : Nat → Nat) (pr : Nat → Nat) (pf : Nat → Nat → Int32) (ca : Nat → Nat) (ci : Nat → Int32) (cr : Nat → Nat) (cf : Nat → Nat → Int32) (lr : Nat → Nat) (lf : Nat → Nat → Int32) (lmx : Nat) (n1 : Int32) (n2 : Int32) (n3 : Int32) (hw_w : ∀ k, wr k ≤ woW_lim k) (hw_p : ∀ k, pr k ≤ pgW_lim k) (hw_c : ∀ k, cr k ≤ rcW_lim k) (hw_l : ∀ k, lr k ≤ (plW_lim lmx) k) (hmx_l : lmx ≤ 30) : vz_Mi l D (tyG g) yX8_compares cX8_compares 4 0 0 0 0 .boolean [.ref h, .int n1, .int n2, .int n3] sz ((woW g h wa wi wr wf ph rh (la 0)) ++ (pgW g ph pa pr pf) ++ (rcW g rh ca ci cr cf) ++ (plW g la lr lf lmx)) (fun r (u : Unit) => (r = 0 ∨ r = 1)) (fun u => (woW g h wa wi wr wf ph rh (la 0)) ++ (pgW g ph pa pr pf) ++ (rcW g rh ca ci cr cf) ++ (plW g la lr lf lmx)) := by
  refine vz_siQ (by decide) (Nat.le_of_ble_eq_true rfl) (fun p e s m args below meth c hx hb hr hml hts hown hlk hin hK hsz A hA H locs hP hD hS ls hl Q hQ => ?_)
  have hl : lv_has ls 4 [(0, .ref h), (1, .int n1), (2, .int n2), (3, .int n3)] := hl
  have J48 : ∀ (y0_48 : Int32), (y0_48 = 0 ∨ y0_48 = 1) → ∀ (H : Heap) (locs : List Loc) (ls : Array Slot), va_P D vwCl ((woW g h wa wi wr wf ph rh (la 0)) ++ (pgW g ph pa pr pf) ++ (rcW g rh ca ci cr cf) ++ (plW g la lr lf lmx)) H → va_D A ((woW g h wa wi wr wf ph rh (la 0)) ++ (pgW g ph pa pr pf) ++ (rcW g rh ca ci cr cf) ++ (plW g la lr lf lmx)) → va_S A s.heap H locs → lv_has ls 4 [(0, .ref h), (1, .int n1), (2, .int n2), (3, .int n3)] → W p l e { frames := 0, cells := 0, slots := 0, locals := 0 } s m args below meth c H locs 0 0 Q (F0 m 48 ls [.int y0_48]) := by
    intro y0_48 hz_y0_48 H locs ls hP hD hS hl
    rw [hQ]
    exact vz_zret3 hx hb hr hlk hK hP hD hS () hz_y0_48 rfl (Nat.le_refl 0) (Nat.le_refl 0) (vz_nb hz_y0_48) dX8_compares_48
  refine lv_iload_n hx hb dX8_compares_0 rfl (lv_at hl 1 rfl) ?_
  refine lv_bipush (v := 61) hx hb dX8_compares_1 (by decide) ?_
  refine lv_icmp_ne (tgt := 19) hx hb dX8_compares_3 (by decide) (fun kc1 => ?_) (fun kc1 => ?_)
  · refine lv_iload_n hx hb dX8_compares_19 rfl (lv_at hl 1 rfl) ?_
    refine lv_bipush (v := 60) hx hb dX8_compares_20 (by decide) ?_
    refine lv_icmp_ne (tgt := 38) hx hb dX8_compares_22 (by decide) (fun kc2 => ?_) (fun kc2 => ?_)
    · refine lv_iload_n hx hb dX8_compares_38 rfl (lv_at hl 2 rfl) ?_
      refine lv_iload_n hx hb dX8_compares_39 rfl (lv_at hl 3 rfl) ?_
      refine lv_icmp_le (tgt := 47) hx hb dX8_compares_40 (by decide) (fun kc3 => ?_) (fun kc3 => ?_)
      · refine lv_iconst (v := 0) hx hb dX8_compares_47 (by decide) ?_
        exact J48 0 (Or.inl rfl) H locs ls hP hD hS (lv_sub hl [0, 1, 2, 3] rfl)
      · refine lv_iconst (v := 1) hx hb dX8_compares_43 (by decide) ?_
        refine lv_goto (tgt := 48) hx hb dX8_compares_44 (by decide) ?_
        exact J48 1 (Or.inr rfl) H locs ls hP hD hS (lv_sub hl [0, 1, 2, 3] rfl)
    · refine lv_iload_n hx hb dX8_compares_25 rfl (lv_at hl 2 rfl) ?_
      refine lv_iload_n hx hb dX8_compares_26 rfl (lv_at hl 3 rfl) ?_
      refine lv_icmp_ge (tgt := 34) hx hb dX8_compares_27 (by decide) (fun kc4 => ?_) (fun kc4 => ?_)
      · refine lv_iconst (v := 0) hx hb dX8_compares_34 (by decide) ?_
        refine lv_goto (tgt := 48) hx hb dX8_compares_35 (by decide) ?_
        exact J48 0 (Or.inl rfl) H locs ls hP hD hS (lv_sub hl [0, 1, 2, 3] rfl)
      · refine lv_iconst (v := 1) hx hb dX8_compares_30 (by decide) ?_
        refine lv_goto (tgt := 48) hx hb dX8_compares_31 (by decide) ?_
        exact J48 1 (Or.inr rfl) H locs ls hP hD hS (lv_sub hl [0, 1, 2, 3] rfl)
  · refine lv_iload_n hx hb dX8_compares_6 rfl (lv_at hl 2 rfl) ?_
    refine lv_iload_n hx hb dX8_compares_7 rfl (lv_at hl 3 rfl) ?_
    refine lv_icmp_ne (tgt := 15) hx hb dX8_compares_8 (by decide) (fun kc5 => ?_) (fun kc5 => ?_)
    · refine lv_iconst (v := 0) hx hb dX8_compares_15 (by decide) ?_
      refine lv_goto (tgt := 48) hx hb dX8_compares_16 (by decide) ?_
      exact J48 0 (Or.inl rfl) H locs ls hP hD hS (lv_sub hl [0, 1, 2, 3] rfl)
    · refine lv_iconst (v := 1) hx hb dX8_compares_11 (by decide) ?_
      refine lv_goto (tgt := 48) hx hb dX8_compares_12 (by decide) ?_
      exact J48 1 (Or.inr rfl) H locs ls hP hD hS (lv_sub hl [0, 1, 2, 3] rfl)
theorem q137 : Cond.fieldLink RX8 37 "WaysAtlas$World" "arrays" "LWaysAtlas$Table;" ∈ wsL_law := mT_2 (List.mem_of_getElem? (i := 42) rfl) rfl
theorem dX8_newRow_0 : decode cX8_newRow 0 = .ok (.iload_n 2, 1) := by decide +kernel
theorem dX8_newRow_1 : decode cX8_newRow 1 = .ok (.ifCond .lt 9, 3) := by decide +kernel
theorem dX8_newRow_4 : decode cX8_newRow 4 = .ok (.iload_n 2, 1) := by decide +kernel
theorem dX8_newRow_5 : decode cX8_newRow 5 = .ok (.bipush 8, 2) := by decide +kernel
theorem dX8_newRow_7 : decode cX8_newRow 7 = .ok (.if_icmp .le 11, 3) := by decide +kernel
theorem dX8_newRow_10 : decode cX8_newRow 10 = .ok (.aload_n 0, 1) := by decide +kernel
theorem dX8_newRow_11 : decode cX8_newRow 11 = .ok (.iconst 5, 1) := by decide +kernel
theorem dX8_newRow_12 : decode cX8_newRow 12 = .ok (.bipush (-9), 2) := by decide +kernel
theorem dX8_newRow_14 : decode cX8_newRow 14 = .ok (.invokevirtual 126, 3) := by decide +kernel
theorem dX8_newRow_17 : decode cX8_newRow 17 = .ok (.return_, 1) := by decide +kernel
theorem dX8_newRow_18 : decode cX8_newRow 18 = .ok (.aload_n 0, 1) := by decide +kernel
theorem dX8_newRow_19 : decode cX8_newRow 19 = .ok (.getfield 37, 3) := by decide +kernel
theorem dX8_newRow_22 : decode cX8_newRow 22 = .ok (.invokevirtual 83, 3) := by decide +kernel
theorem dX8_newRow_25 : decode cX8_newRow 25 = .ok (.istore_n 3, 1) := by decide +kernel
theorem dX8_newRow_26 : decode cX8_newRow 26 = .ok (.aload_n 0, 1) := by decide +kernel
theorem dX8_newRow_27 : decode cX8_newRow 27 = .ok (.getfield 37, 3) := by decide +kernel
theorem dX8_newRow_30 : decode cX8_newRow 30 = .ok (.iload_n 3, 1) := by decide +kernel
theorem dX8_newRow_31 : decode cX8_newRow 31 = .ok (.iconst 0, 1) := by decide +kernel
theorem dX8_newRow_32 : decode cX8_newRow 32 = .ok (.iload_n 2, 1) := by decide +kernel
theorem dX8_newRow_33 : decode cX8_newRow 33 = .ok (.invokevirtual 91, 3) := by decide +kernel
theorem dX8_newRow_36 : decode cX8_newRow 36 = .ok (.iconst 1, 1) := by decide +kernel
theorem dX8_newRow_37 : decode cX8_newRow 37 = .ok (.istore 4, 2) := by decide +kernel
theorem dX8_newRow_39 : decode cX8_newRow 39 = .ok (.iload 4, 2) := by decide +kernel
theorem dX8_newRow_41 : decode cX8_newRow 41 = .ok (.iload_n 2, 1) := by decide +kernel
theorem dX8_newRow_42 : decode cX8_newRow 42 = .ok (.if_icmp .gt 20, 3) := by decide +kernel
theorem dX8_newRow_45 : decode cX8_newRow 45 = .ok (.aload_n 0, 1) := by decide +kernel
theorem dX8_newRow_46 : decode cX8_newRow 46 = .ok (.getfield 37, 3) := by decide +kernel
theorem dX8_newRow_49 : decode cX8_newRow 49 = .ok (.iload_n 3, 1) := by decide +kernel
theorem dX8_newRow_50 : decode cX8_newRow 50 = .ok (.iload 4, 2) := by decide +kernel
theorem dX8_newRow_52 : decode cX8_newRow 52 = .ok (.iconst 0, 1) := by decide +kernel
theorem dX8_newRow_53 : decode cX8_newRow 53 = .ok (.invokevirtual 91, 3) := by decide +kernel
theorem dX8_newRow_56 : decode cX8_newRow 56 = .ok (.iinc 4 1, 3) := by decide +kernel
theorem dX8_newRow_59 : decode cX8_newRow 59 = .ok (.goto (-20), 3) := by decide +kernel
theorem dX8_newRow_62 : decode cX8_newRow 62 = .ok (.aload_n 0, 1) := by decide +kernel
theorem dX8_newRow_63 : decode cX8_newRow 63 = .ok (.bipush 9, 2) := by decide +kernel
theorem dX8_newRow_65 : decode cX8_newRow 65 = .ok (.iload_n 1, 1) := by decide +kernel
theorem dX8_newRow_66 : decode cX8_newRow 66 = .ok (.iadd, 1) := by decide +kernel
theorem dX8_newRow_67 : decode cX8_newRow 67 = .ok (.iload_n 3, 1) := by decide +kernel
theorem dX8_newRow_68 : decode cX8_newRow 68 = .ok (.invokevirtual 95, 3) := by decide +kernel
theorem dX8_newRow_71 : decode cX8_newRow 71 = .ok (.return_, 1) := by decide +kernel
set_option maxHeartbeats 8000000 in
set_option maxRecDepth 100000 in
theorem a_W_newRow (l : Launch) (D : va_G) (g : Nat → ClassId)   (sz : Nat) (h : Nat) (wa : Nat → Nat) (wi : Nat → Int32) (wr : Nat → Nat) (wf : Nat → Nat → Int32) (ph : Nat) (rh : Nat) (la : Nat → Nat) (pa : Nat → Nat) (pr : Nat → Nat) (pf : Nat → Nat → Int32) (ca : Nat → Nat) (ci : Nat → Int32) (cr : Nat → Nat) (cf : Nat → Nat → Int32) (lr : Nat → Nat) (lf : Nat → Nat → Int32) (lmx : Nat) (n1 : Int32) (n2 : Int32) (hw_w : ∀ k, wr k ≤ woW_lim k) (hw_p : ∀ k, pr k ≤ pgW_lim k) (hw_c : ∀ k, cr k ≤ rcW_lim k) (hw_l : ∀ k, lr k ≤ (plW_lim lmx) k) (hmx_l : lmx ≤ 30) : vz_Mv l D (tyG g) yX8_newRow cX8_newRow 5 2 48 0 0 [.ref h, .int n1, .int n2] sz ((woW g h wa wi wr wf ph rh (la 0)) ++ (pgW g ph pa pr pf) ++ (rcW g rh ca ci cr cf) ++ (plW g la lr lf lmx)) (fun u : (Nat → Int32) × (Nat → Nat) × (Nat → Nat → Int32) × (Nat → Nat) × (Nat → Nat → Int32) => (∀ k, u.2.1 k ≤ woW_lim k) ∧ (∀ k, u.2.2.2.1 k ≤ rcW_lim k)) (fun u => (woW g h wa u.1 u.2.1 u.2.2.1 ph rh (la 0)) ++ (pgW g ph pa pr pf) ++ (rcW g rh ca ci u.2.2.2.1 u.2.2.2.2) ++ (plW g la lr lf lmx)) := by
  refine vz_svQ (by decide) (Nat.le_of_ble_eq_true rfl) (fun p e s m args below meth c hx hb hr hml hts hown hlk hin hK hsz A hA H locs hP hD hS ls hl Q hQ => ?_)
  have hl : lv_has ls 5 [(0, .ref h), (1, .int n1), (2, .int n2)] := hl
  have J39 : ∀ (fu39 n39 : Nat), 9 - n39 < fu39 → n39 ≤ 9 → ∀ (x3_39 : Int32), ∀ (wi_39 : Nat → Int32), ∀ (wr_39 : Nat → Nat), ∀ (wf_39 : Nat → Nat → Int32), ∀ (cr_39 : Nat → Nat), ∀ (cf_39 : Nat → Nat → Int32), (∀ k, wr_39 k ≤ woW_lim k) → (∀ k, cr_39 k ≤ rcW_lim k) → (n2 ≤ 8) → ∀ (H : Heap) (locs : List Loc) (ls : Array Slot), va_P D vwCl ((woW g h wa wi_39 wr_39 wf_39 ph rh (la 0)) ++ (pgW g ph pa pr pf) ++ (rcW g rh ca ci cr_39 cf_39) ++ (plW g la lr lf lmx)) H → va_D A ((woW g h wa wi_39 wr_39 wf_39 ph rh (la 0)) ++ (pgW g ph pa pr pf) ++ (rcW g rh ca ci cr_39 cf_39) ++ (plW g la lr lf lmx)) → va_S A s.heap H locs → lv_has ls 5 [(0, .ref h), (1, .int n1), (2, .int n2), (3, .int x3_39), (4, .int (nI n39))] → W p l e { frames := 2, cells := 0, slots := 0, locals := 48 } s m args below meth c H locs 0 0 Q (F0 m 39 ls []) := by
    intro fu39
    induction fu39 with
    | zero => intro n39 z; omega
    | succ fu39 ih39 =>
      intro n39 hf39 hb39 x3_39 wi_39 wr_39 wf_39 cr_39 cf_39 hw_w_39 hw_c_39 hj39_0 H locs ls hP hD hS hl
      refine lv_iload hx hb dX8_newRow_39 (lv_at hl 4 rfl) ?_
      refine lv_iload_n hx hb dX8_newRow_41 rfl (lv_at hl 2 rfl) ?_
      refine lv_icmp_gt (tgt := 62) hx hb dX8_newRow_42 (by decide) (fun kc1 => ?_) (fun kc1 => ?_)
      · refine lv_aload_n hx hb dX8_newRow_62 rfl (lv_at hl 0 rfl) ?_
        refine lv_bipush (v := 9) hx hb dX8_newRow_63 (by decide) ?_
        refine lv_iload_n hx hb dX8_newRow_65 rfl (lv_at hl 1 rfl) ?_
        refine lv_iadd hx hb dX8_newRow_66 ?_
        refine lv_iload_n hx hb dX8_newRow_67 rfl (lv_at hl 3 rfl) ?_
        refine vz_Vv3 (As := [.int (9 + n1), .int x3_39]) (rest := []) hx hb hml hown hts hK hA hP hD hS (a_W_setNow l D g H.size h wa wi_39 wr_39 wf_39 ph rh la pa pr pf ca ci cr_39 cf_39 lr lf lmx (9 + n1) x3_39 hw_w_39 hw_p hw_c_39 hw_l hmx_l) kv_X8_95 ⟨Nat.le_of_ble_eq_true rfl, Nat.le_of_ble_eq_true rfl⟩ (q0 := 0) (ci := 8) rfl rfl rfl  hl.1 (Nat.le_of_ble_eq_true rfl) dX8_newRow_68 ⟨Nat.le_refl _, Nat.le_refl _⟩ rfl (fun wf_2 H locs _ _ hP hD hS => ?_)
        replace hP : va_P D vwCl ((woW g h wa wi_39 wr_39 wf_2 ph rh (la 0)) ++ (pgW g ph pa pr pf) ++ (rcW g rh ca ci cr_39 cf_39) ++ (plW g la lr lf lmx)) H := hP
        replace hD : va_D A ((woW g h wa wi_39 wr_39 wf_2 ph rh (la 0)) ++ (pgW g ph pa pr pf) ++ (rcW g rh ca ci cr_39 cf_39) ++ (plW g la lr lf lmx)) := hD
        rw [hQ]
        exact vz_vret3 hx hb hr hlk hK hP hD hS (wi_39, wr_39, wf_2, cr_39, cf_39) (⟨hw_w_39, hw_c_39⟩) rfl (Nat.le_refl 0) (Nat.le_refl 0) dX8_newRow_71
      · have hn39 : n39 < 9 := vz_lt9 hj39_0 (by omega) kc1
        refine lv_aload_n hx hb dX8_newRow_45 rfl (lv_at hl 0 rfl) ?_
        refine va_get (D := D) (ci := 8) (v := .ref (wa 6)) (C := RX8) (T := TX8) (N := 11) hx hb hts inlX8 hown hK hP 0 rfl rfl 3 (by decide) (hts _ q137) (fun _ h => h) rfl dX8_newRow_46 ?_
        refine lv_iload_n hx hb dX8_newRow_49 rfl (lv_at hl 3 rfl) ?_
        refine lv_iload hx hb dX8_newRow_50 (lv_at hl 4 rfl) ?_
        refine lv_iconst (v := 0) hx hb dX8_newRow_52 (by decide) ?_
        refine vz_Vv2 (ws' := fun u : (Nat → Int32) => (woW g h wa wi_39 wr_39 (vz_uf wf_39 3 u) ph rh (la 0)) ++ (pgW g ph pa pr pf) ++ (rcW g rh ca ci cr_39 cf_39) ++ (plW g la lr lf lmx)) (As := [.int x3_39, .int (nI n39), .int 0]) (rest := []) hx hb hml hown hts hK hA hP hD hS (c_T_set l D g (wa 6) (wa 7) H.size 9 400 (wr_39 3) 3600 (wf_39 3) x3_39 (nI n39) 0 ⟨rfl, by decide, by decide, by decide, by decide, hw_w_39 3⟩) kv_X8_91 ⟨Nat.le_of_ble_eq_true rfl, Nat.le_of_ble_eq_true rfl⟩ (q0 := 7) (ci := 6) rfl rfl rfl [7, 8] rfl (by decide) (fun _ => rfl) (fun _ => rfl) hl.1 (Nat.le_of_ble_eq_true rfl) dX8_newRow_53 ⟨Nat.le_refl _, Nat.le_refl _⟩ rfl (fun nf3 H locs _ _ hP hD hS => ?_)
        obtain ⟨wf_4, hP, hD⟩ : ∃ wf_4 : Nat → Nat → Int32, va_P D vwCl ((woW g h wa wi_39 wr_39 wf_4 ph rh (la 0)) ++ (pgW g ph pa pr pf) ++ (rcW g rh ca ci cr_39 cf_39) ++ (plW g la lr lf lmx)) H ∧ va_D A ((woW g h wa wi_39 wr_39 wf_4 ph rh (la 0)) ++ (pgW g ph pa pr pf) ++ (rcW g rh ca ci cr_39 cf_39) ++ (plW g la lr lf lmx)) := ⟨(vz_uf wf_39 3 nf3), hP, hD⟩
        refine lv_iinc (v := (nI (n39 + 1))) (lv' := [(4, .int (nI (n39 + 1))), (0, .ref h), (1, .int n1), (2, .int n2), (3, .int x3_39)]) hx hb dX8_newRow_56 hl (k := 4) rfl (nI_1 n39) (by decide) rfl (fun ls hl => ?_)
        refine lv_goto (tgt := 39) hx hb dX8_newRow_59 (by decide) ?_
        exact ih39 (n39 + 1) (by omega) (by omega) x3_39 wi_39 wr_39 wf_4 cr_39 cf_39 hw_w_39 hw_c_39 (hj39_0) H locs ls hP hD hS (lv_sub hl [1, 2, 3, 4, 0] rfl)
  have J10 : ∀ (wi_10 : Nat → Int32), ∀ (wr_10 : Nat → Nat), ∀ (wf_10 : Nat → Nat → Int32), ∀ (cr_10 : Nat → Nat), ∀ (cf_10 : Nat → Nat → Int32), (∀ k, wr_10 k ≤ woW_lim k) → (∀ k, cr_10 k ≤ rcW_lim k) → ∀ (H : Heap) (locs : List Loc) (ls : Array Slot), va_P D vwCl ((woW g h wa wi_10 wr_10 wf_10 ph rh (la 0)) ++ (pgW g ph pa pr pf) ++ (rcW g rh ca ci cr_10 cf_10) ++ (plW g la lr lf lmx)) H → va_D A ((woW g h wa wi_10 wr_10 wf_10 ph rh (la 0)) ++ (pgW g ph pa pr pf) ++ (rcW g rh ca ci cr_10 cf_10) ++ (plW g la lr lf lmx)) → va_S A s.heap H locs → lv_has ls 5 [(0, .ref h), (1, .int n1), (2, .int n2)] → W p l e { frames := 2, cells := 0, slots := 0, locals := 48 } s m args below meth c H locs 0 0 Q (F0 m 10 ls []) := by
    intro wi_10 wr_10 wf_10 cr_10 cf_10 hw_w_10 hw_c_10 H locs ls hP hD hS hl
    refine lv_aload_n hx hb dX8_newRow_10 rfl (lv_at hl 0 rfl) ?_
    refine lv_iconst (v := 5) hx hb dX8_newRow_11 (by decide) ?_
    refine lv_bipush (v := (-9)) hx hb dX8_newRow_12 (by decide) ?_
    refine vz_Vv3 (As := [.int 5, .int (-9)]) (rest := []) hx hb hml hown hts hK hA hP hD hS (a_W_raise l D g H.size h wa wi_10 wr_10 wf_10 ph rh la pa pr pf ca ci cr_10 cf_10 lr lf lmx 5 (-9) hw_w_10 hw_p hw_c_10 hw_l hmx_l) kv_X8_126 ⟨Nat.le_of_ble_eq_true rfl, Nat.le_of_ble_eq_true rfl⟩ (q0 := 0) (ci := 8) rfl rfl rfl  hl.1 (Nat.le_of_ble_eq_true rfl) dX8_newRow_14 ⟨Nat.le_refl _, Nat.le_refl _⟩ rfl (fun ⟨wi_1, cr_2, cf_3⟩ H locs hw_4 _ hP hD hS => ?_)
    try dsimp only at hw_4
    replace hP : va_P D vwCl ((woW g h wa wi_1 wr_10 wf_10 ph rh (la 0)) ++ (pgW g ph pa pr pf) ++ (rcW g rh ca ci cr_2 cf_3) ++ (plW g la lr lf lmx)) H := hP
    replace hD : va_D A ((woW g h wa wi_1 wr_10 wf_10 ph rh (la 0)) ++ (pgW g ph pa pr pf) ++ (rcW g rh ca ci cr_2 cf_3) ++ (plW g la lr lf lmx)) := hD
    rw [hQ]
    exact vz_vret3 hx hb hr hlk hK hP hD hS (wi_1, wr_10, wf_10, cr_2, cf_3) (⟨hw_w_10, hw_4⟩) rfl (Nat.le_refl 0) (Nat.le_refl 0) dX8_newRow_17
  refine lv_iload_n hx hb dX8_newRow_0 rfl (lv_at hl 2 rfl) ?_
  refine lv_if_lt (tgt := 10) hx hb dX8_newRow_1 (by decide) (fun kc1 => ?_) (fun kc1 => ?_)
  · exact J10 wi wr wf cr cf hw_w hw_c H locs ls hP hD hS (lv_sub hl [0, 1, 2] rfl)
  · refine lv_iload_n hx hb dX8_newRow_4 rfl (lv_at hl 2 rfl) ?_
    refine lv_bipush (v := 8) hx hb dX8_newRow_5 (by decide) ?_
    refine lv_icmp_le (tgt := 18) hx hb dX8_newRow_7 (by decide) (fun kc2 => ?_) (fun kc2 => ?_)
    · refine lv_aload_n hx hb dX8_newRow_18 rfl (lv_at hl 0 rfl) ?_
      refine va_get (D := D) (ci := 8) (v := .ref (wa 6)) (C := RX8) (T := TX8) (N := 11) hx hb hts inlX8 hown hK hP 0 rfl rfl 3 (by decide) (hts _ q137) (fun _ h => h) rfl dX8_newRow_19 ?_
      refine vz_Vi2 (ws' := fun u : (Nat × (Nat → Int32)) => (woW g h wa wi (vz_un wr 3 u.1) (vz_uf wf 3 u.2) ph rh (la 0)) ++ (pgW g ph pa pr pf) ++ (rcW g rh ca ci cr cf) ++ (plW g la lr lf lmx)) (As := []) (rest := []) hx hb hml hown hts hK hA hP hD hS (c_T_add l D g (wa 6) (wa 7) H.size 9 400 (wr 3) 3600 (wf 3) ⟨rfl, by decide, by decide, by decide, by decide, hw_w 3⟩) kv_X8_83 ⟨Nat.le_of_ble_eq_true rfl, Nat.le_of_ble_eq_true rfl⟩ (q0 := 7) (ci := 6) rfl rfl rfl [7, 8] rfl (by decide) (fun _ => rfl) (fun _ => rfl) hl.1 (Nat.le_of_ble_eq_true rfl) dX8_newRow_22 ⟨Nat.le_refl _, Nat.le_refl _⟩ rfl (fun v5 ⟨u3R, u3f⟩ H locs ha4 _ hP hD hS => ?_)
      have hq : (wr 3) ≤ 400 := hw_w 3
      replace ha4 : u3R ≤ 400 := by rcases ha4 with ⟨z1, -, z2, -⟩ | ⟨z1, -, z2, -⟩ <;> (dsimp only at z2; omega)
      obtain ⟨wr_6, hw_wr_6, wf_7, hP, hD⟩ : ∃ wr_6 : Nat → Nat, (∀ k, wr_6 k ≤ woW_lim k) ∧ ∃ wf_7 : Nat → Nat → Int32, va_P D vwCl ((woW g h wa wi wr_6 wf_7 ph rh (la 0)) ++ (pgW g ph pa pr pf) ++ (rcW g rh ca ci cr cf) ++ (plW g la lr lf lmx)) H ∧ va_D A ((woW g h wa wi wr_6 wf_7 ph rh (la 0)) ++ (pgW g ph pa pr pf) ++ (rcW g rh ca ci cr cf) ++ (plW g la lr lf lmx)) := ⟨(vz_un wr 3 u3R), (vz_wf hw_w (t := 3) (v := u3R) (ha4)), (vz_uf wf 3 u3f), hP, hD⟩
      refine lv_istore_n (lv' := [(3, .int v5), (0, .ref h), (1, .int n1), (2, .int n2)]) hx hb dX8_newRow_25 rfl hl (by decide) rfl (fun ls hl => ?_)
      refine lv_aload_n hx hb dX8_newRow_26 rfl (lv_at hl 1 rfl) ?_
      refine va_get (D := D) (ci := 8) (v := .ref (wa 6)) (C := RX8) (T := TX8) (N := 11) hx hb hts inlX8 hown hK hP 0 rfl rfl 3 (by decide) (hts _ q137) (fun _ h => h) rfl dX8_newRow_27 ?_
      refine lv_iload_n hx hb dX8_newRow_30 rfl (lv_at hl 0 rfl) ?_
      refine lv_iconst (v := 0) hx hb dX8_newRow_31 (by decide) ?_
      refine lv_iload_n hx hb dX8_newRow_32 rfl (lv_at hl 3 rfl) ?_
      refine vz_Vv2 (ws' := fun u : (Nat → Int32) => (woW g h wa wi wr_6 (vz_uf wf_7 3 u) ph rh (la 0)) ++ (pgW g ph pa pr pf) ++ (rcW g rh ca ci cr cf) ++ (plW g la lr lf lmx)) (As := [.int v5, .int 0, .int n2]) (rest := []) hx hb hml hown hts hK hA hP hD hS (c_T_set l D g (wa 6) (wa 7) H.size 9 400 (wr_6 3) 3600 (wf_7 3) v5 0 n2 ⟨rfl, by decide, by decide, by decide, by decide, hw_wr_6 3⟩) kv_X8_91 ⟨Nat.le_of_ble_eq_true rfl, Nat.le_of_ble_eq_true rfl⟩ (q0 := 7) (ci := 6) rfl rfl rfl [7, 8] rfl (by decide) (fun _ => rfl) (fun _ => rfl) hl.1 (Nat.le_of_ble_eq_true rfl) dX8_newRow_33 ⟨Nat.le_refl _, Nat.le_refl _⟩ rfl (fun nf8 H locs _ _ hP hD hS => ?_)
      obtain ⟨wf_9, hP, hD⟩ : ∃ wf_9 : Nat → Nat → Int32, va_P D vwCl ((woW g h wa wi wr_6 wf_9 ph rh (la 0)) ++ (pgW g ph pa pr pf) ++ (rcW g rh ca ci cr cf) ++ (plW g la lr lf lmx)) H ∧ va_D A ((woW g h wa wi wr_6 wf_9 ph rh (la 0)) ++ (pgW g ph pa pr pf) ++ (rcW g rh ca ci cr cf) ++ (plW g la lr lf lmx)) := ⟨(vz_uf wf_7 3 nf8), hP, hD⟩
      refine lv_iconst (v := 1) hx hb dX8_newRow_36 (by decide) ?_
      refine lv_istore (lv' := [(4, .int 1), (3, .int v5), (0, .ref h), (1, .int n1), (2, .int n2)]) hx hb dX8_newRow_37 hl (by decide) rfl (fun ls hl => ?_)
      exact J39 (10) 1 (by omega) (by omega) v5 wi wr_6 wf_9 cr cf hw_wr_6 hw_c (kc2) H locs ls hP hD hS (lv_sub hl [2, 3, 4, 1, 0] rfl)
    · exact J10 wi wr wf cr cf hw_w hw_c H locs ls hP hD hS (lv_sub hl [0, 1, 2] rfl)
theorem dX8_lacking_0 : decode cX8_lacking 0 = .ok (.iload_n 1, 1) := by decide +kernel
theorem dX8_lacking_1 : decode cX8_lacking 1 = .ok (.bipush (-9), 2) := by decide +kernel
theorem dX8_lacking_3 : decode cX8_lacking 3 = .ok (.if_icmp .ne 5, 3) := by decide +kernel
theorem dX8_lacking_6 : decode cX8_lacking 6 = .ok (.iconst 4, 1) := by decide +kernel
theorem dX8_lacking_7 : decode cX8_lacking 7 = .ok (.ireturn, 1) := by decide +kernel
theorem dX8_lacking_8 : decode cX8_lacking 8 = .ok (.iload_n 2, 1) := by decide +kernel
theorem dX8_lacking_9 : decode cX8_lacking 9 = .ok (.ifCond .lt 16, 3) := by decide +kernel
theorem dX8_lacking_12 : decode cX8_lacking 12 = .ok (.iload_n 2, 1) := by decide +kernel
theorem dX8_lacking_13 : decode cX8_lacking 13 = .ok (.aload_n 0, 1) := by decide +kernel
theorem dX8_lacking_14 : decode cX8_lacking 14 = .ok (.getfield 37, 3) := by decide +kernel
theorem dX8_lacking_17 : decode cX8_lacking 17 = .ok (.iload_n 1, 1) := by decide +kernel
theorem dX8_lacking_18 : decode cX8_lacking 18 = .ok (.iconst 0, 1) := by decide +kernel
theorem dX8_lacking_19 : decode cX8_lacking 19 = .ok (.invokevirtual 110, 3) := by decide +kernel
theorem dX8_lacking_22 : decode cX8_lacking 22 = .ok (.if_icmp .lt 7, 3) := by decide +kernel
theorem dX8_lacking_25 : decode cX8_lacking 25 = .ok (.iconst 3, 1) := by decide +kernel
theorem dX8_lacking_26 : decode cX8_lacking 26 = .ok (.goto 5, 3) := by decide +kernel
theorem dX8_lacking_29 : decode cX8_lacking 29 = .ok (.bipush (-9), 2) := by decide +kernel
theorem dX8_lacking_31 : decode cX8_lacking 31 = .ok (.ireturn, 1) := by decide +kernel
set_option maxHeartbeats 8000000 in
set_option maxRecDepth 100000 in
theorem a_W_lacking (l : Launch) (D : va_G) (g : Nat → ClassId)   (sz : Nat) (h : Nat) (wa : Nat → Nat) (wi : Nat → Int32) (wr : Nat → Nat) (wf : Nat → Nat → Int32) (ph : Nat) (rh : Nat) (la : Nat → Nat) (pa : Nat → Nat) (pr : Nat → Nat) (pf : Nat → Nat → Int32) (ca : Nat → Nat) (ci : Nat → Int32) (cr : Nat → Nat) (cf : Nat → Nat → Int32) (lr : Nat → Nat) (lf : Nat → Nat → Int32) (lmx : Nat) (n1 : Int32) (n2 : Int32) (hw_w : ∀ k, wr k ≤ woW_lim k) (hw_p : ∀ k, pr k ≤ pgW_lim k) (hw_c : ∀ k, cr k ≤ rcW_lim k) (hw_l : ∀ k, lr k ≤ (plW_lim lmx) k) (hmx_l : lmx ≤ 30) : vz_Mi l D (tyG g) yX8_lacking cX8_lacking 3 1 23 0 0 .int [.ref h, .int n1, .int n2] sz ((woW g h wa wi wr wf ph rh (la 0)) ++ (pgW g ph pa pr pf) ++ (rcW g rh ca ci cr cf) ++ (plW g la lr lf lmx)) (fun r (u : Unit) => True) (fun u => (woW g h wa wi wr wf ph rh (la 0)) ++ (pgW g ph pa pr pf) ++ (rcW g rh ca ci cr cf) ++ (plW g la lr lf lmx)) := by
  refine vz_siQ (by decide) (Nat.le_of_ble_eq_true rfl) (fun p e s m args below meth c hx hb hr hml hts hown hlk hin hK hsz A hA H locs hP hD hS ls hl Q hQ => ?_)
  have hl : lv_has ls 3 [(0, .ref h), (1, .int n1), (2, .int n2)] := hl
  have J31 : ∀ (y0_31 : Int32), ∀ (H : Heap) (locs : List Loc) (ls : Array Slot), va_P D vwCl ((woW g h wa wi wr wf ph rh (la 0)) ++ (pgW g ph pa pr pf) ++ (rcW g rh ca ci cr cf) ++ (plW g la lr lf lmx)) H → va_D A ((woW g h wa wi wr wf ph rh (la 0)) ++ (pgW g ph pa pr pf) ++ (rcW g rh ca ci cr cf) ++ (plW g la lr lf lmx)) → va_S A s.heap H locs → lv_has ls 3 [(0, .ref h), (1, .int n1), (2, .int n2)] → W p l e { frames := 1, cells := 0, slots := 0, locals := 23 } s m args below meth c H locs 0 0 Q (F0 m 31 ls [.int y0_31]) := by
    intro y0_31 H locs ls hP hD hS hl
    rw [hQ]
    exact vz_iret3 hx hb hr hlk hK hP hD hS () trivial rfl (Nat.le_refl 0) (Nat.le_refl 0) dX8_lacking_31
  have J25 : ∀ (H : Heap) (locs : List Loc) (ls : Array Slot), va_P D vwCl ((woW g h wa wi wr wf ph rh (la 0)) ++ (pgW g ph pa pr pf) ++ (rcW g rh ca ci cr cf) ++ (plW g la lr lf lmx)) H → va_D A ((woW g h wa wi wr wf ph rh (la 0)) ++ (pgW g ph pa pr pf) ++ (rcW g rh ca ci cr cf) ++ (plW g la lr lf lmx)) → va_S A s.heap H locs → lv_has ls 3 [(0, .ref h), (1, .int n1), (2, .int n2)] → W p l e { frames := 1, cells := 0, slots := 0, locals := 23 } s m args below meth c H locs 0 0 Q (F0 m 25 ls []) := by
    intro H locs ls hP hD hS hl
    refine lv_iconst (v := 3) hx hb dX8_lacking_25 (by decide) ?_
    refine lv_goto (tgt := 31) hx hb dX8_lacking_26 (by decide) ?_
    exact J31 3 H locs ls hP hD hS (lv_sub hl [0, 1, 2] rfl)
  refine lv_iload_n hx hb dX8_lacking_0 rfl (lv_at hl 1 rfl) ?_
  refine lv_bipush (v := (-9)) hx hb dX8_lacking_1 (by decide) ?_
  refine lv_icmp_ne (tgt := 8) hx hb dX8_lacking_3 (by decide) (fun kc1 => ?_) (fun kc1 => ?_)
  · refine lv_iload_n hx hb dX8_lacking_8 rfl (lv_at hl 2 rfl) ?_
    refine lv_if_lt (tgt := 25) hx hb dX8_lacking_9 (by decide) (fun kc2 => ?_) (fun kc2 => ?_)
    · exact J25 H locs ls hP hD hS (lv_sub hl [0, 1, 2] rfl)
    · refine lv_iload_n hx hb dX8_lacking_12 rfl (lv_at hl 2 rfl) ?_
      refine lv_aload_n hx hb dX8_lacking_13 rfl (lv_at hl 0 rfl) ?_
      refine va_get (D := D) (ci := 8) (v := .ref (wa 6)) (C := RX8) (T := TX8) (N := 11) hx hb hts inlX8 hown hK hP 0 rfl rfl 3 (by decide) (hts _ q137) (fun _ h => h) rfl dX8_lacking_14 ?_
      refine lv_iload_n hx hb dX8_lacking_17 rfl (lv_at hl 1 rfl) ?_
      refine lv_iconst (v := 0) hx hb dX8_lacking_18 (by decide) ?_
      refine vz_Vi2 (ws' := fun u : Unit => (woW g h wa wi wr wf ph rh (la 0)) ++ (pgW g ph pa pr pf) ++ (rcW g rh ca ci cr cf) ++ (plW g la lr lf lmx)) (As := [.int n1, .int 0]) (rest := [.int n2]) hx hb hml hown hts hK hA hP hD hS (c_T_get l D g (wa 6) (wa 7) H.size 9 400 (wr 3) 3600 (wf 3) n1 0 ⟨rfl, by decide, by decide, by decide, by decide, hw_w 3⟩) kv_X8_110 ⟨Nat.le_of_ble_eq_true rfl, Nat.le_of_ble_eq_true rfl⟩ (q0 := 7) (ci := 6) rfl rfl rfl [7, 8] rfl (by decide) (fun _ => rfl) (fun _ => rfl) hl.1 (Nat.le_of_ble_eq_true rfl) dX8_lacking_19 ⟨Nat.le_refl _, Nat.le_refl _⟩ rfl (fun v3 _ H locs he4 _ hP hD hS => ?_)
      refine lv_icmp_lt (tgt := 29) hx hb dX8_lacking_22 (by decide) (fun kc5 => ?_) (fun kc5 => ?_)
      · refine lv_bipush (v := (-9)) hx hb dX8_lacking_29 (by decide) ?_
        exact J31 (-9) H locs ls hP hD hS (lv_sub hl [0, 1, 2] rfl)
      · exact J25 H locs ls hP hD hS (lv_sub hl [0, 1, 2] rfl)
  · refine lv_iconst (v := 4) hx hb dX8_lacking_6 (by decide) ?_
    rw [hQ]
    exact vz_iret3 hx hb hr hlk hK hP hD hS () trivial rfl (Nat.le_refl 0) (Nat.le_refl 0) dX8_lacking_7
theorem q1111 : Cond.methodLink RX8 144 yX8_lacking ∈ wsL_law := mT_5 (List.mem_of_getElem? (i := 33) rfl) rfl
theorem q1112 : Cond.instanceMethod yX8_lacking ∈ wsL_law := mT_5 (List.mem_of_getElem? (i := 35) rfl) rfl
theorem q1113 : Cond.selects RX8 yX8_lacking yX8_lacking ∈ wsL_law := mS_5 (q := (yX8_lacking, 11)) (List.mem_of_getElem? (i := 6) rfl) rfl
theorem q1114 : Cond.code yX8_lacking cX8_lacking 3 (some .int) ∈ wsL_law := mT_5 (List.mem_of_getElem? (i := 36) rfl) rfl
theorem kv_X8_144 : vz_cv RX8 144 yX8_lacking cX8_lacking 3 (some .int) 2 := ⟨q1111, q1112, q1113, q47, q1114, by decide +kernel⟩
theorem dX8_element_0 : decode cX8_element 0 = .ok (.aload_n 0, 1) := by decide +kernel
theorem dX8_element_1 : decode cX8_element 1 = .ok (.bipush 9, 2) := by decide +kernel
theorem dX8_element_3 : decode cX8_element 3 = .ok (.iload_n 1, 1) := by decide +kernel
theorem dX8_element_4 : decode cX8_element 4 = .ok (.iadd, 1) := by decide +kernel
theorem dX8_element_5 : decode cX8_element 5 = .ok (.invokevirtual 87, 3) := by decide +kernel
theorem dX8_element_8 : decode cX8_element 8 = .ok (.istore_n 3, 1) := by decide +kernel
theorem dX8_element_9 : decode cX8_element 9 = .ok (.aload_n 0, 1) := by decide +kernel
theorem dX8_element_10 : decode cX8_element 10 = .ok (.iload_n 3, 1) := by decide +kernel
theorem dX8_element_11 : decode cX8_element 11 = .ok (.iload_n 2, 1) := by decide +kernel
theorem dX8_element_12 : decode cX8_element 12 = .ok (.invokevirtual 144, 3) := by decide +kernel
theorem dX8_element_15 : decode cX8_element 15 = .ok (.istore 4, 2) := by decide +kernel
theorem dX8_element_17 : decode cX8_element 17 = .ok (.iload 4, 2) := by decide +kernel
theorem dX8_element_19 : decode cX8_element 19 = .ok (.bipush (-9), 2) := by decide +kernel
theorem dX8_element_21 : decode cX8_element 21 = .ok (.if_icmp .eq 13, 3) := by decide +kernel
theorem dX8_element_24 : decode cX8_element 24 = .ok (.aload_n 0, 1) := by decide +kernel
theorem dX8_element_25 : decode cX8_element 25 = .ok (.iload 4, 2) := by decide +kernel
theorem dX8_element_27 : decode cX8_element 27 = .ok (.bipush (-9), 2) := by decide +kernel
theorem dX8_element_29 : decode cX8_element 29 = .ok (.invokevirtual 126, 3) := by decide +kernel
theorem dX8_element_32 : decode cX8_element 32 = .ok (.iconst 0, 1) := by decide +kernel
theorem dX8_element_33 : decode cX8_element 33 = .ok (.ireturn, 1) := by decide +kernel
theorem dX8_element_34 : decode cX8_element 34 = .ok (.aload_n 0, 1) := by decide +kernel
theorem dX8_element_35 : decode cX8_element 35 = .ok (.getfield 37, 3) := by decide +kernel
theorem dX8_element_38 : decode cX8_element 38 = .ok (.iload_n 3, 1) := by decide +kernel
theorem dX8_element_39 : decode cX8_element 39 = .ok (.iconst 1, 1) := by decide +kernel
theorem dX8_element_40 : decode cX8_element 40 = .ok (.iload_n 2, 1) := by decide +kernel
theorem dX8_element_41 : decode cX8_element 41 = .ok (.iadd, 1) := by decide +kernel
theorem dX8_element_42 : decode cX8_element 42 = .ok (.invokevirtual 110, 3) := by decide +kernel
theorem dX8_element_45 : decode cX8_element 45 = .ok (.ireturn, 1) := by decide +kernel
set_option maxHeartbeats 8000000 in
set_option maxRecDepth 100000 in
theorem a_W_element (l : Launch) (D : va_G) (g : Nat → ClassId)   (sz : Nat) (h : Nat) (wa : Nat → Nat) (wi : Nat → Int32) (wr : Nat → Nat) (wf : Nat → Nat → Int32) (ph : Nat) (rh : Nat) (la : Nat → Nat) (pa : Nat → Nat) (pr : Nat → Nat) (pf : Nat → Nat → Int32) (ca : Nat → Nat) (ci : Nat → Int32) (cr : Nat → Nat) (cf : Nat → Nat → Int32) (lr : Nat → Nat) (lf : Nat → Nat → Int32) (lmx : Nat) (n1 : Int32) (n2 : Int32) (hw_w : ∀ k, wr k ≤ woW_lim k) (hw_p : ∀ k, pr k ≤ pgW_lim k) (hw_c : ∀ k, cr k ≤ rcW_lim k) (hw_l : ∀ k, lr k ≤ (plW_lim lmx) k) (hmx_l : lmx ≤ 30) : vz_Mi l D (tyG g) yX8_element cX8_element 5 2 48 0 0 .int [.ref h, .int n1, .int n2] sz ((woW g h wa wi wr wf ph rh (la 0)) ++ (pgW g ph pa pr pf) ++ (rcW g rh ca ci cr cf) ++ (plW g la lr lf lmx)) (fun r (u : (Nat → Int32) × (Nat → Nat) × (Nat → Nat → Int32)) => (∀ k, u.2.1 k ≤ rcW_lim k)) (fun u => (woW g h wa u.1 wr wf ph rh (la 0)) ++ (pgW g ph pa pr pf) ++ (rcW g rh ca ci u.2.1 u.2.2) ++ (plW g la lr lf lmx)) := by
  refine vz_siQ (by decide) (Nat.le_of_ble_eq_true rfl) (fun p e s m args below meth c hx hb hr hml hts hown hlk hin hK hsz A hA H locs hP hD hS ls hl Q hQ => ?_)
  have hl : lv_has ls 5 [(0, .ref h), (1, .int n1), (2, .int n2)] := hl
  refine lv_aload_n hx hb dX8_element_0 rfl (lv_at hl 0 rfl) ?_
  refine lv_bipush (v := 9) hx hb dX8_element_1 (by decide) ?_
  refine lv_iload_n hx hb dX8_element_3 rfl (lv_at hl 1 rfl) ?_
  refine lv_iadd hx hb dX8_element_4 ?_
  refine vz_Vi3 (As := [.int (9 + n1)]) (rest := []) hx hb hml hown hts hK hA hP hD hS (a_W_now l D g H.size h wa wi wr wf ph rh la pa pr pf ca ci cr cf lr lf lmx (9 + n1) hw_w hw_p hw_c hw_l hmx_l) kv_X8_87 ⟨Nat.le_of_ble_eq_true rfl, Nat.le_of_ble_eq_true rfl⟩ (q0 := 0) (ci := 8) rfl rfl rfl  hl.1 (Nat.le_of_ble_eq_true rfl) dX8_element_5 ⟨Nat.le_refl _, Nat.le_refl _⟩ rfl (fun v1 _ H locs _ _ hP hD hS => ?_)
  refine lv_istore_n (lv' := [(3, .int v1), (0, .ref h), (1, .int n1), (2, .int n2)]) hx hb dX8_element_8 rfl hl (by decide) rfl (fun ls hl => ?_)
  refine lv_aload_n hx hb dX8_element_9 rfl (lv_at hl 1 rfl) ?_
  refine lv_iload_n hx hb dX8_element_10 rfl (lv_at hl 0 rfl) ?_
  refine lv_iload_n hx hb dX8_element_11 rfl (lv_at hl 3 rfl) ?_
  refine vz_Vi3 (As := [.int v1, .int n2]) (rest := []) hx hb hml hown hts hK hA hP hD hS (a_W_lacking l D g H.size h wa wi wr wf ph rh la pa pr pf ca ci cr cf lr lf lmx v1 n2 hw_w hw_p hw_c hw_l hmx_l) kv_X8_144 ⟨Nat.le_of_ble_eq_true rfl, Nat.le_of_ble_eq_true rfl⟩ (q0 := 0) (ci := 8) rfl rfl rfl  hl.1 (Nat.le_of_ble_eq_true rfl) dX8_element_12 ⟨Nat.le_refl _, Nat.le_refl _⟩ rfl (fun v2 _ H locs _ _ hP hD hS => ?_)
  refine lv_istore (lv' := [(4, .int v2), (3, .int v1), (0, .ref h), (1, .int n1), (2, .int n2)]) hx hb dX8_element_15 hl (by decide) rfl (fun ls hl => ?_)
  refine lv_iload hx hb dX8_element_17 (lv_at hl 0 rfl) ?_
  refine lv_bipush (v := (-9)) hx hb dX8_element_19 (by decide) ?_
  refine lv_icmp_eq (tgt := 34) hx hb dX8_element_21 (by decide) (fun kc3 => ?_) (fun kc3 => ?_)
  · refine lv_aload_n hx hb dX8_element_34 rfl (lv_at hl 2 rfl) ?_
    refine va_get (D := D) (ci := 8) (v := .ref (wa 6)) (C := RX8) (T := TX8) (N := 11) hx hb hts inlX8 hown hK hP 0 rfl rfl 3 (by decide) (hts _ q137) (fun _ h => h) rfl dX8_element_35 ?_
    refine lv_iload_n hx hb dX8_element_38 rfl (lv_at hl 1 rfl) ?_
    refine lv_iconst (v := 1) hx hb dX8_element_39 (by decide) ?_
    refine lv_iload_n hx hb dX8_element_40 rfl (lv_at hl 4 rfl) ?_
    refine lv_iadd hx hb dX8_element_41 ?_
    refine vz_Vi2 (ws' := fun u : Unit => (woW g h wa wi wr wf ph rh (la 0)) ++ (pgW g ph pa pr pf) ++ (rcW g rh ca ci cr cf) ++ (plW g la lr lf lmx)) (As := [.int v1, .int (1 + n2)]) (rest := []) hx hb hml hown hts hK hA hP hD hS (c_T_get l D g (wa 6) (wa 7) H.size 9 400 (wr 3) 3600 (wf 3) v1 (1 + n2) ⟨rfl, by decide, by decide, by decide, by decide, hw_w 3⟩) kv_X8_110 ⟨Nat.le_of_ble_eq_true rfl, Nat.le_of_ble_eq_true rfl⟩ (q0 := 7) (ci := 6) rfl rfl rfl [7, 8] rfl (by decide) (fun _ => rfl) (fun _ => rfl) hl.1 (Nat.le_of_ble_eq_true rfl) dX8_element_42 ⟨Nat.le_refl _, Nat.le_refl _⟩ rfl (fun v4 _ H locs he5 _ hP hD hS => ?_)
    rw [hQ]
    exact vz_iret3 hx hb hr hlk hK hP hD hS (wi, cr, cf) hw_c rfl (Nat.le_refl 0) (Nat.le_refl 0) dX8_element_45
  · refine lv_aload_n hx hb dX8_element_24 rfl (lv_at hl 2 rfl) ?_
    refine lv_iload hx hb dX8_element_25 (lv_at hl 0 rfl) ?_
    refine lv_bipush (v := (-9)) hx hb dX8_element_27 (by decide) ?_
    refine vz_Vv3 (As := [.int v2, .int (-9)]) (rest := []) hx hb hml hown hts hK hA hP hD hS (a_W_raise l D g H.size h wa wi wr wf ph rh la pa pr pf ca ci cr cf lr lf lmx v2 (-9) hw_w hw_p hw_c hw_l hmx_l) kv_X8_126 ⟨Nat.le_of_ble_eq_true rfl, Nat.le_of_ble_eq_true rfl⟩ (q0 := 0) (ci := 8) rfl rfl rfl  hl.1 (Nat.le_of_ble_eq_true rfl) dX8_element_29 ⟨Nat.le_refl _, Nat.le_refl _⟩ rfl (fun ⟨wi_6, cr_7, cf_8⟩ H locs hw_9 _ hP hD hS => ?_)
    try dsimp only at hw_9
    replace hP : va_P D vwCl ((woW g h wa wi_6 wr wf ph rh (la 0)) ++ (pgW g ph pa pr pf) ++ (rcW g rh ca ci cr_7 cf_8) ++ (plW g la lr lf lmx)) H := hP
    replace hD : va_D A ((woW g h wa wi_6 wr wf ph rh (la 0)) ++ (pgW g ph pa pr pf) ++ (rcW g rh ca ci cr_7 cf_8) ++ (plW g la lr lf lmx)) := hD
    refine lv_iconst (v := 0) hx hb dX8_element_32 (by decide) ?_
    rw [hQ]
    exact vz_iret3 hx hb hr hlk hK hP hD hS (wi_6, cr_7, cf_8) hw_9 rfl (Nat.le_refl 0) (Nat.le_refl 0) dX8_element_33
theorem dX8_store_0 : decode cX8_store 0 = .ok (.aload_n 0, 1) := by decide +kernel
theorem dX8_store_1 : decode cX8_store 1 = .ok (.bipush 9, 2) := by decide +kernel
theorem dX8_store_3 : decode cX8_store 3 = .ok (.iload_n 1, 1) := by decide +kernel
theorem dX8_store_4 : decode cX8_store 4 = .ok (.iadd, 1) := by decide +kernel
theorem dX8_store_5 : decode cX8_store 5 = .ok (.invokevirtual 87, 3) := by decide +kernel
theorem dX8_store_8 : decode cX8_store 8 = .ok (.istore 4, 2) := by decide +kernel
theorem dX8_store_10 : decode cX8_store 10 = .ok (.aload_n 0, 1) := by decide +kernel
theorem dX8_store_11 : decode cX8_store 11 = .ok (.iload 4, 2) := by decide +kernel
theorem dX8_store_13 : decode cX8_store 13 = .ok (.iload_n 2, 1) := by decide +kernel
theorem dX8_store_14 : decode cX8_store 14 = .ok (.invokevirtual 144, 3) := by decide +kernel
theorem dX8_store_17 : decode cX8_store 17 = .ok (.istore 5, 2) := by decide +kernel
theorem dX8_store_19 : decode cX8_store 19 = .ok (.iload 5, 2) := by decide +kernel
theorem dX8_store_21 : decode cX8_store 21 = .ok (.bipush (-9), 2) := by decide +kernel
theorem dX8_store_23 : decode cX8_store 23 = .ok (.if_icmp .eq 14, 3) := by decide +kernel
theorem dX8_store_26 : decode cX8_store 26 = .ok (.aload_n 0, 1) := by decide +kernel
theorem dX8_store_27 : decode cX8_store 27 = .ok (.iload 5, 2) := by decide +kernel
theorem dX8_store_29 : decode cX8_store 29 = .ok (.bipush (-9), 2) := by decide +kernel
theorem dX8_store_31 : decode cX8_store 31 = .ok (.invokevirtual 126, 3) := by decide +kernel
theorem dX8_store_34 : decode cX8_store 34 = .ok (.goto 16, 3) := by decide +kernel
theorem dX8_store_37 : decode cX8_store 37 = .ok (.aload_n 0, 1) := by decide +kernel
theorem dX8_store_38 : decode cX8_store 38 = .ok (.getfield 37, 3) := by decide +kernel
theorem dX8_store_41 : decode cX8_store 41 = .ok (.iload 4, 2) := by decide +kernel
theorem dX8_store_43 : decode cX8_store 43 = .ok (.iconst 1, 1) := by decide +kernel
theorem dX8_store_44 : decode cX8_store 44 = .ok (.iload_n 2, 1) := by decide +kernel
theorem dX8_store_45 : decode cX8_store 45 = .ok (.iadd, 1) := by decide +kernel
theorem dX8_store_46 : decode cX8_store 46 = .ok (.iload_n 3, 1) := by decide +kernel
theorem dX8_store_47 : decode cX8_store 47 = .ok (.invokevirtual 91, 3) := by decide +kernel
theorem dX8_store_50 : decode cX8_store 50 = .ok (.return_, 1) := by decide +kernel
set_option maxHeartbeats 8000000 in
set_option maxRecDepth 100000 in
theorem a_W_store (l : Launch) (D : va_G) (g : Nat → ClassId)   (sz : Nat) (h : Nat) (wa : Nat → Nat) (wi : Nat → Int32) (wr : Nat → Nat) (wf : Nat → Nat → Int32) (ph : Nat) (rh : Nat) (la : Nat → Nat) (pa : Nat → Nat) (pr : Nat → Nat) (pf : Nat → Nat → Int32) (ca : Nat → Nat) (ci : Nat → Int32) (cr : Nat → Nat) (cf : Nat → Nat → Int32) (lr : Nat → Nat) (lf : Nat → Nat → Int32) (lmx : Nat) (n1 : Int32) (n2 : Int32) (n3 : Int32) (hw_w : ∀ k, wr k ≤ woW_lim k) (hw_p : ∀ k, pr k ≤ pgW_lim k) (hw_c : ∀ k, cr k ≤ rcW_lim k) (hw_l : ∀ k, lr k ≤ (plW_lim lmx) k) (hmx_l : lmx ≤ 30) : vz_Mv l D (tyG g) yX8_store cX8_store 6 2 48 0 0 [.ref h, .int n1, .int n2, .int n3] sz ((woW g h wa wi wr wf ph rh (la 0)) ++ (pgW g ph pa pr pf) ++ (rcW g rh ca ci cr cf) ++ (plW g la lr lf lmx)) (fun u : (Nat → Int32) × (Nat → Nat → Int32) × (Nat → Nat) × (Nat → Nat → Int32) => (∀ k, u.2.2.1 k ≤ rcW_lim k)) (fun u => (woW g h wa u.1 wr u.2.1 ph rh (la 0)) ++ (pgW g ph pa pr pf) ++ (rcW g rh ca ci u.2.2.1 u.2.2.2) ++ (plW g la lr lf lmx)) := by
  refine vz_svQ (by decide) (Nat.le_of_ble_eq_true rfl) (fun p e s m args below meth c hx hb hr hml hts hown hlk hin hK hsz A hA H locs hP hD hS ls hl Q hQ => ?_)
  have hl : lv_has ls 6 [(0, .ref h), (1, .int n1), (2, .int n2), (3, .int n3)] := hl
  have J50 : ∀ (x4_50 : Int32), ∀ (x5_50 : Int32), ∀ (wi_50 : Nat → Int32), ∀ (wf_50 : Nat → Nat → Int32), ∀ (cr_50 : Nat → Nat), ∀ (cf_50 : Nat → Nat → Int32), (∀ k, cr_50 k ≤ rcW_lim k) → ∀ (H : Heap) (locs : List Loc) (ls : Array Slot), va_P D vwCl ((woW g h wa wi_50 wr wf_50 ph rh (la 0)) ++ (pgW g ph pa pr pf) ++ (rcW g rh ca ci cr_50 cf_50) ++ (plW g la lr lf lmx)) H → va_D A ((woW g h wa wi_50 wr wf_50 ph rh (la 0)) ++ (pgW g ph pa pr pf) ++ (rcW g rh ca ci cr_50 cf_50) ++ (plW g la lr lf lmx)) → va_S A s.heap H locs → lv_has ls 6 [(0, .ref h), (1, .int n1), (2, .int n2), (3, .int n3), (4, .int x4_50), (5, .int x5_50)] → W p l e { frames := 2, cells := 0, slots := 0, locals := 48 } s m args below meth c H locs 0 0 Q (F0 m 50 ls []) := by
    intro x4_50 x5_50 wi_50 wf_50 cr_50 cf_50 hw_c_50 H locs ls hP hD hS hl
    rw [hQ]
    exact vz_vret3 hx hb hr hlk hK hP hD hS (wi_50, wf_50, cr_50, cf_50) hw_c_50 rfl (Nat.le_refl 0) (Nat.le_refl 0) dX8_store_50
  refine lv_aload_n hx hb dX8_store_0 rfl (lv_at hl 0 rfl) ?_
  refine lv_bipush (v := 9) hx hb dX8_store_1 (by decide) ?_
  refine lv_iload_n hx hb dX8_store_3 rfl (lv_at hl 1 rfl) ?_
  refine lv_iadd hx hb dX8_store_4 ?_
  refine vz_Vi3 (As := [.int (9 + n1)]) (rest := []) hx hb hml hown hts hK hA hP hD hS (a_W_now l D g H.size h wa wi wr wf ph rh la pa pr pf ca ci cr cf lr lf lmx (9 + n1) hw_w hw_p hw_c hw_l hmx_l) kv_X8_87 ⟨Nat.le_of_ble_eq_true rfl, Nat.le_of_ble_eq_true rfl⟩ (q0 := 0) (ci := 8) rfl rfl rfl  hl.1 (Nat.le_of_ble_eq_true rfl) dX8_store_5 ⟨Nat.le_refl _, Nat.le_refl _⟩ rfl (fun v1 _ H locs _ _ hP hD hS => ?_)
  refine lv_istore (lv' := [(4, .int v1), (0, .ref h), (1, .int n1), (2, .int n2), (3, .int n3)]) hx hb dX8_store_8 hl (by decide) rfl (fun ls hl => ?_)
  refine lv_aload_n hx hb dX8_store_10 rfl (lv_at hl 1 rfl) ?_
  refine lv_iload hx hb dX8_store_11 (lv_at hl 0 rfl) ?_
  refine lv_iload_n hx hb dX8_store_13 rfl (lv_at hl 3 rfl) ?_
  refine vz_Vi3 (As := [.int v1, .int n2]) (rest := []) hx hb hml hown hts hK hA hP hD hS (a_W_lacking l D g H.size h wa wi wr wf ph rh la pa pr pf ca ci cr cf lr lf lmx v1 n2 hw_w hw_p hw_c hw_l hmx_l) kv_X8_144 ⟨Nat.le_of_ble_eq_true rfl, Nat.le_of_ble_eq_true rfl⟩ (q0 := 0) (ci := 8) rfl rfl rfl  hl.1 (Nat.le_of_ble_eq_true rfl) dX8_store_14 ⟨Nat.le_refl _, Nat.le_refl _⟩ rfl (fun v2 _ H locs _ _ hP hD hS => ?_)
  refine lv_istore (lv' := [(5, .int v2), (4, .int v1), (0, .ref h), (1, .int n1), (2, .int n2), (3, .int n3)]) hx hb dX8_store_17 hl (by decide) rfl (fun ls hl => ?_)
  refine lv_iload hx hb dX8_store_19 (lv_at hl 0 rfl) ?_
  refine lv_bipush (v := (-9)) hx hb dX8_store_21 (by decide) ?_
  refine lv_icmp_eq (tgt := 37) hx hb dX8_store_23 (by decide) (fun kc3 => ?_) (fun kc3 => ?_)
  · refine lv_aload_n hx hb dX8_store_37 rfl (lv_at hl 2 rfl) ?_
    refine va_get (D := D) (ci := 8) (v := .ref (wa 6)) (C := RX8) (T := TX8) (N := 11) hx hb hts inlX8 hown hK hP 0 rfl rfl 3 (by decide) (hts _ q137) (fun _ h => h) rfl dX8_store_38 ?_
    refine lv_iload hx hb dX8_store_41 (lv_at hl 1 rfl) ?_
    refine lv_iconst (v := 1) hx hb dX8_store_43 (by decide) ?_
    refine lv_iload_n hx hb dX8_store_44 rfl (lv_at hl 4 rfl) ?_
    refine lv_iadd hx hb dX8_store_45 ?_
    refine lv_iload_n hx hb dX8_store_46 rfl (lv_at hl 5 rfl) ?_
    refine vz_Vv2 (ws' := fun u : (Nat → Int32) => (woW g h wa wi wr (vz_uf wf 3 u) ph rh (la 0)) ++ (pgW g ph pa pr pf) ++ (rcW g rh ca ci cr cf) ++ (plW g la lr lf lmx)) (As := [.int v1, .int (1 + n2), .int n3]) (rest := []) hx hb hml hown hts hK hA hP hD hS (c_T_set l D g (wa 6) (wa 7) H.size 9 400 (wr 3) 3600 (wf 3) v1 (1 + n2) n3 ⟨rfl, by decide, by decide, by decide, by decide, hw_w 3⟩) kv_X8_91 ⟨Nat.le_of_ble_eq_true rfl, Nat.le_of_ble_eq_true rfl⟩ (q0 := 7) (ci := 6) rfl rfl rfl [7, 8] rfl (by decide) (fun _ => rfl) (fun _ => rfl) hl.1 (Nat.le_of_ble_eq_true rfl) dX8_store_47 ⟨Nat.le_refl _, Nat.le_refl _⟩ rfl (fun nf4 H locs _ _ hP hD hS => ?_)
    obtain ⟨wf_5, hP, hD⟩ : ∃ wf_5 : Nat → Nat → Int32, va_P D vwCl ((woW g h wa wi wr wf_5 ph rh (la 0)) ++ (pgW g ph pa pr pf) ++ (rcW g rh ca ci cr cf) ++ (plW g la lr lf lmx)) H ∧ va_D A ((woW g h wa wi wr wf_5 ph rh (la 0)) ++ (pgW g ph pa pr pf) ++ (rcW g rh ca ci cr cf) ++ (plW g la lr lf lmx)) := ⟨(vz_uf wf 3 nf4), hP, hD⟩
    exact J50 v1 v2 wi wf_5 cr cf hw_c H locs ls hP hD hS (lv_sub hl [2, 3, 4, 5, 1, 0] rfl)
  · refine lv_aload_n hx hb dX8_store_26 rfl (lv_at hl 2 rfl) ?_
    refine lv_iload hx hb dX8_store_27 (lv_at hl 0 rfl) ?_
    refine lv_bipush (v := (-9)) hx hb dX8_store_29 (by decide) ?_
    refine vz_Vv3 (As := [.int v2, .int (-9)]) (rest := []) hx hb hml hown hts hK hA hP hD hS (a_W_raise l D g H.size h wa wi wr wf ph rh la pa pr pf ca ci cr cf lr lf lmx v2 (-9) hw_w hw_p hw_c hw_l hmx_l) kv_X8_126 ⟨Nat.le_of_ble_eq_true rfl, Nat.le_of_ble_eq_true rfl⟩ (q0 := 0) (ci := 8) rfl rfl rfl  hl.1 (Nat.le_of_ble_eq_true rfl) dX8_store_31 ⟨Nat.le_refl _, Nat.le_refl _⟩ rfl (fun ⟨wi_6, cr_7, cf_8⟩ H locs hw_9 _ hP hD hS => ?_)
    try dsimp only at hw_9
    replace hP : va_P D vwCl ((woW g h wa wi_6 wr wf ph rh (la 0)) ++ (pgW g ph pa pr pf) ++ (rcW g rh ca ci cr_7 cf_8) ++ (plW g la lr lf lmx)) H := hP
    replace hD : va_D A ((woW g h wa wi_6 wr wf ph rh (la 0)) ++ (pgW g ph pa pr pf) ++ (rcW g rh ca ci cr_7 cf_8) ++ (plW g la lr lf lmx)) := hD
    refine lv_goto (tgt := 50) hx hb dX8_store_34 (by decide) ?_
    exact J50 v1 v2 wi_6 wf cr_7 cf_8 hw_9 H locs ls hP hD hS (lv_sub hl [2, 3, 4, 5, 1, 0] rfl)
theorem dX8_size_0 : decode cX8_size 0 = .ok (.aload_n 0, 1) := by decide +kernel
theorem dX8_size_1 : decode cX8_size 1 = .ok (.bipush 9, 2) := by decide +kernel
theorem dX8_size_3 : decode cX8_size 3 = .ok (.iload_n 1, 1) := by decide +kernel
theorem dX8_size_4 : decode cX8_size 4 = .ok (.iadd, 1) := by decide +kernel
theorem dX8_size_5 : decode cX8_size 5 = .ok (.invokevirtual 87, 3) := by decide +kernel
theorem dX8_size_8 : decode cX8_size 8 = .ok (.istore_n 2, 1) := by decide +kernel
theorem dX8_size_9 : decode cX8_size 9 = .ok (.iload_n 2, 1) := by decide +kernel
theorem dX8_size_10 : decode cX8_size 10 = .ok (.bipush (-9), 2) := by decide +kernel
theorem dX8_size_12 : decode cX8_size 12 = .ok (.if_icmp .ne 12, 3) := by decide +kernel
theorem dX8_size_15 : decode cX8_size 15 = .ok (.aload_n 0, 1) := by decide +kernel
theorem dX8_size_16 : decode cX8_size 16 = .ok (.iconst 4, 1) := by decide +kernel
theorem dX8_size_17 : decode cX8_size 17 = .ok (.bipush (-9), 2) := by decide +kernel
theorem dX8_size_19 : decode cX8_size 19 = .ok (.invokevirtual 126, 3) := by decide +kernel
theorem dX8_size_22 : decode cX8_size 22 = .ok (.iconst 0, 1) := by decide +kernel
theorem dX8_size_23 : decode cX8_size 23 = .ok (.ireturn, 1) := by decide +kernel
theorem dX8_size_24 : decode cX8_size 24 = .ok (.aload_n 0, 1) := by decide +kernel
theorem dX8_size_25 : decode cX8_size 25 = .ok (.getfield 37, 3) := by decide +kernel
theorem dX8_size_28 : decode cX8_size 28 = .ok (.iload_n 2, 1) := by decide +kernel
theorem dX8_size_29 : decode cX8_size 29 = .ok (.iconst 0, 1) := by decide +kernel
theorem dX8_size_30 : decode cX8_size 30 = .ok (.invokevirtual 110, 3) := by decide +kernel
theorem dX8_size_33 : decode cX8_size 33 = .ok (.ireturn, 1) := by decide +kernel
set_option maxHeartbeats 8000000 in
set_option maxRecDepth 100000 in
theorem a_W_size (l : Launch) (D : va_G) (g : Nat → ClassId)   (sz : Nat) (h : Nat) (wa : Nat → Nat) (wi : Nat → Int32) (wr : Nat → Nat) (wf : Nat → Nat → Int32) (ph : Nat) (rh : Nat) (la : Nat → Nat) (pa : Nat → Nat) (pr : Nat → Nat) (pf : Nat → Nat → Int32) (ca : Nat → Nat) (ci : Nat → Int32) (cr : Nat → Nat) (cf : Nat → Nat → Int32) (lr : Nat → Nat) (lf : Nat → Nat → Int32) (lmx : Nat) (n1 : Int32) (hw_w : ∀ k, wr k ≤ woW_lim k) (hw_p : ∀ k, pr k ≤ pgW_lim k) (hw_c : ∀ k, cr k ≤ rcW_lim k) (hw_l : ∀ k, lr k ≤ (plW_lim lmx) k) (hmx_l : lmx ≤ 30) : vz_Mi l D (tyG g) yX8_size cX8_size 3 2 48 0 0 .int [.ref h, .int n1] sz ((woW g h wa wi wr wf ph rh (la 0)) ++ (pgW g ph pa pr pf) ++ (rcW g rh ca ci cr cf) ++ (plW g la lr lf lmx)) (fun r (u : (Nat → Int32) × (Nat → Nat) × (Nat → Nat → Int32)) => (∀ k, u.2.1 k ≤ rcW_lim k)) (fun u => (woW g h wa u.1 wr wf ph rh (la 0)) ++ (pgW g ph pa pr pf) ++ (rcW g rh ca ci u.2.1 u.2.2) ++ (plW g la lr lf lmx)) := by
  refine vz_siQ (by decide) (Nat.le_of_ble_eq_true rfl) (fun p e s m args below meth c hx hb hr hml hts hown hlk hin hK hsz A hA H locs hP hD hS ls hl Q hQ => ?_)
  have hl : lv_has ls 3 [(0, .ref h), (1, .int n1)] := hl
  refine lv_aload_n hx hb dX8_size_0 rfl (lv_at hl 0 rfl) ?_
  refine lv_bipush (v := 9) hx hb dX8_size_1 (by decide) ?_
  refine lv_iload_n hx hb dX8_size_3 rfl (lv_at hl 1 rfl) ?_
  refine lv_iadd hx hb dX8_size_4 ?_
  refine vz_Vi3 (As := [.int (9 + n1)]) (rest := []) hx hb hml hown hts hK hA hP hD hS (a_W_now l D g H.size h wa wi wr wf ph rh la pa pr pf ca ci cr cf lr lf lmx (9 + n1) hw_w hw_p hw_c hw_l hmx_l) kv_X8_87 ⟨Nat.le_of_ble_eq_true rfl, Nat.le_of_ble_eq_true rfl⟩ (q0 := 0) (ci := 8) rfl rfl rfl  hl.1 (Nat.le_of_ble_eq_true rfl) dX8_size_5 ⟨Nat.le_refl _, Nat.le_refl _⟩ rfl (fun v1 _ H locs _ _ hP hD hS => ?_)
  refine lv_istore_n (lv' := [(2, .int v1), (0, .ref h), (1, .int n1)]) hx hb dX8_size_8 rfl hl (by decide) rfl (fun ls hl => ?_)
  refine lv_iload_n hx hb dX8_size_9 rfl (lv_at hl 0 rfl) ?_
  refine lv_bipush (v := (-9)) hx hb dX8_size_10 (by decide) ?_
  refine lv_icmp_ne (tgt := 24) hx hb dX8_size_12 (by decide) (fun kc2 => ?_) (fun kc2 => ?_)
  · refine lv_aload_n hx hb dX8_size_24 rfl (lv_at hl 1 rfl) ?_
    refine va_get (D := D) (ci := 8) (v := .ref (wa 6)) (C := RX8) (T := TX8) (N := 11) hx hb hts inlX8 hown hK hP 0 rfl rfl 3 (by decide) (hts _ q137) (fun _ h => h) rfl dX8_size_25 ?_
    refine lv_iload_n hx hb dX8_size_28 rfl (lv_at hl 0 rfl) ?_
    refine lv_iconst (v := 0) hx hb dX8_size_29 (by decide) ?_
    refine vz_Vi2 (ws' := fun u : Unit => (woW g h wa wi wr wf ph rh (la 0)) ++ (pgW g ph pa pr pf) ++ (rcW g rh ca ci cr cf) ++ (plW g la lr lf lmx)) (As := [.int v1, .int 0]) (rest := []) hx hb hml hown hts hK hA hP hD hS (c_T_get l D g (wa 6) (wa 7) H.size 9 400 (wr 3) 3600 (wf 3) v1 0 ⟨rfl, by decide, by decide, by decide, by decide, hw_w 3⟩) kv_X8_110 ⟨Nat.le_of_ble_eq_true rfl, Nat.le_of_ble_eq_true rfl⟩ (q0 := 7) (ci := 6) rfl rfl rfl [7, 8] rfl (by decide) (fun _ => rfl) (fun _ => rfl) hl.1 (Nat.le_of_ble_eq_true rfl) dX8_size_30 ⟨Nat.le_refl _, Nat.le_refl _⟩ rfl (fun v3 _ H locs he4 _ hP hD hS => ?_)
    rw [hQ]
    exact vz_iret3 hx hb hr hlk hK hP hD hS (wi, cr, cf) hw_c rfl (Nat.le_refl 0) (Nat.le_refl 0) dX8_size_33
  · refine lv_aload_n hx hb dX8_size_15 rfl (lv_at hl 1 rfl) ?_
    refine lv_iconst (v := 4) hx hb dX8_size_16 (by decide) ?_
    refine lv_bipush (v := (-9)) hx hb dX8_size_17 (by decide) ?_
    refine vz_Vv3 (As := [.int 4, .int (-9)]) (rest := []) hx hb hml hown hts hK hA hP hD hS (a_W_raise l D g H.size h wa wi wr wf ph rh la pa pr pf ca ci cr cf lr lf lmx 4 (-9) hw_w hw_p hw_c hw_l hmx_l) kv_X8_126 ⟨Nat.le_of_ble_eq_true rfl, Nat.le_of_ble_eq_true rfl⟩ (q0 := 0) (ci := 8) rfl rfl rfl  hl.1 (Nat.le_of_ble_eq_true rfl) dX8_size_19 ⟨Nat.le_refl _, Nat.le_refl _⟩ rfl (fun ⟨wi_5, cr_6, cf_7⟩ H locs hw_8 _ hP hD hS => ?_)
    try dsimp only at hw_8
    replace hP : va_P D vwCl ((woW g h wa wi_5 wr wf ph rh (la 0)) ++ (pgW g ph pa pr pf) ++ (rcW g rh ca ci cr_6 cf_7) ++ (plW g la lr lf lmx)) H := hP
    replace hD : va_D A ((woW g h wa wi_5 wr wf ph rh (la 0)) ++ (pgW g ph pa pr pf) ++ (rcW g rh ca ci cr_6 cf_7) ++ (plW g la lr lf lmx)) := hD
    refine lv_iconst (v := 0) hx hb dX8_size_22 (by decide) ?_
    rw [hQ]
    exact vz_iret3 hx hb hr hlk hK hP hD hS (wi_5, cr_6, cf_7) hw_8 rfl (Nat.le_refl 0) (Nat.le_refl 0) dX8_size_23
