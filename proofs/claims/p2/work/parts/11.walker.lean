theorem q152 : Cond.fieldLink RX7 9 "WaysAtlas$Walker" "world" "LWaysAtlas$World;" ∈ wsL_law := mT_2 (List.mem_of_getElem? (i := 86) rfl) rfl
theorem q1045 : Cond.fieldLink RX7 62 "WaysAtlas$World" "program" "LWaysAtlas$Program;" ∈ wsL_law := mT_2 (List.mem_of_getElem? (i := 46) rfl) rfl
theorem q1093 : Cond.fieldLink RX7 191 "WaysAtlas$Program" "nodes" "LWaysAtlas$Table;" ∈ wsL_law := mT_1 (List.mem_of_getElem? (i := 88) rfl) rfl
theorem q1089 : Cond.methodLink RX7 115 yX7_sum ∈ wsL_law := mT_5 (List.mem_of_getElem? (i := 8) rfl) rfl
theorem q1090 : Cond.instanceMethod yX7_sum ∈ wsL_law := mT_5 (List.mem_of_getElem? (i := 10) rfl) rfl
theorem q1091 : Cond.selects RX7 yX7_sum yX7_sum ∈ wsL_law := mS_5 (q := (yX7_sum, 7)) (List.mem_of_getElem? (i := 4) rfl) rfl
theorem q51 : Cond.initialized RX7 ∈ wsL_law := mT_1 (List.mem_of_getElem? (i := 10) rfl) rfl
theorem q1092 : Cond.code yX7_sum cX7_sum 7 (some .int) ∈ wsL_law := mT_5 (List.mem_of_getElem? (i := 11) rfl) rfl
theorem kv_X7_115 : vz_cv RX7 115 yX7_sum cX7_sum 7 (some .int) 2 := ⟨q1089, q1090, q1091, q51, q1092, by decide +kernel⟩
theorem q1066 : Cond.methodLink RX7 72 yX6_get ∈ wsL_law := mT_4 (List.mem_of_getElem? (i := 229) rfl) rfl
theorem kv_X7_72 : vz_cv RX7 72 yX6_get cX6_get 4 (some .int) 2 := ⟨q1066, q294, q295, q15, q296, by decide +kernel⟩
theorem q1040 : Cond.fieldLink RX7 37 "WaysAtlas$World" "thrown" "I" ∈ wsL_law := mT_2 (List.mem_of_getElem? (i := 53) rfl) rfl
theorem q1116 : Cond.methodLink RX7 203 yX8_apply ∈ wsL_law := mT_5 (List.mem_of_getElem? (i := 25) rfl) rfl
theorem q1117 : Cond.instanceMethod yX8_apply ∈ wsL_law := mT_5 (List.mem_of_getElem? (i := 26) rfl) rfl
theorem q1118 : Cond.selects RX8 yX8_apply yX8_apply ∈ wsL_law := mT_5 (List.mem_of_getElem? (i := 27) rfl) rfl
theorem q1119 : Cond.code yX8_apply cX8_apply 4 (some .int) ∈ wsL_law := mT_5 (List.mem_of_getElem? (i := 28) rfl) rfl
theorem kv_X7_203 : vz_cv RX7 203 yX8_apply cX8_apply 4 (some .int) 3 := ⟨q1116, q1117, q1118, q47, q1119, by decide +kernel⟩
theorem dX7_list_0 : decode cX7_list 0 = .ok (.aload_n 0, 1) := by decide +kernel
theorem dX7_list_1 : decode cX7_list 1 = .ok (.getfield 9, 3) := by decide +kernel
theorem dX7_list_4 : decode cX7_list 4 = .ok (.getfield 62, 3) := by decide +kernel
theorem dX7_list_7 : decode cX7_list 7 = .ok (.getfield 191, 3) := by decide +kernel
theorem dX7_list_10 : decode cX7_list 10 = .ok (.astore_n 3, 1) := by decide +kernel
theorem dX7_list_11 : decode cX7_list 11 = .ok (.aload_n 0, 1) := by decide +kernel
theorem dX7_list_12 : decode cX7_list 12 = .ok (.iload_n 1, 1) := by decide +kernel
theorem dX7_list_13 : decode cX7_list 13 = .ok (.iload_n 2, 1) := by decide +kernel
theorem dX7_list_14 : decode cX7_list 14 = .ok (.invokevirtual 115, 3) := by decide +kernel
theorem dX7_list_17 : decode cX7_list 17 = .ok (.istore 4, 2) := by decide +kernel
theorem dX7_list_19 : decode cX7_list 19 = .ok (.aload_n 3, 1) := by decide +kernel
theorem dX7_list_20 : decode cX7_list 20 = .ok (.iload_n 1, 1) := by decide +kernel
theorem dX7_list_21 : decode cX7_list 21 = .ok (.iconst 3, 1) := by decide +kernel
theorem dX7_list_22 : decode cX7_list 22 = .ok (.invokevirtual 72, 3) := by decide +kernel
theorem dX7_list_25 : decode cX7_list 25 = .ok (.istore 5, 2) := by decide +kernel
theorem dX7_list_27 : decode cX7_list 27 = .ok (.iconst 0, 1) := by decide +kernel
theorem dX7_list_28 : decode cX7_list 28 = .ok (.istore 6, 2) := by decide +kernel
theorem dX7_list_30 : decode cX7_list 30 = .ok (.iload 6, 2) := by decide +kernel
theorem dX7_list_32 : decode cX7_list 32 = .ok (.sipush 1000, 3) := by decide +kernel
theorem dX7_list_35 : decode cX7_list 35 = .ok (.if_icmp .ge 78, 3) := by decide +kernel
theorem dX7_list_38 : decode cX7_list 38 = .ok (.iload 5, 2) := by decide +kernel
theorem dX7_list_40 : decode cX7_list 40 = .ok (.bipush (-9), 2) := by decide +kernel
theorem dX7_list_42 : decode cX7_list 42 = .ok (.if_icmp .eq 71, 3) := by decide +kernel
theorem dX7_list_45 : decode cX7_list 45 = .ok (.aload_n 0, 1) := by decide +kernel
theorem dX7_list_46 : decode cX7_list 46 = .ok (.getfield 9, 3) := by decide +kernel
theorem dX7_list_49 : decode cX7_list 49 = .ok (.getfield 37, 3) := by decide +kernel
theorem dX7_list_52 : decode cX7_list 52 = .ok (.bipush (-9), 2) := by decide +kernel
theorem dX7_list_54 : decode cX7_list 54 = .ok (.if_icmp .ne 59, 3) := by decide +kernel
theorem dX7_list_57 : decode cX7_list 57 = .ok (.aload_n 0, 1) := by decide +kernel
theorem dX7_list_58 : decode cX7_list 58 = .ok (.iload 5, 2) := by decide +kernel
theorem dX7_list_60 : decode cX7_list 60 = .ok (.iload_n 2, 1) := by decide +kernel
theorem dX7_list_61 : decode cX7_list 61 = .ok (.invokevirtual 115, 3) := by decide +kernel
theorem dX7_list_64 : decode cX7_list 64 = .ok (.istore 7, 2) := by decide +kernel
theorem dX7_list_66 : decode cX7_list 66 = .ok (.aload_n 0, 1) := by decide +kernel
theorem dX7_list_67 : decode cX7_list 67 = .ok (.getfield 9, 3) := by decide +kernel
theorem dX7_list_70 : decode cX7_list 70 = .ok (.getfield 37, 3) := by decide +kernel
theorem dX7_list_73 : decode cX7_list 73 = .ok (.bipush (-9), 2) := by decide +kernel
theorem dX7_list_75 : decode cX7_list 75 = .ok (.if_icmp .ne 23, 3) := by decide +kernel
theorem dX7_list_78 : decode cX7_list 78 = .ok (.aload_n 0, 1) := by decide +kernel
theorem dX7_list_79 : decode cX7_list 79 = .ok (.getfield 9, 3) := by decide +kernel
theorem dX7_list_82 : decode cX7_list 82 = .ok (.aload_n 3, 1) := by decide +kernel
theorem dX7_list_83 : decode cX7_list 83 = .ok (.iload 5, 2) := by decide +kernel
theorem dX7_list_85 : decode cX7_list 85 = .ok (.iconst 4, 1) := by decide +kernel
theorem dX7_list_86 : decode cX7_list 86 = .ok (.invokevirtual 72, 3) := by decide +kernel
theorem dX7_list_89 : decode cX7_list 89 = .ok (.iload 4, 2) := by decide +kernel
theorem dX7_list_91 : decode cX7_list 91 = .ok (.iload 7, 2) := by decide +kernel
theorem dX7_list_93 : decode cX7_list 93 = .ok (.invokevirtual 203, 3) := by decide +kernel
theorem dX7_list_96 : decode cX7_list 96 = .ok (.istore 4, 2) := by decide +kernel
theorem dX7_list_98 : decode cX7_list 98 = .ok (.aload_n 3, 1) := by decide +kernel
theorem dX7_list_99 : decode cX7_list 99 = .ok (.iload 5, 2) := by decide +kernel
theorem dX7_list_101 : decode cX7_list 101 = .ok (.iconst 3, 1) := by decide +kernel
theorem dX7_list_102 : decode cX7_list 102 = .ok (.invokevirtual 72, 3) := by decide +kernel
theorem dX7_list_105 : decode cX7_list 105 = .ok (.istore 5, 2) := by decide +kernel
theorem dX7_list_107 : decode cX7_list 107 = .ok (.iinc 6 1, 3) := by decide +kernel
theorem dX7_list_110 : decode cX7_list 110 = .ok (.goto (-80), 3) := by decide +kernel
theorem dX7_list_113 : decode cX7_list 113 = .ok (.iload 4, 2) := by decide +kernel
theorem dX7_list_115 : decode cX7_list 115 = .ok (.ireturn, 1) := by decide +kernel
set_option maxHeartbeats 8000000 in
set_option maxRecDepth 100000 in
theorem a_K_list (l : Launch) (D : va_G) (g : Nat → ClassId) (dn : Nat) (hB : ∀ (sz : Nat) (h : Nat) (ki : Nat → Int32) (wh : Nat) (wa : Nat → Nat) (wi : Nat → Int32) (wr : Nat → Nat) (wf : Nat → Nat → Int32) (ph : Nat) (rh : Nat) (la : Nat → Nat) (pa : Nat → Nat) (pr : Nat → Nat) (pf : Nat → Nat → Int32) (ca : Nat → Nat) (ci : Nat → Int32) (cr : Nat → Nat) (cf : Nat → Nat → Int32) (lr : Nat → Nat) (lf : Nat → Nat → Int32) (lmx : Nat) (n1 : Int32) (hw_w : ∀ k, wr k ≤ woW_lim k) (hw_p : ∀ k, pr k ≤ pgW_lim k) (hw_c : ∀ k, cr k ≤ rcW_lim k) (hw_l : ∀ k, lr k ≤ (plW_lim lmx) k) (hmx_l : lmx ≤ 30), vz_Mi l D (tyG g) yX7_sum cX7_sum 7 (2 * (41 - dn) + 20) (53 * (41 - dn) + 900) 0 0 .int [.ref h, .int n1, .int (nI dn)] sz (vz_w [wkW h ki wh, woW g wh wa wi wr wf ph rh (la 0), pgW g ph pa pr pf, rcW g rh ca ci cr cf, plW g la lr lf lmx]) (fun r (u : (Nat → Int32) × (Nat → Nat) × (Nat → Nat → Int32)) => (∀ k, u.2.1 k ≤ rcW_lim k)) (fun u => vz_w [wkW h ki wh, woW g wh wa u.1 wr wf ph rh (la 0), pgW g ph pa pr pf, rcW g rh ca ci u.2.1 u.2.2, plW g la lr lf lmx])) (sz : Nat) (h : Nat) (ki : Nat → Int32) (wh : Nat) (wa : Nat → Nat) (wi : Nat → Int32) (wr : Nat → Nat) (wf : Nat → Nat → Int32) (ph : Nat) (rh : Nat) (la : Nat → Nat) (pa : Nat → Nat) (pr : Nat → Nat) (pf : Nat → Nat → Int32) (ca : Nat → Nat) (ci : Nat → Int32) (cr : Nat → Nat) (cf : Nat → Nat → Int32) (lr : Nat → Nat) (lf : Nat → Nat → Int32) (lmx : Nat) (n1 : Int32) (hw_w : ∀ k, wr k ≤ woW_lim k) (hw_p : ∀ k, pr k ≤ pgW_lim k) (hw_c : ∀ k, cr k ≤ rcW_lim k) (hw_l : ∀ k, lr k ≤ (plW_lim lmx) k) (hmx_l : lmx ≤ 30) : vz_Mi l D (tyG g) yX7_list cX7_list 8 (2 * (41 - dn) + 21) (53 * (41 - dn) + 926) 0 0 .int [.ref h, .int n1, .int (nI dn)] sz (vz_w [wkW h ki wh, woW g wh wa wi wr wf ph rh (la 0), pgW g ph pa pr pf, rcW g rh ca ci cr cf, plW g la lr lf lmx]) (fun r (u : (Nat → Int32) × (Nat → Nat) × (Nat → Nat → Int32)) => (∀ k, u.2.1 k ≤ rcW_lim k)) (fun u => vz_w [wkW h ki wh, woW g wh wa u.1 wr wf ph rh (la 0), pgW g ph pa pr pf, rcW g rh ca ci u.2.1 u.2.2, plW g la lr lf lmx]) := by
  refine vz_siQ (by decide) (Nat.le_of_ble_eq_true rfl) (fun p e s m args below meth c hx hb hr hml hts hown hlk hin hK hsz A hA H locs hP hD hS ls hl Q hQ => ?_)
  have hl : lv_has ls 8 [(0, .ref h), (1, .int n1), (2, .int (nI dn))] := hl
  have J113 : ∀ (x4_113 : Int32), ∀ (x5_113 : Int32), ∀ (x6_113 : Int32), ∀ (wi_113 : Nat → Int32), ∀ (cr_113 : Nat → Nat), ∀ (cf_113 : Nat → Nat → Int32), (∀ k, cr_113 k ≤ rcW_lim k) → ∀ (H : Heap) (locs : List Loc) (ls : Array Slot), va_P D vwCl (vz_w [wkW h ki wh, woW g wh wa wi_113 wr wf ph rh (la 0), pgW g ph pa pr pf, rcW g rh ca ci cr_113 cf_113, plW g la lr lf lmx]) H → va_D A (vz_w [wkW h ki wh, woW g wh wa wi_113 wr wf ph rh (la 0), pgW g ph pa pr pf, rcW g rh ca ci cr_113 cf_113, plW g la lr lf lmx]) → va_S A s.heap H locs → lv_has ls 8 [(0, .ref h), (1, .int n1), (2, .int (nI dn)), (3, .ref (pa 2)), (4, .int x4_113), (5, .int x5_113), (6, .int x6_113)] → W p l e { frames := (2 * (41 - dn) + 21), cells := 0, slots := 0, locals := (53 * (41 - dn) + 926) } s m args below meth c H locs 0 0 Q (F0 m 113 ls []) := by
    intro x4_113 x5_113 x6_113 wi_113 cr_113 cf_113 hw_c_113 H locs ls hP hD hS hl
    refine lv_iload hx hb dX7_list_113 (lv_at hl 4 rfl) ?_
    rw [hQ]
    exact vz_iret3 hx hb hr hlk hK hP hD hS (wi_113, cr_113, cf_113) hw_c_113 rfl (Nat.le_refl 0) (Nat.le_refl 0) dX7_list_115
  have J30 : ∀ (fu30 n30 : Nat), 1000 - n30 < fu30 → n30 ≤ 1000 → ∀ (x4_30 : Int32), ∀ (x5_30 : Int32), ∀ (wi_30 : Nat → Int32), ∀ (cr_30 : Nat → Nat), ∀ (cf_30 : Nat → Nat → Int32), (∀ k, cr_30 k ≤ rcW_lim k) → ∀ (H : Heap) (locs : List Loc) (ls : Array Slot), va_P D vwCl (vz_w [wkW h ki wh, woW g wh wa wi_30 wr wf ph rh (la 0), pgW g ph pa pr pf, rcW g rh ca ci cr_30 cf_30, plW g la lr lf lmx]) H → va_D A (vz_w [wkW h ki wh, woW g wh wa wi_30 wr wf ph rh (la 0), pgW g ph pa pr pf, rcW g rh ca ci cr_30 cf_30, plW g la lr lf lmx]) → va_S A s.heap H locs → lv_has ls 8 [(0, .ref h), (1, .int n1), (2, .int (nI dn)), (3, .ref (pa 2)), (4, .int x4_30), (5, .int x5_30), (6, .int (nI n30))] → W p l e { frames := (2 * (41 - dn) + 21), cells := 0, slots := 0, locals := (53 * (41 - dn) + 926) } s m args below meth c H locs 0 0 Q (F0 m 30 ls []) := by
    intro fu30
    induction fu30 with
    | zero => intro n30 z; omega
    | succ fu30 ih30 =>
      intro n30 hf30 hb30 x4_30 x5_30 wi_30 cr_30 cf_30 hw_c_30 H locs ls hP hD hS hl
      have J98 : n30 < 1000 → ∀ (x4_98 : Int32), ∀ (x7_98 : Int32), ∀ (wi_98 : Nat → Int32), ∀ (cr_98 : Nat → Nat), ∀ (cf_98 : Nat → Nat → Int32), (∀ k, cr_98 k ≤ rcW_lim k) → ∀ (H : Heap) (locs : List Loc) (ls : Array Slot), va_P D vwCl (vz_w [wkW h ki wh, woW g wh wa wi_98 wr wf ph rh (la 0), pgW g ph pa pr pf, rcW g rh ca ci cr_98 cf_98, plW g la lr lf lmx]) H → va_D A (vz_w [wkW h ki wh, woW g wh wa wi_98 wr wf ph rh (la 0), pgW g ph pa pr pf, rcW g rh ca ci cr_98 cf_98, plW g la lr lf lmx]) → va_S A s.heap H locs → lv_has ls 8 [(0, .ref h), (1, .int n1), (2, .int (nI dn)), (3, .ref (pa 2)), (4, .int x4_98), (5, .int x5_30), (6, .int (nI n30)), (7, .int x7_98)] → W p l e { frames := (2 * (41 - dn) + 21), cells := 0, slots := 0, locals := (53 * (41 - dn) + 926) } s m args below meth c H locs 0 0 Q (F0 m 98 ls []) := by
        intro hn30 x4_98 x7_98 wi_98 cr_98 cf_98 hw_c_98 H locs ls hP hD hS hl
        refine lv_aload_n hx hb dX7_list_98 rfl (lv_at hl 3 rfl) ?_
        refine lv_iload hx hb dX7_list_99 (lv_at hl 5 rfl) ?_
        refine lv_iconst (v := 3) hx hb dX7_list_101 (by decide) ?_
        refine vz_Vi2 (ws' := fun u : Unit => vz_w [wkW h ki wh, woW g wh wa wi_98 wr wf ph rh (la 0), pgW g ph pa pr pf, rcW g rh ca ci cr_98 cf_98, plW g la lr lf lmx]) (As := [.int x5_30, .int 3]) (rest := []) hx hb hml hown hts hK hA hP hD hS (c_T_get l D g (pa 2) (pa 3) H.size 5 1000 (pr 1) 5000 (pf 1) x5_30 3 ⟨rfl, by decide, by decide, by decide, by decide, hw_p 1⟩) kv_X7_72 ⟨by dsimp only; omega, by dsimp only; omega⟩ (q0 := 15) (ci := 6) rfl rfl rfl [15, 16] rfl (by decide) (fun _ => rfl) (fun _ => rfl) hl.1 (Nat.le_of_ble_eq_true rfl) dX7_list_102 ⟨Nat.le_refl _, Nat.le_refl _⟩ rfl (fun v1 _ H locs he2 _ hP hD hS => ?_)
        refine lv_istore (lv' := [(5, .int v1), (0, .ref h), (1, .int n1), (2, .int (nI dn)), (3, .ref (pa 2)), (4, .int x4_98), (6, .int (nI n30)), (7, .int x7_98)]) hx hb dX7_list_105 hl (by decide) rfl (fun ls hl => ?_)
        refine lv_iinc (v := (nI (n30 + 1))) (lv' := [(6, .int (nI (n30 + 1))), (5, .int v1), (0, .ref h), (1, .int n1), (2, .int (nI dn)), (3, .ref (pa 2)), (4, .int x4_98), (7, .int x7_98)]) hx hb dX7_list_107 hl (k := 6) rfl (nI_1 n30) (by decide) rfl (fun ls hl => ?_)
        refine lv_goto (tgt := 30) hx hb dX7_list_110 (by decide) ?_
        exact ih30 (n30 + 1) (by omega) (by omega) x4_98 v1 wi_98 cr_98 cf_98 hw_c_98 H locs ls hP hD hS (lv_sub hl [2, 3, 4, 5, 6, 1, 0] rfl)
      refine lv_iload hx hb dX7_list_30 (lv_at hl 6 rfl) ?_
      refine lv_sipush (v := 1000) hx hb dX7_list_32 (by decide) ?_
      refine lv_icmp_ge (tgt := 113) hx hb dX7_list_35 (by decide) (fun kc1 => ?_) (fun kc1 => ?_)
      · exact J113 x4_30 x5_30 (nI n30) wi_30 cr_30 cf_30 hw_c_30 H locs ls hP hD hS (lv_sub hl [0, 1, 2, 3, 4, 5, 6] rfl)
      · have hn30 : n30 < 1000 := vz_ltge (B := 1000) (by omega) kc1
        refine lv_iload hx hb dX7_list_38 (lv_at hl 5 rfl) ?_
        refine lv_bipush (v := (-9)) hx hb dX7_list_40 (by decide) ?_
        refine lv_icmp_eq (tgt := 113) hx hb dX7_list_42 (by decide) (fun kc2 => ?_) (fun kc2 => ?_)
        · exact J113 x4_30 x5_30 (nI n30) wi_30 cr_30 cf_30 hw_c_30 H locs ls hP hD hS (lv_sub hl [0, 1, 2, 3, 4, 5, 6] rfl)
        · refine lv_aload_n hx hb dX7_list_45 rfl (lv_at hl 0 rfl) ?_
          refine va_get (D := D) (ci := 7) (v := .ref wh) (C := RX7) (T := TX7) (N := 7) hx hb hts inlX7 hown hK hP 0 rfl rfl 0 (by decide) (hts _ q152) (fun _ h => h) rfl dX7_list_46 ?_
          refine va_get (D := D) (ci := 8) (v := .int (wi_30 1)) (C := RX8) (T := TX8) (N := 11) hx hb hts inlX8 hown hK hP 1 rfl rfl 9 (by decide) (hts _ q1040) (fun _ h => h) rfl dX7_list_49 ?_
          refine lv_bipush (v := (-9)) hx hb dX7_list_52 (by decide) ?_
          refine lv_icmp_ne (tgt := 113) hx hb dX7_list_54 (by decide) (fun kc3 => ?_) (fun kc3 => ?_)
          · exact J113 x4_30 x5_30 (nI n30) wi_30 cr_30 cf_30 hw_c_30 H locs ls hP hD hS (lv_sub hl [0, 1, 2, 3, 4, 5, 6] rfl)
          · refine lv_aload_n hx hb dX7_list_57 rfl (lv_at hl 0 rfl) ?_
            refine lv_iload hx hb dX7_list_58 (lv_at hl 5 rfl) ?_
            refine lv_iload_n hx hb dX7_list_60 rfl (lv_at hl 2 rfl) ?_
            refine vz_Vi3 (As := [.int x5_30, .int (nI dn)]) (rest := []) hx hb hml hown hts hK hA hP hD hS (hB H.size h ki wh wa wi_30 wr wf ph rh la pa pr pf ca ci cr_30 cf_30 lr lf lmx x5_30 hw_w hw_p hw_c_30 hw_l hmx_l) kv_X7_115 ⟨by dsimp only; omega, by dsimp only; omega⟩ (q0 := 0) (ci := 7) rfl rfl rfl  hl.1 (Nat.le_of_ble_eq_true rfl) dX7_list_61 ⟨Nat.le_refl _, Nat.le_refl _⟩ rfl (fun v8 ⟨wi_4, cr_5, cf_6⟩ H locs hw_7 _ hP hD hS => ?_)
            try dsimp only at hw_7
            replace hP : va_P D vwCl (vz_w [wkW h ki wh, woW g wh wa wi_4 wr wf ph rh (la 0), pgW g ph pa pr pf, rcW g rh ca ci cr_5 cf_6, plW g la lr lf lmx]) H := hP
            replace hD : va_D A (vz_w [wkW h ki wh, woW g wh wa wi_4 wr wf ph rh (la 0), pgW g ph pa pr pf, rcW g rh ca ci cr_5 cf_6, plW g la lr lf lmx]) := hD
            refine lv_istore (lv' := [(7, .int v8), (0, .ref h), (1, .int n1), (2, .int (nI dn)), (3, .ref (pa 2)), (4, .int x4_30), (5, .int x5_30), (6, .int (nI n30))]) hx hb dX7_list_64 hl (by decide) rfl (fun ls hl => ?_)
            refine lv_aload_n hx hb dX7_list_66 rfl (lv_at hl 1 rfl) ?_
            refine va_get (D := D) (ci := 7) (v := .ref wh) (C := RX7) (T := TX7) (N := 7) hx hb hts inlX7 hown hK hP 0 rfl rfl 0 (by decide) (hts _ q152) (fun _ h => h) rfl dX7_list_67 ?_
            refine va_get (D := D) (ci := 8) (v := .int (wi_4 1)) (C := RX8) (T := TX8) (N := 11) hx hb hts inlX8 hown hK hP 1 rfl rfl 9 (by decide) (hts _ q1040) (fun _ h => h) rfl dX7_list_70 ?_
            refine lv_bipush (v := (-9)) hx hb dX7_list_73 (by decide) ?_
            refine lv_icmp_ne (tgt := 98) hx hb dX7_list_75 (by decide) (fun kc9 => ?_) (fun kc9 => ?_)
            · exact J98 hn30 x4_30 v8 wi_4 cr_5 cf_6 hw_7 H locs ls hP hD hS (lv_sub hl [1, 2, 3, 4, 5, 6, 7, 0] rfl)
            · refine lv_aload_n hx hb dX7_list_78 rfl (lv_at hl 1 rfl) ?_
              refine va_get (D := D) (ci := 7) (v := .ref wh) (C := RX7) (T := TX7) (N := 7) hx hb hts inlX7 hown hK hP 0 rfl rfl 0 (by decide) (hts _ q152) (fun _ h => h) rfl dX7_list_79 ?_
              refine lv_aload_n hx hb dX7_list_82 rfl (lv_at hl 4 rfl) ?_
              refine lv_iload hx hb dX7_list_83 (lv_at hl 6 rfl) ?_
              refine lv_iconst (v := 4) hx hb dX7_list_85 (by decide) ?_
              refine vz_Vi2 (ws' := fun u : Unit => vz_w [wkW h ki wh, woW g wh wa wi_4 wr wf ph rh (la 0), pgW g ph pa pr pf, rcW g rh ca ci cr_5 cf_6, plW g la lr lf lmx]) (As := [.int x5_30, .int 4]) (rest := [.ref wh]) hx hb hml hown hts hK hA hP hD hS (c_T_get l D g (pa 2) (pa 3) H.size 5 1000 (pr 1) 5000 (pf 1) x5_30 4 ⟨rfl, by decide, by decide, by decide, by decide, hw_p 1⟩) kv_X7_72 ⟨by dsimp only; omega, by dsimp only; omega⟩ (q0 := 15) (ci := 6) rfl rfl rfl [15, 16] rfl (by decide) (fun _ => rfl) (fun _ => rfl) hl.1 (Nat.le_of_ble_eq_true rfl) dX7_list_86 ⟨Nat.le_refl _, Nat.le_refl _⟩ rfl (fun v10 _ H locs he11 _ hP hD hS => ?_)
              refine lv_iload hx hb dX7_list_89 (lv_at hl 5 rfl) ?_
              refine lv_iload hx hb dX7_list_91 (lv_at hl 0 rfl) ?_
              refine vz_Vi4 (n9 := 5) (bs2 := fun u : (Nat → Int32) × (Nat → Nat) × (Nat → Nat → Int32) => [wkW h ki wh, woW g wh wa u.1 wr wf ph rh (la 0), pgW g ph pa pr pf, rcW g rh ca ci u.2.1 u.2.2, plW g la lr lf lmx]) (br := [wkW h ki wh]) (As := [.int v10, .int x4_30, .int v8]) (rest := []) hx hb hml hown hts hK hA hP hD hS (a_W_apply l D g H.size wh wa wi_4 wr wf ph rh la pa pr pf ca ci cr_5 cf_6 lr lf lmx v10 x4_30 v8 hw_w hw_p hw_7 hw_l hmx_l) kv_X7_203 ⟨by dsimp only; omega, by dsimp only; omega⟩ (q0 := 1) (ci := 8) rfl rfl rfl [1, 2, 3, 4] [0] rfl (by decide) rfl (fun _ => rfl) (fun _ => rfl) hl.1 (Nat.le_of_ble_eq_true rfl) dX7_list_93 ⟨Nat.le_refl _, Nat.le_refl _⟩ rfl (fun v16 ⟨wi_12, cr_13, cf_14⟩ H locs hw_15 _ hP hD hS => ?_)
              try dsimp only at hw_15
              replace hP : va_P D vwCl (vz_w [wkW h ki wh, woW g wh wa wi_12 wr wf ph rh (la 0), pgW g ph pa pr pf, rcW g rh ca ci cr_13 cf_14, plW g la lr lf lmx]) H := hP
              replace hD : va_D A (vz_w [wkW h ki wh, woW g wh wa wi_12 wr wf ph rh (la 0), pgW g ph pa pr pf, rcW g rh ca ci cr_13 cf_14, plW g la lr lf lmx]) := hD
              refine lv_istore (lv' := [(4, .int v16), (7, .int v8), (0, .ref h), (1, .int n1), (2, .int (nI dn)), (3, .ref (pa 2)), (5, .int x5_30), (6, .int (nI n30))]) hx hb dX7_list_96 hl (by decide) rfl (fun ls hl => ?_)
              exact J98 hn30 v16 v8 wi_12 cr_13 cf_14 hw_15 H locs ls hP hD hS (lv_sub hl [2, 3, 4, 5, 0, 6, 7, 1] rfl)
  refine lv_aload_n hx hb dX7_list_0 rfl (lv_at hl 0 rfl) ?_
  refine va_get (D := D) (ci := 7) (v := .ref wh) (C := RX7) (T := TX7) (N := 7) hx hb hts inlX7 hown hK hP 0 rfl rfl 0 (by decide) (hts _ q152) (fun _ h => h) rfl dX7_list_1 ?_
  refine va_get (D := D) (ci := 8) (v := .ref ph) (C := RX8) (T := TX8) (N := 11) hx hb hts inlX8 hown hK hP 1 rfl rfl 5 (by decide) (hts _ q1045) (fun _ h => h) rfl dX7_list_4 ?_
  refine va_get (D := D) (ci := 2) (v := .ref (pa 2)) (C := RX2) (T := TX2) (N := 5) hx hb hts inlX2 hown hK hP 12 rfl rfl 1 (by decide) (hts _ q1093) (fun _ h => h) rfl dX7_list_7 ?_
  refine lv_astore_n (lv' := [(3, .ref (pa 2)), (0, .ref h), (1, .int n1), (2, .int (nI dn))]) hx hb dX7_list_10 rfl hl (by decide) rfl (fun ls hl => ?_)
  refine lv_aload_n hx hb dX7_list_11 rfl (lv_at hl 1 rfl) ?_
  refine lv_iload_n hx hb dX7_list_12 rfl (lv_at hl 2 rfl) ?_
  refine lv_iload_n hx hb dX7_list_13 rfl (lv_at hl 3 rfl) ?_
  refine vz_Vi3 (As := [.int n1, .int (nI dn)]) (rest := []) hx hb hml hown hts hK hA hP hD hS (hB H.size h ki wh wa wi wr wf ph rh la pa pr pf ca ci cr cf lr lf lmx n1 hw_w hw_p hw_c hw_l hmx_l) kv_X7_115 ⟨by dsimp only; omega, by dsimp only; omega⟩ (q0 := 0) (ci := 7) rfl rfl rfl  hl.1 (Nat.le_of_ble_eq_true rfl) dX7_list_14 ⟨Nat.le_refl _, Nat.le_refl _⟩ rfl (fun v5 ⟨wi_1, cr_2, cf_3⟩ H locs hw_4 _ hP hD hS => ?_)
  try dsimp only at hw_4
  replace hP : va_P D vwCl (vz_w [wkW h ki wh, woW g wh wa wi_1 wr wf ph rh (la 0), pgW g ph pa pr pf, rcW g rh ca ci cr_2 cf_3, plW g la lr lf lmx]) H := hP
  replace hD : va_D A (vz_w [wkW h ki wh, woW g wh wa wi_1 wr wf ph rh (la 0), pgW g ph pa pr pf, rcW g rh ca ci cr_2 cf_3, plW g la lr lf lmx]) := hD
  refine lv_istore (lv' := [(4, .int v5), (3, .ref (pa 2)), (0, .ref h), (1, .int n1), (2, .int (nI dn))]) hx hb dX7_list_17 hl (by decide) rfl (fun ls hl => ?_)
  refine lv_aload_n hx hb dX7_list_19 rfl (lv_at hl 1 rfl) ?_
  refine lv_iload_n hx hb dX7_list_20 rfl (lv_at hl 3 rfl) ?_
  refine lv_iconst (v := 3) hx hb dX7_list_21 (by decide) ?_
  refine vz_Vi2 (ws' := fun u : Unit => vz_w [wkW h ki wh, woW g wh wa wi_1 wr wf ph rh (la 0), pgW g ph pa pr pf, rcW g rh ca ci cr_2 cf_3, plW g la lr lf lmx]) (As := [.int n1, .int 3]) (rest := []) hx hb hml hown hts hK hA hP hD hS (c_T_get l D g (pa 2) (pa 3) H.size 5 1000 (pr 1) 5000 (pf 1) n1 3 ⟨rfl, by decide, by decide, by decide, by decide, hw_p 1⟩) kv_X7_72 ⟨by dsimp only; omega, by dsimp only; omega⟩ (q0 := 15) (ci := 6) rfl rfl rfl [15, 16] rfl (by decide) (fun _ => rfl) (fun _ => rfl) hl.1 (Nat.le_of_ble_eq_true rfl) dX7_list_22 ⟨Nat.le_refl _, Nat.le_refl _⟩ rfl (fun v6 _ H locs he7 _ hP hD hS => ?_)
  refine lv_istore (lv' := [(5, .int v6), (4, .int v5), (3, .ref (pa 2)), (0, .ref h), (1, .int n1), (2, .int (nI dn))]) hx hb dX7_list_25 hl (by decide) rfl (fun ls hl => ?_)
  refine lv_iconst (v := 0) hx hb dX7_list_27 (by decide) ?_
  refine lv_istore (lv' := [(6, .int 0), (5, .int v6), (4, .int v5), (3, .ref (pa 2)), (0, .ref h), (1, .int n1), (2, .int (nI dn))]) hx hb dX7_list_28 hl (by decide) rfl (fun ls hl => ?_)
  exact J30 (1001) 0 (by omega) (by omega) v5 v6 wi_1 cr_2 cf_3 hw_4 H locs ls hP hD hS (lv_sub hl [4, 5, 6, 3, 2, 1, 0] rfl)
theorem q1107 : Cond.methodLink RX7 200 yX8_element ∈ wsL_law := mT_5 (List.mem_of_getElem? (i := 29) rfl) rfl
theorem q1108 : Cond.instanceMethod yX8_element ∈ wsL_law := mT_5 (List.mem_of_getElem? (i := 30) rfl) rfl
theorem q1109 : Cond.selects RX8 yX8_element yX8_element ∈ wsL_law := mT_5 (List.mem_of_getElem? (i := 31) rfl) rfl
theorem q1110 : Cond.code yX8_element cX8_element 5 (some .int) ∈ wsL_law := mT_5 (List.mem_of_getElem? (i := 32) rfl) rfl
theorem kv_X7_200 : vz_cv RX7 200 yX8_element cX8_element 5 (some .int) 2 := ⟨q1107, q1108, q1109, q47, q1110, by decide +kernel⟩
theorem q1104 : Cond.methodLink RX7 197 yX7_list ∈ wsL_law := mT_5 (List.mem_of_getElem? (i := 21) rfl) rfl
theorem q1105 : Cond.instanceMethod yX7_list ∈ wsL_law := mT_5 (List.mem_of_getElem? (i := 23) rfl) rfl
theorem q1106 : Cond.selects RX7 yX7_list yX7_list ∈ wsL_law := mS_5 (q := (yX7_list, 7)) (List.mem_of_getElem? (i := 5) rfl) rfl
theorem q1115 : Cond.code yX7_list cX7_list 8 (some .int) ∈ wsL_law := mT_5 (List.mem_of_getElem? (i := 24) rfl) rfl
theorem kv_X7_197 : vz_cv RX7 197 yX7_list cX7_list 8 (some .int) 2 := ⟨q1104, q1105, q1106, q51, q1115, by decide +kernel⟩
theorem q1095 : Cond.methodLink RX7 194 yX8_size ∈ wsL_law := mT_5 (List.mem_of_getElem? (i := 13) rfl) rfl
theorem q1096 : Cond.instanceMethod yX8_size ∈ wsL_law := mT_5 (List.mem_of_getElem? (i := 14) rfl) rfl
theorem q1097 : Cond.selects RX8 yX8_size yX8_size ∈ wsL_law := mT_5 (List.mem_of_getElem? (i := 15) rfl) rfl
theorem q1098 : Cond.code yX8_size cX8_size 3 (some .int) ∈ wsL_law := mT_5 (List.mem_of_getElem? (i := 16) rfl) rfl
theorem kv_X7_194 : vz_cv RX7 194 yX8_size cX8_size 3 (some .int) 1 := ⟨q1095, q1096, q1097, q47, q1098, by decide +kernel⟩
theorem q1094 : Cond.methodLink RX7 102 yX8_now ∈ wsL_law := mT_5 (List.mem_of_getElem? (i := 12) rfl) rfl
theorem kv_X7_102 : vz_cv RX7 102 yX8_now cX8_now 2 (some .int) 1 := ⟨q1094, q1057, q1058, q47, q1059, by decide +kernel⟩
theorem dX7_sum_0 : decode cX7_sum 0 = .ok (.aload_n 0, 1) := by decide +kernel
theorem dX7_sum_1 : decode cX7_sum 1 = .ok (.getfield 9, 3) := by decide +kernel
theorem dX7_sum_4 : decode cX7_sum 4 = .ok (.getfield 37, 3) := by decide +kernel
theorem dX7_sum_7 : decode cX7_sum 7 = .ok (.bipush (-9), 2) := by decide +kernel
theorem dX7_sum_9 : decode cX7_sum 9 = .ok (.if_icmp .ne 15, 3) := by decide +kernel
theorem dX7_sum_12 : decode cX7_sum 12 = .ok (.iload_n 1, 1) := by decide +kernel
theorem dX7_sum_13 : decode cX7_sum 13 = .ok (.bipush (-9), 2) := by decide +kernel
theorem dX7_sum_15 : decode cX7_sum 15 = .ok (.if_icmp .eq 9, 3) := by decide +kernel
theorem dX7_sum_18 : decode cX7_sum 18 = .ok (.iload_n 2, 1) := by decide +kernel
theorem dX7_sum_19 : decode cX7_sum 19 = .ok (.bipush 40, 2) := by decide +kernel
theorem dX7_sum_21 : decode cX7_sum 21 = .ok (.if_icmp .le 5, 3) := by decide +kernel
theorem dX7_sum_24 : decode cX7_sum 24 = .ok (.iconst 0, 1) := by decide +kernel
theorem dX7_sum_25 : decode cX7_sum 25 = .ok (.ireturn, 1) := by decide +kernel
theorem dX7_sum_26 : decode cX7_sum 26 = .ok (.aload_n 0, 1) := by decide +kernel
theorem dX7_sum_27 : decode cX7_sum 27 = .ok (.getfield 9, 3) := by decide +kernel
theorem dX7_sum_30 : decode cX7_sum 30 = .ok (.getfield 62, 3) := by decide +kernel
theorem dX7_sum_33 : decode cX7_sum 33 = .ok (.getfield 191, 3) := by decide +kernel
theorem dX7_sum_36 : decode cX7_sum 36 = .ok (.astore_n 3, 1) := by decide +kernel
theorem dX7_sum_37 : decode cX7_sum 37 = .ok (.aload_n 3, 1) := by decide +kernel
theorem dX7_sum_38 : decode cX7_sum 38 = .ok (.iload_n 1, 1) := by decide +kernel
theorem dX7_sum_39 : decode cX7_sum 39 = .ok (.iconst 1, 1) := by decide +kernel
theorem dX7_sum_40 : decode cX7_sum 40 = .ok (.invokevirtual 72, 3) := by decide +kernel
theorem dX7_sum_43 : decode cX7_sum 43 = .ok (.istore 4, 2) := by decide +kernel
theorem dX7_sum_45 : decode cX7_sum 45 = .ok (.aload_n 3, 1) := by decide +kernel
theorem dX7_sum_46 : decode cX7_sum 46 = .ok (.iload_n 1, 1) := by decide +kernel
theorem dX7_sum_47 : decode cX7_sum 47 = .ok (.iconst 2, 1) := by decide +kernel
theorem dX7_sum_48 : decode cX7_sum 48 = .ok (.invokevirtual 72, 3) := by decide +kernel
theorem dX7_sum_51 : decode cX7_sum 51 = .ok (.istore 5, 2) := by decide +kernel
theorem dX7_sum_53 : decode cX7_sum 53 = .ok (.aload_n 3, 1) := by decide +kernel
theorem dX7_sum_54 : decode cX7_sum 54 = .ok (.iload_n 1, 1) := by decide +kernel
theorem dX7_sum_55 : decode cX7_sum 55 = .ok (.iconst 0, 1) := by decide +kernel
theorem dX7_sum_56 : decode cX7_sum 56 = .ok (.invokevirtual 72, 3) := by decide +kernel
theorem dX7_sum_59 : decode cX7_sum 59 = .ok (.tableswitch 83 0 5 #[37, 40, 83, 52, 62, 73], 37) := by decide +kernel
theorem dX7_sum_96 : decode cX7_sum 96 = .ok (.iload 4, 2) := by decide +kernel
theorem dX7_sum_98 : decode cX7_sum 98 = .ok (.ireturn, 1) := by decide +kernel
theorem dX7_sum_99 : decode cX7_sum 99 = .ok (.aload_n 0, 1) := by decide +kernel
theorem dX7_sum_100 : decode cX7_sum 100 = .ok (.getfield 9, 3) := by decide +kernel
theorem dX7_sum_103 : decode cX7_sum 103 = .ok (.iconst 3, 1) := by decide +kernel
theorem dX7_sum_104 : decode cX7_sum 104 = .ok (.iload 4, 2) := by decide +kernel
theorem dX7_sum_106 : decode cX7_sum 106 = .ok (.iadd, 1) := by decide +kernel
theorem dX7_sum_107 : decode cX7_sum 107 = .ok (.invokevirtual 102, 3) := by decide +kernel
theorem dX7_sum_110 : decode cX7_sum 110 = .ok (.ireturn, 1) := by decide +kernel
theorem dX7_sum_111 : decode cX7_sum 111 = .ok (.aload_n 0, 1) := by decide +kernel
theorem dX7_sum_112 : decode cX7_sum 112 = .ok (.getfield 9, 3) := by decide +kernel
theorem dX7_sum_115 : decode cX7_sum 115 = .ok (.iload 4, 2) := by decide +kernel
theorem dX7_sum_117 : decode cX7_sum 117 = .ok (.invokevirtual 194, 3) := by decide +kernel
theorem dX7_sum_120 : decode cX7_sum 120 = .ok (.ireturn, 1) := by decide +kernel
theorem dX7_sum_121 : decode cX7_sum 121 = .ok (.aload_n 0, 1) := by decide +kernel
theorem dX7_sum_122 : decode cX7_sum 122 = .ok (.iload 5, 2) := by decide +kernel
theorem dX7_sum_124 : decode cX7_sum 124 = .ok (.iload_n 2, 1) := by decide +kernel
theorem dX7_sum_125 : decode cX7_sum 125 = .ok (.iconst 1, 1) := by decide +kernel
theorem dX7_sum_126 : decode cX7_sum 126 = .ok (.iadd, 1) := by decide +kernel
theorem dX7_sum_127 : decode cX7_sum 127 = .ok (.invokevirtual 115, 3) := by decide +kernel
theorem dX7_sum_130 : decode cX7_sum 130 = .ok (.ineg, 1) := by decide +kernel
theorem dX7_sum_131 : decode cX7_sum 131 = .ok (.ireturn, 1) := by decide +kernel
theorem dX7_sum_132 : decode cX7_sum 132 = .ok (.aload_n 0, 1) := by decide +kernel
theorem dX7_sum_133 : decode cX7_sum 133 = .ok (.iload 5, 2) := by decide +kernel
theorem dX7_sum_135 : decode cX7_sum 135 = .ok (.iload_n 2, 1) := by decide +kernel
theorem dX7_sum_136 : decode cX7_sum 136 = .ok (.iconst 1, 1) := by decide +kernel
theorem dX7_sum_137 : decode cX7_sum 137 = .ok (.iadd, 1) := by decide +kernel
theorem dX7_sum_138 : decode cX7_sum 138 = .ok (.invokevirtual 197, 3) := by decide +kernel
theorem dX7_sum_141 : decode cX7_sum 141 = .ok (.ireturn, 1) := by decide +kernel
theorem dX7_sum_142 : decode cX7_sum 142 = .ok (.aload_n 0, 1) := by decide +kernel
theorem dX7_sum_143 : decode cX7_sum 143 = .ok (.iload 5, 2) := by decide +kernel
theorem dX7_sum_145 : decode cX7_sum 145 = .ok (.iload_n 2, 1) := by decide +kernel
theorem dX7_sum_146 : decode cX7_sum 146 = .ok (.iconst 1, 1) := by decide +kernel
theorem dX7_sum_147 : decode cX7_sum 147 = .ok (.iadd, 1) := by decide +kernel
theorem dX7_sum_148 : decode cX7_sum 148 = .ok (.invokevirtual 115, 3) := by decide +kernel
theorem dX7_sum_151 : decode cX7_sum 151 = .ok (.istore 6, 2) := by decide +kernel
theorem dX7_sum_153 : decode cX7_sum 153 = .ok (.aload_n 0, 1) := by decide +kernel
theorem dX7_sum_154 : decode cX7_sum 154 = .ok (.getfield 9, 3) := by decide +kernel
theorem dX7_sum_157 : decode cX7_sum 157 = .ok (.getfield 37, 3) := by decide +kernel
theorem dX7_sum_160 : decode cX7_sum 160 = .ok (.bipush (-9), 2) := by decide +kernel
theorem dX7_sum_162 : decode cX7_sum 162 = .ok (.if_icmp .ne 17, 3) := by decide +kernel
theorem dX7_sum_165 : decode cX7_sum 165 = .ok (.aload_n 0, 1) := by decide +kernel
theorem dX7_sum_166 : decode cX7_sum 166 = .ok (.getfield 9, 3) := by decide +kernel
theorem dX7_sum_169 : decode cX7_sum 169 = .ok (.iload 4, 2) := by decide +kernel
theorem dX7_sum_171 : decode cX7_sum 171 = .ok (.iload 6, 2) := by decide +kernel
theorem dX7_sum_173 : decode cX7_sum 173 = .ok (.invokevirtual 200, 3) := by decide +kernel
theorem dX7_sum_176 : decode cX7_sum 176 = .ok (.goto 4, 3) := by decide +kernel
theorem dX7_sum_179 : decode cX7_sum 179 = .ok (.iconst 0, 1) := by decide +kernel
theorem dX7_sum_180 : decode cX7_sum 180 = .ok (.ireturn, 1) := by decide +kernel
set_option maxHeartbeats 8000000 in
set_option maxRecDepth 100000 in
theorem a_K_sum (l : Launch) (D : va_G) (g : Nat → ClassId) (dn : Nat) (hdn : dn ≤ 41) (hB : dn ≤ 40 → ∀ (sz : Nat) (h : Nat) (ki : Nat → Int32) (wh : Nat) (wa : Nat → Nat) (wi : Nat → Int32) (wr : Nat → Nat) (wf : Nat → Nat → Int32) (ph : Nat) (rh : Nat) (la : Nat → Nat) (pa : Nat → Nat) (pr : Nat → Nat) (pf : Nat → Nat → Int32) (ca : Nat → Nat) (ci : Nat → Int32) (cr : Nat → Nat) (cf : Nat → Nat → Int32) (lr : Nat → Nat) (lf : Nat → Nat → Int32) (lmx : Nat) (n1 : Int32) (hw_w : ∀ k, wr k ≤ woW_lim k) (hw_p : ∀ k, pr k ≤ pgW_lim k) (hw_c : ∀ k, cr k ≤ rcW_lim k) (hw_l : ∀ k, lr k ≤ (plW_lim lmx) k) (hmx_l : lmx ≤ 30), vz_Mi l D (tyG g) yX7_sum cX7_sum 7 (2 * (41 - (dn + 1)) + 20) (53 * (41 - (dn + 1)) + 900) 0 0 .int [.ref h, .int n1, .int (nI (dn + 1))] sz (vz_w [wkW h ki wh, woW g wh wa wi wr wf ph rh (la 0), pgW g ph pa pr pf, rcW g rh ca ci cr cf, plW g la lr lf lmx]) (fun r (u : (Nat → Int32) × (Nat → Nat) × (Nat → Nat → Int32)) => (∀ k, u.2.1 k ≤ rcW_lim k)) (fun u => vz_w [wkW h ki wh, woW g wh wa u.1 wr wf ph rh (la 0), pgW g ph pa pr pf, rcW g rh ca ci u.2.1 u.2.2, plW g la lr lf lmx])) (sz : Nat) (h : Nat) (ki : Nat → Int32) (wh : Nat) (wa : Nat → Nat) (wi : Nat → Int32) (wr : Nat → Nat) (wf : Nat → Nat → Int32) (ph : Nat) (rh : Nat) (la : Nat → Nat) (pa : Nat → Nat) (pr : Nat → Nat) (pf : Nat → Nat → Int32) (ca : Nat → Nat) (ci : Nat → Int32) (cr : Nat → Nat) (cf : Nat → Nat → Int32) (lr : Nat → Nat) (lf : Nat → Nat → Int32) (lmx : Nat) (n1 : Int32) (hw_w : ∀ k, wr k ≤ woW_lim k) (hw_p : ∀ k, pr k ≤ pgW_lim k) (hw_c : ∀ k, cr k ≤ rcW_lim k) (hw_l : ∀ k, lr k ≤ (plW_lim lmx) k) (hmx_l : lmx ≤ 30) : vz_Mi l D (tyG g) yX7_sum cX7_sum 7 (2 * (41 - dn) + 20) (53 * (41 - dn) + 900) 0 0 .int [.ref h, .int n1, .int (nI dn)] sz (vz_w [wkW h ki wh, woW g wh wa wi wr wf ph rh (la 0), pgW g ph pa pr pf, rcW g rh ca ci cr cf, plW g la lr lf lmx]) (fun r (u : (Nat → Int32) × (Nat → Nat) × (Nat → Nat → Int32)) => (∀ k, u.2.1 k ≤ rcW_lim k)) (fun u => vz_w [wkW h ki wh, woW g wh wa u.1 wr wf ph rh (la 0), pgW g ph pa pr pf, rcW g rh ca ci u.2.1 u.2.2, plW g la lr lf lmx]) := by
  refine vz_siQ (by decide) (Nat.le_of_ble_eq_true rfl) (fun p e s m args below meth c hx hb hr hml hts hown hlk hin hK hsz A hA H locs hP hD hS ls hl Q hQ => ?_)
  have hl : lv_has ls 7 [(0, .ref h), (1, .int n1), (2, .int (nI dn))] := hl
  have J180 : ∀ (x4_180 : Int32), ∀ (x5_180 : Int32), ∀ (x6_180 : Int32), ∀ (y0_180 : Int32), ∀ (wi_180 : Nat → Int32), ∀ (cr_180 : Nat → Nat), ∀ (cf_180 : Nat → Nat → Int32), (∀ k, cr_180 k ≤ rcW_lim k) → ∀ (H : Heap) (locs : List Loc) (ls : Array Slot), va_P D vwCl (vz_w [wkW h ki wh, woW g wh wa wi_180 wr wf ph rh (la 0), pgW g ph pa pr pf, rcW g rh ca ci cr_180 cf_180, plW g la lr lf lmx]) H → va_D A (vz_w [wkW h ki wh, woW g wh wa wi_180 wr wf ph rh (la 0), pgW g ph pa pr pf, rcW g rh ca ci cr_180 cf_180, plW g la lr lf lmx]) → va_S A s.heap H locs → lv_has ls 7 [(0, .ref h), (1, .int n1), (2, .int (nI dn)), (3, .ref (pa 2)), (4, .int x4_180), (5, .int x5_180), (6, .int x6_180)] → W p l e { frames := (2 * (41 - dn) + 20), cells := 0, slots := 0, locals := (53 * (41 - dn) + 900) } s m args below meth c H locs 0 0 Q (F0 m 180 ls [.int y0_180]) := by
    intro x4_180 x5_180 x6_180 y0_180 wi_180 cr_180 cf_180 hw_c_180 H locs ls hP hD hS hl
    rw [hQ]
    exact vz_iret3 hx hb hr hlk hK hP hD hS (wi_180, cr_180, cf_180) hw_c_180 rfl (Nat.le_refl 0) (Nat.le_refl 0) dX7_sum_180
  have J24 : ∀ (wi_24 : Nat → Int32), ∀ (cr_24 : Nat → Nat), ∀ (cf_24 : Nat → Nat → Int32), (∀ k, cr_24 k ≤ rcW_lim k) → ∀ (H : Heap) (locs : List Loc) (ls : Array Slot), va_P D vwCl (vz_w [wkW h ki wh, woW g wh wa wi_24 wr wf ph rh (la 0), pgW g ph pa pr pf, rcW g rh ca ci cr_24 cf_24, plW g la lr lf lmx]) H → va_D A (vz_w [wkW h ki wh, woW g wh wa wi_24 wr wf ph rh (la 0), pgW g ph pa pr pf, rcW g rh ca ci cr_24 cf_24, plW g la lr lf lmx]) → va_S A s.heap H locs → lv_has ls 7 [(0, .ref h), (1, .int n1), (2, .int (nI dn))] → W p l e { frames := (2 * (41 - dn) + 20), cells := 0, slots := 0, locals := (53 * (41 - dn) + 900) } s m args below meth c H locs 0 0 Q (F0 m 24 ls []) := by
    intro wi_24 cr_24 cf_24 hw_c_24 H locs ls hP hD hS hl
    refine lv_iconst (v := 0) hx hb dX7_sum_24 (by decide) ?_
    rw [hQ]
    exact vz_iret3 hx hb hr hlk hK hP hD hS (wi_24, cr_24, cf_24) hw_c_24 rfl (Nat.le_refl 0) (Nat.le_refl 0) dX7_sum_25
  refine lv_aload_n hx hb dX7_sum_0 rfl (lv_at hl 0 rfl) ?_
  refine va_get (D := D) (ci := 7) (v := .ref wh) (C := RX7) (T := TX7) (N := 7) hx hb hts inlX7 hown hK hP 0 rfl rfl 0 (by decide) (hts _ q152) (fun _ h => h) rfl dX7_sum_1 ?_
  refine va_get (D := D) (ci := 8) (v := .int (wi 1)) (C := RX8) (T := TX8) (N := 11) hx hb hts inlX8 hown hK hP 1 rfl rfl 9 (by decide) (hts _ q1040) (fun _ h => h) rfl dX7_sum_4 ?_
  refine lv_bipush (v := (-9)) hx hb dX7_sum_7 (by decide) ?_
  refine lv_icmp_ne (tgt := 24) hx hb dX7_sum_9 (by decide) (fun kc1 => ?_) (fun kc1 => ?_)
  · exact J24 wi cr cf hw_c H locs ls hP hD hS (lv_sub hl [0, 1, 2] rfl)
  · refine lv_iload_n hx hb dX7_sum_12 rfl (lv_at hl 1 rfl) ?_
    refine lv_bipush (v := (-9)) hx hb dX7_sum_13 (by decide) ?_
    refine lv_icmp_eq (tgt := 24) hx hb dX7_sum_15 (by decide) (fun kc2 => ?_) (fun kc2 => ?_)
    · exact J24 wi cr cf hw_c H locs ls hP hD hS (lv_sub hl [0, 1, 2] rfl)
    · refine lv_iload_n hx hb dX7_sum_18 rfl (lv_at hl 2 rfl) ?_
      refine lv_bipush (v := 40) hx hb dX7_sum_19 (by decide) ?_
      refine lv_icmp_le (tgt := 26) hx hb dX7_sum_21 (by decide) (fun kc3 => ?_) (fun kc3 => ?_)
      · refine lv_aload_n hx hb dX7_sum_26 rfl (lv_at hl 0 rfl) ?_
        refine va_get (D := D) (ci := 7) (v := .ref wh) (C := RX7) (T := TX7) (N := 7) hx hb hts inlX7 hown hK hP 0 rfl rfl 0 (by decide) (hts _ q152) (fun _ h => h) rfl dX7_sum_27 ?_
        refine va_get (D := D) (ci := 8) (v := .ref ph) (C := RX8) (T := TX8) (N := 11) hx hb hts inlX8 hown hK hP 1 rfl rfl 5 (by decide) (hts _ q1045) (fun _ h => h) rfl dX7_sum_30 ?_
        refine va_get (D := D) (ci := 2) (v := .ref (pa 2)) (C := RX2) (T := TX2) (N := 5) hx hb hts inlX2 hown hK hP 12 rfl rfl 1 (by decide) (hts _ q1093) (fun _ h => h) rfl dX7_sum_33 ?_
        refine lv_astore_n (lv' := [(3, .ref (pa 2)), (0, .ref h), (1, .int n1), (2, .int (nI dn))]) hx hb dX7_sum_36 rfl hl (by decide) rfl (fun ls hl => ?_)
        refine lv_aload_n hx hb dX7_sum_37 rfl (lv_at hl 0 rfl) ?_
        refine lv_iload_n hx hb dX7_sum_38 rfl (lv_at hl 2 rfl) ?_
        refine lv_iconst (v := 1) hx hb dX7_sum_39 (by decide) ?_
        refine vz_Vi2 (ws' := fun u : Unit => vz_w [wkW h ki wh, woW g wh wa wi wr wf ph rh (la 0), pgW g ph pa pr pf, rcW g rh ca ci cr cf, plW g la lr lf lmx]) (As := [.int n1, .int 1]) (rest := []) hx hb hml hown hts hK hA hP hD hS (c_T_get l D g (pa 2) (pa 3) H.size 5 1000 (pr 1) 5000 (pf 1) n1 1 ⟨rfl, by decide, by decide, by decide, by decide, hw_p 1⟩) kv_X7_72 ⟨by have hq := vz_lec (B := 40) (by decide) (by omega) kc3; dsimp only; omega, by have hq := vz_lec (B := 40) (by decide) (by omega) kc3; dsimp only; omega⟩ (q0 := 15) (ci := 6) rfl rfl rfl [15, 16] rfl (by decide) (fun _ => rfl) (fun _ => rfl) hl.1 (Nat.le_of_ble_eq_true rfl) dX7_sum_40 ⟨Nat.le_refl _, Nat.le_refl _⟩ rfl (fun v4 _ H locs he5 _ hP hD hS => ?_)
        refine lv_istore (lv' := [(4, .int v4), (3, .ref (pa 2)), (0, .ref h), (1, .int n1), (2, .int (nI dn))]) hx hb dX7_sum_43 hl (by decide) rfl (fun ls hl => ?_)
        refine lv_aload_n hx hb dX7_sum_45 rfl (lv_at hl 1 rfl) ?_
        refine lv_iload_n hx hb dX7_sum_46 rfl (lv_at hl 3 rfl) ?_
        refine lv_iconst (v := 2) hx hb dX7_sum_47 (by decide) ?_
        refine vz_Vi2 (ws' := fun u : Unit => vz_w [wkW h ki wh, woW g wh wa wi wr wf ph rh (la 0), pgW g ph pa pr pf, rcW g rh ca ci cr cf, plW g la lr lf lmx]) (As := [.int n1, .int 2]) (rest := []) hx hb hml hown hts hK hA hP hD hS (c_T_get l D g (pa 2) (pa 3) H.size 5 1000 (pr 1) 5000 (pf 1) n1 2 ⟨rfl, by decide, by decide, by decide, by decide, hw_p 1⟩) kv_X7_72 ⟨by have hq := vz_lec (B := 40) (by decide) (by omega) kc3; dsimp only; omega, by have hq := vz_lec (B := 40) (by decide) (by omega) kc3; dsimp only; omega⟩ (q0 := 15) (ci := 6) rfl rfl rfl [15, 16] rfl (by decide) (fun _ => rfl) (fun _ => rfl) hl.1 (Nat.le_of_ble_eq_true rfl) dX7_sum_48 ⟨Nat.le_refl _, Nat.le_refl _⟩ rfl (fun v6 _ H locs he7 _ hP hD hS => ?_)
        refine lv_istore (lv' := [(5, .int v6), (4, .int v4), (3, .ref (pa 2)), (0, .ref h), (1, .int n1), (2, .int (nI dn))]) hx hb dX7_sum_51 hl (by decide) rfl (fun ls hl => ?_)
        refine lv_aload_n hx hb dX7_sum_53 rfl (lv_at hl 2 rfl) ?_
        refine lv_iload_n hx hb dX7_sum_54 rfl (lv_at hl 4 rfl) ?_
        refine lv_iconst (v := 0) hx hb dX7_sum_55 (by decide) ?_
        refine vz_Vi2 (ws' := fun u : Unit => vz_w [wkW h ki wh, woW g wh wa wi wr wf ph rh (la 0), pgW g ph pa pr pf, rcW g rh ca ci cr cf, plW g la lr lf lmx]) (As := [.int n1, .int 0]) (rest := []) hx hb hml hown hts hK hA hP hD hS (c_T_get l D g (pa 2) (pa 3) H.size 5 1000 (pr 1) 5000 (pf 1) n1 0 ⟨rfl, by decide, by decide, by decide, by decide, hw_p 1⟩) kv_X7_72 ⟨by have hq := vz_lec (B := 40) (by decide) (by omega) kc3; dsimp only; omega, by have hq := vz_lec (B := 40) (by decide) (by omega) kc3; dsimp only; omega⟩ (q0 := 15) (ci := 6) rfl rfl rfl [15, 16] rfl (by decide) (fun _ => rfl) (fun _ => rfl) hl.1 (Nat.le_of_ble_eq_true rfl) dX7_sum_56 ⟨Nat.le_refl _, Nat.le_refl _⟩ rfl (fun v8 _ H locs he9 _ hP hD hS => ?_)
        have S59_96 : W p l e { frames := (2 * (41 - dn) + 20), cells := 0, slots := 0, locals := (53 * (41 - dn) + 900) } s m args below meth c H locs 0 0 Q (F0 m 96 ls []) := by
          refine lv_iload hx hb dX7_sum_96 (lv_at hl 1 rfl) ?_
          rw [hQ]
          exact vz_iret3 hx hb hr hlk hK hP hD hS (wi, cr, cf) hw_c rfl (Nat.le_refl 0) (Nat.le_refl 0) dX7_sum_98
        have S59_99 : W p l e { frames := (2 * (41 - dn) + 20), cells := 0, slots := 0, locals := (53 * (41 - dn) + 900) } s m args below meth c H locs 0 0 Q (F0 m 99 ls []) := by
          refine lv_aload_n hx hb dX7_sum_99 rfl (lv_at hl 3 rfl) ?_
          refine va_get (D := D) (ci := 7) (v := .ref wh) (C := RX7) (T := TX7) (N := 7) hx hb hts inlX7 hown hK hP 0 rfl rfl 0 (by decide) (hts _ q152) (fun _ h => h) rfl dX7_sum_100 ?_
          refine lv_iconst (v := 3) hx hb dX7_sum_103 (by decide) ?_
          refine lv_iload hx hb dX7_sum_104 (lv_at hl 1 rfl) ?_
          refine lv_iadd hx hb dX7_sum_106 ?_
          refine vz_Vi4 (n9 := 5) (bs2 := fun u : Unit => [wkW h ki wh, woW g wh wa wi wr wf ph rh (la 0), pgW g ph pa pr pf, rcW g rh ca ci cr cf, plW g la lr lf lmx]) (br := [wkW h ki wh]) (As := [.int (3 + v4)]) (rest := []) hx hb hml hown hts hK hA hP hD hS (a_W_now l D g H.size wh wa wi wr wf ph rh la pa pr pf ca ci cr cf lr lf lmx (3 + v4) hw_w hw_p hw_c hw_l hmx_l) kv_X7_102 ⟨by have hq := vz_lec (B := 40) (by decide) (by omega) kc3; dsimp only; omega, by have hq := vz_lec (B := 40) (by decide) (by omega) kc3; dsimp only; omega⟩ (q0 := 1) (ci := 8) rfl rfl rfl [1, 2, 3, 4] [0] rfl (by decide) rfl (fun _ => rfl) (fun _ => rfl) hl.1 (Nat.le_of_ble_eq_true rfl) dX7_sum_107 ⟨Nat.le_refl _, Nat.le_refl _⟩ rfl (fun v10 _ H locs _ _ hP hD hS => ?_)
          rw [hQ]
          exact vz_iret3 hx hb hr hlk hK hP hD hS (wi, cr, cf) hw_c rfl (Nat.le_refl 0) (Nat.le_refl 0) dX7_sum_110
        have S59_111 : W p l e { frames := (2 * (41 - dn) + 20), cells := 0, slots := 0, locals := (53 * (41 - dn) + 900) } s m args below meth c H locs 0 0 Q (F0 m 111 ls []) := by
          refine lv_aload_n hx hb dX7_sum_111 rfl (lv_at hl 3 rfl) ?_
          refine va_get (D := D) (ci := 7) (v := .ref wh) (C := RX7) (T := TX7) (N := 7) hx hb hts inlX7 hown hK hP 0 rfl rfl 0 (by decide) (hts _ q152) (fun _ h => h) rfl dX7_sum_112 ?_
          refine lv_iload hx hb dX7_sum_115 (lv_at hl 1 rfl) ?_
          refine vz_Vi4 (n9 := 5) (bs2 := fun u : (Nat → Int32) × (Nat → Nat) × (Nat → Nat → Int32) => [wkW h ki wh, woW g wh wa u.1 wr wf ph rh (la 0), pgW g ph pa pr pf, rcW g rh ca ci u.2.1 u.2.2, plW g la lr lf lmx]) (br := [wkW h ki wh]) (As := [.int v4]) (rest := []) hx hb hml hown hts hK hA hP hD hS (a_W_size l D g H.size wh wa wi wr wf ph rh la pa pr pf ca ci cr cf lr lf lmx v4 hw_w hw_p hw_c hw_l hmx_l) kv_X7_194 ⟨by have hq := vz_lec (B := 40) (by decide) (by omega) kc3; dsimp only; omega, by have hq := vz_lec (B := 40) (by decide) (by omega) kc3; dsimp only; omega⟩ (q0 := 1) (ci := 8) rfl rfl rfl [1, 2, 3, 4] [0] rfl (by decide) rfl (fun _ => rfl) (fun _ => rfl) hl.1 (Nat.le_of_ble_eq_true rfl) dX7_sum_117 ⟨Nat.le_refl _, Nat.le_refl _⟩ rfl (fun v15 ⟨wi_11, cr_12, cf_13⟩ H locs hw_14 _ hP hD hS => ?_)
          try dsimp only at hw_14
          replace hP : va_P D vwCl (vz_w [wkW h ki wh, woW g wh wa wi_11 wr wf ph rh (la 0), pgW g ph pa pr pf, rcW g rh ca ci cr_12 cf_13, plW g la lr lf lmx]) H := hP
          replace hD : va_D A (vz_w [wkW h ki wh, woW g wh wa wi_11 wr wf ph rh (la 0), pgW g ph pa pr pf, rcW g rh ca ci cr_12 cf_13, plW g la lr lf lmx]) := hD
          rw [hQ]
          exact vz_iret3 hx hb hr hlk hK hP hD hS (wi_11, cr_12, cf_13) hw_14 rfl (Nat.le_refl 0) (Nat.le_refl 0) dX7_sum_120
        have S59_121 : W p l e { frames := (2 * (41 - dn) + 20), cells := 0, slots := 0, locals := (53 * (41 - dn) + 900) } s m args below meth c H locs 0 0 Q (F0 m 121 ls []) := by
          refine lv_aload_n hx hb dX7_sum_121 rfl (lv_at hl 3 rfl) ?_
          refine lv_iload hx hb dX7_sum_122 (lv_at hl 0 rfl) ?_
          refine lv_iload_n hx hb dX7_sum_124 rfl (lv_at hl 5 rfl) ?_
          refine lv_iconst (v := 1) hx hb dX7_sum_125 (by decide) ?_
          refine lv_iadd hx hb dX7_sum_126 ?_
          refine lv_topi (nm_r (e' := (nI (dn + 1))) (nI_1 dn) ?_)
          refine vz_Vi3 (As := [.int v6, .int (nI (dn + 1))]) (rest := []) hx hb hml hown hts hK hA hP hD hS (hB (vz_lec (B := 40) (by decide) (by omega) kc3) H.size h ki wh wa wi wr wf ph rh la pa pr pf ca ci cr cf lr lf lmx v6 hw_w hw_p hw_c hw_l hmx_l) kv_X7_115 ⟨by have hq := vz_lec (B := 40) (by decide) (by omega) kc3; dsimp only; omega, by have hq := vz_lec (B := 40) (by decide) (by omega) kc3; dsimp only; omega⟩ (q0 := 0) (ci := 7) rfl rfl rfl  hl.1 (Nat.le_of_ble_eq_true rfl) dX7_sum_127 ⟨Nat.le_refl _, Nat.le_refl _⟩ rfl (fun v20 ⟨wi_16, cr_17, cf_18⟩ H locs hw_19 _ hP hD hS => ?_)
          try dsimp only at hw_19
          replace hP : va_P D vwCl (vz_w [wkW h ki wh, woW g wh wa wi_16 wr wf ph rh (la 0), pgW g ph pa pr pf, rcW g rh ca ci cr_17 cf_18, plW g la lr lf lmx]) H := hP
          replace hD : va_D A (vz_w [wkW h ki wh, woW g wh wa wi_16 wr wf ph rh (la 0), pgW g ph pa pr pf, rcW g rh ca ci cr_17 cf_18, plW g la lr lf lmx]) := hD
          refine lv_ineg hx hb dX7_sum_130 ?_
          rw [hQ]
          exact vz_iret3 hx hb hr hlk hK hP hD hS (wi_16, cr_17, cf_18) hw_19 rfl (Nat.le_refl 0) (Nat.le_refl 0) dX7_sum_131
        have S59_132 : W p l e { frames := (2 * (41 - dn) + 20), cells := 0, slots := 0, locals := (53 * (41 - dn) + 900) } s m args below meth c H locs 0 0 Q (F0 m 132 ls []) := by
          refine lv_aload_n hx hb dX7_sum_132 rfl (lv_at hl 3 rfl) ?_
          refine lv_iload hx hb dX7_sum_133 (lv_at hl 0 rfl) ?_
          refine lv_iload_n hx hb dX7_sum_135 rfl (lv_at hl 5 rfl) ?_
          refine lv_iconst (v := 1) hx hb dX7_sum_136 (by decide) ?_
          refine lv_iadd hx hb dX7_sum_137 ?_
          refine lv_topi (nm_r (e' := (nI (dn + 1))) (nI_1 dn) ?_)
          refine vz_Vi3 (As := [.int v6, .int (nI (dn + 1))]) (rest := []) hx hb hml hown hts hK hA hP hD hS (a_K_list l D g (dn + 1) (hB (vz_lec (B := 40) (by decide) (by omega) kc3)) H.size h ki wh wa wi wr wf ph rh la pa pr pf ca ci cr cf lr lf lmx v6 hw_w hw_p hw_c hw_l hmx_l) kv_X7_197 ⟨by have hq := vz_lec (B := 40) (by decide) (by omega) kc3; dsimp only; omega, by have hq := vz_lec (B := 40) (by decide) (by omega) kc3; dsimp only; omega⟩ (q0 := 0) (ci := 7) rfl rfl rfl  hl.1 (Nat.le_of_ble_eq_true rfl) dX7_sum_138 ⟨Nat.le_refl _, Nat.le_refl _⟩ rfl (fun v25 ⟨wi_21, cr_22, cf_23⟩ H locs hw_24 _ hP hD hS => ?_)
          try dsimp only at hw_24
          replace hP : va_P D vwCl (vz_w [wkW h ki wh, woW g wh wa wi_21 wr wf ph rh (la 0), pgW g ph pa pr pf, rcW g rh ca ci cr_22 cf_23, plW g la lr lf lmx]) H := hP
          replace hD : va_D A (vz_w [wkW h ki wh, woW g wh wa wi_21 wr wf ph rh (la 0), pgW g ph pa pr pf, rcW g rh ca ci cr_22 cf_23, plW g la lr lf lmx]) := hD
          rw [hQ]
          exact vz_iret3 hx hb hr hlk hK hP hD hS (wi_21, cr_22, cf_23) hw_24 rfl (Nat.le_refl 0) (Nat.le_refl 0) dX7_sum_141
        have S59_142 : W p l e { frames := (2 * (41 - dn) + 20), cells := 0, slots := 0, locals := (53 * (41 - dn) + 900) } s m args below meth c H locs 0 0 Q (F0 m 142 ls []) := by
          refine lv_aload_n hx hb dX7_sum_142 rfl (lv_at hl 3 rfl) ?_
          refine lv_iload hx hb dX7_sum_143 (lv_at hl 0 rfl) ?_
          refine lv_iload_n hx hb dX7_sum_145 rfl (lv_at hl 5 rfl) ?_
          refine lv_iconst (v := 1) hx hb dX7_sum_146 (by decide) ?_
          refine lv_iadd hx hb dX7_sum_147 ?_
          refine lv_topi (nm_r (e' := (nI (dn + 1))) (nI_1 dn) ?_)
          refine vz_Vi3 (As := [.int v6, .int (nI (dn + 1))]) (rest := []) hx hb hml hown hts hK hA hP hD hS (hB (vz_lec (B := 40) (by decide) (by omega) kc3) H.size h ki wh wa wi wr wf ph rh la pa pr pf ca ci cr cf lr lf lmx v6 hw_w hw_p hw_c hw_l hmx_l) kv_X7_115 ⟨by have hq := vz_lec (B := 40) (by decide) (by omega) kc3; dsimp only; omega, by have hq := vz_lec (B := 40) (by decide) (by omega) kc3; dsimp only; omega⟩ (q0 := 0) (ci := 7) rfl rfl rfl  hl.1 (Nat.le_of_ble_eq_true rfl) dX7_sum_148 ⟨Nat.le_refl _, Nat.le_refl _⟩ rfl (fun v30 ⟨wi_26, cr_27, cf_28⟩ H locs hw_29 _ hP hD hS => ?_)
          try dsimp only at hw_29
          replace hP : va_P D vwCl (vz_w [wkW h ki wh, woW g wh wa wi_26 wr wf ph rh (la 0), pgW g ph pa pr pf, rcW g rh ca ci cr_27 cf_28, plW g la lr lf lmx]) H := hP
          replace hD : va_D A (vz_w [wkW h ki wh, woW g wh wa wi_26 wr wf ph rh (la 0), pgW g ph pa pr pf, rcW g rh ca ci cr_27 cf_28, plW g la lr lf lmx]) := hD
          refine lv_istore (lv' := [(6, .int v30), (5, .int v6), (4, .int v4), (3, .ref (pa 2)), (0, .ref h), (1, .int n1), (2, .int (nI dn))]) hx hb dX7_sum_151 hl (by decide) rfl (fun ls hl => ?_)
          refine lv_aload_n hx hb dX7_sum_153 rfl (lv_at hl 4 rfl) ?_
          refine va_get (D := D) (ci := 7) (v := .ref wh) (C := RX7) (T := TX7) (N := 7) hx hb hts inlX7 hown hK hP 0 rfl rfl 0 (by decide) (hts _ q152) (fun _ h => h) rfl dX7_sum_154 ?_
          refine va_get (D := D) (ci := 8) (v := .int (wi_26 1)) (C := RX8) (T := TX8) (N := 11) hx hb hts inlX8 hown hK hP 1 rfl rfl 9 (by decide) (hts _ q1040) (fun _ h => h) rfl dX7_sum_157 ?_
          refine lv_bipush (v := (-9)) hx hb dX7_sum_160 (by decide) ?_
          refine lv_icmp_ne (tgt := 179) hx hb dX7_sum_162 (by decide) (fun kc31 => ?_) (fun kc31 => ?_)
          · refine lv_iconst (v := 0) hx hb dX7_sum_179 (by decide) ?_
            exact J180 v4 v6 v30 0 wi_26 cr_27 cf_28 hw_29 H locs ls hP hD hS (lv_sub hl [4, 5, 6, 3, 2, 1, 0] rfl)
          · refine lv_aload_n hx hb dX7_sum_165 rfl (lv_at hl 4 rfl) ?_
            refine va_get (D := D) (ci := 7) (v := .ref wh) (C := RX7) (T := TX7) (N := 7) hx hb hts inlX7 hown hK hP 0 rfl rfl 0 (by decide) (hts _ q152) (fun _ h => h) rfl dX7_sum_166 ?_
            refine lv_iload hx hb dX7_sum_169 (lv_at hl 2 rfl) ?_
            refine lv_iload hx hb dX7_sum_171 (lv_at hl 0 rfl) ?_
            refine vz_Vi4 (n9 := 5) (bs2 := fun u : (Nat → Int32) × (Nat → Nat) × (Nat → Nat → Int32) => [wkW h ki wh, woW g wh wa u.1 wr wf ph rh (la 0), pgW g ph pa pr pf, rcW g rh ca ci u.2.1 u.2.2, plW g la lr lf lmx]) (br := [wkW h ki wh]) (As := [.int v4, .int v30]) (rest := []) hx hb hml hown hts hK hA hP hD hS (a_W_element l D g H.size wh wa wi_26 wr wf ph rh la pa pr pf ca ci cr_27 cf_28 lr lf lmx v4 v30 hw_w hw_p hw_29 hw_l hmx_l) kv_X7_200 ⟨by have hq := vz_lec (B := 40) (by decide) (by omega) kc3; dsimp only; omega, by have hq := vz_lec (B := 40) (by decide) (by omega) kc3; dsimp only; omega⟩ (q0 := 1) (ci := 8) rfl rfl rfl [1, 2, 3, 4] [0] rfl (by decide) rfl (fun _ => rfl) (fun _ => rfl) hl.1 (Nat.le_of_ble_eq_true rfl) dX7_sum_173 ⟨Nat.le_refl _, Nat.le_refl _⟩ rfl (fun v36 ⟨wi_32, cr_33, cf_34⟩ H locs hw_35 _ hP hD hS => ?_)
            try dsimp only at hw_35
            replace hP : va_P D vwCl (vz_w [wkW h ki wh, woW g wh wa wi_32 wr wf ph rh (la 0), pgW g ph pa pr pf, rcW g rh ca ci cr_33 cf_34, plW g la lr lf lmx]) H := hP
            replace hD : va_D A (vz_w [wkW h ki wh, woW g wh wa wi_32 wr wf ph rh (la 0), pgW g ph pa pr pf, rcW g rh ca ci cr_33 cf_34, plW g la lr lf lmx]) := hD
            refine lv_goto (tgt := 180) hx hb dX7_sum_176 (by decide) ?_
            exact J180 v4 v6 v30 v36 wi_32 cr_33 cf_34 hw_35 H locs ls hP hD hS (lv_sub hl [4, 5, 6, 3, 2, 1, 0] rfl)
        refine vz_tsw (td := 142) hx hb dX7_sum_59 (by decide) [96, 99, 142, 111, 121, 132] (by decide) (by decide) (fun hv => ?_) (fun k t hk hv => ?_)
        · exact S59_142
        · have hm := List.mem_of_getElem? hk
          simp only [List.mem_cons, List.not_mem_nil, or_false] at hm
          rcases hm with rfl | rfl | rfl | rfl | rfl | rfl
          · exact S59_96
          · exact S59_99
          · exact S59_142
          · exact S59_111
          · exact S59_121
          · exact S59_132
      · exact J24 wi cr cf hw_c H locs ls hP hD hS (lv_sub hl [0, 1, 2] rfl)
theorem a_K_sum9 (l : Launch) (D : va_G) (g : Nat → ClassId) : ∀ (k dn : Nat), dn + k = 41 → ∀ (sz : Nat) (h : Nat) (ki : Nat → Int32) (wh : Nat) (wa : Nat → Nat) (wi : Nat → Int32) (wr : Nat → Nat) (wf : Nat → Nat → Int32) (ph : Nat) (rh : Nat) (la : Nat → Nat) (pa : Nat → Nat) (pr : Nat → Nat) (pf : Nat → Nat → Int32) (ca : Nat → Nat) (ci : Nat → Int32) (cr : Nat → Nat) (cf : Nat → Nat → Int32) (lr : Nat → Nat) (lf : Nat → Nat → Int32) (lmx : Nat) (n1 : Int32) (hw_w : ∀ k, wr k ≤ woW_lim k) (hw_p : ∀ k, pr k ≤ pgW_lim k) (hw_c : ∀ k, cr k ≤ rcW_lim k) (hw_l : ∀ k, lr k ≤ (plW_lim lmx) k) (hmx_l : lmx ≤ 30), vz_Mi l D (tyG g) yX7_sum cX7_sum 7 (2 * (41 - dn) + 20) (53 * (41 - dn) + 900) 0 0 .int [.ref h, .int n1, .int (nI dn)] sz (vz_w [wkW h ki wh, woW g wh wa wi wr wf ph rh (la 0), pgW g ph pa pr pf, rcW g rh ca ci cr cf, plW g la lr lf lmx]) (fun r (u : (Nat → Int32) × (Nat → Nat) × (Nat → Nat → Int32)) => (∀ k, u.2.1 k ≤ rcW_lim k)) (fun u => vz_w [wkW h ki wh, woW g wh wa u.1 wr wf ph rh (la 0), pgW g ph pa pr pf, rcW g rh ca ci u.2.1 u.2.2, plW g la lr lf lmx]) := by
  intro k
  induction k with
  | zero => intro dn hk; exact a_K_sum l D g dn (by omega) (fun h => absurd h (by omega))
  | succ k ih => intro dn hk; exact a_K_sum l D g dn (by omega) (fun _ => ih (dn + 1) (by omega))
theorem q1088 : Cond.fieldLink RX7 66 "WaysAtlas$Program" "statements" "LWaysAtlas$Table;" ∈ wsL_law := mT_1 (List.mem_of_getElem? (i := 82) rfl) rfl
theorem dX7_at_0 : decode cX7_at 0 = .ok (.aload_n 0, 1) := by decide +kernel
theorem dX7_at_1 : decode cX7_at 1 = .ok (.getfield 9, 3) := by decide +kernel
theorem dX7_at_4 : decode cX7_at 4 = .ok (.getfield 62, 3) := by decide +kernel
theorem dX7_at_7 : decode cX7_at 7 = .ok (.getfield 66, 3) := by decide +kernel
theorem dX7_at_10 : decode cX7_at 10 = .ok (.iload_n 1, 1) := by decide +kernel
theorem dX7_at_11 : decode cX7_at 11 = .ok (.iload_n 2, 1) := by decide +kernel
theorem dX7_at_12 : decode cX7_at 12 = .ok (.invokevirtual 72, 3) := by decide +kernel
theorem dX7_at_15 : decode cX7_at 15 = .ok (.ireturn, 1) := by decide +kernel
set_option maxHeartbeats 8000000 in
set_option maxRecDepth 100000 in
theorem a_K_at (l : Launch) (D : va_G) (g : Nat → ClassId)   (sz : Nat) (h : Nat) (ki : Nat → Int32) (wh : Nat) (wa : Nat → Nat) (wi : Nat → Int32) (wr : Nat → Nat) (wf : Nat → Nat → Int32) (ph : Nat) (rh : Nat) (la : Nat → Nat) (pa : Nat → Nat) (pr : Nat → Nat) (pf : Nat → Nat → Int32) (ca : Nat → Nat) (ci : Nat → Int32) (cr : Nat → Nat) (cf : Nat → Nat → Int32) (lr : Nat → Nat) (lf : Nat → Nat → Int32) (lmx : Nat) (n1 : Int32) (n2 : Int32) (hw_w : ∀ k, wr k ≤ woW_lim k) (hw_p : ∀ k, pr k ≤ pgW_lim k) (hw_c : ∀ k, cr k ≤ rcW_lim k) (hw_l : ∀ k, lr k ≤ (plW_lim lmx) k) (hmx_l : lmx ≤ 30) : vz_Mi l D (tyG g) yX7_at cX7_at 3 1 23 0 0 .int [.ref h, .int n1, .int n2] sz (vz_w [wkW h ki wh, woW g wh wa wi wr wf ph rh (la 0), pgW g ph pa pr pf, rcW g rh ca ci cr cf, plW g la lr lf lmx]) (fun r (u : Unit) => True) (fun u => vz_w [wkW h ki wh, woW g wh wa wi wr wf ph rh (la 0), pgW g ph pa pr pf, rcW g rh ca ci cr cf, plW g la lr lf lmx]) := by
  refine vz_siQ (by decide) (Nat.le_of_ble_eq_true rfl) (fun p e s m args below meth c hx hb hr hml hts hown hlk hin hK hsz A hA H locs hP hD hS ls hl Q hQ => ?_)
  have hl : lv_has ls 3 [(0, .ref h), (1, .int n1), (2, .int n2)] := hl
  refine lv_aload_n hx hb dX7_at_0 rfl (lv_at hl 0 rfl) ?_
  refine va_get (D := D) (ci := 7) (v := .ref wh) (C := RX7) (T := TX7) (N := 7) hx hb hts inlX7 hown hK hP 0 rfl rfl 0 (by decide) (hts _ q152) (fun _ h => h) rfl dX7_at_1 ?_
  refine va_get (D := D) (ci := 8) (v := .ref ph) (C := RX8) (T := TX8) (N := 11) hx hb hts inlX8 hown hK hP 1 rfl rfl 5 (by decide) (hts _ q1045) (fun _ h => h) rfl dX7_at_4 ?_
  refine va_get (D := D) (ci := 2) (v := .ref (pa 0)) (C := RX2) (T := TX2) (N := 5) hx hb hts inlX2 hown hK hP 12 rfl rfl 0 (by decide) (hts _ q1088) (fun _ h => h) rfl dX7_at_7 ?_
  refine lv_iload_n hx hb dX7_at_10 rfl (lv_at hl 1 rfl) ?_
  refine lv_iload_n hx hb dX7_at_11 rfl (lv_at hl 2 rfl) ?_
  refine vz_Vi2 (ws' := fun u : Unit => vz_w [wkW h ki wh, woW g wh wa wi wr wf ph rh (la 0), pgW g ph pa pr pf, rcW g rh ca ci cr cf, plW g la lr lf lmx]) (As := [.int n1, .int n2]) (rest := []) hx hb hml hown hts hK hA hP hD hS (c_T_get l D g (pa 0) (pa 1) H.size 12 80 (pr 0) 960 (pf 0) n1 n2 ⟨rfl, by decide, by decide, by decide, by decide, hw_p 0⟩) kv_X7_72 ⟨Nat.le_of_ble_eq_true rfl, Nat.le_of_ble_eq_true rfl⟩ (q0 := 13) (ci := 6) rfl rfl rfl [13, 14] rfl (by decide) (fun _ => rfl) (fun _ => rfl) hl.1 (Nat.le_of_ble_eq_true rfl) dX7_at_12 ⟨Nat.le_refl _, Nat.le_refl _⟩ rfl (fun v1 _ H locs he2 _ hP hD hS => ?_)
  rw [hQ]
  exact vz_iret3 hx hb hr hlk hK hP hD hS () trivial rfl (Nat.le_refl 0) (Nat.le_refl 0) dX7_at_15
theorem q1084 : Cond.methodLink RX7 49 yX7_at ∈ wsL_law := mT_5 (List.mem_of_getElem? (i := 4) rfl) rfl
theorem q1085 : Cond.instanceMethod yX7_at ∈ wsL_law := mT_5 (List.mem_of_getElem? (i := 6) rfl) rfl
theorem q1086 : Cond.selects RX7 yX7_at yX7_at ∈ wsL_law := mS_5 (q := (yX7_at, 7)) (List.mem_of_getElem? (i := 3) rfl) rfl
theorem q1087 : Cond.code yX7_at cX7_at 3 (some .int) ∈ wsL_law := mT_5 (List.mem_of_getElem? (i := 7) rfl) rfl
theorem kv_X7_49 : vz_cv RX7 49 yX7_at cX7_at 3 (some .int) 2 := ⟨q1084, q1085, q1086, q51, q1087, by decide +kernel⟩
theorem q1176 : Cond.methodLink RX7 77 yX8_slot ∈ wsL_law := mT_5 (List.mem_of_getElem? (i := 90) rfl) rfl
theorem kv_X7_77 : vz_cv RX7 77 yX8_slot cX8_slot 3 (some .int) 2 := ⟨q1176, q1177, q1178, q47, q1179, by decide +kernel⟩
theorem dX7_slot_0 : decode cX7_slot 0 = .ok (.aload_n 0, 1) := by decide +kernel
theorem dX7_slot_1 : decode cX7_slot 1 = .ok (.getfield 9, 3) := by decide +kernel
theorem dX7_slot_4 : decode cX7_slot 4 = .ok (.aload_n 0, 1) := by decide +kernel
theorem dX7_slot_5 : decode cX7_slot 5 = .ok (.iload_n 1, 1) := by decide +kernel
theorem dX7_slot_6 : decode cX7_slot 6 = .ok (.bipush 9, 2) := by decide +kernel
theorem dX7_slot_8 : decode cX7_slot 8 = .ok (.invokevirtual 49, 3) := by decide +kernel
theorem dX7_slot_11 : decode cX7_slot 11 = .ok (.iload_n 2, 1) := by decide +kernel
theorem dX7_slot_12 : decode cX7_slot 12 = .ok (.invokevirtual 77, 3) := by decide +kernel
theorem dX7_slot_15 : decode cX7_slot 15 = .ok (.ireturn, 1) := by decide +kernel
set_option maxHeartbeats 8000000 in
set_option maxRecDepth 100000 in
theorem a_K_slot (l : Launch) (D : va_G) (g : Nat → ClassId)   (sz : Nat) (h : Nat) (ki : Nat → Int32) (wh : Nat) (wa : Nat → Nat) (wi : Nat → Int32) (wr : Nat → Nat) (wf : Nat → Nat → Int32) (ph : Nat) (rh : Nat) (la : Nat → Nat) (pa : Nat → Nat) (pr : Nat → Nat) (pf : Nat → Nat → Int32) (ca : Nat → Nat) (ci : Nat → Int32) (cr : Nat → Nat) (cf : Nat → Nat → Int32) (lr : Nat → Nat) (lf : Nat → Nat → Int32) (lmx : Nat) (n1 : Int32) (n2 : Int32) (hw_w : ∀ k, wr k ≤ woW_lim k) (hw_p : ∀ k, pr k ≤ pgW_lim k) (hw_c : ∀ k, cr k ≤ rcW_lim k) (hw_l : ∀ k, lr k ≤ (plW_lim lmx) k) (hmx_l : lmx ≤ 30) : vz_Mi l D (tyG g) yX7_slot cX7_slot 3 2 45 0 0 .int [.ref h, .int n1, .int n2] sz (vz_w [wkW h ki wh, woW g wh wa wi wr wf ph rh (la 0), pgW g ph pa pr pf, rcW g rh ca ci cr cf, plW g la lr lf lmx]) (fun r (u : Unit) => True) (fun u => vz_w [wkW h ki wh, woW g wh wa wi wr wf ph rh (la 0), pgW g ph pa pr pf, rcW g rh ca ci cr cf, plW g la lr lf lmx]) := by
  refine vz_siQ (by decide) (Nat.le_of_ble_eq_true rfl) (fun p e s m args below meth c hx hb hr hml hts hown hlk hin hK hsz A hA H locs hP hD hS ls hl Q hQ => ?_)
  have hl : lv_has ls 3 [(0, .ref h), (1, .int n1), (2, .int n2)] := hl
  refine lv_aload_n hx hb dX7_slot_0 rfl (lv_at hl 0 rfl) ?_
  refine va_get (D := D) (ci := 7) (v := .ref wh) (C := RX7) (T := TX7) (N := 7) hx hb hts inlX7 hown hK hP 0 rfl rfl 0 (by decide) (hts _ q152) (fun _ h => h) rfl dX7_slot_1 ?_
  refine lv_aload_n hx hb dX7_slot_4 rfl (lv_at hl 0 rfl) ?_
  refine lv_iload_n hx hb dX7_slot_5 rfl (lv_at hl 1 rfl) ?_
  refine lv_bipush (v := 9) hx hb dX7_slot_6 (by decide) ?_
  refine vz_Vi3 (As := [.int n1, .int 9]) (rest := [.ref wh]) hx hb hml hown hts hK hA hP hD hS (a_K_at l D g H.size h ki wh wa wi wr wf ph rh la pa pr pf ca ci cr cf lr lf lmx n1 9 hw_w hw_p hw_c hw_l hmx_l) kv_X7_49 ⟨Nat.le_of_ble_eq_true rfl, Nat.le_of_ble_eq_true rfl⟩ (q0 := 0) (ci := 7) rfl rfl rfl  hl.1 (Nat.le_of_ble_eq_true rfl) dX7_slot_8 ⟨Nat.le_refl _, Nat.le_refl _⟩ rfl (fun v1 _ H locs _ _ hP hD hS => ?_)
  refine lv_iload_n hx hb dX7_slot_11 rfl (lv_at hl 2 rfl) ?_
  refine vz_Vi4 (n9 := 5) (bs2 := fun u : Unit => [wkW h ki wh, woW g wh wa wi wr wf ph rh (la 0), pgW g ph pa pr pf, rcW g rh ca ci cr cf, plW g la lr lf lmx]) (br := [wkW h ki wh]) (As := [.int v1, .int n2]) (rest := []) hx hb hml hown hts hK hA hP hD hS (a_W_slot l D g H.size wh wa wi wr wf ph rh la pa pr pf ca ci cr cf lr lf lmx v1 n2 hw_w hw_p hw_c hw_l hmx_l) kv_X7_77 ⟨Nat.le_of_ble_eq_true rfl, Nat.le_of_ble_eq_true rfl⟩ (q0 := 1) (ci := 8) rfl rfl rfl [1, 2, 3, 4] [0] rfl (by decide) rfl (fun _ => rfl) (fun _ => rfl) hl.1 (Nat.le_of_ble_eq_true rfl) dX7_slot_12 ⟨Nat.le_refl _, Nat.le_refl _⟩ rfl (fun v2 _ H locs _ _ hP hD hS => ?_)
  rw [hQ]
  exact vz_iret3 hx hb hr hlk hK hP hD hS () trivial rfl (Nat.le_refl 0) (Nat.le_refl 0) dX7_slot_15
theorem q1164 : Cond.methodLink RX7 80 yX8_setSlot ∈ wsL_law := mT_5 (List.mem_of_getElem? (i := 78) rfl) rfl
theorem kv_X7_80 : vz_cv RX7 80 yX8_setSlot cX8_setSlot 4 none 3 := ⟨q1164, q1165, q1166, q47, q1167, by decide +kernel⟩
theorem dX7_setSlot_0 : decode cX7_setSlot 0 = .ok (.aload_n 0, 1) := by decide +kernel
theorem dX7_setSlot_1 : decode cX7_setSlot 1 = .ok (.getfield 9, 3) := by decide +kernel
theorem dX7_setSlot_4 : decode cX7_setSlot 4 = .ok (.aload_n 0, 1) := by decide +kernel
theorem dX7_setSlot_5 : decode cX7_setSlot 5 = .ok (.iload_n 1, 1) := by decide +kernel
theorem dX7_setSlot_6 : decode cX7_setSlot 6 = .ok (.bipush 9, 2) := by decide +kernel
theorem dX7_setSlot_8 : decode cX7_setSlot 8 = .ok (.invokevirtual 49, 3) := by decide +kernel
theorem dX7_setSlot_11 : decode cX7_setSlot 11 = .ok (.iload_n 2, 1) := by decide +kernel
theorem dX7_setSlot_12 : decode cX7_setSlot 12 = .ok (.iload_n 3, 1) := by decide +kernel
theorem dX7_setSlot_13 : decode cX7_setSlot 13 = .ok (.invokevirtual 80, 3) := by decide +kernel
theorem dX7_setSlot_16 : decode cX7_setSlot 16 = .ok (.return_, 1) := by decide +kernel
set_option maxHeartbeats 8000000 in
set_option maxRecDepth 100000 in
theorem a_K_setSlot (l : Launch) (D : va_G) (g : Nat → ClassId)   (sz : Nat) (h : Nat) (ki : Nat → Int32) (wh : Nat) (wa : Nat → Nat) (wi : Nat → Int32) (wr : Nat → Nat) (wf : Nat → Nat → Int32) (ph : Nat) (rh : Nat) (la : Nat → Nat) (pa : Nat → Nat) (pr : Nat → Nat) (pf : Nat → Nat → Int32) (ca : Nat → Nat) (ci : Nat → Int32) (cr : Nat → Nat) (cf : Nat → Nat → Int32) (lr : Nat → Nat) (lf : Nat → Nat → Int32) (lmx : Nat) (n1 : Int32) (n2 : Int32) (n3 : Int32) (hw_w : ∀ k, wr k ≤ woW_lim k) (hw_p : ∀ k, pr k ≤ pgW_lim k) (hw_c : ∀ k, cr k ≤ rcW_lim k) (hw_l : ∀ k, lr k ≤ (plW_lim lmx) k) (hmx_l : lmx ≤ 30) : vz_Mv l D (tyG g) yX7_setSlot cX7_setSlot 4 2 47 0 0 [.ref h, .int n1, .int n2, .int n3] sz (vz_w [wkW h ki wh, woW g wh wa wi wr wf ph rh (la 0), pgW g ph pa pr pf, rcW g rh ca ci cr cf, plW g la lr lf lmx]) (fun u : (Nat → Nat → Int32) => True) (fun u => vz_w [wkW h ki wh, woW g wh wa wi wr u ph rh (la 0), pgW g ph pa pr pf, rcW g rh ca ci cr cf, plW g la lr lf lmx]) := by
  refine vz_svQ (by decide) (Nat.le_of_ble_eq_true rfl) (fun p e s m args below meth c hx hb hr hml hts hown hlk hin hK hsz A hA H locs hP hD hS ls hl Q hQ => ?_)
  have hl : lv_has ls 4 [(0, .ref h), (1, .int n1), (2, .int n2), (3, .int n3)] := hl
  refine lv_aload_n hx hb dX7_setSlot_0 rfl (lv_at hl 0 rfl) ?_
  refine va_get (D := D) (ci := 7) (v := .ref wh) (C := RX7) (T := TX7) (N := 7) hx hb hts inlX7 hown hK hP 0 rfl rfl 0 (by decide) (hts _ q152) (fun _ h => h) rfl dX7_setSlot_1 ?_
  refine lv_aload_n hx hb dX7_setSlot_4 rfl (lv_at hl 0 rfl) ?_
  refine lv_iload_n hx hb dX7_setSlot_5 rfl (lv_at hl 1 rfl) ?_
  refine lv_bipush (v := 9) hx hb dX7_setSlot_6 (by decide) ?_
  refine vz_Vi3 (As := [.int n1, .int 9]) (rest := [.ref wh]) hx hb hml hown hts hK hA hP hD hS (a_K_at l D g H.size h ki wh wa wi wr wf ph rh la pa pr pf ca ci cr cf lr lf lmx n1 9 hw_w hw_p hw_c hw_l hmx_l) kv_X7_49 ⟨Nat.le_of_ble_eq_true rfl, Nat.le_of_ble_eq_true rfl⟩ (q0 := 0) (ci := 7) rfl rfl rfl  hl.1 (Nat.le_of_ble_eq_true rfl) dX7_setSlot_8 ⟨Nat.le_refl _, Nat.le_refl _⟩ rfl (fun v1 _ H locs _ _ hP hD hS => ?_)
  refine lv_iload_n hx hb dX7_setSlot_11 rfl (lv_at hl 2 rfl) ?_
  refine lv_iload_n hx hb dX7_setSlot_12 rfl (lv_at hl 3 rfl) ?_
  refine vz_Vv4 (n9 := 5) (bs2 := fun u : (Nat → Nat → Int32) => [wkW h ki wh, woW g wh wa wi wr u ph rh (la 0), pgW g ph pa pr pf, rcW g rh ca ci cr cf, plW g la lr lf lmx]) (br := [wkW h ki wh]) (As := [.int v1, .int n2, .int n3]) (rest := []) hx hb hml hown hts hK hA hP hD hS (a_W_setSlot l D g H.size wh wa wi wr wf ph rh la pa pr pf ca ci cr cf lr lf lmx v1 n2 n3 hw_w hw_p hw_c hw_l hmx_l) kv_X7_80 ⟨Nat.le_of_ble_eq_true rfl, Nat.le_of_ble_eq_true rfl⟩ (q0 := 1) (ci := 8) rfl rfl rfl [1, 2, 3, 4] [0] rfl (by decide) rfl (fun _ => rfl) (fun _ => rfl) hl.1 (Nat.le_of_ble_eq_true rfl) dX7_setSlot_13 ⟨Nat.le_refl _, Nat.le_refl _⟩ rfl (fun wf_2 H locs _ _ hP hD hS => ?_)
  replace hP : va_P D vwCl (vz_w [wkW h ki wh, woW g wh wa wi wr wf_2 ph rh (la 0), pgW g ph pa pr pf, rcW g rh ca ci cr cf, plW g la lr lf lmx]) H := hP
  replace hD : va_D A (vz_w [wkW h ki wh, woW g wh wa wi wr wf_2 ph rh (la 0), pgW g ph pa pr pf, rcW g rh ca ci cr cf, plW g la lr lf lmx]) := hD
  rw [hQ]
  exact vz_vret3 hx hb hr hlk hK hP hD hS wf_2 trivial rfl (Nat.le_refl 0) (Nat.le_refl 0) dX7_setSlot_16
theorem q1048 : Cond.methodLink RX7 83 yX8_enter ∈ wsL_law := mT_4 (List.mem_of_getElem? (i := 213) rfl) rfl
theorem q1049 : Cond.instanceMethod yX8_enter ∈ wsL_law := mT_4 (List.mem_of_getElem? (i := 214) rfl) rfl
theorem q1050 : Cond.selects RX8 yX8_enter yX8_enter ∈ wsL_law := mT_4 (List.mem_of_getElem? (i := 215) rfl) rfl
theorem q1051 : Cond.code yX8_enter cX8_enter 6 none ∈ wsL_law := mT_4 (List.mem_of_getElem? (i := 216) rfl) rfl
theorem kv_X7_83 : vz_cv RX7 83 yX8_enter cX8_enter 6 none 3 := ⟨q1048, q1049, q1050, q47, q1051, by decide +kernel⟩
theorem q1046 : Cond.fieldLink RX7 84 "WaysAtlas$Program" "methods" "LWaysAtlas$Table;" ∈ wsL_law := mT_1 (List.mem_of_getElem? (i := 104) rfl) rfl
theorem q153 : Cond.fieldLink RX7 15 "WaysAtlas$Walker" "cursor" "I" ∈ wsL_law := mT_2 (List.mem_of_getElem? (i := 87) rfl) rfl
theorem q154 : Cond.fieldLink RX7 19 "WaysAtlas$Walker" "inside" "I" ∈ wsL_law := mT_2 (List.mem_of_getElem? (i := 88) rfl) rfl
theorem q1047 : Cond.fieldLink RX7 87 "WaysAtlas$Walker" "way" "I" ∈ wsL_law := mT_2 (List.mem_of_getElem? (i := 89) rfl) rfl
theorem dX7_enter_0 : decode cX7_enter 0 = .ok (.aload_n 0, 1) := by decide +kernel
theorem dX7_enter_1 : decode cX7_enter 1 = .ok (.getfield 9, 3) := by decide +kernel
theorem dX7_enter_4 : decode cX7_enter 4 = .ok (.iload_n 1, 1) := by decide +kernel
theorem dX7_enter_5 : decode cX7_enter 5 = .ok (.iload_n 2, 1) := by decide +kernel
theorem dX7_enter_6 : decode cX7_enter 6 = .ok (.iload_n 3, 1) := by decide +kernel
theorem dX7_enter_7 : decode cX7_enter 7 = .ok (.invokevirtual 83, 3) := by decide +kernel
theorem dX7_enter_10 : decode cX7_enter 10 = .ok (.aload_n 0, 1) := by decide +kernel
theorem dX7_enter_11 : decode cX7_enter 11 = .ok (.aload_n 0, 1) := by decide +kernel
theorem dX7_enter_12 : decode cX7_enter 12 = .ok (.getfield 9, 3) := by decide +kernel
theorem dX7_enter_15 : decode cX7_enter 15 = .ok (.getfield 62, 3) := by decide +kernel
theorem dX7_enter_18 : decode cX7_enter 18 = .ok (.getfield 84, 3) := by decide +kernel
theorem dX7_enter_21 : decode cX7_enter 21 = .ok (.iload_n 1, 1) := by decide +kernel
theorem dX7_enter_22 : decode cX7_enter 22 = .ok (.iconst 0, 1) := by decide +kernel
theorem dX7_enter_23 : decode cX7_enter 23 = .ok (.invokevirtual 72, 3) := by decide +kernel
theorem dX7_enter_26 : decode cX7_enter 26 = .ok (.putfield 15, 3) := by decide +kernel
theorem dX7_enter_29 : decode cX7_enter 29 = .ok (.aload_n 0, 1) := by decide +kernel
theorem dX7_enter_30 : decode cX7_enter 30 = .ok (.bipush (-9), 2) := by decide +kernel
theorem dX7_enter_32 : decode cX7_enter 32 = .ok (.putfield 19, 3) := by decide +kernel
theorem dX7_enter_35 : decode cX7_enter 35 = .ok (.aload_n 0, 1) := by decide +kernel
theorem dX7_enter_36 : decode cX7_enter 36 = .ok (.iconst 0, 1) := by decide +kernel
theorem dX7_enter_37 : decode cX7_enter 37 = .ok (.putfield 87, 3) := by decide +kernel
theorem dX7_enter_40 : decode cX7_enter 40 = .ok (.return_, 1) := by decide +kernel
set_option maxHeartbeats 8000000 in
set_option maxRecDepth 100000 in
theorem a_K_enter (l : Launch) (D : va_G) (g : Nat → ClassId)   (sz : Nat) (h : Nat) (ki : Nat → Int32) (wh : Nat) (wa : Nat → Nat) (wi : Nat → Int32) (wr : Nat → Nat) (wf : Nat → Nat → Int32) (ph : Nat) (rh : Nat) (la : Nat → Nat) (pa : Nat → Nat) (pr : Nat → Nat) (pf : Nat → Nat → Int32) (ca : Nat → Nat) (ci : Nat → Int32) (cr : Nat → Nat) (cf : Nat → Nat → Int32) (lr : Nat → Nat) (lf : Nat → Nat → Int32) (lmx : Nat) (n1 : Int32) (n2 : Int32) (n3 : Int32) (hw_w : ∀ k, wr k ≤ woW_lim k) (hw_p : ∀ k, pr k ≤ pgW_lim k) (hw_c : ∀ k, cr k ≤ rcW_lim k) (hw_l : ∀ k, lr k ≤ (plW_lim lmx) k) (hmx_l : lmx ≤ 30) : vz_Mv l D (tyG g) yX7_enter cX7_enter 4 3 71 0 0 [.ref h, .int n1, .int n2, .int n3] sz (vz_w [wkW h ki wh, woW g wh wa wi wr wf ph rh (la 0), pgW g ph pa pr pf, rcW g rh ca ci cr cf, plW g la lr lf lmx]) (fun u : (Nat → Int32) × (Nat → Nat) × (Nat → Nat → Int32) × (Nat → Int32) × (Nat → Nat) × (Nat → Nat → Int32) => (∀ k, u.2.1 k ≤ woW_lim k) ∧ (∀ k, u.2.2.2.2.1 k ≤ rcW_lim k)) (fun u => vz_w [wkW h u.1 wh, woW g wh wa wi u.2.1 u.2.2.1 ph rh (la 0), pgW g ph pa pr pf, rcW g rh ca u.2.2.2.1 u.2.2.2.2.1 u.2.2.2.2.2, plW g la lr lf lmx]) := by
  refine vz_svQ (by decide) (Nat.le_of_ble_eq_true rfl) (fun p e s m args below meth c hx hb hr hml hts hown hlk hin hK hsz A hA H locs hP hD hS ls hl Q hQ => ?_)
  have hl : lv_has ls 4 [(0, .ref h), (1, .int n1), (2, .int n2), (3, .int n3)] := hl
  refine lv_aload_n hx hb dX7_enter_0 rfl (lv_at hl 0 rfl) ?_
  refine va_get (D := D) (ci := 7) (v := .ref wh) (C := RX7) (T := TX7) (N := 7) hx hb hts inlX7 hown hK hP 0 rfl rfl 0 (by decide) (hts _ q152) (fun _ h => h) rfl dX7_enter_1 ?_
  refine lv_iload_n hx hb dX7_enter_4 rfl (lv_at hl 1 rfl) ?_
  refine lv_iload_n hx hb dX7_enter_5 rfl (lv_at hl 2 rfl) ?_
  refine lv_iload_n hx hb dX7_enter_6 rfl (lv_at hl 3 rfl) ?_
  refine vz_Vv4 (n9 := 5) (bs2 := fun u : (Nat → Nat) × (Nat → Nat → Int32) × (Nat → Int32) × (Nat → Nat) × (Nat → Nat → Int32) => [wkW h ki wh, woW g wh wa wi u.1 u.2.1 ph rh (la 0), pgW g ph pa pr pf, rcW g rh ca u.2.2.1 u.2.2.2.1 u.2.2.2.2, plW g la lr lf lmx]) (br := [wkW h ki wh]) (As := [.int n1, .int n2, .int n3]) (rest := []) hx hb hml hown hts hK hA hP hD hS (a_W_enter l D g H.size wh wa wi wr wf ph rh la pa pr pf ca ci cr cf lr lf lmx n1 n2 n3 hw_w hw_p hw_c hw_l hmx_l) kv_X7_83 ⟨Nat.le_of_ble_eq_true rfl, Nat.le_of_ble_eq_true rfl⟩ (q0 := 1) (ci := 8) rfl rfl rfl [1, 2, 3, 4] [0] rfl (by decide) rfl (fun _ => rfl) (fun _ => rfl) hl.1 (Nat.le_of_ble_eq_true rfl) dX7_enter_7 ⟨Nat.le_refl _, Nat.le_refl _⟩ rfl (fun ⟨wr_1, wf_2, ci_3, cr_4, cf_5⟩ H locs ⟨hw_6, hw_7⟩ _ hP hD hS => ?_)
  try dsimp only at hw_6 hw_7
  replace hP : va_P D vwCl (vz_w [wkW h ki wh, woW g wh wa wi wr_1 wf_2 ph rh (la 0), pgW g ph pa pr pf, rcW g rh ca ci_3 cr_4 cf_5, plW g la lr lf lmx]) H := hP
  replace hD : va_D A (vz_w [wkW h ki wh, woW g wh wa wi wr_1 wf_2 ph rh (la 0), pgW g ph pa pr pf, rcW g rh ca ci_3 cr_4 cf_5, plW g la lr lf lmx]) := hD
  refine lv_aload_n hx hb dX7_enter_10 rfl (lv_at hl 0 rfl) ?_
  refine lv_aload_n hx hb dX7_enter_11 rfl (lv_at hl 0 rfl) ?_
  refine va_get (D := D) (ci := 7) (v := .ref wh) (C := RX7) (T := TX7) (N := 7) hx hb hts inlX7 hown hK hP 0 rfl rfl 0 (by decide) (hts _ q152) (fun _ h => h) rfl dX7_enter_12 ?_
  refine va_get (D := D) (ci := 8) (v := .ref ph) (C := RX8) (T := TX8) (N := 11) hx hb hts inlX8 hown hK hP 1 rfl rfl 5 (by decide) (hts _ q1045) (fun _ h => h) rfl dX7_enter_15 ?_
  refine va_get (D := D) (ci := 2) (v := .ref (pa 8)) (C := RX2) (T := TX2) (N := 5) hx hb hts inlX2 hown hK hP 12 rfl rfl 4 (by decide) (hts _ q1046) (fun _ h => h) rfl dX7_enter_18 ?_
  refine lv_iload_n hx hb dX7_enter_21 rfl (lv_at hl 1 rfl) ?_
  refine lv_iconst (v := 0) hx hb dX7_enter_22 (by decide) ?_
  refine vz_Vi2 (ws' := fun u : Unit => vz_w [wkW h ki wh, woW g wh wa wi wr_1 wf_2 ph rh (la 0), pgW g ph pa pr pf, rcW g rh ca ci_3 cr_4 cf_5, plW g la lr lf lmx]) (As := [.int n1, .int 0]) (rest := [.ref h]) hx hb hml hown hts hK hA hP hD hS (c_T_get l D g (pa 8) (pa 9) H.size 2 8 (pr 4) 16 (pf 4) n1 0 ⟨rfl, by decide, by decide, by decide, by decide, hw_p 4⟩) kv_X7_72 ⟨Nat.le_of_ble_eq_true rfl, Nat.le_of_ble_eq_true rfl⟩ (q0 := 21) (ci := 6) rfl rfl rfl [21, 22] rfl (by decide) (fun _ => rfl) (fun _ => rfl) hl.1 (Nat.le_of_ble_eq_true rfl) dX7_enter_23 ⟨Nat.le_refl _, Nat.le_refl _⟩ rfl (fun v8 _ H locs he9 _ hP hD hS => ?_)
  refine va_put (D := D) (ci := 7) (v := .int v8) (ty := .int) (C := RX7) (T := TX7) (N := 7) hx hb hts inlX7 tyX7 tyX7_ok nmX7 hown hK hP hD hS 0 rfl rfl 1 (by decide) (hts _ q153) (fun _ h => h) rfl (by decide +kernel) rfl rfl (Nat.le_of_ble_eq_true rfl) dX7_enter_26 (fun H locs hP hD hS => ?_)
  obtain ⟨ki_10, hki_10, hP, hD⟩ : ∃ ki_10 : Nat → Int32, (ki_10 = (upd ki 0 v8)) ∧ va_P D vwCl (vz_w [wkW h ki_10 wh, woW g wh wa wi wr_1 wf_2 ph rh (la 0), pgW g ph pa pr pf, rcW g rh ca ci_3 cr_4 cf_5, plW g la lr lf lmx]) H ∧ va_D A (vz_w [wkW h ki_10 wh, woW g wh wa wi wr_1 wf_2 ph rh (la 0), pgW g ph pa pr pf, rcW g rh ca ci_3 cr_4 cf_5, plW g la lr lf lmx]) := ⟨(upd ki 0 v8), rfl, hP, hD⟩
  refine lv_aload_n hx hb dX7_enter_29 rfl (lv_at hl 0 rfl) ?_
  refine lv_bipush (v := (-9)) hx hb dX7_enter_30 (by decide) ?_
  refine va_put (D := D) (ci := 7) (v := .int (-9)) (ty := .int) (C := RX7) (T := TX7) (N := 7) hx hb hts inlX7 tyX7 tyX7_ok nmX7 hown hK hP hD hS 0 rfl rfl 2 (by decide) (hts _ q154) (fun _ h => h) rfl (by decide +kernel) rfl rfl (Nat.le_of_ble_eq_true rfl) dX7_enter_32 (fun H locs hP hD hS => ?_)
  obtain ⟨ki_11, hki_11, hP, hD⟩ : ∃ ki_11 : Nat → Int32, (ki_11 = (upd ki_10 1 (-9))) ∧ va_P D vwCl (vz_w [wkW h ki_11 wh, woW g wh wa wi wr_1 wf_2 ph rh (la 0), pgW g ph pa pr pf, rcW g rh ca ci_3 cr_4 cf_5, plW g la lr lf lmx]) H ∧ va_D A (vz_w [wkW h ki_11 wh, woW g wh wa wi wr_1 wf_2 ph rh (la 0), pgW g ph pa pr pf, rcW g rh ca ci_3 cr_4 cf_5, plW g la lr lf lmx]) := ⟨(upd ki_10 1 (-9)), rfl, hP, hD⟩
  refine lv_aload_n hx hb dX7_enter_35 rfl (lv_at hl 0 rfl) ?_
  refine lv_iconst (v := 0) hx hb dX7_enter_36 (by decide) ?_
  refine va_put (D := D) (ci := 7) (v := .int 0) (ty := .int) (C := RX7) (T := TX7) (N := 7) hx hb hts inlX7 tyX7 tyX7_ok nmX7 hown hK hP hD hS 0 rfl rfl 3 (by decide) (hts _ q1047) (fun _ h => h) rfl (by decide +kernel) rfl rfl (Nat.le_of_ble_eq_true rfl) dX7_enter_37 (fun H locs hP hD hS => ?_)
  obtain ⟨ki_12, hki_12, hP, hD⟩ : ∃ ki_12 : Nat → Int32, (ki_12 = (upd ki_11 2 0)) ∧ va_P D vwCl (vz_w [wkW h ki_12 wh, woW g wh wa wi wr_1 wf_2 ph rh (la 0), pgW g ph pa pr pf, rcW g rh ca ci_3 cr_4 cf_5, plW g la lr lf lmx]) H ∧ va_D A (vz_w [wkW h ki_12 wh, woW g wh wa wi wr_1 wf_2 ph rh (la 0), pgW g ph pa pr pf, rcW g rh ca ci_3 cr_4 cf_5, plW g la lr lf lmx]) := ⟨(upd ki_11 2 0), rfl, hP, hD⟩
  rw [hQ]
  exact vz_vret3 hx hb hr hlk hK hP hD hS (ki_12, wr_1, wf_2, ci_3, cr_4, cf_5) (⟨hw_6, hw_7⟩) rfl (Nat.le_refl 0) (Nat.le_refl 0) dX7_enter_40
theorem dX7_goOn_0 : decode cX7_goOn 0 = .ok (.aload_n 0, 1) := by decide +kernel
theorem dX7_goOn_1 : decode cX7_goOn 1 = .ok (.aload_n 0, 1) := by decide +kernel
theorem dX7_goOn_2 : decode cX7_goOn 2 = .ok (.iload_n 1, 1) := by decide +kernel
theorem dX7_goOn_3 : decode cX7_goOn 3 = .ok (.bipush 10, 2) := by decide +kernel
theorem dX7_goOn_5 : decode cX7_goOn 5 = .ok (.invokevirtual 49, 3) := by decide +kernel
theorem dX7_goOn_8 : decode cX7_goOn 8 = .ok (.putfield 19, 3) := by decide +kernel
theorem dX7_goOn_11 : decode cX7_goOn 11 = .ok (.aload_n 0, 1) := by decide +kernel
theorem dX7_goOn_12 : decode cX7_goOn 12 = .ok (.aload_n 0, 1) := by decide +kernel
theorem dX7_goOn_13 : decode cX7_goOn 13 = .ok (.getfield 87, 3) := by decide +kernel
theorem dX7_goOn_16 : decode cX7_goOn 16 = .ok (.ifCond .ne 13, 3) := by decide +kernel
theorem dX7_goOn_19 : decode cX7_goOn 19 = .ok (.aload_n 0, 1) := by decide +kernel
theorem dX7_goOn_20 : decode cX7_goOn 20 = .ok (.iload_n 1, 1) := by decide +kernel
theorem dX7_goOn_21 : decode cX7_goOn 21 = .ok (.bipush 8, 2) := by decide +kernel
theorem dX7_goOn_23 : decode cX7_goOn 23 = .ok (.invokevirtual 49, 3) := by decide +kernel
theorem dX7_goOn_26 : decode cX7_goOn 26 = .ok (.goto 5, 3) := by decide +kernel
theorem dX7_goOn_29 : decode cX7_goOn 29 = .ok (.bipush (-9), 2) := by decide +kernel
theorem dX7_goOn_31 : decode cX7_goOn 31 = .ok (.putfield 15, 3) := by decide +kernel
theorem dX7_goOn_34 : decode cX7_goOn 34 = .ok (.return_, 1) := by decide +kernel
set_option maxHeartbeats 8000000 in
set_option maxRecDepth 100000 in
theorem a_K_goOn (l : Launch) (D : va_G) (g : Nat → ClassId)   (sz : Nat) (h : Nat) (ki : Nat → Int32) (wh : Nat) (wa : Nat → Nat) (wi : Nat → Int32) (wr : Nat → Nat) (wf : Nat → Nat → Int32) (ph : Nat) (rh : Nat) (la : Nat → Nat) (pa : Nat → Nat) (pr : Nat → Nat) (pf : Nat → Nat → Int32) (ca : Nat → Nat) (ci : Nat → Int32) (cr : Nat → Nat) (cf : Nat → Nat → Int32) (lr : Nat → Nat) (lf : Nat → Nat → Int32) (lmx : Nat) (n1 : Int32) (hw_w : ∀ k, wr k ≤ woW_lim k) (hw_p : ∀ k, pr k ≤ pgW_lim k) (hw_c : ∀ k, cr k ≤ rcW_lim k) (hw_l : ∀ k, lr k ≤ (plW_lim lmx) k) (hmx_l : lmx ≤ 30) : vz_Mv l D (tyG g) yX7_goOn cX7_goOn 2 2 45 0 0 [.ref h, .int n1] sz (vz_w [wkW h ki wh, woW g wh wa wi wr wf ph rh (la 0), pgW g ph pa pr pf, rcW g rh ca ci cr cf, plW g la lr lf lmx]) (fun u : (Nat → Int32) => True) (fun u => vz_w [wkW h u wh, woW g wh wa wi wr wf ph rh (la 0), pgW g ph pa pr pf, rcW g rh ca ci cr cf, plW g la lr lf lmx]) := by
  refine vz_svQ (by decide) (Nat.le_of_ble_eq_true rfl) (fun p e s m args below meth c hx hb hr hml hts hown hlk hin hK hsz A hA H locs hP hD hS ls hl Q hQ => ?_)
  have hl : lv_has ls 2 [(0, .ref h), (1, .int n1)] := hl
  have J31 : ∀ (y0_31 : Int32), ∀ (ki_31 : Nat → Int32), ∀ (H : Heap) (locs : List Loc) (ls : Array Slot), va_P D vwCl (vz_w [wkW h ki_31 wh, woW g wh wa wi wr wf ph rh (la 0), pgW g ph pa pr pf, rcW g rh ca ci cr cf, plW g la lr lf lmx]) H → va_D A (vz_w [wkW h ki_31 wh, woW g wh wa wi wr wf ph rh (la 0), pgW g ph pa pr pf, rcW g rh ca ci cr cf, plW g la lr lf lmx]) → va_S A s.heap H locs → lv_has ls 2 [(0, .ref h), (1, .int n1)] → W p l e { frames := 2, cells := 0, slots := 0, locals := 45 } s m args below meth c H locs 0 0 Q (F0 m 31 ls [.int y0_31, .ref h]) := by
    intro y0_31 ki_31 H locs ls hP hD hS hl
    refine va_put (D := D) (ci := 7) (v := .int y0_31) (ty := .int) (C := RX7) (T := TX7) (N := 7) hx hb hts inlX7 tyX7 tyX7_ok nmX7 hown hK hP hD hS 0 rfl rfl 1 (by decide) (hts _ q153) (fun _ h => h) rfl (by decide +kernel) rfl rfl (Nat.le_of_ble_eq_true rfl) dX7_goOn_31 (fun H locs hP hD hS => ?_)
    obtain ⟨ki_1, hki_1, hP, hD⟩ : ∃ ki_1 : Nat → Int32, (ki_1 = (upd ki_31 0 y0_31)) ∧ va_P D vwCl (vz_w [wkW h ki_1 wh, woW g wh wa wi wr wf ph rh (la 0), pgW g ph pa pr pf, rcW g rh ca ci cr cf, plW g la lr lf lmx]) H ∧ va_D A (vz_w [wkW h ki_1 wh, woW g wh wa wi wr wf ph rh (la 0), pgW g ph pa pr pf, rcW g rh ca ci cr cf, plW g la lr lf lmx]) := ⟨(upd ki_31 0 y0_31), rfl, hP, hD⟩
    rw [hQ]
    exact vz_vret3 hx hb hr hlk hK hP hD hS ki_1 trivial rfl (Nat.le_refl 0) (Nat.le_refl 0) dX7_goOn_34
  refine lv_aload_n hx hb dX7_goOn_0 rfl (lv_at hl 0 rfl) ?_
  refine lv_aload_n hx hb dX7_goOn_1 rfl (lv_at hl 0 rfl) ?_
  refine lv_iload_n hx hb dX7_goOn_2 rfl (lv_at hl 1 rfl) ?_
  refine lv_bipush (v := 10) hx hb dX7_goOn_3 (by decide) ?_
  refine vz_Vi3 (As := [.int n1, .int 10]) (rest := [.ref h]) hx hb hml hown hts hK hA hP hD hS (a_K_at l D g H.size h ki wh wa wi wr wf ph rh la pa pr pf ca ci cr cf lr lf lmx n1 10 hw_w hw_p hw_c hw_l hmx_l) kv_X7_49 ⟨Nat.le_of_ble_eq_true rfl, Nat.le_of_ble_eq_true rfl⟩ (q0 := 0) (ci := 7) rfl rfl rfl  hl.1 (Nat.le_of_ble_eq_true rfl) dX7_goOn_5 ⟨Nat.le_refl _, Nat.le_refl _⟩ rfl (fun v1 _ H locs _ _ hP hD hS => ?_)
  refine va_put (D := D) (ci := 7) (v := .int v1) (ty := .int) (C := RX7) (T := TX7) (N := 7) hx hb hts inlX7 tyX7 tyX7_ok nmX7 hown hK hP hD hS 0 rfl rfl 2 (by decide) (hts _ q154) (fun _ h => h) rfl (by decide +kernel) rfl rfl (Nat.le_of_ble_eq_true rfl) dX7_goOn_8 (fun H locs hP hD hS => ?_)
  obtain ⟨ki_2, hki_2, hP, hD⟩ : ∃ ki_2 : Nat → Int32, (ki_2 = (upd ki 1 v1)) ∧ va_P D vwCl (vz_w [wkW h ki_2 wh, woW g wh wa wi wr wf ph rh (la 0), pgW g ph pa pr pf, rcW g rh ca ci cr cf, plW g la lr lf lmx]) H ∧ va_D A (vz_w [wkW h ki_2 wh, woW g wh wa wi wr wf ph rh (la 0), pgW g ph pa pr pf, rcW g rh ca ci cr cf, plW g la lr lf lmx]) := ⟨(upd ki 1 v1), rfl, hP, hD⟩
  refine lv_aload_n hx hb dX7_goOn_11 rfl (lv_at hl 0 rfl) ?_
  refine lv_aload_n hx hb dX7_goOn_12 rfl (lv_at hl 0 rfl) ?_
  refine va_get (D := D) (ci := 7) (v := .int (ki_2 2)) (C := RX7) (T := TX7) (N := 7) hx hb hts inlX7 hown hK hP 0 rfl rfl 3 (by decide) (hts _ q1047) (fun _ h => h) rfl dX7_goOn_13 ?_
  refine lv_if_ne (tgt := 29) hx hb dX7_goOn_16 (by decide) (fun kc3 => ?_) (fun kc3 => ?_)
  · refine lv_bipush (v := (-9)) hx hb dX7_goOn_29 (by decide) ?_
    exact J31 (-9) ki_2 H locs ls hP hD hS (lv_sub hl [0, 1] rfl)
  · refine lv_aload_n hx hb dX7_goOn_19 rfl (lv_at hl 0 rfl) ?_
    refine lv_iload_n hx hb dX7_goOn_20 rfl (lv_at hl 1 rfl) ?_
    refine lv_bipush (v := 8) hx hb dX7_goOn_21 (by decide) ?_
    refine vz_Vi3 (As := [.int n1, .int 8]) (rest := [.ref h]) hx hb hml hown hts hK hA hP hD hS (a_K_at l D g H.size h ki_2 wh wa wi wr wf ph rh la pa pr pf ca ci cr cf lr lf lmx n1 8 hw_w hw_p hw_c hw_l hmx_l) kv_X7_49 ⟨Nat.le_of_ble_eq_true rfl, Nat.le_of_ble_eq_true rfl⟩ (q0 := 0) (ci := 7) rfl rfl rfl  hl.1 (Nat.le_of_ble_eq_true rfl) dX7_goOn_23 ⟨Nat.le_refl _, Nat.le_refl _⟩ rfl (fun v4 _ H locs _ _ hP hD hS => ?_)
    refine lv_goto (tgt := 31) hx hb dX7_goOn_26 (by decide) ?_
    exact J31 v4 ki_2 H locs ls hP hD hS (lv_sub hl [0, 1] rfl)
theorem q1151 : Cond.fieldLink RX7 90 "WaysAtlas$Walker" "value" "I" ∈ wsL_law := mT_2 (List.mem_of_getElem? (i := 90) rfl) rfl
theorem q1192 : Cond.methodLink RX7 93 yX8_leave ∈ wsL_law := mT_5 (List.mem_of_getElem? (i := 106) rfl) rfl
theorem q1193 : Cond.instanceMethod yX8_leave ∈ wsL_law := mT_5 (List.mem_of_getElem? (i := 107) rfl) rfl
theorem q1194 : Cond.selects RX8 yX8_leave yX8_leave ∈ wsL_law := mT_5 (List.mem_of_getElem? (i := 108) rfl) rfl
theorem q1195 : Cond.code yX8_leave cX8_leave 1 none ∈ wsL_law := mT_5 (List.mem_of_getElem? (i := 109) rfl) rfl
theorem kv_X7_93 : vz_cv RX7 93 yX8_leave cX8_leave 1 none 0 := ⟨q1192, q1193, q1194, q47, q1195, by decide +kernel⟩
theorem q1134 : Cond.methodLink RX7 94 yX8_active ∈ wsL_law := mT_5 (List.mem_of_getElem? (i := 49) rfl) rfl
theorem q1135 : Cond.instanceMethod yX8_active ∈ wsL_law := mT_5 (List.mem_of_getElem? (i := 50) rfl) rfl
theorem q1136 : Cond.selects RX8 yX8_active yX8_active ∈ wsL_law := mT_5 (List.mem_of_getElem? (i := 51) rfl) rfl
theorem q1137 : Cond.code yX8_active cX8_active 1 (some .int) ∈ wsL_law := mT_5 (List.mem_of_getElem? (i := 52) rfl) rfl
theorem kv_X7_94 : vz_cv RX7 94 yX8_active cX8_active 1 (some .int) 0 := ⟨q1134, q1135, q1136, q47, q1137, by decide +kernel⟩
theorem q1083 : Cond.methodLink RX7 106 yX8_setNow ∈ wsL_law := mT_5 (List.mem_of_getElem? (i := 3) rfl) rfl
theorem kv_X7_106 : vz_cv RX7 106 yX8_setNow cX8_setNow 3 none 2 := ⟨q1083, q1063, q1064, q47, q1065, by decide +kernel⟩
theorem q1180 : Cond.methodLink RX7 59 yX7_goOn ∈ wsL_law := mT_5 (List.mem_of_getElem? (i := 94) rfl) rfl
theorem q1181 : Cond.instanceMethod yX7_goOn ∈ wsL_law := mT_5 (List.mem_of_getElem? (i := 96) rfl) rfl
theorem q1182 : Cond.selects RX7 yX7_goOn yX7_goOn ∈ wsL_law := mS_5 (q := (yX7_goOn, 7)) (List.mem_of_getElem? (i := 14) rfl) rfl
theorem q1183 : Cond.code yX7_goOn cX7_goOn 2 none ∈ wsL_law := mT_5 (List.mem_of_getElem? (i := 97) rfl) rfl
theorem kv_X7_59 : vz_cv RX7 59 yX7_goOn cX7_goOn 2 none 1 := ⟨q1180, q1181, q1182, q51, q1183, by decide +kernel⟩
theorem q1197 : Cond.methodLink RX7 98 yX8_end ∈ wsL_law := mT_5 (List.mem_of_getElem? (i := 111) rfl) rfl
theorem q1198 : Cond.instanceMethod yX8_end ∈ wsL_law := mT_5 (List.mem_of_getElem? (i := 112) rfl) rfl
theorem q1199 : Cond.selects RX8 yX8_end yX8_end ∈ wsL_law := mT_5 (List.mem_of_getElem? (i := 113) rfl) rfl
theorem q1200 : Cond.code yX8_end cX8_end 3 none ∈ wsL_law := mT_5 (List.mem_of_getElem? (i := 114) rfl) rfl
theorem kv_X7_98 : vz_cv RX7 98 yX8_end cX8_end 3 none 2 := ⟨q1197, q1198, q1199, q47, q1200, by decide +kernel⟩
theorem dX7_leave_0 : decode cX7_leave 0 = .ok (.aload_n 0, 1) := by decide +kernel
theorem dX7_leave_1 : decode cX7_leave 1 = .ok (.getfield 87, 3) := by decide +kernel
theorem dX7_leave_4 : decode cX7_leave 4 = .ok (.iconst 1, 1) := by decide +kernel
theorem dX7_leave_5 : decode cX7_leave 5 = .ok (.if_icmp .ne 10, 3) := by decide +kernel
theorem dX7_leave_8 : decode cX7_leave 8 = .ok (.aload_n 0, 1) := by decide +kernel
theorem dX7_leave_9 : decode cX7_leave 9 = .ok (.getfield 90, 3) := by decide +kernel
theorem dX7_leave_12 : decode cX7_leave 12 = .ok (.goto 4, 3) := by decide +kernel
theorem dX7_leave_15 : decode cX7_leave 15 = .ok (.iconst 0, 1) := by decide +kernel
theorem dX7_leave_16 : decode cX7_leave 16 = .ok (.istore_n 1, 1) := by decide +kernel
theorem dX7_leave_17 : decode cX7_leave 17 = .ok (.aload_n 0, 1) := by decide +kernel
theorem dX7_leave_18 : decode cX7_leave 18 = .ok (.getfield 9, 3) := by decide +kernel
theorem dX7_leave_21 : decode cX7_leave 21 = .ok (.invokevirtual 93, 3) := by decide +kernel
theorem dX7_leave_24 : decode cX7_leave 24 = .ok (.aload_n 0, 1) := by decide +kernel
theorem dX7_leave_25 : decode cX7_leave 25 = .ok (.getfield 9, 3) := by decide +kernel
theorem dX7_leave_28 : decode cX7_leave 28 = .ok (.invokevirtual 94, 3) := by decide +kernel
theorem dX7_leave_31 : decode cX7_leave 31 = .ok (.ifCond .ne 40, 3) := by decide +kernel
theorem dX7_leave_34 : decode cX7_leave 34 = .ok (.aload_n 0, 1) := by decide +kernel
theorem dX7_leave_35 : decode cX7_leave 35 = .ok (.getfield 9, 3) := by decide +kernel
theorem dX7_leave_38 : decode cX7_leave 38 = .ok (.aload_n 0, 1) := by decide +kernel
theorem dX7_leave_39 : decode cX7_leave 39 = .ok (.getfield 87, 3) := by decide +kernel
theorem dX7_leave_42 : decode cX7_leave 42 = .ok (.iconst 4, 1) := by decide +kernel
theorem dX7_leave_43 : decode cX7_leave 43 = .ok (.if_icmp .ne 7, 3) := by decide +kernel
theorem dX7_leave_46 : decode cX7_leave 46 = .ok (.iconst 1, 1) := by decide +kernel
theorem dX7_leave_47 : decode cX7_leave 47 = .ok (.goto 4, 3) := by decide +kernel
theorem dX7_leave_50 : decode cX7_leave 50 = .ok (.iconst 0, 1) := by decide +kernel
theorem dX7_leave_51 : decode cX7_leave 51 = .ok (.aload_n 0, 1) := by decide +kernel
theorem dX7_leave_52 : decode cX7_leave 52 = .ok (.getfield 87, 3) := by decide +kernel
theorem dX7_leave_55 : decode cX7_leave 55 = .ok (.iconst 4, 1) := by decide +kernel
theorem dX7_leave_56 : decode cX7_leave 56 = .ok (.if_icmp .ne 10, 3) := by decide +kernel
theorem dX7_leave_59 : decode cX7_leave 59 = .ok (.aload_n 0, 1) := by decide +kernel
theorem dX7_leave_60 : decode cX7_leave 60 = .ok (.getfield 90, 3) := by decide +kernel
theorem dX7_leave_63 : decode cX7_leave 63 = .ok (.goto 4, 3) := by decide +kernel
theorem dX7_leave_66 : decode cX7_leave 66 = .ok (.iload_n 1, 1) := by decide +kernel
theorem dX7_leave_67 : decode cX7_leave 67 = .ok (.invokevirtual 98, 3) := by decide +kernel
theorem dX7_leave_70 : decode cX7_leave 70 = .ok (.return_, 1) := by decide +kernel
theorem dX7_leave_71 : decode cX7_leave 71 = .ok (.aload_n 0, 1) := by decide +kernel
theorem dX7_leave_72 : decode cX7_leave 72 = .ok (.getfield 9, 3) := by decide +kernel
theorem dX7_leave_75 : decode cX7_leave 75 = .ok (.iconst 0, 1) := by decide +kernel
theorem dX7_leave_76 : decode cX7_leave 76 = .ok (.invokevirtual 102, 3) := by decide +kernel
theorem dX7_leave_79 : decode cX7_leave 79 = .ok (.istore_n 2, 1) := by decide +kernel
theorem dX7_leave_80 : decode cX7_leave 80 = .ok (.aload_n 0, 1) := by decide +kernel
theorem dX7_leave_81 : decode cX7_leave 81 = .ok (.getfield 87, 3) := by decide +kernel
theorem dX7_leave_84 : decode cX7_leave 84 = .ok (.iconst 4, 1) := by decide +kernel
theorem dX7_leave_85 : decode cX7_leave 85 = .ok (.if_icmp .eq 35, 3) := by decide +kernel
theorem dX7_leave_88 : decode cX7_leave 88 = .ok (.aload_n 0, 1) := by decide +kernel
theorem dX7_leave_89 : decode cX7_leave 89 = .ok (.iconst 0, 1) := by decide +kernel
theorem dX7_leave_90 : decode cX7_leave 90 = .ok (.putfield 87, 3) := by decide +kernel
theorem dX7_leave_93 : decode cX7_leave 93 = .ok (.aload_n 0, 1) := by decide +kernel
theorem dX7_leave_94 : decode cX7_leave 94 = .ok (.iload_n 2, 1) := by decide +kernel
theorem dX7_leave_95 : decode cX7_leave 95 = .ok (.iconst 2, 1) := by decide +kernel
theorem dX7_leave_96 : decode cX7_leave 96 = .ok (.invokevirtual 49, 3) := by decide +kernel
theorem dX7_leave_99 : decode cX7_leave 99 = .ok (.bipush (-9), 2) := by decide +kernel
theorem dX7_leave_101 : decode cX7_leave 101 = .ok (.if_icmp .eq 19, 3) := by decide +kernel
theorem dX7_leave_104 : decode cX7_leave 104 = .ok (.aload_n 0, 1) := by decide +kernel
theorem dX7_leave_105 : decode cX7_leave 105 = .ok (.getfield 9, 3) := by decide +kernel
theorem dX7_leave_108 : decode cX7_leave 108 = .ok (.iconst 3, 1) := by decide +kernel
theorem dX7_leave_109 : decode cX7_leave 109 = .ok (.aload_n 0, 1) := by decide +kernel
theorem dX7_leave_110 : decode cX7_leave 110 = .ok (.iload_n 2, 1) := by decide +kernel
theorem dX7_leave_111 : decode cX7_leave 111 = .ok (.iconst 2, 1) := by decide +kernel
theorem dX7_leave_112 : decode cX7_leave 112 = .ok (.invokevirtual 49, 3) := by decide +kernel
theorem dX7_leave_115 : decode cX7_leave 115 = .ok (.iadd, 1) := by decide +kernel
theorem dX7_leave_116 : decode cX7_leave 116 = .ok (.iload_n 1, 1) := by decide +kernel
theorem dX7_leave_117 : decode cX7_leave 117 = .ok (.invokevirtual 106, 3) := by decide +kernel
theorem dX7_leave_120 : decode cX7_leave 120 = .ok (.aload_n 0, 1) := by decide +kernel
theorem dX7_leave_121 : decode cX7_leave 121 = .ok (.iload_n 2, 1) := by decide +kernel
theorem dX7_leave_122 : decode cX7_leave 122 = .ok (.invokevirtual 59, 3) := by decide +kernel
theorem dX7_leave_125 : decode cX7_leave 125 = .ok (.return_, 1) := by decide +kernel
set_option maxHeartbeats 8000000 in
set_option maxRecDepth 100000 in
theorem a_K_leave (l : Launch) (D : va_G) (g : Nat → ClassId)   (sz : Nat) (h : Nat) (ki : Nat → Int32) (wh : Nat) (wa : Nat → Nat) (wi : Nat → Int32) (wr : Nat → Nat) (wf : Nat → Nat → Int32) (ph : Nat) (rh : Nat) (la : Nat → Nat) (pa : Nat → Nat) (pr : Nat → Nat) (pf : Nat → Nat → Int32) (ca : Nat → Nat) (ci : Nat → Int32) (cr : Nat → Nat) (cf : Nat → Nat → Int32) (lr : Nat → Nat) (lf : Nat → Nat → Int32) (lmx : Nat) (hw_w : ∀ k, wr k ≤ woW_lim k) (hw_p : ∀ k, pr k ≤ pgW_lim k) (hw_c : ∀ k, cr k ≤ rcW_lim k) (hw_l : ∀ k, lr k ≤ (plW_lim lmx) k) (hmx_l : lmx ≤ 30) : vz_Mv l D (tyG g) yX7_leave cX7_leave 3 3 66 0 0 [.ref h] sz (vz_w [wkW h ki wh, woW g wh wa wi wr wf ph rh (la 0), pgW g ph pa pr pf, rcW g rh ca ci cr cf, plW g la lr lf lmx]) (fun u : (Nat → Int32) × (Nat → Nat) × (Nat → Nat → Int32) × (Nat → Int32) => (∀ k, u.2.1 k ≤ woW_lim k)) (fun u => vz_w [wkW h u.1 wh, woW g wh wa wi u.2.1 u.2.2.1 ph rh (la 0), pgW g ph pa pr pf, rcW g rh ca u.2.2.2 cr cf, plW g la lr lf lmx]) := by
  refine vz_svQ (by decide) (Nat.le_of_ble_eq_true rfl) (fun p e s m args below meth c hx hb hr hml hts hown hlk hin hK hsz A hA H locs hP hD hS ls hl Q hQ => ?_)
  have hl : lv_has ls 3 [(0, .ref h)] := hl
  have J120 : ∀ (x1_120 : Int32), ∀ (x2_120 : Int32), ∀ (ki_120 : Nat → Int32), ∀ (wr_120 : Nat → Nat), ∀ (wf_120 : Nat → Nat → Int32), ∀ (ci_120 : Nat → Int32), (∀ k, wr_120 k ≤ woW_lim k) → ∀ (H : Heap) (locs : List Loc) (ls : Array Slot), va_P D vwCl (vz_w [wkW h ki_120 wh, woW g wh wa wi wr_120 wf_120 ph rh (la 0), pgW g ph pa pr pf, rcW g rh ca ci_120 cr cf, plW g la lr lf lmx]) H → va_D A (vz_w [wkW h ki_120 wh, woW g wh wa wi wr_120 wf_120 ph rh (la 0), pgW g ph pa pr pf, rcW g rh ca ci_120 cr cf, plW g la lr lf lmx]) → va_S A s.heap H locs → lv_has ls 3 [(0, .ref h), (1, .int x1_120), (2, .int x2_120)] → W p l e { frames := 3, cells := 0, slots := 0, locals := 66 } s m args below meth c H locs 0 0 Q (F0 m 120 ls []) := by
    intro x1_120 x2_120 ki_120 wr_120 wf_120 ci_120 hw_w_120 H locs ls hP hD hS hl
    refine lv_aload_n hx hb dX7_leave_120 rfl (lv_at hl 0 rfl) ?_
    refine lv_iload_n hx hb dX7_leave_121 rfl (lv_at hl 2 rfl) ?_
    refine vz_Vv3 (As := [.int x2_120]) (rest := []) hx hb hml hown hts hK hA hP hD hS (a_K_goOn l D g H.size h ki_120 wh wa wi wr_120 wf_120 ph rh la pa pr pf ca ci_120 cr cf lr lf lmx x2_120 hw_w_120 hw_p hw_c hw_l hmx_l) kv_X7_59 ⟨Nat.le_of_ble_eq_true rfl, Nat.le_of_ble_eq_true rfl⟩ (q0 := 0) (ci := 7) rfl rfl rfl  hl.1 (Nat.le_of_ble_eq_true rfl) dX7_leave_122 ⟨Nat.le_refl _, Nat.le_refl _⟩ rfl (fun ki_1 H locs _ _ hP hD hS => ?_)
    replace hP : va_P D vwCl (vz_w [wkW h ki_1 wh, woW g wh wa wi wr_120 wf_120 ph rh (la 0), pgW g ph pa pr pf, rcW g rh ca ci_120 cr cf, plW g la lr lf lmx]) H := hP
    replace hD : va_D A (vz_w [wkW h ki_1 wh, woW g wh wa wi wr_120 wf_120 ph rh (la 0), pgW g ph pa pr pf, rcW g rh ca ci_120 cr cf, plW g la lr lf lmx]) := hD
    rw [hQ]
    exact vz_vret3 hx hb hr hlk hK hP hD hS (ki_1, wr_120, wf_120, ci_120) hw_w_120 rfl (Nat.le_refl 0) (Nat.le_refl 0) dX7_leave_125
  have J67 : ∀ (x1_67 : Int32), ∀ (y0_67 : Int32), ∀ (y1_67 : Int32), ∀ (ki_67 : Nat → Int32), ∀ (wr_67 : Nat → Nat), ∀ (wf_67 : Nat → Nat → Int32), ∀ (ci_67 : Nat → Int32), (y1_67 = 0 ∨ y1_67 = 1) → (∀ k, wr_67 k ≤ woW_lim k) → ∀ (H : Heap) (locs : List Loc) (ls : Array Slot), va_P D vwCl (vz_w [wkW h ki_67 wh, woW g wh wa wi wr_67 wf_67 ph rh (la 0), pgW g ph pa pr pf, rcW g rh ca ci_67 cr cf, plW g la lr lf lmx]) H → va_D A (vz_w [wkW h ki_67 wh, woW g wh wa wi wr_67 wf_67 ph rh (la 0), pgW g ph pa pr pf, rcW g rh ca ci_67 cr cf, plW g la lr lf lmx]) → va_S A s.heap H locs → lv_has ls 3 [(0, .ref h), (1, .int x1_67)] → W p l e { frames := 3, cells := 0, slots := 0, locals := 66 } s m args below meth c H locs 0 0 Q (F0 m 67 ls [.int y0_67, .int y1_67, .ref wh]) := by
    intro x1_67 y0_67 y1_67 ki_67 wr_67 wf_67 ci_67 hz_y1_67 hw_w_67 H locs ls hP hD hS hl
    refine vz_Vv4 (n9 := 5) (bs2 := fun u : (Nat → Int32) => [wkW h ki_67 wh, woW g wh wa wi wr_67 wf_67 ph rh (la 0), pgW g ph pa pr pf, rcW g rh ca u cr cf, plW g la lr lf lmx]) (br := [wkW h ki_67 wh]) (As := [.int y1_67, .int y0_67]) (rest := []) hx hb hml hown hts hK hA hP hD hS (a_W_end l D g H.size wh wa wi wr_67 wf_67 ph rh la pa pr pf ca ci_67 cr cf lr lf lmx y1_67 y0_67 hw_w_67 hw_p hw_c hw_l hmx_l) kv_X7_98 ⟨Nat.le_of_ble_eq_true rfl, Nat.le_of_ble_eq_true rfl⟩ (q0 := 1) (ci := 8) rfl rfl rfl [1, 2, 3, 4] [0] rfl (by decide) rfl (fun _ => rfl) (fun _ => rfl) hl.1 (Nat.le_of_ble_eq_true rfl) dX7_leave_67 ⟨Nat.le_refl _, Nat.le_refl _⟩ rfl (fun ci_1 H locs _ _ hP hD hS => ?_)
    replace hP : va_P D vwCl (vz_w [wkW h ki_67 wh, woW g wh wa wi wr_67 wf_67 ph rh (la 0), pgW g ph pa pr pf, rcW g rh ca ci_1 cr cf, plW g la lr lf lmx]) H := hP
    replace hD : va_D A (vz_w [wkW h ki_67 wh, woW g wh wa wi wr_67 wf_67 ph rh (la 0), pgW g ph pa pr pf, rcW g rh ca ci_1 cr cf, plW g la lr lf lmx]) := hD
    rw [hQ]
    exact vz_vret3 hx hb hr hlk hK hP hD hS (ki_67, wr_67, wf_67, ci_1) hw_w_67 rfl (Nat.le_refl 0) (Nat.le_refl 0) dX7_leave_70
  have J51 : ∀ (x1_51 : Int32), ∀ (y0_51 : Int32), ∀ (ki_51 : Nat → Int32), ∀ (wr_51 : Nat → Nat), ∀ (wf_51 : Nat → Nat → Int32), ∀ (ci_51 : Nat → Int32), (y0_51 = 0 ∨ y0_51 = 1) → (∀ k, wr_51 k ≤ woW_lim k) → ∀ (H : Heap) (locs : List Loc) (ls : Array Slot), va_P D vwCl (vz_w [wkW h ki_51 wh, woW g wh wa wi wr_51 wf_51 ph rh (la 0), pgW g ph pa pr pf, rcW g rh ca ci_51 cr cf, plW g la lr lf lmx]) H → va_D A (vz_w [wkW h ki_51 wh, woW g wh wa wi wr_51 wf_51 ph rh (la 0), pgW g ph pa pr pf, rcW g rh ca ci_51 cr cf, plW g la lr lf lmx]) → va_S A s.heap H locs → lv_has ls 3 [(0, .ref h), (1, .int x1_51)] → W p l e { frames := 3, cells := 0, slots := 0, locals := 66 } s m args below meth c H locs 0 0 Q (F0 m 51 ls [.int y0_51, .ref wh]) := by
    intro x1_51 y0_51 ki_51 wr_51 wf_51 ci_51 hz_y0_51 hw_w_51 H locs ls hP hD hS hl
    refine lv_aload_n hx hb dX7_leave_51 rfl (lv_at hl 0 rfl) ?_
    refine va_get (D := D) (ci := 7) (v := .int (ki_51 2)) (C := RX7) (T := TX7) (N := 7) hx hb hts inlX7 hown hK hP 0 rfl rfl 3 (by decide) (hts _ q1047) (fun _ h => h) rfl dX7_leave_52 ?_
    refine lv_iconst (v := 4) hx hb dX7_leave_55 (by decide) ?_
    refine lv_icmp_ne (tgt := 66) hx hb dX7_leave_56 (by decide) (fun kc1 => ?_) (fun kc1 => ?_)
    · refine lv_iload_n hx hb dX7_leave_66 rfl (lv_at hl 1 rfl) ?_
      exact J67 x1_51 x1_51 y0_51 ki_51 wr_51 wf_51 ci_51 hz_y0_51 hw_w_51 H locs ls hP hD hS (lv_sub hl [0, 1] rfl)
    · refine lv_aload_n hx hb dX7_leave_59 rfl (lv_at hl 0 rfl) ?_
      refine va_get (D := D) (ci := 7) (v := .int (ki_51 3)) (C := RX7) (T := TX7) (N := 7) hx hb hts inlX7 hown hK hP 0 rfl rfl 4 (by decide) (hts _ q1151) (fun _ h => h) rfl dX7_leave_60 ?_
      refine lv_goto (tgt := 67) hx hb dX7_leave_63 (by decide) ?_
      exact J67 x1_51 (ki_51 3) y0_51 ki_51 wr_51 wf_51 ci_51 hz_y0_51 hw_w_51 H locs ls hP hD hS (lv_sub hl [0, 1] rfl)
  have J16 : ∀ (y0_16 : Int32), ∀ (ki_16 : Nat → Int32), ∀ (wr_16 : Nat → Nat), ∀ (wf_16 : Nat → Nat → Int32), ∀ (ci_16 : Nat → Int32), (∀ k, wr_16 k ≤ woW_lim k) → ∀ (H : Heap) (locs : List Loc) (ls : Array Slot), va_P D vwCl (vz_w [wkW h ki_16 wh, woW g wh wa wi wr_16 wf_16 ph rh (la 0), pgW g ph pa pr pf, rcW g rh ca ci_16 cr cf, plW g la lr lf lmx]) H → va_D A (vz_w [wkW h ki_16 wh, woW g wh wa wi wr_16 wf_16 ph rh (la 0), pgW g ph pa pr pf, rcW g rh ca ci_16 cr cf, plW g la lr lf lmx]) → va_S A s.heap H locs → lv_has ls 3 [(0, .ref h)] → W p l e { frames := 3, cells := 0, slots := 0, locals := 66 } s m args below meth c H locs 0 0 Q (F0 m 16 ls [.int y0_16]) := by
    intro y0_16 ki_16 wr_16 wf_16 ci_16 hw_w_16 H locs ls hP hD hS hl
    refine lv_istore_n (lv' := [(1, .int y0_16), (0, .ref h)]) hx hb dX7_leave_16 rfl hl (by decide) rfl (fun ls hl => ?_)
    refine lv_aload_n hx hb dX7_leave_17 rfl (lv_at hl 1 rfl) ?_
    refine va_get (D := D) (ci := 7) (v := .ref wh) (C := RX7) (T := TX7) (N := 7) hx hb hts inlX7 hown hK hP 0 rfl rfl 0 (by decide) (hts _ q152) (fun _ h => h) rfl dX7_leave_18 ?_
    refine vz_Vv4 (n9 := 5) (bs2 := fun u : (Nat → Nat) => [wkW h ki_16 wh, woW g wh wa wi u wf_16 ph rh (la 0), pgW g ph pa pr pf, rcW g rh ca ci_16 cr cf, plW g la lr lf lmx]) (br := [wkW h ki_16 wh]) (As := []) (rest := []) hx hb hml hown hts hK hA hP hD hS (a_W_leave l D g H.size wh wa wi wr_16 wf_16 ph rh la pa pr pf ca ci_16 cr cf lr lf lmx hw_w_16 hw_p hw_c hw_l hmx_l) kv_X7_93 ⟨Nat.le_of_ble_eq_true rfl, Nat.le_of_ble_eq_true rfl⟩ (q0 := 1) (ci := 8) rfl rfl rfl [1, 2, 3, 4] [0] rfl (by decide) rfl (fun _ => rfl) (fun _ => rfl) hl.1 (Nat.le_of_ble_eq_true rfl) dX7_leave_21 ⟨Nat.le_refl _, Nat.le_refl _⟩ rfl (fun wr_1 H locs hw_2 _ hP hD hS => ?_)
    try dsimp only at hw_2
    replace hP : va_P D vwCl (vz_w [wkW h ki_16 wh, woW g wh wa wi wr_1 wf_16 ph rh (la 0), pgW g ph pa pr pf, rcW g rh ca ci_16 cr cf, plW g la lr lf lmx]) H := hP
    replace hD : va_D A (vz_w [wkW h ki_16 wh, woW g wh wa wi wr_1 wf_16 ph rh (la 0), pgW g ph pa pr pf, rcW g rh ca ci_16 cr cf, plW g la lr lf lmx]) := hD
    refine lv_aload_n hx hb dX7_leave_24 rfl (lv_at hl 1 rfl) ?_
    refine va_get (D := D) (ci := 7) (v := .ref wh) (C := RX7) (T := TX7) (N := 7) hx hb hts inlX7 hown hK hP 0 rfl rfl 0 (by decide) (hts _ q152) (fun _ h => h) rfl dX7_leave_25 ?_
    refine vz_Vi4 (n9 := 5) (bs2 := fun u : Unit => [wkW h ki_16 wh, woW g wh wa wi wr_1 wf_16 ph rh (la 0), pgW g ph pa pr pf, rcW g rh ca ci_16 cr cf, plW g la lr lf lmx]) (br := [wkW h ki_16 wh]) (As := []) (rest := []) hx hb hml hown hts hK hA hP hD hS (a_W_active l D g H.size wh wa wi wr_1 wf_16 ph rh la pa pr pf ca ci_16 cr cf lr lf lmx hw_2 hw_p hw_c hw_l hmx_l) kv_X7_94 ⟨Nat.le_of_ble_eq_true rfl, Nat.le_of_ble_eq_true rfl⟩ (q0 := 1) (ci := 8) rfl rfl rfl [1, 2, 3, 4] [0] rfl (by decide) rfl (fun _ => rfl) (fun _ => rfl) hl.1 (Nat.le_of_ble_eq_true rfl) dX7_leave_28 ⟨Nat.le_refl _, Nat.le_refl _⟩ rfl (fun v3 _ H locs _ _ hP hD hS => ?_)
    refine lv_if_ne (tgt := 71) hx hb dX7_leave_31 (by decide) (fun kc4 => ?_) (fun kc4 => ?_)
    · refine lv_aload_n hx hb dX7_leave_71 rfl (lv_at hl 1 rfl) ?_
      refine va_get (D := D) (ci := 7) (v := .ref wh) (C := RX7) (T := TX7) (N := 7) hx hb hts inlX7 hown hK hP 0 rfl rfl 0 (by decide) (hts _ q152) (fun _ h => h) rfl dX7_leave_72 ?_
      refine lv_iconst (v := 0) hx hb dX7_leave_75 (by decide) ?_
      refine vz_Vi4 (n9 := 5) (bs2 := fun u : Unit => [wkW h ki_16 wh, woW g wh wa wi wr_1 wf_16 ph rh (la 0), pgW g ph pa pr pf, rcW g rh ca ci_16 cr cf, plW g la lr lf lmx]) (br := [wkW h ki_16 wh]) (As := [.int 0]) (rest := []) hx hb hml hown hts hK hA hP hD hS (a_W_now l D g H.size wh wa wi wr_1 wf_16 ph rh la pa pr pf ca ci_16 cr cf lr lf lmx 0 hw_2 hw_p hw_c hw_l hmx_l) kv_X7_102 ⟨Nat.le_of_ble_eq_true rfl, Nat.le_of_ble_eq_true rfl⟩ (q0 := 1) (ci := 8) rfl rfl rfl [1, 2, 3, 4] [0] rfl (by decide) rfl (fun _ => rfl) (fun _ => rfl) hl.1 (Nat.le_of_ble_eq_true rfl) dX7_leave_76 ⟨Nat.le_refl _, Nat.le_refl _⟩ rfl (fun v5 _ H locs _ _ hP hD hS => ?_)
      refine lv_istore_n (lv' := [(2, .int v5), (1, .int y0_16), (0, .ref h)]) hx hb dX7_leave_79 rfl hl (by decide) rfl (fun ls hl => ?_)
      refine lv_aload_n hx hb dX7_leave_80 rfl (lv_at hl 2 rfl) ?_
      refine va_get (D := D) (ci := 7) (v := .int (ki_16 2)) (C := RX7) (T := TX7) (N := 7) hx hb hts inlX7 hown hK hP 0 rfl rfl 3 (by decide) (hts _ q1047) (fun _ h => h) rfl dX7_leave_81 ?_
      refine lv_iconst (v := 4) hx hb dX7_leave_84 (by decide) ?_
      refine lv_icmp_eq (tgt := 120) hx hb dX7_leave_85 (by decide) (fun kc6 => ?_) (fun kc6 => ?_)
      · exact J120 y0_16 v5 ki_16 wr_1 wf_16 ci_16 hw_2 H locs ls hP hD hS (lv_sub hl [2, 1, 0] rfl)
      · refine lv_aload_n hx hb dX7_leave_88 rfl (lv_at hl 2 rfl) ?_
        refine lv_iconst (v := 0) hx hb dX7_leave_89 (by decide) ?_
        refine va_put (D := D) (ci := 7) (v := .int 0) (ty := .int) (C := RX7) (T := TX7) (N := 7) hx hb hts inlX7 tyX7 tyX7_ok nmX7 hown hK hP hD hS 0 rfl rfl 3 (by decide) (hts _ q1047) (fun _ h => h) rfl (by decide +kernel) rfl rfl (Nat.le_of_ble_eq_true rfl) dX7_leave_90 (fun H locs hP hD hS => ?_)
        obtain ⟨ki_7, hki_7, hP, hD⟩ : ∃ ki_7 : Nat → Int32, (ki_7 = (upd ki_16 2 0)) ∧ va_P D vwCl (vz_w [wkW h ki_7 wh, woW g wh wa wi wr_1 wf_16 ph rh (la 0), pgW g ph pa pr pf, rcW g rh ca ci_16 cr cf, plW g la lr lf lmx]) H ∧ va_D A (vz_w [wkW h ki_7 wh, woW g wh wa wi wr_1 wf_16 ph rh (la 0), pgW g ph pa pr pf, rcW g rh ca ci_16 cr cf, plW g la lr lf lmx]) := ⟨(upd ki_16 2 0), rfl, hP, hD⟩
        refine lv_aload_n hx hb dX7_leave_93 rfl (lv_at hl 2 rfl) ?_
        refine lv_iload_n hx hb dX7_leave_94 rfl (lv_at hl 0 rfl) ?_
        refine lv_iconst (v := 2) hx hb dX7_leave_95 (by decide) ?_
        refine vz_Vi3 (As := [.int v5, .int 2]) (rest := []) hx hb hml hown hts hK hA hP hD hS (a_K_at l D g H.size h ki_7 wh wa wi wr_1 wf_16 ph rh la pa pr pf ca ci_16 cr cf lr lf lmx v5 2 hw_2 hw_p hw_c hw_l hmx_l) kv_X7_49 ⟨Nat.le_of_ble_eq_true rfl, Nat.le_of_ble_eq_true rfl⟩ (q0 := 0) (ci := 7) rfl rfl rfl  hl.1 (Nat.le_of_ble_eq_true rfl) dX7_leave_96 ⟨Nat.le_refl _, Nat.le_refl _⟩ rfl (fun v8 _ H locs _ _ hP hD hS => ?_)
        refine lv_bipush (v := (-9)) hx hb dX7_leave_99 (by decide) ?_
        refine lv_icmp_eq (tgt := 120) hx hb dX7_leave_101 (by decide) (fun kc9 => ?_) (fun kc9 => ?_)
        · exact J120 y0_16 v5 ki_7 wr_1 wf_16 ci_16 hw_2 H locs ls hP hD hS (lv_sub hl [2, 1, 0] rfl)
        · refine lv_aload_n hx hb dX7_leave_104 rfl (lv_at hl 2 rfl) ?_
          refine va_get (D := D) (ci := 7) (v := .ref wh) (C := RX7) (T := TX7) (N := 7) hx hb hts inlX7 hown hK hP 0 rfl rfl 0 (by decide) (hts _ q152) (fun _ h => h) rfl dX7_leave_105 ?_
          refine lv_iconst (v := 3) hx hb dX7_leave_108 (by decide) ?_
          refine lv_aload_n hx hb dX7_leave_109 rfl (lv_at hl 2 rfl) ?_
          refine lv_iload_n hx hb dX7_leave_110 rfl (lv_at hl 0 rfl) ?_
          refine lv_iconst (v := 2) hx hb dX7_leave_111 (by decide) ?_
          refine vz_Vi3 (As := [.int v5, .int 2]) (rest := [.int 3, .ref wh]) hx hb hml hown hts hK hA hP hD hS (a_K_at l D g H.size h ki_7 wh wa wi wr_1 wf_16 ph rh la pa pr pf ca ci_16 cr cf lr lf lmx v5 2 hw_2 hw_p hw_c hw_l hmx_l) kv_X7_49 ⟨Nat.le_of_ble_eq_true rfl, Nat.le_of_ble_eq_true rfl⟩ (q0 := 0) (ci := 7) rfl rfl rfl  hl.1 (Nat.le_of_ble_eq_true rfl) dX7_leave_112 ⟨Nat.le_refl _, Nat.le_refl _⟩ rfl (fun v10 _ H locs _ _ hP hD hS => ?_)
          refine lv_iadd hx hb dX7_leave_115 ?_
          refine lv_iload_n hx hb dX7_leave_116 rfl (lv_at hl 1 rfl) ?_
          refine vz_Vv4 (n9 := 5) (bs2 := fun u : (Nat → Nat → Int32) => [wkW h ki_7 wh, woW g wh wa wi wr_1 u ph rh (la 0), pgW g ph pa pr pf, rcW g rh ca ci_16 cr cf, plW g la lr lf lmx]) (br := [wkW h ki_7 wh]) (As := [.int (3 + v10), .int y0_16]) (rest := []) hx hb hml hown hts hK hA hP hD hS (a_W_setNow l D g H.size wh wa wi wr_1 wf_16 ph rh la pa pr pf ca ci_16 cr cf lr lf lmx (3 + v10) y0_16 hw_2 hw_p hw_c hw_l hmx_l) kv_X7_106 ⟨Nat.le_of_ble_eq_true rfl, Nat.le_of_ble_eq_true rfl⟩ (q0 := 1) (ci := 8) rfl rfl rfl [1, 2, 3, 4] [0] rfl (by decide) rfl (fun _ => rfl) (fun _ => rfl) hl.1 (Nat.le_of_ble_eq_true rfl) dX7_leave_117 ⟨Nat.le_refl _, Nat.le_refl _⟩ rfl (fun wf_11 H locs _ _ hP hD hS => ?_)
          replace hP : va_P D vwCl (vz_w [wkW h ki_7 wh, woW g wh wa wi wr_1 wf_11 ph rh (la 0), pgW g ph pa pr pf, rcW g rh ca ci_16 cr cf, plW g la lr lf lmx]) H := hP
          replace hD : va_D A (vz_w [wkW h ki_7 wh, woW g wh wa wi wr_1 wf_11 ph rh (la 0), pgW g ph pa pr pf, rcW g rh ca ci_16 cr cf, plW g la lr lf lmx]) := hD
          exact J120 y0_16 v5 ki_7 wr_1 wf_11 ci_16 hw_2 H locs ls hP hD hS (lv_sub hl [2, 1, 0] rfl)
    · refine lv_aload_n hx hb dX7_leave_34 rfl (lv_at hl 1 rfl) ?_
      refine va_get (D := D) (ci := 7) (v := .ref wh) (C := RX7) (T := TX7) (N := 7) hx hb hts inlX7 hown hK hP 0 rfl rfl 0 (by decide) (hts _ q152) (fun _ h => h) rfl dX7_leave_35 ?_
      refine lv_aload_n hx hb dX7_leave_38 rfl (lv_at hl 1 rfl) ?_
      refine va_get (D := D) (ci := 7) (v := .int (ki_16 2)) (C := RX7) (T := TX7) (N := 7) hx hb hts inlX7 hown hK hP 0 rfl rfl 3 (by decide) (hts _ q1047) (fun _ h => h) rfl dX7_leave_39 ?_
      refine lv_iconst (v := 4) hx hb dX7_leave_42 (by decide) ?_
      refine lv_icmp_ne (tgt := 50) hx hb dX7_leave_43 (by decide) (fun kc12 => ?_) (fun kc12 => ?_)
      · refine lv_iconst (v := 0) hx hb dX7_leave_50 (by decide) ?_
        exact J51 y0_16 0 ki_16 wr_1 wf_16 ci_16 (Or.inl rfl) hw_2 H locs ls hP hD hS (lv_sub hl [1, 0] rfl)
      · refine lv_iconst (v := 1) hx hb dX7_leave_46 (by decide) ?_
        refine lv_goto (tgt := 51) hx hb dX7_leave_47 (by decide) ?_
        exact J51 y0_16 1 ki_16 wr_1 wf_16 ci_16 (Or.inr rfl) hw_2 H locs ls hP hD hS (lv_sub hl [1, 0] rfl)
  refine lv_aload_n hx hb dX7_leave_0 rfl (lv_at hl 0 rfl) ?_
  refine va_get (D := D) (ci := 7) (v := .int (ki 2)) (C := RX7) (T := TX7) (N := 7) hx hb hts inlX7 hown hK hP 0 rfl rfl 3 (by decide) (hts _ q1047) (fun _ h => h) rfl dX7_leave_1 ?_
  refine lv_iconst (v := 1) hx hb dX7_leave_4 (by decide) ?_
  refine lv_icmp_ne (tgt := 15) hx hb dX7_leave_5 (by decide) (fun kc1 => ?_) (fun kc1 => ?_)
  · refine lv_iconst (v := 0) hx hb dX7_leave_15 (by decide) ?_
    exact J16 0 ki wr wf ci hw_w H locs ls hP hD hS (lv_sub hl [0] rfl)
  · refine lv_aload_n hx hb dX7_leave_8 rfl (lv_at hl 0 rfl) ?_
    refine va_get (D := D) (ci := 7) (v := .int (ki 3)) (C := RX7) (T := TX7) (N := 7) hx hb hts inlX7 hown hK hP 0 rfl rfl 4 (by decide) (hts _ q1151) (fun _ h => h) rfl dX7_leave_9 ?_
    refine lv_goto (tgt := 16) hx hb dX7_leave_12 (by decide) ?_
    exact J16 (ki 3) ki wr wf ci hw_w H locs ls hP hD hS (lv_sub hl [0] rfl)
theorem dX7_endBy_0 : decode cX7_endBy 0 = .ok (.aload_n 0, 1) := by decide +kernel
theorem dX7_endBy_1 : decode cX7_endBy 1 = .ok (.iload_n 1, 1) := by decide +kernel
theorem dX7_endBy_2 : decode cX7_endBy 2 = .ok (.putfield 87, 3) := by decide +kernel
theorem dX7_endBy_5 : decode cX7_endBy 5 = .ok (.aload_n 0, 1) := by decide +kernel
theorem dX7_endBy_6 : decode cX7_endBy 6 = .ok (.iload_n 2, 1) := by decide +kernel
theorem dX7_endBy_7 : decode cX7_endBy 7 = .ok (.putfield 90, 3) := by decide +kernel
theorem dX7_endBy_10 : decode cX7_endBy 10 = .ok (.aload_n 0, 1) := by decide +kernel
theorem dX7_endBy_11 : decode cX7_endBy 11 = .ok (.bipush (-9), 2) := by decide +kernel
theorem dX7_endBy_13 : decode cX7_endBy 13 = .ok (.putfield 15, 3) := by decide +kernel
theorem dX7_endBy_16 : decode cX7_endBy 16 = .ok (.return_, 1) := by decide +kernel
set_option maxHeartbeats 8000000 in
set_option maxRecDepth 100000 in
theorem a_K_endBy (l : Launch) (D : va_G) (g : Nat → ClassId)   (sz : Nat) (h : Nat) (ki : Nat → Int32) (wh : Nat) (wa : Nat → Nat) (wi : Nat → Int32) (wr : Nat → Nat) (wf : Nat → Nat → Int32) (ph : Nat) (rh : Nat) (la : Nat → Nat) (pa : Nat → Nat) (pr : Nat → Nat) (pf : Nat → Nat → Int32) (ca : Nat → Nat) (ci : Nat → Int32) (cr : Nat → Nat) (cf : Nat → Nat → Int32) (lr : Nat → Nat) (lf : Nat → Nat → Int32) (lmx : Nat) (n1 : Int32) (n2 : Int32) (hw_w : ∀ k, wr k ≤ woW_lim k) (hw_p : ∀ k, pr k ≤ pgW_lim k) (hw_c : ∀ k, cr k ≤ rcW_lim k) (hw_l : ∀ k, lr k ≤ (plW_lim lmx) k) (hmx_l : lmx ≤ 30) : vz_Mv l D (tyG g) yX7_endBy cX7_endBy 3 0 0 0 0 [.ref h, .int n1, .int n2] sz (vz_w [wkW h ki wh, woW g wh wa wi wr wf ph rh (la 0), pgW g ph pa pr pf, rcW g rh ca ci cr cf, plW g la lr lf lmx]) (fun u : (Nat → Int32) => True) (fun u => vz_w [wkW h u wh, woW g wh wa wi wr wf ph rh (la 0), pgW g ph pa pr pf, rcW g rh ca ci cr cf, plW g la lr lf lmx]) := by
  refine vz_svQ (by decide) (Nat.le_of_ble_eq_true rfl) (fun p e s m args below meth c hx hb hr hml hts hown hlk hin hK hsz A hA H locs hP hD hS ls hl Q hQ => ?_)
  have hl : lv_has ls 3 [(0, .ref h), (1, .int n1), (2, .int n2)] := hl
  refine lv_aload_n hx hb dX7_endBy_0 rfl (lv_at hl 0 rfl) ?_
  refine lv_iload_n hx hb dX7_endBy_1 rfl (lv_at hl 1 rfl) ?_
  refine va_put (D := D) (ci := 7) (v := .int n1) (ty := .int) (C := RX7) (T := TX7) (N := 7) hx hb hts inlX7 tyX7 tyX7_ok nmX7 hown hK hP hD hS 0 rfl rfl 3 (by decide) (hts _ q1047) (fun _ h => h) rfl (by decide +kernel) rfl rfl (Nat.le_of_ble_eq_true rfl) dX7_endBy_2 (fun H locs hP hD hS => ?_)
  obtain ⟨ki_1, hki_1, hP, hD⟩ : ∃ ki_1 : Nat → Int32, (ki_1 = (upd ki 2 n1)) ∧ va_P D vwCl (vz_w [wkW h ki_1 wh, woW g wh wa wi wr wf ph rh (la 0), pgW g ph pa pr pf, rcW g rh ca ci cr cf, plW g la lr lf lmx]) H ∧ va_D A (vz_w [wkW h ki_1 wh, woW g wh wa wi wr wf ph rh (la 0), pgW g ph pa pr pf, rcW g rh ca ci cr cf, plW g la lr lf lmx]) := ⟨(upd ki 2 n1), rfl, hP, hD⟩
  refine lv_aload_n hx hb dX7_endBy_5 rfl (lv_at hl 0 rfl) ?_
  refine lv_iload_n hx hb dX7_endBy_6 rfl (lv_at hl 2 rfl) ?_
  refine va_put (D := D) (ci := 7) (v := .int n2) (ty := .int) (C := RX7) (T := TX7) (N := 7) hx hb hts inlX7 tyX7 tyX7_ok nmX7 hown hK hP hD hS 0 rfl rfl 4 (by decide) (hts _ q1151) (fun _ h => h) rfl (by decide +kernel) rfl rfl (Nat.le_of_ble_eq_true rfl) dX7_endBy_7 (fun H locs hP hD hS => ?_)
  obtain ⟨ki_2, hki_2, hP, hD⟩ : ∃ ki_2 : Nat → Int32, (ki_2 = (upd ki_1 3 n2)) ∧ va_P D vwCl (vz_w [wkW h ki_2 wh, woW g wh wa wi wr wf ph rh (la 0), pgW g ph pa pr pf, rcW g rh ca ci cr cf, plW g la lr lf lmx]) H ∧ va_D A (vz_w [wkW h ki_2 wh, woW g wh wa wi wr wf ph rh (la 0), pgW g ph pa pr pf, rcW g rh ca ci cr cf, plW g la lr lf lmx]) := ⟨(upd ki_1 3 n2), rfl, hP, hD⟩
  refine lv_aload_n hx hb dX7_endBy_10 rfl (lv_at hl 0 rfl) ?_
  refine lv_bipush (v := (-9)) hx hb dX7_endBy_11 (by decide) ?_
  refine va_put (D := D) (ci := 7) (v := .int (-9)) (ty := .int) (C := RX7) (T := TX7) (N := 7) hx hb hts inlX7 tyX7 tyX7_ok nmX7 hown hK hP hD hS 0 rfl rfl 1 (by decide) (hts _ q153) (fun _ h => h) rfl (by decide +kernel) rfl rfl (Nat.le_of_ble_eq_true rfl) dX7_endBy_13 (fun H locs hP hD hS => ?_)
  obtain ⟨ki_3, hki_3, hP, hD⟩ : ∃ ki_3 : Nat → Int32, (ki_3 = (upd ki_2 0 (-9))) ∧ va_P D vwCl (vz_w [wkW h ki_3 wh, woW g wh wa wi wr wf ph rh (la 0), pgW g ph pa pr pf, rcW g rh ca ci cr cf, plW g la lr lf lmx]) H ∧ va_D A (vz_w [wkW h ki_3 wh, woW g wh wa wi wr wf ph rh (la 0), pgW g ph pa pr pf, rcW g rh ca ci cr cf, plW g la lr lf lmx]) := ⟨(upd ki_2 0 (-9)), rfl, hP, hD⟩
  rw [hQ]
  exact vz_vret3 hx hb hr hlk hK hP hD hS ki_3 trivial rfl (Nat.le_refl 0) (Nat.le_refl 0) dX7_endBy_16
theorem q1147 : Cond.methodLink RX7 109 yX7_endBy ∈ wsL_law := mT_5 (List.mem_of_getElem? (i := 62) rfl) rfl
theorem q1148 : Cond.instanceMethod yX7_endBy ∈ wsL_law := mT_5 (List.mem_of_getElem? (i := 64) rfl) rfl
theorem q1149 : Cond.selects RX7 yX7_endBy yX7_endBy ∈ wsL_law := mS_5 (q := (yX7_endBy, 7)) (List.mem_of_getElem? (i := 9) rfl) rfl
theorem q1150 : Cond.code yX7_endBy cX7_endBy 3 none ∈ wsL_law := mT_5 (List.mem_of_getElem? (i := 65) rfl) rfl
theorem kv_X7_109 : vz_cv RX7 109 yX7_endBy cX7_endBy 3 none 2 := ⟨q1147, q1148, q1149, q51, q1150, by decide +kernel⟩
theorem dX7_takeThrown_0 : decode cX7_takeThrown 0 = .ok (.aload_n 0, 1) := by decide +kernel
theorem dX7_takeThrown_1 : decode cX7_takeThrown 1 = .ok (.getfield 9, 3) := by decide +kernel
theorem dX7_takeThrown_4 : decode cX7_takeThrown 4 = .ok (.getfield 37, 3) := by decide +kernel
theorem dX7_takeThrown_7 : decode cX7_takeThrown 7 = .ok (.bipush (-9), 2) := by decide +kernel
theorem dX7_takeThrown_9 : decode cX7_takeThrown 9 = .ok (.if_icmp .eq 24, 3) := by decide +kernel
theorem dX7_takeThrown_12 : decode cX7_takeThrown 12 = .ok (.aload_n 0, 1) := by decide +kernel
theorem dX7_takeThrown_13 : decode cX7_takeThrown 13 = .ok (.iconst 4, 1) := by decide +kernel
theorem dX7_takeThrown_14 : decode cX7_takeThrown 14 = .ok (.aload_n 0, 1) := by decide +kernel
theorem dX7_takeThrown_15 : decode cX7_takeThrown 15 = .ok (.getfield 9, 3) := by decide +kernel
theorem dX7_takeThrown_18 : decode cX7_takeThrown 18 = .ok (.getfield 37, 3) := by decide +kernel
theorem dX7_takeThrown_21 : decode cX7_takeThrown 21 = .ok (.invokevirtual 109, 3) := by decide +kernel
theorem dX7_takeThrown_24 : decode cX7_takeThrown 24 = .ok (.aload_n 0, 1) := by decide +kernel
theorem dX7_takeThrown_25 : decode cX7_takeThrown 25 = .ok (.getfield 9, 3) := by decide +kernel
theorem dX7_takeThrown_28 : decode cX7_takeThrown 28 = .ok (.bipush (-9), 2) := by decide +kernel
theorem dX7_takeThrown_30 : decode cX7_takeThrown 30 = .ok (.putfield 37, 3) := by decide +kernel
theorem dX7_takeThrown_33 : decode cX7_takeThrown 33 = .ok (.return_, 1) := by decide +kernel
set_option maxHeartbeats 8000000 in
set_option maxRecDepth 100000 in
theorem a_K_takeThrown (l : Launch) (D : va_G) (g : Nat → ClassId)   (sz : Nat) (h : Nat) (ki : Nat → Int32) (wh : Nat) (wa : Nat → Nat) (wi : Nat → Int32) (wr : Nat → Nat) (wf : Nat → Nat → Int32) (ph : Nat) (rh : Nat) (la : Nat → Nat) (pa : Nat → Nat) (pr : Nat → Nat) (pf : Nat → Nat → Int32) (ca : Nat → Nat) (ci : Nat → Int32) (cr : Nat → Nat) (cf : Nat → Nat → Int32) (lr : Nat → Nat) (lf : Nat → Nat → Int32) (lmx : Nat) (hw_w : ∀ k, wr k ≤ woW_lim k) (hw_p : ∀ k, pr k ≤ pgW_lim k) (hw_c : ∀ k, cr k ≤ rcW_lim k) (hw_l : ∀ k, lr k ≤ (plW_lim lmx) k) (hmx_l : lmx ≤ 30) : vz_Mv l D (tyG g) yX7_takeThrown cX7_takeThrown 1 1 22 0 0 [.ref h] sz (vz_w [wkW h ki wh, woW g wh wa wi wr wf ph rh (la 0), pgW g ph pa pr pf, rcW g rh ca ci cr cf, plW g la lr lf lmx]) (fun u : (Nat → Int32) × (Nat → Int32) => True) (fun u => vz_w [wkW h u.1 wh, woW g wh wa u.2 wr wf ph rh (la 0), pgW g ph pa pr pf, rcW g rh ca ci cr cf, plW g la lr lf lmx]) := by
  refine vz_svQ (by decide) (Nat.le_of_ble_eq_true rfl) (fun p e s m args below meth c hx hb hr hml hts hown hlk hin hK hsz A hA H locs hP hD hS ls hl Q hQ => ?_)
  have hl : lv_has ls 1 [(0, .ref h)] := hl
  have J33 : ∀ (ki_33 : Nat → Int32), ∀ (wi_33 : Nat → Int32), ∀ (H : Heap) (locs : List Loc) (ls : Array Slot), va_P D vwCl (vz_w [wkW h ki_33 wh, woW g wh wa wi_33 wr wf ph rh (la 0), pgW g ph pa pr pf, rcW g rh ca ci cr cf, plW g la lr lf lmx]) H → va_D A (vz_w [wkW h ki_33 wh, woW g wh wa wi_33 wr wf ph rh (la 0), pgW g ph pa pr pf, rcW g rh ca ci cr cf, plW g la lr lf lmx]) → va_S A s.heap H locs → lv_has ls 1 [(0, .ref h)] → W p l e { frames := 1, cells := 0, slots := 0, locals := 22 } s m args below meth c H locs 0 0 Q (F0 m 33 ls []) := by
    intro ki_33 wi_33 H locs ls hP hD hS hl
    rw [hQ]
    exact vz_vret3 hx hb hr hlk hK hP hD hS (ki_33, wi_33) trivial rfl (Nat.le_refl 0) (Nat.le_refl 0) dX7_takeThrown_33
  refine lv_aload_n hx hb dX7_takeThrown_0 rfl (lv_at hl 0 rfl) ?_
  refine va_get (D := D) (ci := 7) (v := .ref wh) (C := RX7) (T := TX7) (N := 7) hx hb hts inlX7 hown hK hP 0 rfl rfl 0 (by decide) (hts _ q152) (fun _ h => h) rfl dX7_takeThrown_1 ?_
  refine va_get (D := D) (ci := 8) (v := .int (wi 1)) (C := RX8) (T := TX8) (N := 11) hx hb hts inlX8 hown hK hP 1 rfl rfl 9 (by decide) (hts _ q1040) (fun _ h => h) rfl dX7_takeThrown_4 ?_
  refine lv_bipush (v := (-9)) hx hb dX7_takeThrown_7 (by decide) ?_
  refine lv_icmp_eq (tgt := 33) hx hb dX7_takeThrown_9 (by decide) (fun kc1 => ?_) (fun kc1 => ?_)
  · exact J33 ki wi H locs ls hP hD hS (lv_sub hl [0] rfl)
  · refine lv_aload_n hx hb dX7_takeThrown_12 rfl (lv_at hl 0 rfl) ?_
    refine lv_iconst (v := 4) hx hb dX7_takeThrown_13 (by decide) ?_
    refine lv_aload_n hx hb dX7_takeThrown_14 rfl (lv_at hl 0 rfl) ?_
    refine va_get (D := D) (ci := 7) (v := .ref wh) (C := RX7) (T := TX7) (N := 7) hx hb hts inlX7 hown hK hP 0 rfl rfl 0 (by decide) (hts _ q152) (fun _ h => h) rfl dX7_takeThrown_15 ?_
    refine va_get (D := D) (ci := 8) (v := .int (wi 1)) (C := RX8) (T := TX8) (N := 11) hx hb hts inlX8 hown hK hP 1 rfl rfl 9 (by decide) (hts _ q1040) (fun _ h => h) rfl dX7_takeThrown_18 ?_
    refine vz_Vv3 (As := [.int 4, .int (wi 1)]) (rest := []) hx hb hml hown hts hK hA hP hD hS (a_K_endBy l D g H.size h ki wh wa wi wr wf ph rh la pa pr pf ca ci cr cf lr lf lmx 4 (wi 1) hw_w hw_p hw_c hw_l hmx_l) kv_X7_109 ⟨Nat.le_of_ble_eq_true rfl, Nat.le_of_ble_eq_true rfl⟩ (q0 := 0) (ci := 7) rfl rfl rfl  hl.1 (Nat.le_of_ble_eq_true rfl) dX7_takeThrown_21 ⟨Nat.le_refl _, Nat.le_refl _⟩ rfl (fun ki_2 H locs _ _ hP hD hS => ?_)
    replace hP : va_P D vwCl (vz_w [wkW h ki_2 wh, woW g wh wa wi wr wf ph rh (la 0), pgW g ph pa pr pf, rcW g rh ca ci cr cf, plW g la lr lf lmx]) H := hP
    replace hD : va_D A (vz_w [wkW h ki_2 wh, woW g wh wa wi wr wf ph rh (la 0), pgW g ph pa pr pf, rcW g rh ca ci cr cf, plW g la lr lf lmx]) := hD
    refine lv_aload_n hx hb dX7_takeThrown_24 rfl (lv_at hl 0 rfl) ?_
    refine va_get (D := D) (ci := 7) (v := .ref wh) (C := RX7) (T := TX7) (N := 7) hx hb hts inlX7 hown hK hP 0 rfl rfl 0 (by decide) (hts _ q152) (fun _ h => h) rfl dX7_takeThrown_25 ?_
    refine lv_bipush (v := (-9)) hx hb dX7_takeThrown_28 (by decide) ?_
    refine va_put (D := D) (ci := 8) (v := .int (-9)) (ty := .int) (C := RX8) (T := TX8) (N := 11) hx hb hts inlX8 tyX8 tyX8_ok nmX8 hown hK hP hD hS 1 rfl rfl 9 (by decide) (hts _ q1040) (fun _ h => h) rfl (by decide +kernel) rfl rfl (Nat.le_of_ble_eq_true rfl) dX7_takeThrown_30 (fun H locs hP hD hS => ?_)
    obtain ⟨wi_3, hwi_3, hP, hD⟩ : ∃ wi_3 : Nat → Int32, (wi_3 = (upd wi 1 (-9))) ∧ va_P D vwCl (vz_w [wkW h ki_2 wh, woW g wh wa wi_3 wr wf ph rh (la 0), pgW g ph pa pr pf, rcW g rh ca ci cr cf, plW g la lr lf lmx]) H ∧ va_D A (vz_w [wkW h ki_2 wh, woW g wh wa wi_3 wr wf ph rh (la 0), pgW g ph pa pr pf, rcW g rh ca ci cr cf, plW g la lr lf lmx]) := ⟨(upd wi 1 (-9)), rfl, hP, hD⟩
    exact J33 ki_2 wi_3 H locs ls hP hD hS (lv_sub hl [0] rfl)
theorem q1078 : Cond.methodLink RX7 112 yX8_takeStep ∈ wsL_law := mT_4 (List.mem_of_getElem? (i := 239) rfl) rfl
theorem q1079 : Cond.instanceMethod yX8_takeStep ∈ wsL_law := mT_5 (List.mem_of_getElem? (i := 0) rfl) rfl
theorem q1080 : Cond.selects RX8 yX8_takeStep yX8_takeStep ∈ wsL_law := mT_5 (List.mem_of_getElem? (i := 1) rfl) rfl
theorem q1081 : Cond.code yX8_takeStep cX8_takeStep 1 (some .boolean) ∈ wsL_law := mT_5 (List.mem_of_getElem? (i := 2) rfl) rfl
theorem kv_X7_112 : vz_cv RX7 112 yX8_takeStep cX8_takeStep 1 (some .boolean) 0 := ⟨q1078, q1079, q1080, q47, q1081, by decide +kernel⟩
theorem q1076 : Cond.fieldLink RX7 118 "WaysAtlas$Walker" "firstSum" "I" ∈ wsL_law := mT_2 (List.mem_of_getElem? (i := 91) rfl) rfl
theorem q1077 : Cond.fieldLink RX7 121 "WaysAtlas$Walker" "secondSum" "I" ∈ wsL_law := mT_2 (List.mem_of_getElem? (i := 92) rfl) rfl
theorem dX7_begin_0 : decode cX7_begin 0 = .ok (.aload_n 0, 1) := by decide +kernel
theorem dX7_begin_1 : decode cX7_begin 1 = .ok (.getfield 9, 3) := by decide +kernel
theorem dX7_begin_4 : decode cX7_begin 4 = .ok (.invokevirtual 112, 3) := by decide +kernel
theorem dX7_begin_7 : decode cX7_begin 7 = .ok (.ifCond .eq 53, 3) := by decide +kernel
theorem dX7_begin_10 : decode cX7_begin 10 = .ok (.aload_n 0, 1) := by decide +kernel
theorem dX7_begin_11 : decode cX7_begin 11 = .ok (.getfield 9, 3) := by decide +kernel
theorem dX7_begin_14 : decode cX7_begin 14 = .ok (.iconst 0, 1) := by decide +kernel
theorem dX7_begin_15 : decode cX7_begin 15 = .ok (.iload_n 1, 1) := by decide +kernel
theorem dX7_begin_16 : decode cX7_begin 16 = .ok (.invokevirtual 106, 3) := by decide +kernel
theorem dX7_begin_19 : decode cX7_begin 19 = .ok (.aload_n 0, 1) := by decide +kernel
theorem dX7_begin_20 : decode cX7_begin 20 = .ok (.aload_n 0, 1) := by decide +kernel
theorem dX7_begin_21 : decode cX7_begin 21 = .ok (.aload_n 0, 1) := by decide +kernel
theorem dX7_begin_22 : decode cX7_begin 22 = .ok (.iload_n 1, 1) := by decide +kernel
theorem dX7_begin_23 : decode cX7_begin 23 = .ok (.iconst 3, 1) := by decide +kernel
theorem dX7_begin_24 : decode cX7_begin 24 = .ok (.invokevirtual 49, 3) := by decide +kernel
theorem dX7_begin_27 : decode cX7_begin 27 = .ok (.iconst 0, 1) := by decide +kernel
theorem dX7_begin_28 : decode cX7_begin 28 = .ok (.invokevirtual 115, 3) := by decide +kernel
theorem dX7_begin_31 : decode cX7_begin 31 = .ok (.putfield 118, 3) := by decide +kernel
theorem dX7_begin_34 : decode cX7_begin 34 = .ok (.aload_n 0, 1) := by decide +kernel
theorem dX7_begin_35 : decode cX7_begin 35 = .ok (.aload_n 0, 1) := by decide +kernel
theorem dX7_begin_36 : decode cX7_begin 36 = .ok (.aload_n 0, 1) := by decide +kernel
theorem dX7_begin_37 : decode cX7_begin 37 = .ok (.iload_n 1, 1) := by decide +kernel
theorem dX7_begin_38 : decode cX7_begin 38 = .ok (.iconst 4, 1) := by decide +kernel
theorem dX7_begin_39 : decode cX7_begin 39 = .ok (.invokevirtual 49, 3) := by decide +kernel
theorem dX7_begin_42 : decode cX7_begin 42 = .ok (.iconst 0, 1) := by decide +kernel
theorem dX7_begin_43 : decode cX7_begin 43 = .ok (.invokevirtual 115, 3) := by decide +kernel
theorem dX7_begin_46 : decode cX7_begin 46 = .ok (.putfield 121, 3) := by decide +kernel
theorem dX7_begin_49 : decode cX7_begin 49 = .ok (.aload_n 0, 1) := by decide +kernel
theorem dX7_begin_50 : decode cX7_begin 50 = .ok (.aload_n 0, 1) := by decide +kernel
theorem dX7_begin_51 : decode cX7_begin 51 = .ok (.iload_n 1, 1) := by decide +kernel
theorem dX7_begin_52 : decode cX7_begin 52 = .ok (.bipush 8, 2) := by decide +kernel
theorem dX7_begin_54 : decode cX7_begin 54 = .ok (.invokevirtual 49, 3) := by decide +kernel
theorem dX7_begin_57 : decode cX7_begin 57 = .ok (.putfield 15, 3) := by decide +kernel
theorem dX7_begin_60 : decode cX7_begin 60 = .ok (.return_, 1) := by decide +kernel
set_option maxHeartbeats 8000000 in
set_option maxRecDepth 100000 in
theorem a_K_begin (l : Launch) (D : va_G) (g : Nat → ClassId)   (sz : Nat) (h : Nat) (ki : Nat → Int32) (wh : Nat) (wa : Nat → Nat) (wi : Nat → Int32) (wr : Nat → Nat) (wf : Nat → Nat → Int32) (ph : Nat) (rh : Nat) (la : Nat → Nat) (pa : Nat → Nat) (pr : Nat → Nat) (pf : Nat → Nat → Int32) (ca : Nat → Nat) (ci : Nat → Int32) (cr : Nat → Nat) (cf : Nat → Nat → Int32) (lr : Nat → Nat) (lf : Nat → Nat → Int32) (lmx : Nat) (n1 : Int32) (hw_w : ∀ k, wr k ≤ woW_lim k) (hw_p : ∀ k, pr k ≤ pgW_lim k) (hw_c : ∀ k, cr k ≤ rcW_lim k) (hw_l : ∀ k, lr k ≤ (plW_lim lmx) k) (hmx_l : lmx ≤ 30) : vz_Mv l D (tyG g) yX7_begin cX7_begin 2 103 3099 0 0 [.ref h, .int n1] sz (vz_w [wkW h ki wh, woW g wh wa wi wr wf ph rh (la 0), pgW g ph pa pr pf, rcW g rh ca ci cr cf, plW g la lr lf lmx]) (fun u : (Nat → Int32) × (Nat → Int32) × (Nat → Nat → Int32) × (Nat → Int32) × (Nat → Nat) × (Nat → Nat → Int32) => (∀ k, u.2.2.2.2.1 k ≤ rcW_lim k)) (fun u => vz_w [wkW h u.1 wh, woW g wh wa u.2.1 wr u.2.2.1 ph rh (la 0), pgW g ph pa pr pf, rcW g rh ca u.2.2.2.1 u.2.2.2.2.1 u.2.2.2.2.2, plW g la lr lf lmx]) := by
  refine vz_svQ (by decide) (Nat.le_of_ble_eq_true rfl) (fun p e s m args below meth c hx hb hr hml hts hown hlk hin hK hsz A hA H locs hP hD hS ls hl Q hQ => ?_)
  have hl : lv_has ls 2 [(0, .ref h), (1, .int n1)] := hl
  have J60 : ∀ (ki_60 : Nat → Int32), ∀ (wi_60 : Nat → Int32), ∀ (wf_60 : Nat → Nat → Int32), ∀ (ci_60 : Nat → Int32), ∀ (cr_60 : Nat → Nat), ∀ (cf_60 : Nat → Nat → Int32), (∀ k, cr_60 k ≤ rcW_lim k) → ∀ (H : Heap) (locs : List Loc) (ls : Array Slot), va_P D vwCl (vz_w [wkW h ki_60 wh, woW g wh wa wi_60 wr wf_60 ph rh (la 0), pgW g ph pa pr pf, rcW g rh ca ci_60 cr_60 cf_60, plW g la lr lf lmx]) H → va_D A (vz_w [wkW h ki_60 wh, woW g wh wa wi_60 wr wf_60 ph rh (la 0), pgW g ph pa pr pf, rcW g rh ca ci_60 cr_60 cf_60, plW g la lr lf lmx]) → va_S A s.heap H locs → lv_has ls 2 [(0, .ref h), (1, .int n1)] → W p l e { frames := 103, cells := 0, slots := 0, locals := 3099 } s m args below meth c H locs 0 0 Q (F0 m 60 ls []) := by
    intro ki_60 wi_60 wf_60 ci_60 cr_60 cf_60 hw_c_60 H locs ls hP hD hS hl
    rw [hQ]
    exact vz_vret3 hx hb hr hlk hK hP hD hS (ki_60, wi_60, wf_60, ci_60, cr_60, cf_60) hw_c_60 rfl (Nat.le_refl 0) (Nat.le_refl 0) dX7_begin_60
  refine lv_aload_n hx hb dX7_begin_0 rfl (lv_at hl 0 rfl) ?_
  refine va_get (D := D) (ci := 7) (v := .ref wh) (C := RX7) (T := TX7) (N := 7) hx hb hts inlX7 hown hK hP 0 rfl rfl 0 (by decide) (hts _ q152) (fun _ h => h) rfl dX7_begin_1 ?_
  refine vz_Vi4 (n9 := 5) (bs2 := fun u : (Nat → Int32) => [wkW h ki wh, woW g wh wa wi wr wf ph rh (la 0), pgW g ph pa pr pf, rcW g rh ca u cr cf, plW g la lr lf lmx]) (br := [wkW h ki wh]) (As := []) (rest := []) hx hb hml hown hts hK hA hP hD hS (a_W_takeStep l D g H.size wh wa wi wr wf ph rh la pa pr pf ca ci cr cf lr lf lmx hw_w hw_p hw_c hw_l hmx_l) kv_X7_112 ⟨Nat.le_of_ble_eq_true rfl, Nat.le_of_ble_eq_true rfl⟩ (q0 := 1) (ci := 8) rfl rfl rfl [1, 2, 3, 4] [0] rfl (by decide) rfl (fun _ => rfl) (fun _ => rfl) hl.1 (Nat.le_of_ble_eq_true rfl) dX7_begin_4 ⟨Nat.le_refl _, Nat.le_refl _⟩ rfl (fun v2 ci_1 H locs hz3 _ hP hD hS => ?_)
  replace hP : va_P D vwCl (vz_w [wkW h ki wh, woW g wh wa wi wr wf ph rh (la 0), pgW g ph pa pr pf, rcW g rh ca ci_1 cr cf, plW g la lr lf lmx]) H := hP
  replace hD : va_D A (vz_w [wkW h ki wh, woW g wh wa wi wr wf ph rh (la 0), pgW g ph pa pr pf, rcW g rh ca ci_1 cr cf, plW g la lr lf lmx]) := hD
  refine lv_if_eq (tgt := 60) hx hb dX7_begin_7 (by decide) (fun kc4 => ?_) (fun kc4 => ?_)
  · exact J60 ki wi wf ci_1 cr cf hw_c H locs ls hP hD hS (lv_sub hl [0, 1] rfl)
  · refine lv_aload_n hx hb dX7_begin_10 rfl (lv_at hl 0 rfl) ?_
    refine va_get (D := D) (ci := 7) (v := .ref wh) (C := RX7) (T := TX7) (N := 7) hx hb hts inlX7 hown hK hP 0 rfl rfl 0 (by decide) (hts _ q152) (fun _ h => h) rfl dX7_begin_11 ?_
    refine lv_iconst (v := 0) hx hb dX7_begin_14 (by decide) ?_
    refine lv_iload_n hx hb dX7_begin_15 rfl (lv_at hl 1 rfl) ?_
    refine vz_Vv4 (n9 := 5) (bs2 := fun u : (Nat → Nat → Int32) => [wkW h ki wh, woW g wh wa wi wr u ph rh (la 0), pgW g ph pa pr pf, rcW g rh ca ci_1 cr cf, plW g la lr lf lmx]) (br := [wkW h ki wh]) (As := [.int 0, .int n1]) (rest := []) hx hb hml hown hts hK hA hP hD hS (a_W_setNow l D g H.size wh wa wi wr wf ph rh la pa pr pf ca ci_1 cr cf lr lf lmx 0 n1 hw_w hw_p hw_c hw_l hmx_l) kv_X7_106 ⟨Nat.le_of_ble_eq_true rfl, Nat.le_of_ble_eq_true rfl⟩ (q0 := 1) (ci := 8) rfl rfl rfl [1, 2, 3, 4] [0] rfl (by decide) rfl (fun _ => rfl) (fun _ => rfl) hl.1 (Nat.le_of_ble_eq_true rfl) dX7_begin_16 ⟨Nat.le_refl _, Nat.le_refl _⟩ rfl (fun wf_5 H locs _ _ hP hD hS => ?_)
    replace hP : va_P D vwCl (vz_w [wkW h ki wh, woW g wh wa wi wr wf_5 ph rh (la 0), pgW g ph pa pr pf, rcW g rh ca ci_1 cr cf, plW g la lr lf lmx]) H := hP
    replace hD : va_D A (vz_w [wkW h ki wh, woW g wh wa wi wr wf_5 ph rh (la 0), pgW g ph pa pr pf, rcW g rh ca ci_1 cr cf, plW g la lr lf lmx]) := hD
    refine lv_aload_n hx hb dX7_begin_19 rfl (lv_at hl 0 rfl) ?_
    refine lv_aload_n hx hb dX7_begin_20 rfl (lv_at hl 0 rfl) ?_
    refine lv_aload_n hx hb dX7_begin_21 rfl (lv_at hl 0 rfl) ?_
    refine lv_iload_n hx hb dX7_begin_22 rfl (lv_at hl 1 rfl) ?_
    refine lv_iconst (v := 3) hx hb dX7_begin_23 (by decide) ?_
    refine vz_Vi3 (As := [.int n1, .int 3]) (rest := [.ref h, .ref h]) hx hb hml hown hts hK hA hP hD hS (a_K_at l D g H.size h ki wh wa wi wr wf_5 ph rh la pa pr pf ca ci_1 cr cf lr lf lmx n1 3 hw_w hw_p hw_c hw_l hmx_l) kv_X7_49 ⟨Nat.le_of_ble_eq_true rfl, Nat.le_of_ble_eq_true rfl⟩ (q0 := 0) (ci := 7) rfl rfl rfl  hl.1 (Nat.le_of_ble_eq_true rfl) dX7_begin_24 ⟨Nat.le_refl _, Nat.le_refl _⟩ rfl (fun v6 _ H locs _ _ hP hD hS => ?_)
    refine lv_iconst (v := 0) hx hb dX7_begin_27 (by decide) ?_
    refine vz_Vi3 (As := [.int v6, .int 0]) (rest := [.ref h]) hx hb hml hown hts hK hA hP hD hS (a_K_sum9 l D g 41 0 (by decide) H.size h ki wh wa wi wr wf_5 ph rh la pa pr pf ca ci_1 cr cf lr lf lmx v6 hw_w hw_p hw_c hw_l hmx_l) kv_X7_115 ⟨Nat.le_of_ble_eq_true rfl, Nat.le_of_ble_eq_true rfl⟩ (q0 := 0) (ci := 7) rfl rfl rfl  hl.1 (Nat.le_of_ble_eq_true rfl) dX7_begin_28 ⟨Nat.le_refl _, Nat.le_refl _⟩ rfl (fun v11 ⟨wi_7, cr_8, cf_9⟩ H locs hw_10 _ hP hD hS => ?_)
    try dsimp only at hw_10
    replace hP : va_P D vwCl (vz_w [wkW h ki wh, woW g wh wa wi_7 wr wf_5 ph rh (la 0), pgW g ph pa pr pf, rcW g rh ca ci_1 cr_8 cf_9, plW g la lr lf lmx]) H := hP
    replace hD : va_D A (vz_w [wkW h ki wh, woW g wh wa wi_7 wr wf_5 ph rh (la 0), pgW g ph pa pr pf, rcW g rh ca ci_1 cr_8 cf_9, plW g la lr lf lmx]) := hD
    refine va_put (D := D) (ci := 7) (v := .int v11) (ty := .int) (C := RX7) (T := TX7) (N := 7) hx hb hts inlX7 tyX7 tyX7_ok nmX7 hown hK hP hD hS 0 rfl rfl 5 (by decide) (hts _ q1076) (fun _ h => h) rfl (by decide +kernel) rfl rfl (Nat.le_of_ble_eq_true rfl) dX7_begin_31 (fun H locs hP hD hS => ?_)
    obtain ⟨ki_12, hki_12, hP, hD⟩ : ∃ ki_12 : Nat → Int32, (ki_12 = (upd ki 4 v11)) ∧ va_P D vwCl (vz_w [wkW h ki_12 wh, woW g wh wa wi_7 wr wf_5 ph rh (la 0), pgW g ph pa pr pf, rcW g rh ca ci_1 cr_8 cf_9, plW g la lr lf lmx]) H ∧ va_D A (vz_w [wkW h ki_12 wh, woW g wh wa wi_7 wr wf_5 ph rh (la 0), pgW g ph pa pr pf, rcW g rh ca ci_1 cr_8 cf_9, plW g la lr lf lmx]) := ⟨(upd ki 4 v11), rfl, hP, hD⟩
    refine lv_aload_n hx hb dX7_begin_34 rfl (lv_at hl 0 rfl) ?_
    refine lv_aload_n hx hb dX7_begin_35 rfl (lv_at hl 0 rfl) ?_
    refine lv_aload_n hx hb dX7_begin_36 rfl (lv_at hl 0 rfl) ?_
    refine lv_iload_n hx hb dX7_begin_37 rfl (lv_at hl 1 rfl) ?_
    refine lv_iconst (v := 4) hx hb dX7_begin_38 (by decide) ?_
    refine vz_Vi3 (As := [.int n1, .int 4]) (rest := [.ref h, .ref h]) hx hb hml hown hts hK hA hP hD hS (a_K_at l D g H.size h ki_12 wh wa wi_7 wr wf_5 ph rh la pa pr pf ca ci_1 cr_8 cf_9 lr lf lmx n1 4 hw_w hw_p hw_10 hw_l hmx_l) kv_X7_49 ⟨Nat.le_of_ble_eq_true rfl, Nat.le_of_ble_eq_true rfl⟩ (q0 := 0) (ci := 7) rfl rfl rfl  hl.1 (Nat.le_of_ble_eq_true rfl) dX7_begin_39 ⟨Nat.le_refl _, Nat.le_refl _⟩ rfl (fun v13 _ H locs _ _ hP hD hS => ?_)
    refine lv_iconst (v := 0) hx hb dX7_begin_42 (by decide) ?_
    refine vz_Vi3 (As := [.int v13, .int 0]) (rest := [.ref h]) hx hb hml hown hts hK hA hP hD hS (a_K_sum9 l D g 41 0 (by decide) H.size h ki_12 wh wa wi_7 wr wf_5 ph rh la pa pr pf ca ci_1 cr_8 cf_9 lr lf lmx v13 hw_w hw_p hw_10 hw_l hmx_l) kv_X7_115 ⟨Nat.le_of_ble_eq_true rfl, Nat.le_of_ble_eq_true rfl⟩ (q0 := 0) (ci := 7) rfl rfl rfl  hl.1 (Nat.le_of_ble_eq_true rfl) dX7_begin_43 ⟨Nat.le_refl _, Nat.le_refl _⟩ rfl (fun v18 ⟨wi_14, cr_15, cf_16⟩ H locs hw_17 _ hP hD hS => ?_)
    try dsimp only at hw_17
    replace hP : va_P D vwCl (vz_w [wkW h ki_12 wh, woW g wh wa wi_14 wr wf_5 ph rh (la 0), pgW g ph pa pr pf, rcW g rh ca ci_1 cr_15 cf_16, plW g la lr lf lmx]) H := hP
    replace hD : va_D A (vz_w [wkW h ki_12 wh, woW g wh wa wi_14 wr wf_5 ph rh (la 0), pgW g ph pa pr pf, rcW g rh ca ci_1 cr_15 cf_16, plW g la lr lf lmx]) := hD
    refine va_put (D := D) (ci := 7) (v := .int v18) (ty := .int) (C := RX7) (T := TX7) (N := 7) hx hb hts inlX7 tyX7 tyX7_ok nmX7 hown hK hP hD hS 0 rfl rfl 6 (by decide) (hts _ q1077) (fun _ h => h) rfl (by decide +kernel) rfl rfl (Nat.le_of_ble_eq_true rfl) dX7_begin_46 (fun H locs hP hD hS => ?_)
    obtain ⟨ki_19, hki_19, hP, hD⟩ : ∃ ki_19 : Nat → Int32, (ki_19 = (upd ki_12 5 v18)) ∧ va_P D vwCl (vz_w [wkW h ki_19 wh, woW g wh wa wi_14 wr wf_5 ph rh (la 0), pgW g ph pa pr pf, rcW g rh ca ci_1 cr_15 cf_16, plW g la lr lf lmx]) H ∧ va_D A (vz_w [wkW h ki_19 wh, woW g wh wa wi_14 wr wf_5 ph rh (la 0), pgW g ph pa pr pf, rcW g rh ca ci_1 cr_15 cf_16, plW g la lr lf lmx]) := ⟨(upd ki_12 5 v18), rfl, hP, hD⟩
    refine lv_aload_n hx hb dX7_begin_49 rfl (lv_at hl 0 rfl) ?_
    refine lv_aload_n hx hb dX7_begin_50 rfl (lv_at hl 0 rfl) ?_
    refine lv_iload_n hx hb dX7_begin_51 rfl (lv_at hl 1 rfl) ?_
    refine lv_bipush (v := 8) hx hb dX7_begin_52 (by decide) ?_
    refine vz_Vi3 (As := [.int n1, .int 8]) (rest := [.ref h]) hx hb hml hown hts hK hA hP hD hS (a_K_at l D g H.size h ki_19 wh wa wi_14 wr wf_5 ph rh la pa pr pf ca ci_1 cr_15 cf_16 lr lf lmx n1 8 hw_w hw_p hw_17 hw_l hmx_l) kv_X7_49 ⟨Nat.le_of_ble_eq_true rfl, Nat.le_of_ble_eq_true rfl⟩ (q0 := 0) (ci := 7) rfl rfl rfl  hl.1 (Nat.le_of_ble_eq_true rfl) dX7_begin_54 ⟨Nat.le_refl _, Nat.le_refl _⟩ rfl (fun v20 _ H locs _ _ hP hD hS => ?_)
    refine va_put (D := D) (ci := 7) (v := .int v20) (ty := .int) (C := RX7) (T := TX7) (N := 7) hx hb hts inlX7 tyX7 tyX7_ok nmX7 hown hK hP hD hS 0 rfl rfl 1 (by decide) (hts _ q153) (fun _ h => h) rfl (by decide +kernel) rfl rfl (Nat.le_of_ble_eq_true rfl) dX7_begin_57 (fun H locs hP hD hS => ?_)
    obtain ⟨ki_21, hki_21, hP, hD⟩ : ∃ ki_21 : Nat → Int32, (ki_21 = (upd ki_19 0 v20)) ∧ va_P D vwCl (vz_w [wkW h ki_21 wh, woW g wh wa wi_14 wr wf_5 ph rh (la 0), pgW g ph pa pr pf, rcW g rh ca ci_1 cr_15 cf_16, plW g la lr lf lmx]) H ∧ va_D A (vz_w [wkW h ki_21 wh, woW g wh wa wi_14 wr wf_5 ph rh (la 0), pgW g ph pa pr pf, rcW g rh ca ci_1 cr_15 cf_16, plW g la lr lf lmx]) := ⟨(upd ki_19 0 v20), rfl, hP, hD⟩
    exact J60 ki_21 wi_14 wf_5 ci_1 cr_15 cf_16 hw_17 H locs ls hP hD hS (lv_sub hl [0, 1] rfl)
theorem dX7_enterBlock_0 : decode cX7_enterBlock 0 = .ok (.aload_n 0, 1) := by decide +kernel
theorem dX7_enterBlock_1 : decode cX7_enterBlock 1 = .ok (.iload_n 1, 1) := by decide +kernel
theorem dX7_enterBlock_2 : decode cX7_enterBlock 2 = .ok (.putfield 19, 3) := by decide +kernel
theorem dX7_enterBlock_5 : decode cX7_enterBlock 5 = .ok (.aload_n 0, 1) := by decide +kernel
theorem dX7_enterBlock_6 : decode cX7_enterBlock 6 = .ok (.iconst 0, 1) := by decide +kernel
theorem dX7_enterBlock_7 : decode cX7_enterBlock 7 = .ok (.putfield 87, 3) := by decide +kernel
theorem dX7_enterBlock_10 : decode cX7_enterBlock 10 = .ok (.aload_n 0, 1) := by decide +kernel
theorem dX7_enterBlock_11 : decode cX7_enterBlock 11 = .ok (.aload_n 0, 1) := by decide +kernel
theorem dX7_enterBlock_12 : decode cX7_enterBlock 12 = .ok (.iload_n 1, 1) := by decide +kernel
theorem dX7_enterBlock_13 : decode cX7_enterBlock 13 = .ok (.iload_n 2, 1) := by decide +kernel
theorem dX7_enterBlock_14 : decode cX7_enterBlock 14 = .ok (.invokevirtual 49, 3) := by decide +kernel
theorem dX7_enterBlock_17 : decode cX7_enterBlock 17 = .ok (.putfield 15, 3) := by decide +kernel
theorem dX7_enterBlock_20 : decode cX7_enterBlock 20 = .ok (.return_, 1) := by decide +kernel
set_option maxHeartbeats 8000000 in
set_option maxRecDepth 100000 in
theorem a_K_enterBlock (l : Launch) (D : va_G) (g : Nat → ClassId)   (sz : Nat) (h : Nat) (ki : Nat → Int32) (wh : Nat) (wa : Nat → Nat) (wi : Nat → Int32) (wr : Nat → Nat) (wf : Nat → Nat → Int32) (ph : Nat) (rh : Nat) (la : Nat → Nat) (pa : Nat → Nat) (pr : Nat → Nat) (pf : Nat → Nat → Int32) (ca : Nat → Nat) (ci : Nat → Int32) (cr : Nat → Nat) (cf : Nat → Nat → Int32) (lr : Nat → Nat) (lf : Nat → Nat → Int32) (lmx : Nat) (n1 : Int32) (n2 : Int32) (hw_w : ∀ k, wr k ≤ woW_lim k) (hw_p : ∀ k, pr k ≤ pgW_lim k) (hw_c : ∀ k, cr k ≤ rcW_lim k) (hw_l : ∀ k, lr k ≤ (plW_lim lmx) k) (hmx_l : lmx ≤ 30) : vz_Mv l D (tyG g) yX7_enterBlock cX7_enterBlock 3 2 45 0 0 [.ref h, .int n1, .int n2] sz (vz_w [wkW h ki wh, woW g wh wa wi wr wf ph rh (la 0), pgW g ph pa pr pf, rcW g rh ca ci cr cf, plW g la lr lf lmx]) (fun u : (Nat → Int32) => True) (fun u => vz_w [wkW h u wh, woW g wh wa wi wr wf ph rh (la 0), pgW g ph pa pr pf, rcW g rh ca ci cr cf, plW g la lr lf lmx]) := by
  refine vz_svQ (by decide) (Nat.le_of_ble_eq_true rfl) (fun p e s m args below meth c hx hb hr hml hts hown hlk hin hK hsz A hA H locs hP hD hS ls hl Q hQ => ?_)
  have hl : lv_has ls 3 [(0, .ref h), (1, .int n1), (2, .int n2)] := hl
  refine lv_aload_n hx hb dX7_enterBlock_0 rfl (lv_at hl 0 rfl) ?_
  refine lv_iload_n hx hb dX7_enterBlock_1 rfl (lv_at hl 1 rfl) ?_
  refine va_put (D := D) (ci := 7) (v := .int n1) (ty := .int) (C := RX7) (T := TX7) (N := 7) hx hb hts inlX7 tyX7 tyX7_ok nmX7 hown hK hP hD hS 0 rfl rfl 2 (by decide) (hts _ q154) (fun _ h => h) rfl (by decide +kernel) rfl rfl (Nat.le_of_ble_eq_true rfl) dX7_enterBlock_2 (fun H locs hP hD hS => ?_)
  obtain ⟨ki_1, hki_1, hP, hD⟩ : ∃ ki_1 : Nat → Int32, (ki_1 = (upd ki 1 n1)) ∧ va_P D vwCl (vz_w [wkW h ki_1 wh, woW g wh wa wi wr wf ph rh (la 0), pgW g ph pa pr pf, rcW g rh ca ci cr cf, plW g la lr lf lmx]) H ∧ va_D A (vz_w [wkW h ki_1 wh, woW g wh wa wi wr wf ph rh (la 0), pgW g ph pa pr pf, rcW g rh ca ci cr cf, plW g la lr lf lmx]) := ⟨(upd ki 1 n1), rfl, hP, hD⟩
  refine lv_aload_n hx hb dX7_enterBlock_5 rfl (lv_at hl 0 rfl) ?_
  refine lv_iconst (v := 0) hx hb dX7_enterBlock_6 (by decide) ?_
  refine va_put (D := D) (ci := 7) (v := .int 0) (ty := .int) (C := RX7) (T := TX7) (N := 7) hx hb hts inlX7 tyX7 tyX7_ok nmX7 hown hK hP hD hS 0 rfl rfl 3 (by decide) (hts _ q1047) (fun _ h => h) rfl (by decide +kernel) rfl rfl (Nat.le_of_ble_eq_true rfl) dX7_enterBlock_7 (fun H locs hP hD hS => ?_)
  obtain ⟨ki_2, hki_2, hP, hD⟩ : ∃ ki_2 : Nat → Int32, (ki_2 = (upd ki_1 2 0)) ∧ va_P D vwCl (vz_w [wkW h ki_2 wh, woW g wh wa wi wr wf ph rh (la 0), pgW g ph pa pr pf, rcW g rh ca ci cr cf, plW g la lr lf lmx]) H ∧ va_D A (vz_w [wkW h ki_2 wh, woW g wh wa wi wr wf ph rh (la 0), pgW g ph pa pr pf, rcW g rh ca ci cr cf, plW g la lr lf lmx]) := ⟨(upd ki_1 2 0), rfl, hP, hD⟩
  refine lv_aload_n hx hb dX7_enterBlock_10 rfl (lv_at hl 0 rfl) ?_
  refine lv_aload_n hx hb dX7_enterBlock_11 rfl (lv_at hl 0 rfl) ?_
  refine lv_iload_n hx hb dX7_enterBlock_12 rfl (lv_at hl 1 rfl) ?_
  refine lv_iload_n hx hb dX7_enterBlock_13 rfl (lv_at hl 2 rfl) ?_
  refine vz_Vi3 (As := [.int n1, .int n2]) (rest := [.ref h]) hx hb hml hown hts hK hA hP hD hS (a_K_at l D g H.size h ki_2 wh wa wi wr wf ph rh la pa pr pf ca ci cr cf lr lf lmx n1 n2 hw_w hw_p hw_c hw_l hmx_l) kv_X7_49 ⟨Nat.le_of_ble_eq_true rfl, Nat.le_of_ble_eq_true rfl⟩ (q0 := 0) (ci := 7) rfl rfl rfl  hl.1 (Nat.le_of_ble_eq_true rfl) dX7_enterBlock_14 ⟨Nat.le_refl _, Nat.le_refl _⟩ rfl (fun v3 _ H locs _ _ hP hD hS => ?_)
  refine va_put (D := D) (ci := 7) (v := .int v3) (ty := .int) (C := RX7) (T := TX7) (N := 7) hx hb hts inlX7 tyX7 tyX7_ok nmX7 hown hK hP hD hS 0 rfl rfl 1 (by decide) (hts _ q153) (fun _ h => h) rfl (by decide +kernel) rfl rfl (Nat.le_of_ble_eq_true rfl) dX7_enterBlock_17 (fun H locs hP hD hS => ?_)
  obtain ⟨ki_4, hki_4, hP, hD⟩ : ∃ ki_4 : Nat → Int32, (ki_4 = (upd ki_2 0 v3)) ∧ va_P D vwCl (vz_w [wkW h ki_4 wh, woW g wh wa wi wr wf ph rh (la 0), pgW g ph pa pr pf, rcW g rh ca ci cr cf, plW g la lr lf lmx]) H ∧ va_D A (vz_w [wkW h ki_4 wh, woW g wh wa wi wr wf ph rh (la 0), pgW g ph pa pr pf, rcW g rh ca ci cr cf, plW g la lr lf lmx]) := ⟨(upd ki_2 0 v3), rfl, hP, hD⟩
  rw [hQ]
  exact vz_vret3 hx hb hr hlk hK hP hD hS ki_4 trivial rfl (Nat.le_refl 0) (Nat.le_refl 0) dX7_enterBlock_20
theorem q1172 : Cond.methodLink RX7 147 yX7_slot ∈ wsL_law := mT_5 (List.mem_of_getElem? (i := 86) rfl) rfl
theorem q1173 : Cond.instanceMethod yX7_slot ∈ wsL_law := mT_5 (List.mem_of_getElem? (i := 88) rfl) rfl
theorem q1174 : Cond.selects RX7 yX7_slot yX7_slot ∈ wsL_law := mS_5 (q := (yX7_slot, 7)) (List.mem_of_getElem? (i := 13) rfl) rfl
theorem q1175 : Cond.code yX7_slot cX7_slot 3 (some .int) ∈ wsL_law := mT_5 (List.mem_of_getElem? (i := 89) rfl) rfl
theorem kv_X7_147 : vz_cv RX7 147 yX7_slot cX7_slot 3 (some .int) 2 := ⟨q1172, q1173, q1174, q51, q1175, by decide +kernel⟩
theorem q1160 : Cond.methodLink RX7 143 yX7_setSlot ∈ wsL_law := mT_5 (List.mem_of_getElem? (i := 74) rfl) rfl
theorem q1161 : Cond.instanceMethod yX7_setSlot ∈ wsL_law := mT_5 (List.mem_of_getElem? (i := 76) rfl) rfl
theorem q1162 : Cond.selects RX7 yX7_setSlot yX7_setSlot ∈ wsL_law := mS_5 (q := (yX7_setSlot, 7)) (List.mem_of_getElem? (i := 11) rfl) rfl
theorem q1163 : Cond.code yX7_setSlot cX7_setSlot 4 none ∈ wsL_law := mT_5 (List.mem_of_getElem? (i := 77) rfl) rfl
theorem kv_X7_143 : vz_cv RX7 143 yX7_setSlot cX7_setSlot 4 none 3 := ⟨q1160, q1161, q1162, q51, q1163, by decide +kernel⟩
theorem q1156 : Cond.methodLink RX7 140 yX7_enterBlock ∈ wsL_law := mT_5 (List.mem_of_getElem? (i := 70) rfl) rfl
theorem q1157 : Cond.instanceMethod yX7_enterBlock ∈ wsL_law := mT_5 (List.mem_of_getElem? (i := 72) rfl) rfl
theorem q1158 : Cond.selects RX7 yX7_enterBlock yX7_enterBlock ∈ wsL_law := mS_5 (q := (yX7_enterBlock, 7)) (List.mem_of_getElem? (i := 10) rfl) rfl
theorem q1159 : Cond.code yX7_enterBlock cX7_enterBlock 3 none ∈ wsL_law := mT_5 (List.mem_of_getElem? (i := 73) rfl) rfl
theorem kv_X7_140 : vz_cv RX7 140 yX7_enterBlock cX7_enterBlock 3 none 2 := ⟨q1156, q1157, q1158, q51, q1159, by decide +kernel⟩
theorem dX7_turn_0 : decode cX7_turn 0 = .ok (.aload_n 0, 1) := by decide +kernel
theorem dX7_turn_1 : decode cX7_turn 1 = .ok (.iload_n 1, 1) := by decide +kernel
theorem dX7_turn_2 : decode cX7_turn 2 = .ok (.iconst 0, 1) := by decide +kernel
theorem dX7_turn_3 : decode cX7_turn 3 = .ok (.invokevirtual 147, 3) := by decide +kernel
theorem dX7_turn_6 : decode cX7_turn 6 = .ok (.istore_n 2, 1) := by decide +kernel
theorem dX7_turn_7 : decode cX7_turn 7 = .ok (.iload_n 2, 1) := by decide +kernel
theorem dX7_turn_8 : decode cX7_turn 8 = .ok (.iconst 1, 1) := by decide +kernel
theorem dX7_turn_9 : decode cX7_turn 9 = .ok (.if_icmp .ge 16, 3) := by decide +kernel
theorem dX7_turn_12 : decode cX7_turn 12 = .ok (.aload_n 0, 1) := by decide +kernel
theorem dX7_turn_13 : decode cX7_turn 13 = .ok (.iconst 0, 1) := by decide +kernel
theorem dX7_turn_14 : decode cX7_turn 14 = .ok (.putfield 87, 3) := by decide +kernel
theorem dX7_turn_17 : decode cX7_turn 17 = .ok (.aload_n 0, 1) := by decide +kernel
theorem dX7_turn_18 : decode cX7_turn 18 = .ok (.iload_n 1, 1) := by decide +kernel
theorem dX7_turn_19 : decode cX7_turn 19 = .ok (.invokevirtual 59, 3) := by decide +kernel
theorem dX7_turn_22 : decode cX7_turn 22 = .ok (.goto 28, 3) := by decide +kernel
theorem dX7_turn_25 : decode cX7_turn 25 = .ok (.aload_n 0, 1) := by decide +kernel
theorem dX7_turn_26 : decode cX7_turn 26 = .ok (.getfield 9, 3) := by decide +kernel
theorem dX7_turn_29 : decode cX7_turn 29 = .ok (.invokevirtual 112, 3) := by decide +kernel
theorem dX7_turn_32 : decode cX7_turn 32 = .ok (.ifCond .eq 18, 3) := by decide +kernel
theorem dX7_turn_35 : decode cX7_turn 35 = .ok (.aload_n 0, 1) := by decide +kernel
theorem dX7_turn_36 : decode cX7_turn 36 = .ok (.iload_n 1, 1) := by decide +kernel
theorem dX7_turn_37 : decode cX7_turn 37 = .ok (.iconst 0, 1) := by decide +kernel
theorem dX7_turn_38 : decode cX7_turn 38 = .ok (.iload_n 2, 1) := by decide +kernel
theorem dX7_turn_39 : decode cX7_turn 39 = .ok (.iconst 1, 1) := by decide +kernel
theorem dX7_turn_40 : decode cX7_turn 40 = .ok (.isub, 1) := by decide +kernel
theorem dX7_turn_41 : decode cX7_turn 41 = .ok (.invokevirtual 143, 3) := by decide +kernel
theorem dX7_turn_44 : decode cX7_turn 44 = .ok (.aload_n 0, 1) := by decide +kernel
theorem dX7_turn_45 : decode cX7_turn 45 = .ok (.iload_n 1, 1) := by decide +kernel
theorem dX7_turn_46 : decode cX7_turn 46 = .ok (.iconst 5, 1) := by decide +kernel
theorem dX7_turn_47 : decode cX7_turn 47 = .ok (.invokevirtual 140, 3) := by decide +kernel
theorem dX7_turn_50 : decode cX7_turn 50 = .ok (.return_, 1) := by decide +kernel
set_option maxHeartbeats 8000000 in
set_option maxRecDepth 100000 in
theorem a_K_turn (l : Launch) (D : va_G) (g : Nat → ClassId)   (sz : Nat) (h : Nat) (ki : Nat → Int32) (wh : Nat) (wa : Nat → Nat) (wi : Nat → Int32) (wr : Nat → Nat) (wf : Nat → Nat → Int32) (ph : Nat) (rh : Nat) (la : Nat → Nat) (pa : Nat → Nat) (pr : Nat → Nat) (pf : Nat → Nat → Int32) (ca : Nat → Nat) (ci : Nat → Int32) (cr : Nat → Nat) (cf : Nat → Nat → Int32) (lr : Nat → Nat) (lf : Nat → Nat → Int32) (lmx : Nat) (n1 : Int32) (hw_w : ∀ k, wr k ≤ woW_lim k) (hw_p : ∀ k, pr k ≤ pgW_lim k) (hw_c : ∀ k, cr k ≤ rcW_lim k) (hw_l : ∀ k, lr k ≤ (plW_lim lmx) k) (hmx_l : lmx ≤ 30) : vz_Mv l D (tyG g) yX7_turn cX7_turn 3 3 70 0 0 [.ref h, .int n1] sz (vz_w [wkW h ki wh, woW g wh wa wi wr wf ph rh (la 0), pgW g ph pa pr pf, rcW g rh ca ci cr cf, plW g la lr lf lmx]) (fun u : (Nat → Int32) × (Nat → Nat → Int32) × (Nat → Int32) => True) (fun u => vz_w [wkW h u.1 wh, woW g wh wa wi wr u.2.1 ph rh (la 0), pgW g ph pa pr pf, rcW g rh ca u.2.2 cr cf, plW g la lr lf lmx]) := by
  refine vz_svQ (by decide) (Nat.le_of_ble_eq_true rfl) (fun p e s m args below meth c hx hb hr hml hts hown hlk hin hK hsz A hA H locs hP hD hS ls hl Q hQ => ?_)
  have hl : lv_has ls 3 [(0, .ref h), (1, .int n1)] := hl
  have J50 : ∀ (x2_50 : Int32), ∀ (ki_50 : Nat → Int32), ∀ (wf_50 : Nat → Nat → Int32), ∀ (ci_50 : Nat → Int32), ∀ (H : Heap) (locs : List Loc) (ls : Array Slot), va_P D vwCl (vz_w [wkW h ki_50 wh, woW g wh wa wi wr wf_50 ph rh (la 0), pgW g ph pa pr pf, rcW g rh ca ci_50 cr cf, plW g la lr lf lmx]) H → va_D A (vz_w [wkW h ki_50 wh, woW g wh wa wi wr wf_50 ph rh (la 0), pgW g ph pa pr pf, rcW g rh ca ci_50 cr cf, plW g la lr lf lmx]) → va_S A s.heap H locs → lv_has ls 3 [(0, .ref h), (1, .int n1), (2, .int x2_50)] → W p l e { frames := 3, cells := 0, slots := 0, locals := 70 } s m args below meth c H locs 0 0 Q (F0 m 50 ls []) := by
    intro x2_50 ki_50 wf_50 ci_50 H locs ls hP hD hS hl
    rw [hQ]
    exact vz_vret3 hx hb hr hlk hK hP hD hS (ki_50, wf_50, ci_50) trivial rfl (Nat.le_refl 0) (Nat.le_refl 0) dX7_turn_50
  refine lv_aload_n hx hb dX7_turn_0 rfl (lv_at hl 0 rfl) ?_
  refine lv_iload_n hx hb dX7_turn_1 rfl (lv_at hl 1 rfl) ?_
  refine lv_iconst (v := 0) hx hb dX7_turn_2 (by decide) ?_
  refine vz_Vi3 (As := [.int n1, .int 0]) (rest := []) hx hb hml hown hts hK hA hP hD hS (a_K_slot l D g H.size h ki wh wa wi wr wf ph rh la pa pr pf ca ci cr cf lr lf lmx n1 0 hw_w hw_p hw_c hw_l hmx_l) kv_X7_147 ⟨Nat.le_of_ble_eq_true rfl, Nat.le_of_ble_eq_true rfl⟩ (q0 := 0) (ci := 7) rfl rfl rfl  hl.1 (Nat.le_of_ble_eq_true rfl) dX7_turn_3 ⟨Nat.le_refl _, Nat.le_refl _⟩ rfl (fun v1 _ H locs _ _ hP hD hS => ?_)
  refine lv_istore_n (lv' := [(2, .int v1), (0, .ref h), (1, .int n1)]) hx hb dX7_turn_6 rfl hl (by decide) rfl (fun ls hl => ?_)
  refine lv_iload_n hx hb dX7_turn_7 rfl (lv_at hl 0 rfl) ?_
  refine lv_iconst (v := 1) hx hb dX7_turn_8 (by decide) ?_
  refine lv_icmp_ge (tgt := 25) hx hb dX7_turn_9 (by decide) (fun kc2 => ?_) (fun kc2 => ?_)
  · refine lv_aload_n hx hb dX7_turn_25 rfl (lv_at hl 1 rfl) ?_
    refine va_get (D := D) (ci := 7) (v := .ref wh) (C := RX7) (T := TX7) (N := 7) hx hb hts inlX7 hown hK hP 0 rfl rfl 0 (by decide) (hts _ q152) (fun _ h => h) rfl dX7_turn_26 ?_
    refine vz_Vi4 (n9 := 5) (bs2 := fun u : (Nat → Int32) => [wkW h ki wh, woW g wh wa wi wr wf ph rh (la 0), pgW g ph pa pr pf, rcW g rh ca u cr cf, plW g la lr lf lmx]) (br := [wkW h ki wh]) (As := []) (rest := []) hx hb hml hown hts hK hA hP hD hS (a_W_takeStep l D g H.size wh wa wi wr wf ph rh la pa pr pf ca ci cr cf lr lf lmx hw_w hw_p hw_c hw_l hmx_l) kv_X7_112 ⟨Nat.le_of_ble_eq_true rfl, Nat.le_of_ble_eq_true rfl⟩ (q0 := 1) (ci := 8) rfl rfl rfl [1, 2, 3, 4] [0] rfl (by decide) rfl (fun _ => rfl) (fun _ => rfl) hl.1 (Nat.le_of_ble_eq_true rfl) dX7_turn_29 ⟨Nat.le_refl _, Nat.le_refl _⟩ rfl (fun v4 ci_3 H locs hz5 _ hP hD hS => ?_)
    replace hP : va_P D vwCl (vz_w [wkW h ki wh, woW g wh wa wi wr wf ph rh (la 0), pgW g ph pa pr pf, rcW g rh ca ci_3 cr cf, plW g la lr lf lmx]) H := hP
    replace hD : va_D A (vz_w [wkW h ki wh, woW g wh wa wi wr wf ph rh (la 0), pgW g ph pa pr pf, rcW g rh ca ci_3 cr cf, plW g la lr lf lmx]) := hD
    refine lv_if_eq (tgt := 50) hx hb dX7_turn_32 (by decide) (fun kc6 => ?_) (fun kc6 => ?_)
    · exact J50 v1 ki wf ci_3 H locs ls hP hD hS (lv_sub hl [1, 2, 0] rfl)
    · refine lv_aload_n hx hb dX7_turn_35 rfl (lv_at hl 1 rfl) ?_
      refine lv_iload_n hx hb dX7_turn_36 rfl (lv_at hl 2 rfl) ?_
      refine lv_iconst (v := 0) hx hb dX7_turn_37 (by decide) ?_
      refine lv_iload_n hx hb dX7_turn_38 rfl (lv_at hl 0 rfl) ?_
      refine lv_iconst (v := 1) hx hb dX7_turn_39 (by decide) ?_
      refine lv_isub hx hb dX7_turn_40 ?_
      refine vz_Vv3 (As := [.int n1, .int 0, .int (v1 - 1)]) (rest := []) hx hb hml hown hts hK hA hP hD hS (a_K_setSlot l D g H.size h ki wh wa wi wr wf ph rh la pa pr pf ca ci_3 cr cf lr lf lmx n1 0 (v1 - 1) hw_w hw_p hw_c hw_l hmx_l) kv_X7_143 ⟨Nat.le_of_ble_eq_true rfl, Nat.le_of_ble_eq_true rfl⟩ (q0 := 0) (ci := 7) rfl rfl rfl  hl.1 (Nat.le_of_ble_eq_true rfl) dX7_turn_41 ⟨Nat.le_refl _, Nat.le_refl _⟩ rfl (fun wf_7 H locs _ _ hP hD hS => ?_)
      replace hP : va_P D vwCl (vz_w [wkW h ki wh, woW g wh wa wi wr wf_7 ph rh (la 0), pgW g ph pa pr pf, rcW g rh ca ci_3 cr cf, plW g la lr lf lmx]) H := hP
      replace hD : va_D A (vz_w [wkW h ki wh, woW g wh wa wi wr wf_7 ph rh (la 0), pgW g ph pa pr pf, rcW g rh ca ci_3 cr cf, plW g la lr lf lmx]) := hD
      refine lv_aload_n hx hb dX7_turn_44 rfl (lv_at hl 1 rfl) ?_
      refine lv_iload_n hx hb dX7_turn_45 rfl (lv_at hl 2 rfl) ?_
      refine lv_iconst (v := 5) hx hb dX7_turn_46 (by decide) ?_
      refine vz_Vv3 (As := [.int n1, .int 5]) (rest := []) hx hb hml hown hts hK hA hP hD hS (a_K_enterBlock l D g H.size h ki wh wa wi wr wf_7 ph rh la pa pr pf ca ci_3 cr cf lr lf lmx n1 5 hw_w hw_p hw_c hw_l hmx_l) kv_X7_140 ⟨Nat.le_of_ble_eq_true rfl, Nat.le_of_ble_eq_true rfl⟩ (q0 := 0) (ci := 7) rfl rfl rfl  hl.1 (Nat.le_of_ble_eq_true rfl) dX7_turn_47 ⟨Nat.le_refl _, Nat.le_refl _⟩ rfl (fun ki_8 H locs _ _ hP hD hS => ?_)
      replace hP : va_P D vwCl (vz_w [wkW h ki_8 wh, woW g wh wa wi wr wf_7 ph rh (la 0), pgW g ph pa pr pf, rcW g rh ca ci_3 cr cf, plW g la lr lf lmx]) H := hP
      replace hD : va_D A (vz_w [wkW h ki_8 wh, woW g wh wa wi wr wf_7 ph rh (la 0), pgW g ph pa pr pf, rcW g rh ca ci_3 cr cf, plW g la lr lf lmx]) := hD
      exact J50 v1 ki_8 wf_7 ci_3 H locs ls hP hD hS (lv_sub hl [1, 2, 0] rfl)
  · refine lv_aload_n hx hb dX7_turn_12 rfl (lv_at hl 1 rfl) ?_
    refine lv_iconst (v := 0) hx hb dX7_turn_13 (by decide) ?_
    refine va_put (D := D) (ci := 7) (v := .int 0) (ty := .int) (C := RX7) (T := TX7) (N := 7) hx hb hts inlX7 tyX7 tyX7_ok nmX7 hown hK hP hD hS 0 rfl rfl 3 (by decide) (hts _ q1047) (fun _ h => h) rfl (by decide +kernel) rfl rfl (Nat.le_of_ble_eq_true rfl) dX7_turn_14 (fun H locs hP hD hS => ?_)
    obtain ⟨ki_9, hki_9, hP, hD⟩ : ∃ ki_9 : Nat → Int32, (ki_9 = (upd ki 2 0)) ∧ va_P D vwCl (vz_w [wkW h ki_9 wh, woW g wh wa wi wr wf ph rh (la 0), pgW g ph pa pr pf, rcW g rh ca ci cr cf, plW g la lr lf lmx]) H ∧ va_D A (vz_w [wkW h ki_9 wh, woW g wh wa wi wr wf ph rh (la 0), pgW g ph pa pr pf, rcW g rh ca ci cr cf, plW g la lr lf lmx]) := ⟨(upd ki 2 0), rfl, hP, hD⟩
    refine lv_aload_n hx hb dX7_turn_17 rfl (lv_at hl 1 rfl) ?_
    refine lv_iload_n hx hb dX7_turn_18 rfl (lv_at hl 2 rfl) ?_
    refine vz_Vv3 (As := [.int n1]) (rest := []) hx hb hml hown hts hK hA hP hD hS (a_K_goOn l D g H.size h ki_9 wh wa wi wr wf ph rh la pa pr pf ca ci cr cf lr lf lmx n1 hw_w hw_p hw_c hw_l hmx_l) kv_X7_59 ⟨Nat.le_of_ble_eq_true rfl, Nat.le_of_ble_eq_true rfl⟩ (q0 := 0) (ci := 7) rfl rfl rfl  hl.1 (Nat.le_of_ble_eq_true rfl) dX7_turn_19 ⟨Nat.le_refl _, Nat.le_refl _⟩ rfl (fun ki_10 H locs _ _ hP hD hS => ?_)
    replace hP : va_P D vwCl (vz_w [wkW h ki_10 wh, woW g wh wa wi wr wf ph rh (la 0), pgW g ph pa pr pf, rcW g rh ca ci cr cf, plW g la lr lf lmx]) H := hP
    replace hD : va_D A (vz_w [wkW h ki_10 wh, woW g wh wa wi wr wf ph rh (la 0), pgW g ph pa pr pf, rcW g rh ca ci cr cf, plW g la lr lf lmx]) := hD
    refine lv_goto (tgt := 50) hx hb dX7_turn_22 (by decide) ?_
    exact J50 v1 ki_10 wf ci H locs ls hP hD hS (lv_sub hl [1, 2, 0] rfl)
theorem q1138 : Cond.methodLink RX7 127 yX8_raise ∈ wsL_law := mT_5 (List.mem_of_getElem? (i := 53) rfl) rfl
theorem kv_X7_127 : vz_cv RX7 127 yX8_raise cX8_raise 5 none 2 := ⟨q1138, q1100, q1101, q47, q1102, by decide +kernel⟩
theorem q1168 : Cond.methodLink RX7 144 yX7_turn ∈ wsL_law := mT_5 (List.mem_of_getElem? (i := 82) rfl) rfl
theorem q1169 : Cond.instanceMethod yX7_turn ∈ wsL_law := mT_5 (List.mem_of_getElem? (i := 84) rfl) rfl
theorem q1170 : Cond.selects RX7 yX7_turn yX7_turn ∈ wsL_law := mS_5 (q := (yX7_turn, 7)) (List.mem_of_getElem? (i := 12) rfl) rfl
theorem q1171 : Cond.code yX7_turn cX7_turn 3 none ∈ wsL_law := mT_5 (List.mem_of_getElem? (i := 85) rfl) rfl
theorem kv_X7_144 : vz_cv RX7 144 yX7_turn cX7_turn 3 none 1 := ⟨q1168, q1169, q1170, q51, q1171, by decide +kernel⟩
theorem q1152 : Cond.methodLink RX7 136 yX8_compares ∈ wsL_law := mT_5 (List.mem_of_getElem? (i := 66) rfl) rfl
theorem q1153 : Cond.instanceMethod yX8_compares ∈ wsL_law := mT_5 (List.mem_of_getElem? (i := 67) rfl) rfl
theorem q1154 : Cond.selects RX8 yX8_compares yX8_compares ∈ wsL_law := mT_5 (List.mem_of_getElem? (i := 68) rfl) rfl
theorem q1155 : Cond.code yX8_compares cX8_compares 4 (some .boolean) ∈ wsL_law := mT_5 (List.mem_of_getElem? (i := 69) rfl) rfl
theorem kv_X7_136 : vz_cv RX7 136 yX8_compares cX8_compares 4 (some .boolean) 3 := ⟨q1152, q1153, q1154, q47, q1155, by decide +kernel⟩
theorem q1143 : Cond.methodLink RX7 133 yX8_store ∈ wsL_law := mT_5 (List.mem_of_getElem? (i := 58) rfl) rfl
theorem q1144 : Cond.instanceMethod yX8_store ∈ wsL_law := mT_5 (List.mem_of_getElem? (i := 59) rfl) rfl
theorem q1145 : Cond.selects RX8 yX8_store yX8_store ∈ wsL_law := mT_5 (List.mem_of_getElem? (i := 60) rfl) rfl
theorem q1146 : Cond.code yX8_store cX8_store 6 none ∈ wsL_law := mT_5 (List.mem_of_getElem? (i := 61) rfl) rfl
theorem kv_X7_133 : vz_cv RX7 133 yX8_store cX8_store 6 none 3 := ⟨q1143, q1144, q1145, q47, q1146, by decide +kernel⟩
theorem q1139 : Cond.methodLink RX7 130 yX8_newRow ∈ wsL_law := mT_5 (List.mem_of_getElem? (i := 54) rfl) rfl
theorem q1140 : Cond.instanceMethod yX8_newRow ∈ wsL_law := mT_5 (List.mem_of_getElem? (i := 55) rfl) rfl
theorem q1141 : Cond.selects RX8 yX8_newRow yX8_newRow ∈ wsL_law := mT_5 (List.mem_of_getElem? (i := 56) rfl) rfl
theorem q1142 : Cond.code yX8_newRow cX8_newRow 5 none ∈ wsL_law := mT_5 (List.mem_of_getElem? (i := 57) rfl) rfl
theorem kv_X7_130 : vz_cv RX7 130 yX8_newRow cX8_newRow 5 none 2 := ⟨q1139, q1140, q1141, q47, q1142, by decide +kernel⟩
theorem q1041 : Cond.methodLink RX7 22 yX7_enter ∈ wsL_law := mT_4 (List.mem_of_getElem? (i := 209) rfl) rfl
theorem q1042 : Cond.instanceMethod yX7_enter ∈ wsL_law := mT_4 (List.mem_of_getElem? (i := 211) rfl) rfl
theorem q1043 : Cond.selects RX7 yX7_enter yX7_enter ∈ wsL_law := mS_5 (q := (yX7_enter, 7)) (List.mem_of_getElem? (i := 1) rfl) rfl
theorem q1044 : Cond.code yX7_enter cX7_enter 4 none ∈ wsL_law := mT_4 (List.mem_of_getElem? (i := 212) rfl) rfl
theorem kv_X7_22 : vz_cv RX7 22 yX7_enter cX7_enter 4 none 3 := ⟨q1041, q1042, q1043, q51, q1044, by decide +kernel⟩
theorem q1124 : Cond.methodLink RX7 124 yX8_append ∈ wsL_law := mT_5 (List.mem_of_getElem? (i := 41) rfl) rfl
theorem q1125 : Cond.instanceMethod yX8_append ∈ wsL_law := mT_5 (List.mem_of_getElem? (i := 42) rfl) rfl
theorem q1126 : Cond.selects RX8 yX8_append yX8_append ∈ wsL_law := mT_5 (List.mem_of_getElem? (i := 43) rfl) rfl
theorem q1127 : Cond.code yX8_append cX8_append 4 none ∈ wsL_law := mT_5 (List.mem_of_getElem? (i := 44) rfl) rfl
theorem kv_X7_124 : vz_cv RX7 124 yX8_append cX8_append 4 none 2 := ⟨q1124, q1125, q1126, q47, q1127, by decide +kernel⟩
theorem dX7_execute_0 : decode cX7_execute 0 = .ok (.aload_n 0, 1) := by decide +kernel
theorem dX7_execute_1 : decode cX7_execute 1 = .ok (.iload_n 1, 1) := by decide +kernel
theorem dX7_execute_2 : decode cX7_execute 2 = .ok (.iconst 1, 1) := by decide +kernel
theorem dX7_execute_3 : decode cX7_execute 3 = .ok (.invokevirtual 49, 3) := by decide +kernel
theorem dX7_execute_6 : decode cX7_execute 6 = .ok (.istore_n 2, 1) := by decide +kernel
theorem dX7_execute_7 : decode cX7_execute 7 = .ok (.aload_n 0, 1) := by decide +kernel
theorem dX7_execute_8 : decode cX7_execute 8 = .ok (.iload_n 1, 1) := by decide +kernel
theorem dX7_execute_9 : decode cX7_execute 9 = .ok (.iconst 2, 1) := by decide +kernel
theorem dX7_execute_10 : decode cX7_execute 10 = .ok (.invokevirtual 49, 3) := by decide +kernel
theorem dX7_execute_13 : decode cX7_execute 13 = .ok (.istore_n 3, 1) := by decide +kernel
theorem dX7_execute_14 : decode cX7_execute 14 = .ok (.aload_n 0, 1) := by decide +kernel
theorem dX7_execute_15 : decode cX7_execute 15 = .ok (.iload_n 1, 1) := by decide +kernel
theorem dX7_execute_16 : decode cX7_execute 16 = .ok (.iconst 0, 1) := by decide +kernel
theorem dX7_execute_17 : decode cX7_execute 17 = .ok (.invokevirtual 49, 3) := by decide +kernel
theorem dX7_execute_20 : decode cX7_execute 20 = .ok (.tableswitch 385 0 15 #[80, 92, 134, 151, 166, 182, 207, 226, 238, 271, 289, 298, 307, 320, 340, 359], 80) := by decide +kernel
theorem dX7_execute_100 : decode cX7_execute 100 = .ok (.aload_n 0, 1) := by decide +kernel
theorem dX7_execute_101 : decode cX7_execute 101 = .ok (.getfield 9, 3) := by decide +kernel
theorem dX7_execute_104 : decode cX7_execute 104 = .ok (.iload_n 1, 1) := by decide +kernel
theorem dX7_execute_105 : decode cX7_execute 105 = .ok (.iload_n 2, 1) := by decide +kernel
theorem dX7_execute_106 : decode cX7_execute 106 = .ok (.invokevirtual 124, 3) := by decide +kernel
theorem dX7_execute_109 : decode cX7_execute 109 = .ok (.goto 296, 3) := by decide +kernel
theorem dX7_execute_112 : decode cX7_execute 112 = .ok (.aload_n 0, 1) := by decide +kernel
theorem dX7_execute_113 : decode cX7_execute 113 = .ok (.getfield 9, 3) := by decide +kernel
theorem dX7_execute_116 : decode cX7_execute 116 = .ok (.invokevirtual 94, 3) := by decide +kernel
theorem dX7_execute_119 : decode cX7_execute 119 = .ok (.bipush 12, 2) := by decide +kernel
theorem dX7_execute_121 : decode cX7_execute 121 = .ok (.if_icmp .lt 17, 3) := by decide +kernel
theorem dX7_execute_124 : decode cX7_execute 124 = .ok (.aload_n 0, 1) := by decide +kernel
theorem dX7_execute_125 : decode cX7_execute 125 = .ok (.getfield 9, 3) := by decide +kernel
theorem dX7_execute_128 : decode cX7_execute 128 = .ok (.bipush 6, 2) := by decide +kernel
theorem dX7_execute_130 : decode cX7_execute 130 = .ok (.bipush (-9), 2) := by decide +kernel
theorem dX7_execute_132 : decode cX7_execute 132 = .ok (.invokevirtual 127, 3) := by decide +kernel
theorem dX7_execute_135 : decode cX7_execute 135 = .ok (.goto 270, 3) := by decide +kernel
theorem dX7_execute_138 : decode cX7_execute 138 = .ok (.aload_n 0, 1) := by decide +kernel
theorem dX7_execute_139 : decode cX7_execute 139 = .ok (.iload_n 2, 1) := by decide +kernel
theorem dX7_execute_140 : decode cX7_execute 140 = .ok (.aload_n 0, 1) := by decide +kernel
theorem dX7_execute_141 : decode cX7_execute 141 = .ok (.getfield 118, 3) := by decide +kernel
theorem dX7_execute_144 : decode cX7_execute 144 = .ok (.aload_n 0, 1) := by decide +kernel
theorem dX7_execute_145 : decode cX7_execute 145 = .ok (.getfield 121, 3) := by decide +kernel
theorem dX7_execute_148 : decode cX7_execute 148 = .ok (.invokevirtual 22, 3) := by decide +kernel
theorem dX7_execute_151 : decode cX7_execute 151 = .ok (.goto 254, 3) := by decide +kernel
theorem dX7_execute_154 : decode cX7_execute 154 = .ok (.aload_n 0, 1) := by decide +kernel
theorem dX7_execute_155 : decode cX7_execute 155 = .ok (.getfield 9, 3) := by decide +kernel
theorem dX7_execute_158 : decode cX7_execute 158 = .ok (.iconst 3, 1) := by decide +kernel
theorem dX7_execute_159 : decode cX7_execute 159 = .ok (.iload_n 2, 1) := by decide +kernel
theorem dX7_execute_160 : decode cX7_execute 160 = .ok (.iadd, 1) := by decide +kernel
theorem dX7_execute_161 : decode cX7_execute 161 = .ok (.aload_n 0, 1) := by decide +kernel
theorem dX7_execute_162 : decode cX7_execute 162 = .ok (.getfield 118, 3) := by decide +kernel
theorem dX7_execute_165 : decode cX7_execute 165 = .ok (.invokevirtual 106, 3) := by decide +kernel
theorem dX7_execute_168 : decode cX7_execute 168 = .ok (.goto 237, 3) := by decide +kernel
theorem dX7_execute_171 : decode cX7_execute 171 = .ok (.aload_n 0, 1) := by decide +kernel
theorem dX7_execute_172 : decode cX7_execute 172 = .ok (.getfield 9, 3) := by decide +kernel
theorem dX7_execute_175 : decode cX7_execute 175 = .ok (.iload_n 2, 1) := by decide +kernel
theorem dX7_execute_176 : decode cX7_execute 176 = .ok (.aload_n 0, 1) := by decide +kernel
theorem dX7_execute_177 : decode cX7_execute 177 = .ok (.getfield 118, 3) := by decide +kernel
theorem dX7_execute_180 : decode cX7_execute 180 = .ok (.invokevirtual 130, 3) := by decide +kernel
theorem dX7_execute_183 : decode cX7_execute 183 = .ok (.goto 222, 3) := by decide +kernel
theorem dX7_execute_186 : decode cX7_execute 186 = .ok (.aload_n 0, 1) := by decide +kernel
theorem dX7_execute_187 : decode cX7_execute 187 = .ok (.getfield 9, 3) := by decide +kernel
theorem dX7_execute_190 : decode cX7_execute 190 = .ok (.bipush 9, 2) := by decide +kernel
theorem dX7_execute_192 : decode cX7_execute 192 = .ok (.iload_n 2, 1) := by decide +kernel
theorem dX7_execute_193 : decode cX7_execute 193 = .ok (.iadd, 1) := by decide +kernel
theorem dX7_execute_194 : decode cX7_execute 194 = .ok (.bipush (-9), 2) := by decide +kernel
theorem dX7_execute_196 : decode cX7_execute 196 = .ok (.invokevirtual 106, 3) := by decide +kernel
theorem dX7_execute_199 : decode cX7_execute 199 = .ok (.goto 206, 3) := by decide +kernel
theorem dX7_execute_202 : decode cX7_execute 202 = .ok (.aload_n 0, 1) := by decide +kernel
theorem dX7_execute_203 : decode cX7_execute 203 = .ok (.getfield 9, 3) := by decide +kernel
theorem dX7_execute_206 : decode cX7_execute 206 = .ok (.bipush 9, 2) := by decide +kernel
theorem dX7_execute_208 : decode cX7_execute 208 = .ok (.iload_n 2, 1) := by decide +kernel
theorem dX7_execute_209 : decode cX7_execute 209 = .ok (.iadd, 1) := by decide +kernel
theorem dX7_execute_210 : decode cX7_execute 210 = .ok (.aload_n 0, 1) := by decide +kernel
theorem dX7_execute_211 : decode cX7_execute 211 = .ok (.getfield 9, 3) := by decide +kernel
theorem dX7_execute_214 : decode cX7_execute 214 = .ok (.bipush 9, 2) := by decide +kernel
theorem dX7_execute_216 : decode cX7_execute 216 = .ok (.iload_n 3, 1) := by decide +kernel
theorem dX7_execute_217 : decode cX7_execute 217 = .ok (.iadd, 1) := by decide +kernel
theorem dX7_execute_218 : decode cX7_execute 218 = .ok (.invokevirtual 102, 3) := by decide +kernel
theorem dX7_execute_221 : decode cX7_execute 221 = .ok (.invokevirtual 106, 3) := by decide +kernel
theorem dX7_execute_224 : decode cX7_execute 224 = .ok (.goto 181, 3) := by decide +kernel
theorem dX7_execute_227 : decode cX7_execute 227 = .ok (.aload_n 0, 1) := by decide +kernel
theorem dX7_execute_228 : decode cX7_execute 228 = .ok (.getfield 9, 3) := by decide +kernel
theorem dX7_execute_231 : decode cX7_execute 231 = .ok (.iload_n 2, 1) := by decide +kernel
theorem dX7_execute_232 : decode cX7_execute 232 = .ok (.aload_n 0, 1) := by decide +kernel
theorem dX7_execute_233 : decode cX7_execute 233 = .ok (.getfield 118, 3) := by decide +kernel
theorem dX7_execute_236 : decode cX7_execute 236 = .ok (.aload_n 0, 1) := by decide +kernel
theorem dX7_execute_237 : decode cX7_execute 237 = .ok (.getfield 121, 3) := by decide +kernel
theorem dX7_execute_240 : decode cX7_execute 240 = .ok (.invokevirtual 133, 3) := by decide +kernel
theorem dX7_execute_243 : decode cX7_execute 243 = .ok (.goto 162, 3) := by decide +kernel
theorem dX7_execute_246 : decode cX7_execute 246 = .ok (.aload_n 0, 1) := by decide +kernel
theorem dX7_execute_247 : decode cX7_execute 247 = .ok (.iconst 1, 1) := by decide +kernel
theorem dX7_execute_248 : decode cX7_execute 248 = .ok (.aload_n 0, 1) := by decide +kernel
theorem dX7_execute_249 : decode cX7_execute 249 = .ok (.getfield 118, 3) := by decide +kernel
theorem dX7_execute_252 : decode cX7_execute 252 = .ok (.invokevirtual 109, 3) := by decide +kernel
theorem dX7_execute_255 : decode cX7_execute 255 = .ok (.goto 150, 3) := by decide +kernel
theorem dX7_execute_258 : decode cX7_execute 258 = .ok (.aload_n 0, 1) := by decide +kernel
theorem dX7_execute_259 : decode cX7_execute 259 = .ok (.iload_n 1, 1) := by decide +kernel
theorem dX7_execute_260 : decode cX7_execute 260 = .ok (.aload_n 0, 1) := by decide +kernel
theorem dX7_execute_261 : decode cX7_execute 261 = .ok (.getfield 9, 3) := by decide +kernel
theorem dX7_execute_264 : decode cX7_execute 264 = .ok (.iload_n 2, 1) := by decide +kernel
theorem dX7_execute_265 : decode cX7_execute 265 = .ok (.aload_n 0, 1) := by decide +kernel
theorem dX7_execute_266 : decode cX7_execute 266 = .ok (.getfield 118, 3) := by decide +kernel
theorem dX7_execute_269 : decode cX7_execute 269 = .ok (.aload_n 0, 1) := by decide +kernel
theorem dX7_execute_270 : decode cX7_execute 270 = .ok (.getfield 121, 3) := by decide +kernel
theorem dX7_execute_273 : decode cX7_execute 273 = .ok (.invokevirtual 136, 3) := by decide +kernel
theorem dX7_execute_276 : decode cX7_execute 276 = .ok (.ifCond .eq 7, 3) := by decide +kernel
theorem dX7_execute_279 : decode cX7_execute 279 = .ok (.iconst 5, 1) := by decide +kernel
theorem dX7_execute_280 : decode cX7_execute 280 = .ok (.goto 5, 3) := by decide +kernel
theorem dX7_execute_283 : decode cX7_execute 283 = .ok (.bipush 6, 2) := by decide +kernel
theorem dX7_execute_285 : decode cX7_execute 285 = .ok (.invokevirtual 140, 3) := by decide +kernel
theorem dX7_execute_288 : decode cX7_execute 288 = .ok (.goto 117, 3) := by decide +kernel
theorem dX7_execute_291 : decode cX7_execute 291 = .ok (.aload_n 0, 1) := by decide +kernel
theorem dX7_execute_292 : decode cX7_execute 292 = .ok (.iload_n 1, 1) := by decide +kernel
theorem dX7_execute_293 : decode cX7_execute 293 = .ok (.iconst 0, 1) := by decide +kernel
theorem dX7_execute_294 : decode cX7_execute 294 = .ok (.aload_n 0, 1) := by decide +kernel
theorem dX7_execute_295 : decode cX7_execute 295 = .ok (.getfield 118, 3) := by decide +kernel
theorem dX7_execute_298 : decode cX7_execute 298 = .ok (.invokevirtual 143, 3) := by decide +kernel
theorem dX7_execute_301 : decode cX7_execute 301 = .ok (.aload_n 0, 1) := by decide +kernel
theorem dX7_execute_302 : decode cX7_execute 302 = .ok (.iload_n 1, 1) := by decide +kernel
theorem dX7_execute_303 : decode cX7_execute 303 = .ok (.invokevirtual 144, 3) := by decide +kernel
theorem dX7_execute_306 : decode cX7_execute 306 = .ok (.goto 99, 3) := by decide +kernel
theorem dX7_execute_309 : decode cX7_execute 309 = .ok (.aload_n 0, 1) := by decide +kernel
theorem dX7_execute_310 : decode cX7_execute 310 = .ok (.iconst 2, 1) := by decide +kernel
theorem dX7_execute_311 : decode cX7_execute 311 = .ok (.iload_n 2, 1) := by decide +kernel
theorem dX7_execute_312 : decode cX7_execute 312 = .ok (.invokevirtual 109, 3) := by decide +kernel
theorem dX7_execute_315 : decode cX7_execute 315 = .ok (.goto 90, 3) := by decide +kernel
theorem dX7_execute_318 : decode cX7_execute 318 = .ok (.aload_n 0, 1) := by decide +kernel
theorem dX7_execute_319 : decode cX7_execute 319 = .ok (.iconst 3, 1) := by decide +kernel
theorem dX7_execute_320 : decode cX7_execute 320 = .ok (.iload_n 2, 1) := by decide +kernel
theorem dX7_execute_321 : decode cX7_execute 321 = .ok (.invokevirtual 109, 3) := by decide +kernel
theorem dX7_execute_324 : decode cX7_execute 324 = .ok (.goto 81, 3) := by decide +kernel
theorem dX7_execute_327 : decode cX7_execute 327 = .ok (.aload_n 0, 1) := by decide +kernel
theorem dX7_execute_328 : decode cX7_execute 328 = .ok (.getfield 9, 3) := by decide +kernel
theorem dX7_execute_331 : decode cX7_execute 331 = .ok (.iload_n 2, 1) := by decide +kernel
theorem dX7_execute_332 : decode cX7_execute 332 = .ok (.bipush (-9), 2) := by decide +kernel
theorem dX7_execute_334 : decode cX7_execute 334 = .ok (.invokevirtual 127, 3) := by decide +kernel
theorem dX7_execute_337 : decode cX7_execute 337 = .ok (.goto 68, 3) := by decide +kernel
theorem dX7_execute_340 : decode cX7_execute 340 = .ok (.aload_n 0, 1) := by decide +kernel
theorem dX7_execute_341 : decode cX7_execute 341 = .ok (.getfield 9, 3) := by decide +kernel
theorem dX7_execute_344 : decode cX7_execute 344 = .ok (.iload_n 2, 1) := by decide +kernel
theorem dX7_execute_345 : decode cX7_execute 345 = .ok (.aload_n 0, 1) := by decide +kernel
theorem dX7_execute_346 : decode cX7_execute 346 = .ok (.getfield 9, 3) := by decide +kernel
theorem dX7_execute_349 : decode cX7_execute 349 = .ok (.iload_n 3, 1) := by decide +kernel
theorem dX7_execute_350 : decode cX7_execute 350 = .ok (.iconst 1, 1) := by decide +kernel
theorem dX7_execute_351 : decode cX7_execute 351 = .ok (.invokevirtual 77, 3) := by decide +kernel
theorem dX7_execute_354 : decode cX7_execute 354 = .ok (.invokevirtual 127, 3) := by decide +kernel
theorem dX7_execute_357 : decode cX7_execute 357 = .ok (.goto 48, 3) := by decide +kernel
theorem dX7_execute_360 : decode cX7_execute 360 = .ok (.aload_n 0, 1) := by decide +kernel
theorem dX7_execute_361 : decode cX7_execute 361 = .ok (.getfield 9, 3) := by decide +kernel
theorem dX7_execute_364 : decode cX7_execute 364 = .ok (.aload_n 0, 1) := by decide +kernel
theorem dX7_execute_365 : decode cX7_execute 365 = .ok (.getfield 9, 3) := by decide +kernel
theorem dX7_execute_368 : decode cX7_execute 368 = .ok (.iload_n 3, 1) := by decide +kernel
theorem dX7_execute_369 : decode cX7_execute 369 = .ok (.iconst 1, 1) := by decide +kernel
theorem dX7_execute_370 : decode cX7_execute 370 = .ok (.invokevirtual 77, 3) := by decide +kernel
theorem dX7_execute_373 : decode cX7_execute 373 = .ok (.putfield 37, 3) := by decide +kernel
theorem dX7_execute_376 : decode cX7_execute 376 = .ok (.goto 29, 3) := by decide +kernel
theorem dX7_execute_379 : decode cX7_execute 379 = .ok (.aload_n 0, 1) := by decide +kernel
theorem dX7_execute_380 : decode cX7_execute 380 = .ok (.iload_n 1, 1) := by decide +kernel
theorem dX7_execute_381 : decode cX7_execute 381 = .ok (.bipush 6, 2) := by decide +kernel
theorem dX7_execute_383 : decode cX7_execute 383 = .ok (.iconst 0, 1) := by decide +kernel
theorem dX7_execute_384 : decode cX7_execute 384 = .ok (.invokevirtual 143, 3) := by decide +kernel
theorem dX7_execute_387 : decode cX7_execute 387 = .ok (.aload_n 0, 1) := by decide +kernel
theorem dX7_execute_388 : decode cX7_execute 388 = .ok (.iload_n 1, 1) := by decide +kernel
theorem dX7_execute_389 : decode cX7_execute 389 = .ok (.bipush 7, 2) := by decide +kernel
theorem dX7_execute_391 : decode cX7_execute 391 = .ok (.iconst 0, 1) := by decide +kernel
theorem dX7_execute_392 : decode cX7_execute 392 = .ok (.invokevirtual 143, 3) := by decide +kernel
theorem dX7_execute_395 : decode cX7_execute 395 = .ok (.aload_n 0, 1) := by decide +kernel
theorem dX7_execute_396 : decode cX7_execute 396 = .ok (.iload_n 1, 1) := by decide +kernel
theorem dX7_execute_397 : decode cX7_execute 397 = .ok (.bipush (-9), 2) := by decide +kernel
theorem dX7_execute_399 : decode cX7_execute 399 = .ok (.invokevirtual 140, 3) := by decide +kernel
theorem dX7_execute_402 : decode cX7_execute 402 = .ok (.goto 3, 3) := by decide +kernel
theorem dX7_execute_405 : decode cX7_execute 405 = .ok (.return_, 1) := by decide +kernel
set_option maxHeartbeats 8000000 in
set_option maxRecDepth 100000 in
theorem a_K_execute (l : Launch) (D : va_G) (g : Nat → ClassId)   (sz : Nat) (h : Nat) (ki : Nat → Int32) (wh : Nat) (wa : Nat → Nat) (wi : Nat → Int32) (wr : Nat → Nat) (wf : Nat → Nat → Int32) (ph : Nat) (rh : Nat) (la : Nat → Nat) (pa : Nat → Nat) (pr : Nat → Nat) (pf : Nat → Nat → Int32) (ca : Nat → Nat) (ci : Nat → Int32) (cr : Nat → Nat) (cf : Nat → Nat → Int32) (lr : Nat → Nat) (lf : Nat → Nat → Int32) (lmx : Nat) (n1 : Int32) (hw_w : ∀ k, wr k ≤ woW_lim k) (hw_p : ∀ k, pr k ≤ pgW_lim k) (hw_c : ∀ k, cr k ≤ rcW_lim k) (hw_l : ∀ k, lr k ≤ (plW_lim lmx) k) (hmx_l : lmx ≤ 30) : vz_Mv l D (tyG g) yX7_execute cX7_execute 4 4 94 0 0 [.ref h, .int n1] sz (vz_w [wkW h ki wh, woW g wh wa wi wr wf ph rh (la 0), pgW g ph pa pr pf, rcW g rh ca ci cr cf, plW g la lr lf lmx]) (fun u : (Nat → Int32) × (Nat → Int32) × (Nat → Nat) × (Nat → Nat → Int32) × (Nat → Int32) × (Nat → Nat) × (Nat → Nat → Int32) => (∀ k, u.2.2.1 k ≤ woW_lim k) ∧ (∀ k, u.2.2.2.2.2.1 k ≤ rcW_lim k)) (fun u => vz_w [wkW h u.1 wh, woW g wh wa u.2.1 u.2.2.1 u.2.2.2.1 ph rh (la 0), pgW g ph pa pr pf, rcW g rh ca u.2.2.2.2.1 u.2.2.2.2.2.1 u.2.2.2.2.2.2, plW g la lr lf lmx]) := by
  refine vz_svQ (by decide) (Nat.le_of_ble_eq_true rfl) (fun p e s m args below meth c hx hb hr hml hts hown hlk hin hK hsz A hA H locs hP hD hS ls hl Q hQ => ?_)
  have hl : lv_has ls 4 [(0, .ref h), (1, .int n1)] := hl
  have J405 : ∀ (x2_405 : Int32), ∀ (x3_405 : Int32), ∀ (ki_405 : Nat → Int32), ∀ (wi_405 : Nat → Int32), ∀ (wr_405 : Nat → Nat), ∀ (wf_405 : Nat → Nat → Int32), ∀ (ci_405 : Nat → Int32), ∀ (cr_405 : Nat → Nat), ∀ (cf_405 : Nat → Nat → Int32), (∀ k, wr_405 k ≤ woW_lim k) → (∀ k, cr_405 k ≤ rcW_lim k) → ∀ (H : Heap) (locs : List Loc) (ls : Array Slot), va_P D vwCl (vz_w [wkW h ki_405 wh, woW g wh wa wi_405 wr_405 wf_405 ph rh (la 0), pgW g ph pa pr pf, rcW g rh ca ci_405 cr_405 cf_405, plW g la lr lf lmx]) H → va_D A (vz_w [wkW h ki_405 wh, woW g wh wa wi_405 wr_405 wf_405 ph rh (la 0), pgW g ph pa pr pf, rcW g rh ca ci_405 cr_405 cf_405, plW g la lr lf lmx]) → va_S A s.heap H locs → lv_has ls 4 [(0, .ref h), (1, .int n1), (2, .int x2_405), (3, .int x3_405)] → W p l e { frames := 4, cells := 0, slots := 0, locals := 94 } s m args below meth c H locs 0 0 Q (F0 m 405 ls []) := by
    intro x2_405 x3_405 ki_405 wi_405 wr_405 wf_405 ci_405 cr_405 cf_405 hw_w_405 hw_c_405 H locs ls hP hD hS hl
    rw [hQ]
    exact vz_vret3 hx hb hr hlk hK hP hD hS (ki_405, wi_405, wr_405, wf_405, ci_405, cr_405, cf_405) (⟨hw_w_405, hw_c_405⟩) rfl (Nat.le_refl 0) (Nat.le_refl 0) dX7_execute_405
  have J285 : ∀ (x2_285 : Int32), ∀ (x3_285 : Int32), ∀ (y0_285 : Int32), ∀ (ki_285 : Nat → Int32), ∀ (wi_285 : Nat → Int32), ∀ (wr_285 : Nat → Nat), ∀ (wf_285 : Nat → Nat → Int32), ∀ (ci_285 : Nat → Int32), ∀ (cr_285 : Nat → Nat), ∀ (cf_285 : Nat → Nat → Int32), (∀ k, wr_285 k ≤ woW_lim k) → (∀ k, cr_285 k ≤ rcW_lim k) → ∀ (H : Heap) (locs : List Loc) (ls : Array Slot), va_P D vwCl (vz_w [wkW h ki_285 wh, woW g wh wa wi_285 wr_285 wf_285 ph rh (la 0), pgW g ph pa pr pf, rcW g rh ca ci_285 cr_285 cf_285, plW g la lr lf lmx]) H → va_D A (vz_w [wkW h ki_285 wh, woW g wh wa wi_285 wr_285 wf_285 ph rh (la 0), pgW g ph pa pr pf, rcW g rh ca ci_285 cr_285 cf_285, plW g la lr lf lmx]) → va_S A s.heap H locs → lv_has ls 4 [(0, .ref h), (1, .int n1), (2, .int x2_285), (3, .int x3_285)] → W p l e { frames := 4, cells := 0, slots := 0, locals := 94 } s m args below meth c H locs 0 0 Q (F0 m 285 ls [.int y0_285, .int n1, .ref h]) := by
    intro x2_285 x3_285 y0_285 ki_285 wi_285 wr_285 wf_285 ci_285 cr_285 cf_285 hw_w_285 hw_c_285 H locs ls hP hD hS hl
    refine vz_Vv3 (As := [.int n1, .int y0_285]) (rest := []) hx hb hml hown hts hK hA hP hD hS (a_K_enterBlock l D g H.size h ki_285 wh wa wi_285 wr_285 wf_285 ph rh la pa pr pf ca ci_285 cr_285 cf_285 lr lf lmx n1 y0_285 hw_w_285 hw_p hw_c_285 hw_l hmx_l) kv_X7_140 ⟨Nat.le_of_ble_eq_true rfl, Nat.le_of_ble_eq_true rfl⟩ (q0 := 0) (ci := 7) rfl rfl rfl  hl.1 (Nat.le_of_ble_eq_true rfl) dX7_execute_285 ⟨Nat.le_refl _, Nat.le_refl _⟩ rfl (fun ki_1 H locs _ _ hP hD hS => ?_)
    replace hP : va_P D vwCl (vz_w [wkW h ki_1 wh, woW g wh wa wi_285 wr_285 wf_285 ph rh (la 0), pgW g ph pa pr pf, rcW g rh ca ci_285 cr_285 cf_285, plW g la lr lf lmx]) H := hP
    replace hD : va_D A (vz_w [wkW h ki_1 wh, woW g wh wa wi_285 wr_285 wf_285 ph rh (la 0), pgW g ph pa pr pf, rcW g rh ca ci_285 cr_285 cf_285, plW g la lr lf lmx]) := hD
    refine lv_goto (tgt := 405) hx hb dX7_execute_288 (by decide) ?_
    exact J405 x2_285 x3_285 ki_1 wi_285 wr_285 wf_285 ci_285 cr_285 cf_285 hw_w_285 hw_c_285 H locs ls hP hD hS (lv_sub hl [0, 1, 2, 3] rfl)
  refine lv_aload_n hx hb dX7_execute_0 rfl (lv_at hl 0 rfl) ?_
  refine lv_iload_n hx hb dX7_execute_1 rfl (lv_at hl 1 rfl) ?_
  refine lv_iconst (v := 1) hx hb dX7_execute_2 (by decide) ?_
  refine vz_Vi3 (As := [.int n1, .int 1]) (rest := []) hx hb hml hown hts hK hA hP hD hS (a_K_at l D g H.size h ki wh wa wi wr wf ph rh la pa pr pf ca ci cr cf lr lf lmx n1 1 hw_w hw_p hw_c hw_l hmx_l) kv_X7_49 ⟨Nat.le_of_ble_eq_true rfl, Nat.le_of_ble_eq_true rfl⟩ (q0 := 0) (ci := 7) rfl rfl rfl  hl.1 (Nat.le_of_ble_eq_true rfl) dX7_execute_3 ⟨Nat.le_refl _, Nat.le_refl _⟩ rfl (fun v1 _ H locs _ _ hP hD hS => ?_)
  refine lv_istore_n (lv' := [(2, .int v1), (0, .ref h), (1, .int n1)]) hx hb dX7_execute_6 rfl hl (by decide) rfl (fun ls hl => ?_)
  refine lv_aload_n hx hb dX7_execute_7 rfl (lv_at hl 1 rfl) ?_
  refine lv_iload_n hx hb dX7_execute_8 rfl (lv_at hl 2 rfl) ?_
  refine lv_iconst (v := 2) hx hb dX7_execute_9 (by decide) ?_
  refine vz_Vi3 (As := [.int n1, .int 2]) (rest := []) hx hb hml hown hts hK hA hP hD hS (a_K_at l D g H.size h ki wh wa wi wr wf ph rh la pa pr pf ca ci cr cf lr lf lmx n1 2 hw_w hw_p hw_c hw_l hmx_l) kv_X7_49 ⟨Nat.le_of_ble_eq_true rfl, Nat.le_of_ble_eq_true rfl⟩ (q0 := 0) (ci := 7) rfl rfl rfl  hl.1 (Nat.le_of_ble_eq_true rfl) dX7_execute_10 ⟨Nat.le_refl _, Nat.le_refl _⟩ rfl (fun v2 _ H locs _ _ hP hD hS => ?_)
  refine lv_istore_n (lv' := [(3, .int v2), (2, .int v1), (0, .ref h), (1, .int n1)]) hx hb dX7_execute_13 rfl hl (by decide) rfl (fun ls hl => ?_)
  refine lv_aload_n hx hb dX7_execute_14 rfl (lv_at hl 2 rfl) ?_
  refine lv_iload_n hx hb dX7_execute_15 rfl (lv_at hl 3 rfl) ?_
  refine lv_iconst (v := 0) hx hb dX7_execute_16 (by decide) ?_
  refine vz_Vi3 (As := [.int n1, .int 0]) (rest := []) hx hb hml hown hts hK hA hP hD hS (a_K_at l D g H.size h ki wh wa wi wr wf ph rh la pa pr pf ca ci cr cf lr lf lmx n1 0 hw_w hw_p hw_c hw_l hmx_l) kv_X7_49 ⟨Nat.le_of_ble_eq_true rfl, Nat.le_of_ble_eq_true rfl⟩ (q0 := 0) (ci := 7) rfl rfl rfl  hl.1 (Nat.le_of_ble_eq_true rfl) dX7_execute_17 ⟨Nat.le_refl _, Nat.le_refl _⟩ rfl (fun v3 _ H locs _ _ hP hD hS => ?_)
  have S20_100 : W p l e { frames := 4, cells := 0, slots := 0, locals := 94 } s m args below meth c H locs 0 0 Q (F0 m 100 ls []) := by
    refine lv_aload_n hx hb dX7_execute_100 rfl (lv_at hl 2 rfl) ?_
    refine va_get (D := D) (ci := 7) (v := .ref wh) (C := RX7) (T := TX7) (N := 7) hx hb hts inlX7 hown hK hP 0 rfl rfl 0 (by decide) (hts _ q152) (fun _ h => h) rfl dX7_execute_101 ?_
    refine lv_iload_n hx hb dX7_execute_104 rfl (lv_at hl 3 rfl) ?_
    refine lv_iload_n hx hb dX7_execute_105 rfl (lv_at hl 1 rfl) ?_
    refine vz_Vv4 (n9 := 5) (bs2 := fun u : (Nat → Int32) × (Nat → Nat) × (Nat → Nat → Int32) × (Nat → Nat) × (Nat → Nat → Int32) => [wkW h ki wh, woW g wh wa u.1 u.2.1 u.2.2.1 ph rh (la 0), pgW g ph pa pr pf, rcW g rh ca ci u.2.2.2.1 u.2.2.2.2, plW g la lr lf lmx]) (br := [wkW h ki wh]) (As := [.int n1, .int v1]) (rest := []) hx hb hml hown hts hK hA hP hD hS (a_W_append l D g H.size wh wa wi wr wf ph rh la pa pr pf ca ci cr cf lr lf lmx n1 v1 hw_w hw_p hw_c hw_l hmx_l) kv_X7_124 ⟨Nat.le_of_ble_eq_true rfl, Nat.le_of_ble_eq_true rfl⟩ (q0 := 1) (ci := 8) rfl rfl rfl [1, 2, 3, 4] [0] rfl (by decide) rfl (fun _ => rfl) (fun _ => rfl) hl.1 (Nat.le_of_ble_eq_true rfl) dX7_execute_106 ⟨Nat.le_refl _, Nat.le_refl _⟩ rfl (fun ⟨wi_4, wr_5, wf_6, cr_7, cf_8⟩ H locs ⟨hw_9, hw_10⟩ _ hP hD hS => ?_)
    try dsimp only at hw_9 hw_10
    replace hP : va_P D vwCl (vz_w [wkW h ki wh, woW g wh wa wi_4 wr_5 wf_6 ph rh (la 0), pgW g ph pa pr pf, rcW g rh ca ci cr_7 cf_8, plW g la lr lf lmx]) H := hP
    replace hD : va_D A (vz_w [wkW h ki wh, woW g wh wa wi_4 wr_5 wf_6 ph rh (la 0), pgW g ph pa pr pf, rcW g rh ca ci cr_7 cf_8, plW g la lr lf lmx]) := hD
    refine lv_goto (tgt := 405) hx hb dX7_execute_109 (by decide) ?_
    exact J405 v1 v2 ki wi_4 wr_5 wf_6 ci cr_7 cf_8 hw_9 hw_10 H locs ls hP hD hS (lv_sub hl [2, 3, 1, 0] rfl)
  have S20_112 : W p l e { frames := 4, cells := 0, slots := 0, locals := 94 } s m args below meth c H locs 0 0 Q (F0 m 112 ls []) := by
    refine lv_aload_n hx hb dX7_execute_112 rfl (lv_at hl 2 rfl) ?_
    refine va_get (D := D) (ci := 7) (v := .ref wh) (C := RX7) (T := TX7) (N := 7) hx hb hts inlX7 hown hK hP 0 rfl rfl 0 (by decide) (hts _ q152) (fun _ h => h) rfl dX7_execute_113 ?_
    refine vz_Vi4 (n9 := 5) (bs2 := fun u : Unit => [wkW h ki wh, woW g wh wa wi wr wf ph rh (la 0), pgW g ph pa pr pf, rcW g rh ca ci cr cf, plW g la lr lf lmx]) (br := [wkW h ki wh]) (As := []) (rest := []) hx hb hml hown hts hK hA hP hD hS (a_W_active l D g H.size wh wa wi wr wf ph rh la pa pr pf ca ci cr cf lr lf lmx hw_w hw_p hw_c hw_l hmx_l) kv_X7_94 ⟨Nat.le_of_ble_eq_true rfl, Nat.le_of_ble_eq_true rfl⟩ (q0 := 1) (ci := 8) rfl rfl rfl [1, 2, 3, 4] [0] rfl (by decide) rfl (fun _ => rfl) (fun _ => rfl) hl.1 (Nat.le_of_ble_eq_true rfl) dX7_execute_116 ⟨Nat.le_refl _, Nat.le_refl _⟩ rfl (fun v11 _ H locs _ _ hP hD hS => ?_)
    refine lv_bipush (v := 12) hx hb dX7_execute_119 (by decide) ?_
    refine lv_icmp_lt (tgt := 138) hx hb dX7_execute_121 (by decide) (fun kc12 => ?_) (fun kc12 => ?_)
    · refine lv_aload_n hx hb dX7_execute_138 rfl (lv_at hl 2 rfl) ?_
      refine lv_iload_n hx hb dX7_execute_139 rfl (lv_at hl 1 rfl) ?_
      refine lv_aload_n hx hb dX7_execute_140 rfl (lv_at hl 2 rfl) ?_
      refine va_get (D := D) (ci := 7) (v := .int (ki 4)) (C := RX7) (T := TX7) (N := 7) hx hb hts inlX7 hown hK hP 0 rfl rfl 5 (by decide) (hts _ q1076) (fun _ h => h) rfl dX7_execute_141 ?_
      refine lv_aload_n hx hb dX7_execute_144 rfl (lv_at hl 2 rfl) ?_
      refine va_get (D := D) (ci := 7) (v := .int (ki 5)) (C := RX7) (T := TX7) (N := 7) hx hb hts inlX7 hown hK hP 0 rfl rfl 6 (by decide) (hts _ q1077) (fun _ h => h) rfl dX7_execute_145 ?_
      refine vz_Vv3 (As := [.int v1, .int (ki 4), .int (ki 5)]) (rest := []) hx hb hml hown hts hK hA hP hD hS (a_K_enter l D g H.size h ki wh wa wi wr wf ph rh la pa pr pf ca ci cr cf lr lf lmx v1 (ki 4) (ki 5) hw_w hw_p hw_c hw_l hmx_l) kv_X7_22 ⟨Nat.le_of_ble_eq_true rfl, Nat.le_of_ble_eq_true rfl⟩ (q0 := 0) (ci := 7) rfl rfl rfl  hl.1 (Nat.le_of_ble_eq_true rfl) dX7_execute_148 ⟨Nat.le_refl _, Nat.le_refl _⟩ rfl (fun ⟨ki_13, wr_14, wf_15, ci_16, cr_17, cf_18⟩ H locs ⟨hw_19, hw_20⟩ _ hP hD hS => ?_)
      try dsimp only at hw_19 hw_20
      replace hP : va_P D vwCl (vz_w [wkW h ki_13 wh, woW g wh wa wi wr_14 wf_15 ph rh (la 0), pgW g ph pa pr pf, rcW g rh ca ci_16 cr_17 cf_18, plW g la lr lf lmx]) H := hP
      replace hD : va_D A (vz_w [wkW h ki_13 wh, woW g wh wa wi wr_14 wf_15 ph rh (la 0), pgW g ph pa pr pf, rcW g rh ca ci_16 cr_17 cf_18, plW g la lr lf lmx]) := hD
      refine lv_goto (tgt := 405) hx hb dX7_execute_151 (by decide) ?_
      exact J405 v1 v2 ki_13 wi wr_14 wf_15 ci_16 cr_17 cf_18 hw_19 hw_20 H locs ls hP hD hS (lv_sub hl [2, 3, 1, 0] rfl)
    · refine lv_aload_n hx hb dX7_execute_124 rfl (lv_at hl 2 rfl) ?_
      refine va_get (D := D) (ci := 7) (v := .ref wh) (C := RX7) (T := TX7) (N := 7) hx hb hts inlX7 hown hK hP 0 rfl rfl 0 (by decide) (hts _ q152) (fun _ h => h) rfl dX7_execute_125 ?_
      refine lv_bipush (v := 6) hx hb dX7_execute_128 (by decide) ?_
      refine lv_bipush (v := (-9)) hx hb dX7_execute_130 (by decide) ?_
      refine vz_Vv4 (n9 := 5) (bs2 := fun u : (Nat → Int32) × (Nat → Nat) × (Nat → Nat → Int32) => [wkW h ki wh, woW g wh wa u.1 wr wf ph rh (la 0), pgW g ph pa pr pf, rcW g rh ca ci u.2.1 u.2.2, plW g la lr lf lmx]) (br := [wkW h ki wh]) (As := [.int 6, .int (-9)]) (rest := []) hx hb hml hown hts hK hA hP hD hS (a_W_raise l D g H.size wh wa wi wr wf ph rh la pa pr pf ca ci cr cf lr lf lmx 6 (-9) hw_w hw_p hw_c hw_l hmx_l) kv_X7_127 ⟨Nat.le_of_ble_eq_true rfl, Nat.le_of_ble_eq_true rfl⟩ (q0 := 1) (ci := 8) rfl rfl rfl [1, 2, 3, 4] [0] rfl (by decide) rfl (fun _ => rfl) (fun _ => rfl) hl.1 (Nat.le_of_ble_eq_true rfl) dX7_execute_132 ⟨Nat.le_refl _, Nat.le_refl _⟩ rfl (fun ⟨wi_21, cr_22, cf_23⟩ H locs hw_24 _ hP hD hS => ?_)
      try dsimp only at hw_24
      replace hP : va_P D vwCl (vz_w [wkW h ki wh, woW g wh wa wi_21 wr wf ph rh (la 0), pgW g ph pa pr pf, rcW g rh ca ci cr_22 cf_23, plW g la lr lf lmx]) H := hP
      replace hD : va_D A (vz_w [wkW h ki wh, woW g wh wa wi_21 wr wf ph rh (la 0), pgW g ph pa pr pf, rcW g rh ca ci cr_22 cf_23, plW g la lr lf lmx]) := hD
      refine lv_goto (tgt := 405) hx hb dX7_execute_135 (by decide) ?_
      exact J405 v1 v2 ki wi_21 wr wf ci cr_22 cf_23 hw_w hw_24 H locs ls hP hD hS (lv_sub hl [2, 3, 1, 0] rfl)
  have S20_154 : W p l e { frames := 4, cells := 0, slots := 0, locals := 94 } s m args below meth c H locs 0 0 Q (F0 m 154 ls []) := by
    refine lv_aload_n hx hb dX7_execute_154 rfl (lv_at hl 2 rfl) ?_
    refine va_get (D := D) (ci := 7) (v := .ref wh) (C := RX7) (T := TX7) (N := 7) hx hb hts inlX7 hown hK hP 0 rfl rfl 0 (by decide) (hts _ q152) (fun _ h => h) rfl dX7_execute_155 ?_
    refine lv_iconst (v := 3) hx hb dX7_execute_158 (by decide) ?_
    refine lv_iload_n hx hb dX7_execute_159 rfl (lv_at hl 1 rfl) ?_
    refine lv_iadd hx hb dX7_execute_160 ?_
    refine lv_aload_n hx hb dX7_execute_161 rfl (lv_at hl 2 rfl) ?_
    refine va_get (D := D) (ci := 7) (v := .int (ki 4)) (C := RX7) (T := TX7) (N := 7) hx hb hts inlX7 hown hK hP 0 rfl rfl 5 (by decide) (hts _ q1076) (fun _ h => h) rfl dX7_execute_162 ?_
    refine vz_Vv4 (n9 := 5) (bs2 := fun u : (Nat → Nat → Int32) => [wkW h ki wh, woW g wh wa wi wr u ph rh (la 0), pgW g ph pa pr pf, rcW g rh ca ci cr cf, plW g la lr lf lmx]) (br := [wkW h ki wh]) (As := [.int (3 + v1), .int (ki 4)]) (rest := []) hx hb hml hown hts hK hA hP hD hS (a_W_setNow l D g H.size wh wa wi wr wf ph rh la pa pr pf ca ci cr cf lr lf lmx (3 + v1) (ki 4) hw_w hw_p hw_c hw_l hmx_l) kv_X7_106 ⟨Nat.le_of_ble_eq_true rfl, Nat.le_of_ble_eq_true rfl⟩ (q0 := 1) (ci := 8) rfl rfl rfl [1, 2, 3, 4] [0] rfl (by decide) rfl (fun _ => rfl) (fun _ => rfl) hl.1 (Nat.le_of_ble_eq_true rfl) dX7_execute_165 ⟨Nat.le_refl _, Nat.le_refl _⟩ rfl (fun wf_25 H locs _ _ hP hD hS => ?_)
    replace hP : va_P D vwCl (vz_w [wkW h ki wh, woW g wh wa wi wr wf_25 ph rh (la 0), pgW g ph pa pr pf, rcW g rh ca ci cr cf, plW g la lr lf lmx]) H := hP
    replace hD : va_D A (vz_w [wkW h ki wh, woW g wh wa wi wr wf_25 ph rh (la 0), pgW g ph pa pr pf, rcW g rh ca ci cr cf, plW g la lr lf lmx]) := hD
    refine lv_goto (tgt := 405) hx hb dX7_execute_168 (by decide) ?_
    exact J405 v1 v2 ki wi wr wf_25 ci cr cf hw_w hw_c H locs ls hP hD hS (lv_sub hl [2, 3, 1, 0] rfl)
  have S20_171 : W p l e { frames := 4, cells := 0, slots := 0, locals := 94 } s m args below meth c H locs 0 0 Q (F0 m 171 ls []) := by
    refine lv_aload_n hx hb dX7_execute_171 rfl (lv_at hl 2 rfl) ?_
    refine va_get (D := D) (ci := 7) (v := .ref wh) (C := RX7) (T := TX7) (N := 7) hx hb hts inlX7 hown hK hP 0 rfl rfl 0 (by decide) (hts _ q152) (fun _ h => h) rfl dX7_execute_172 ?_
    refine lv_iload_n hx hb dX7_execute_175 rfl (lv_at hl 1 rfl) ?_
    refine lv_aload_n hx hb dX7_execute_176 rfl (lv_at hl 2 rfl) ?_
    refine va_get (D := D) (ci := 7) (v := .int (ki 4)) (C := RX7) (T := TX7) (N := 7) hx hb hts inlX7 hown hK hP 0 rfl rfl 5 (by decide) (hts _ q1076) (fun _ h => h) rfl dX7_execute_177 ?_
    refine vz_Vv4 (n9 := 5) (bs2 := fun u : (Nat → Int32) × (Nat → Nat) × (Nat → Nat → Int32) × (Nat → Nat) × (Nat → Nat → Int32) => [wkW h ki wh, woW g wh wa u.1 u.2.1 u.2.2.1 ph rh (la 0), pgW g ph pa pr pf, rcW g rh ca ci u.2.2.2.1 u.2.2.2.2, plW g la lr lf lmx]) (br := [wkW h ki wh]) (As := [.int v1, .int (ki 4)]) (rest := []) hx hb hml hown hts hK hA hP hD hS (a_W_newRow l D g H.size wh wa wi wr wf ph rh la pa pr pf ca ci cr cf lr lf lmx v1 (ki 4) hw_w hw_p hw_c hw_l hmx_l) kv_X7_130 ⟨Nat.le_of_ble_eq_true rfl, Nat.le_of_ble_eq_true rfl⟩ (q0 := 1) (ci := 8) rfl rfl rfl [1, 2, 3, 4] [0] rfl (by decide) rfl (fun _ => rfl) (fun _ => rfl) hl.1 (Nat.le_of_ble_eq_true rfl) dX7_execute_180 ⟨Nat.le_refl _, Nat.le_refl _⟩ rfl (fun ⟨wi_26, wr_27, wf_28, cr_29, cf_30⟩ H locs ⟨hw_31, hw_32⟩ _ hP hD hS => ?_)
    try dsimp only at hw_31 hw_32
    replace hP : va_P D vwCl (vz_w [wkW h ki wh, woW g wh wa wi_26 wr_27 wf_28 ph rh (la 0), pgW g ph pa pr pf, rcW g rh ca ci cr_29 cf_30, plW g la lr lf lmx]) H := hP
    replace hD : va_D A (vz_w [wkW h ki wh, woW g wh wa wi_26 wr_27 wf_28 ph rh (la 0), pgW g ph pa pr pf, rcW g rh ca ci cr_29 cf_30, plW g la lr lf lmx]) := hD
    refine lv_goto (tgt := 405) hx hb dX7_execute_183 (by decide) ?_
    exact J405 v1 v2 ki wi_26 wr_27 wf_28 ci cr_29 cf_30 hw_31 hw_32 H locs ls hP hD hS (lv_sub hl [2, 3, 1, 0] rfl)
  have S20_186 : W p l e { frames := 4, cells := 0, slots := 0, locals := 94 } s m args below meth c H locs 0 0 Q (F0 m 186 ls []) := by
    refine lv_aload_n hx hb dX7_execute_186 rfl (lv_at hl 2 rfl) ?_
    refine va_get (D := D) (ci := 7) (v := .ref wh) (C := RX7) (T := TX7) (N := 7) hx hb hts inlX7 hown hK hP 0 rfl rfl 0 (by decide) (hts _ q152) (fun _ h => h) rfl dX7_execute_187 ?_
    refine lv_bipush (v := 9) hx hb dX7_execute_190 (by decide) ?_
    refine lv_iload_n hx hb dX7_execute_192 rfl (lv_at hl 1 rfl) ?_
    refine lv_iadd hx hb dX7_execute_193 ?_
    refine lv_bipush (v := (-9)) hx hb dX7_execute_194 (by decide) ?_
    refine vz_Vv4 (n9 := 5) (bs2 := fun u : (Nat → Nat → Int32) => [wkW h ki wh, woW g wh wa wi wr u ph rh (la 0), pgW g ph pa pr pf, rcW g rh ca ci cr cf, plW g la lr lf lmx]) (br := [wkW h ki wh]) (As := [.int (9 + v1), .int (-9)]) (rest := []) hx hb hml hown hts hK hA hP hD hS (a_W_setNow l D g H.size wh wa wi wr wf ph rh la pa pr pf ca ci cr cf lr lf lmx (9 + v1) (-9) hw_w hw_p hw_c hw_l hmx_l) kv_X7_106 ⟨Nat.le_of_ble_eq_true rfl, Nat.le_of_ble_eq_true rfl⟩ (q0 := 1) (ci := 8) rfl rfl rfl [1, 2, 3, 4] [0] rfl (by decide) rfl (fun _ => rfl) (fun _ => rfl) hl.1 (Nat.le_of_ble_eq_true rfl) dX7_execute_196 ⟨Nat.le_refl _, Nat.le_refl _⟩ rfl (fun wf_33 H locs _ _ hP hD hS => ?_)
    replace hP : va_P D vwCl (vz_w [wkW h ki wh, woW g wh wa wi wr wf_33 ph rh (la 0), pgW g ph pa pr pf, rcW g rh ca ci cr cf, plW g la lr lf lmx]) H := hP
    replace hD : va_D A (vz_w [wkW h ki wh, woW g wh wa wi wr wf_33 ph rh (la 0), pgW g ph pa pr pf, rcW g rh ca ci cr cf, plW g la lr lf lmx]) := hD
    refine lv_goto (tgt := 405) hx hb dX7_execute_199 (by decide) ?_
    exact J405 v1 v2 ki wi wr wf_33 ci cr cf hw_w hw_c H locs ls hP hD hS (lv_sub hl [2, 3, 1, 0] rfl)
  have S20_202 : W p l e { frames := 4, cells := 0, slots := 0, locals := 94 } s m args below meth c H locs 0 0 Q (F0 m 202 ls []) := by
    refine lv_aload_n hx hb dX7_execute_202 rfl (lv_at hl 2 rfl) ?_
    refine va_get (D := D) (ci := 7) (v := .ref wh) (C := RX7) (T := TX7) (N := 7) hx hb hts inlX7 hown hK hP 0 rfl rfl 0 (by decide) (hts _ q152) (fun _ h => h) rfl dX7_execute_203 ?_
    refine lv_bipush (v := 9) hx hb dX7_execute_206 (by decide) ?_
    refine lv_iload_n hx hb dX7_execute_208 rfl (lv_at hl 1 rfl) ?_
    refine lv_iadd hx hb dX7_execute_209 ?_
    refine lv_aload_n hx hb dX7_execute_210 rfl (lv_at hl 2 rfl) ?_
    refine va_get (D := D) (ci := 7) (v := .ref wh) (C := RX7) (T := TX7) (N := 7) hx hb hts inlX7 hown hK hP 0 rfl rfl 0 (by decide) (hts _ q152) (fun _ h => h) rfl dX7_execute_211 ?_
    refine lv_bipush (v := 9) hx hb dX7_execute_214 (by decide) ?_
    refine lv_iload_n hx hb dX7_execute_216 rfl (lv_at hl 0 rfl) ?_
    refine lv_iadd hx hb dX7_execute_217 ?_
    refine vz_Vi4 (n9 := 5) (bs2 := fun u : Unit => [wkW h ki wh, woW g wh wa wi wr wf ph rh (la 0), pgW g ph pa pr pf, rcW g rh ca ci cr cf, plW g la lr lf lmx]) (br := [wkW h ki wh]) (As := [.int (9 + v2)]) (rest := [.int (9 + v1), .ref wh]) hx hb hml hown hts hK hA hP hD hS (a_W_now l D g H.size wh wa wi wr wf ph rh la pa pr pf ca ci cr cf lr lf lmx (9 + v2) hw_w hw_p hw_c hw_l hmx_l) kv_X7_102 ⟨Nat.le_of_ble_eq_true rfl, Nat.le_of_ble_eq_true rfl⟩ (q0 := 1) (ci := 8) rfl rfl rfl [1, 2, 3, 4] [0] rfl (by decide) rfl (fun _ => rfl) (fun _ => rfl) hl.1 (Nat.le_of_ble_eq_true rfl) dX7_execute_218 ⟨Nat.le_refl _, Nat.le_refl _⟩ rfl (fun v34 _ H locs _ _ hP hD hS => ?_)
    refine vz_Vv4 (n9 := 5) (bs2 := fun u : (Nat → Nat → Int32) => [wkW h ki wh, woW g wh wa wi wr u ph rh (la 0), pgW g ph pa pr pf, rcW g rh ca ci cr cf, plW g la lr lf lmx]) (br := [wkW h ki wh]) (As := [.int (9 + v1), .int v34]) (rest := []) hx hb hml hown hts hK hA hP hD hS (a_W_setNow l D g H.size wh wa wi wr wf ph rh la pa pr pf ca ci cr cf lr lf lmx (9 + v1) v34 hw_w hw_p hw_c hw_l hmx_l) kv_X7_106 ⟨Nat.le_of_ble_eq_true rfl, Nat.le_of_ble_eq_true rfl⟩ (q0 := 1) (ci := 8) rfl rfl rfl [1, 2, 3, 4] [0] rfl (by decide) rfl (fun _ => rfl) (fun _ => rfl) hl.1 (Nat.le_of_ble_eq_true rfl) dX7_execute_221 ⟨Nat.le_refl _, Nat.le_refl _⟩ rfl (fun wf_35 H locs _ _ hP hD hS => ?_)
    replace hP : va_P D vwCl (vz_w [wkW h ki wh, woW g wh wa wi wr wf_35 ph rh (la 0), pgW g ph pa pr pf, rcW g rh ca ci cr cf, plW g la lr lf lmx]) H := hP
    replace hD : va_D A (vz_w [wkW h ki wh, woW g wh wa wi wr wf_35 ph rh (la 0), pgW g ph pa pr pf, rcW g rh ca ci cr cf, plW g la lr lf lmx]) := hD
    refine lv_goto (tgt := 405) hx hb dX7_execute_224 (by decide) ?_
    exact J405 v1 v2 ki wi wr wf_35 ci cr cf hw_w hw_c H locs ls hP hD hS (lv_sub hl [2, 3, 1, 0] rfl)
  have S20_227 : W p l e { frames := 4, cells := 0, slots := 0, locals := 94 } s m args below meth c H locs 0 0 Q (F0 m 227 ls []) := by
    refine lv_aload_n hx hb dX7_execute_227 rfl (lv_at hl 2 rfl) ?_
    refine va_get (D := D) (ci := 7) (v := .ref wh) (C := RX7) (T := TX7) (N := 7) hx hb hts inlX7 hown hK hP 0 rfl rfl 0 (by decide) (hts _ q152) (fun _ h => h) rfl dX7_execute_228 ?_
    refine lv_iload_n hx hb dX7_execute_231 rfl (lv_at hl 1 rfl) ?_
    refine lv_aload_n hx hb dX7_execute_232 rfl (lv_at hl 2 rfl) ?_
    refine va_get (D := D) (ci := 7) (v := .int (ki 4)) (C := RX7) (T := TX7) (N := 7) hx hb hts inlX7 hown hK hP 0 rfl rfl 5 (by decide) (hts _ q1076) (fun _ h => h) rfl dX7_execute_233 ?_
    refine lv_aload_n hx hb dX7_execute_236 rfl (lv_at hl 2 rfl) ?_
    refine va_get (D := D) (ci := 7) (v := .int (ki 5)) (C := RX7) (T := TX7) (N := 7) hx hb hts inlX7 hown hK hP 0 rfl rfl 6 (by decide) (hts _ q1077) (fun _ h => h) rfl dX7_execute_237 ?_
    refine vz_Vv4 (n9 := 5) (bs2 := fun u : (Nat → Int32) × (Nat → Nat → Int32) × (Nat → Nat) × (Nat → Nat → Int32) => [wkW h ki wh, woW g wh wa u.1 wr u.2.1 ph rh (la 0), pgW g ph pa pr pf, rcW g rh ca ci u.2.2.1 u.2.2.2, plW g la lr lf lmx]) (br := [wkW h ki wh]) (As := [.int v1, .int (ki 4), .int (ki 5)]) (rest := []) hx hb hml hown hts hK hA hP hD hS (a_W_store l D g H.size wh wa wi wr wf ph rh la pa pr pf ca ci cr cf lr lf lmx v1 (ki 4) (ki 5) hw_w hw_p hw_c hw_l hmx_l) kv_X7_133 ⟨Nat.le_of_ble_eq_true rfl, Nat.le_of_ble_eq_true rfl⟩ (q0 := 1) (ci := 8) rfl rfl rfl [1, 2, 3, 4] [0] rfl (by decide) rfl (fun _ => rfl) (fun _ => rfl) hl.1 (Nat.le_of_ble_eq_true rfl) dX7_execute_240 ⟨Nat.le_refl _, Nat.le_refl _⟩ rfl (fun ⟨wi_36, wf_37, cr_38, cf_39⟩ H locs hw_40 _ hP hD hS => ?_)
    try dsimp only at hw_40
    replace hP : va_P D vwCl (vz_w [wkW h ki wh, woW g wh wa wi_36 wr wf_37 ph rh (la 0), pgW g ph pa pr pf, rcW g rh ca ci cr_38 cf_39, plW g la lr lf lmx]) H := hP
    replace hD : va_D A (vz_w [wkW h ki wh, woW g wh wa wi_36 wr wf_37 ph rh (la 0), pgW g ph pa pr pf, rcW g rh ca ci cr_38 cf_39, plW g la lr lf lmx]) := hD
    refine lv_goto (tgt := 405) hx hb dX7_execute_243 (by decide) ?_
    exact J405 v1 v2 ki wi_36 wr wf_37 ci cr_38 cf_39 hw_w hw_40 H locs ls hP hD hS (lv_sub hl [2, 3, 1, 0] rfl)
  have S20_246 : W p l e { frames := 4, cells := 0, slots := 0, locals := 94 } s m args below meth c H locs 0 0 Q (F0 m 246 ls []) := by
    refine lv_aload_n hx hb dX7_execute_246 rfl (lv_at hl 2 rfl) ?_
    refine lv_iconst (v := 1) hx hb dX7_execute_247 (by decide) ?_
    refine lv_aload_n hx hb dX7_execute_248 rfl (lv_at hl 2 rfl) ?_
    refine va_get (D := D) (ci := 7) (v := .int (ki 4)) (C := RX7) (T := TX7) (N := 7) hx hb hts inlX7 hown hK hP 0 rfl rfl 5 (by decide) (hts _ q1076) (fun _ h => h) rfl dX7_execute_249 ?_
    refine vz_Vv3 (As := [.int 1, .int (ki 4)]) (rest := []) hx hb hml hown hts hK hA hP hD hS (a_K_endBy l D g H.size h ki wh wa wi wr wf ph rh la pa pr pf ca ci cr cf lr lf lmx 1 (ki 4) hw_w hw_p hw_c hw_l hmx_l) kv_X7_109 ⟨Nat.le_of_ble_eq_true rfl, Nat.le_of_ble_eq_true rfl⟩ (q0 := 0) (ci := 7) rfl rfl rfl  hl.1 (Nat.le_of_ble_eq_true rfl) dX7_execute_252 ⟨Nat.le_refl _, Nat.le_refl _⟩ rfl (fun ki_41 H locs _ _ hP hD hS => ?_)
    replace hP : va_P D vwCl (vz_w [wkW h ki_41 wh, woW g wh wa wi wr wf ph rh (la 0), pgW g ph pa pr pf, rcW g rh ca ci cr cf, plW g la lr lf lmx]) H := hP
    replace hD : va_D A (vz_w [wkW h ki_41 wh, woW g wh wa wi wr wf ph rh (la 0), pgW g ph pa pr pf, rcW g rh ca ci cr cf, plW g la lr lf lmx]) := hD
    refine lv_goto (tgt := 405) hx hb dX7_execute_255 (by decide) ?_
    exact J405 v1 v2 ki_41 wi wr wf ci cr cf hw_w hw_c H locs ls hP hD hS (lv_sub hl [2, 3, 1, 0] rfl)
  have S20_258 : W p l e { frames := 4, cells := 0, slots := 0, locals := 94 } s m args below meth c H locs 0 0 Q (F0 m 258 ls []) := by
    refine lv_aload_n hx hb dX7_execute_258 rfl (lv_at hl 2 rfl) ?_
    refine lv_iload_n hx hb dX7_execute_259 rfl (lv_at hl 3 rfl) ?_
    refine lv_aload_n hx hb dX7_execute_260 rfl (lv_at hl 2 rfl) ?_
    refine va_get (D := D) (ci := 7) (v := .ref wh) (C := RX7) (T := TX7) (N := 7) hx hb hts inlX7 hown hK hP 0 rfl rfl 0 (by decide) (hts _ q152) (fun _ h => h) rfl dX7_execute_261 ?_
    refine lv_iload_n hx hb dX7_execute_264 rfl (lv_at hl 1 rfl) ?_
    refine lv_aload_n hx hb dX7_execute_265 rfl (lv_at hl 2 rfl) ?_
    refine va_get (D := D) (ci := 7) (v := .int (ki 4)) (C := RX7) (T := TX7) (N := 7) hx hb hts inlX7 hown hK hP 0 rfl rfl 5 (by decide) (hts _ q1076) (fun _ h => h) rfl dX7_execute_266 ?_
    refine lv_aload_n hx hb dX7_execute_269 rfl (lv_at hl 2 rfl) ?_
    refine va_get (D := D) (ci := 7) (v := .int (ki 5)) (C := RX7) (T := TX7) (N := 7) hx hb hts inlX7 hown hK hP 0 rfl rfl 6 (by decide) (hts _ q1077) (fun _ h => h) rfl dX7_execute_270 ?_
    refine vz_Vi4 (n9 := 5) (bs2 := fun u : Unit => [wkW h ki wh, woW g wh wa wi wr wf ph rh (la 0), pgW g ph pa pr pf, rcW g rh ca ci cr cf, plW g la lr lf lmx]) (br := [wkW h ki wh]) (As := [.int v1, .int (ki 4), .int (ki 5)]) (rest := [.int n1, .ref h]) hx hb hml hown hts hK hA hP hD hS (a_W_compares l D g H.size wh wa wi wr wf ph rh la pa pr pf ca ci cr cf lr lf lmx v1 (ki 4) (ki 5) hw_w hw_p hw_c hw_l hmx_l) kv_X7_136 ⟨Nat.le_of_ble_eq_true rfl, Nat.le_of_ble_eq_true rfl⟩ (q0 := 1) (ci := 8) rfl rfl rfl [1, 2, 3, 4] [0] rfl (by decide) rfl (fun _ => rfl) (fun _ => rfl) hl.1 (Nat.le_of_ble_eq_true rfl) dX7_execute_273 ⟨Nat.le_refl _, Nat.le_refl _⟩ rfl (fun v42 _ H locs hz43 _ hP hD hS => ?_)
    refine lv_if_eq (tgt := 283) hx hb dX7_execute_276 (by decide) (fun kc44 => ?_) (fun kc44 => ?_)
    · refine lv_bipush (v := 6) hx hb dX7_execute_283 (by decide) ?_
      exact J285 v1 v2 6 ki wi wr wf ci cr cf hw_w hw_c H locs ls hP hD hS (lv_sub hl [2, 3, 1, 0] rfl)
    · refine lv_iconst (v := 5) hx hb dX7_execute_279 (by decide) ?_
      refine lv_goto (tgt := 285) hx hb dX7_execute_280 (by decide) ?_
      exact J285 v1 v2 5 ki wi wr wf ci cr cf hw_w hw_c H locs ls hP hD hS (lv_sub hl [2, 3, 1, 0] rfl)
  have S20_291 : W p l e { frames := 4, cells := 0, slots := 0, locals := 94 } s m args below meth c H locs 0 0 Q (F0 m 291 ls []) := by
    refine lv_aload_n hx hb dX7_execute_291 rfl (lv_at hl 2 rfl) ?_
    refine lv_iload_n hx hb dX7_execute_292 rfl (lv_at hl 3 rfl) ?_
    refine lv_iconst (v := 0) hx hb dX7_execute_293 (by decide) ?_
    refine lv_aload_n hx hb dX7_execute_294 rfl (lv_at hl 2 rfl) ?_
    refine va_get (D := D) (ci := 7) (v := .int (ki 4)) (C := RX7) (T := TX7) (N := 7) hx hb hts inlX7 hown hK hP 0 rfl rfl 5 (by decide) (hts _ q1076) (fun _ h => h) rfl dX7_execute_295 ?_
    refine vz_Vv3 (As := [.int n1, .int 0, .int (ki 4)]) (rest := []) hx hb hml hown hts hK hA hP hD hS (a_K_setSlot l D g H.size h ki wh wa wi wr wf ph rh la pa pr pf ca ci cr cf lr lf lmx n1 0 (ki 4) hw_w hw_p hw_c hw_l hmx_l) kv_X7_143 ⟨Nat.le_of_ble_eq_true rfl, Nat.le_of_ble_eq_true rfl⟩ (q0 := 0) (ci := 7) rfl rfl rfl  hl.1 (Nat.le_of_ble_eq_true rfl) dX7_execute_298 ⟨Nat.le_refl _, Nat.le_refl _⟩ rfl (fun wf_45 H locs _ _ hP hD hS => ?_)
    replace hP : va_P D vwCl (vz_w [wkW h ki wh, woW g wh wa wi wr wf_45 ph rh (la 0), pgW g ph pa pr pf, rcW g rh ca ci cr cf, plW g la lr lf lmx]) H := hP
    replace hD : va_D A (vz_w [wkW h ki wh, woW g wh wa wi wr wf_45 ph rh (la 0), pgW g ph pa pr pf, rcW g rh ca ci cr cf, plW g la lr lf lmx]) := hD
    refine lv_aload_n hx hb dX7_execute_301 rfl (lv_at hl 2 rfl) ?_
    refine lv_iload_n hx hb dX7_execute_302 rfl (lv_at hl 3 rfl) ?_
    refine vz_Vv3 (As := [.int n1]) (rest := []) hx hb hml hown hts hK hA hP hD hS (a_K_turn l D g H.size h ki wh wa wi wr wf_45 ph rh la pa pr pf ca ci cr cf lr lf lmx n1 hw_w hw_p hw_c hw_l hmx_l) kv_X7_144 ⟨Nat.le_of_ble_eq_true rfl, Nat.le_of_ble_eq_true rfl⟩ (q0 := 0) (ci := 7) rfl rfl rfl  hl.1 (Nat.le_of_ble_eq_true rfl) dX7_execute_303 ⟨Nat.le_refl _, Nat.le_refl _⟩ rfl (fun ⟨ki_46, wf_47, ci_48⟩ H locs _ _ hP hD hS => ?_)
    replace hP : va_P D vwCl (vz_w [wkW h ki_46 wh, woW g wh wa wi wr wf_47 ph rh (la 0), pgW g ph pa pr pf, rcW g rh ca ci_48 cr cf, plW g la lr lf lmx]) H := hP
    replace hD : va_D A (vz_w [wkW h ki_46 wh, woW g wh wa wi wr wf_47 ph rh (la 0), pgW g ph pa pr pf, rcW g rh ca ci_48 cr cf, plW g la lr lf lmx]) := hD
    refine lv_goto (tgt := 405) hx hb dX7_execute_306 (by decide) ?_
    exact J405 v1 v2 ki_46 wi wr wf_47 ci_48 cr cf hw_w hw_c H locs ls hP hD hS (lv_sub hl [2, 3, 1, 0] rfl)
  have S20_309 : W p l e { frames := 4, cells := 0, slots := 0, locals := 94 } s m args below meth c H locs 0 0 Q (F0 m 309 ls []) := by
    refine lv_aload_n hx hb dX7_execute_309 rfl (lv_at hl 2 rfl) ?_
    refine lv_iconst (v := 2) hx hb dX7_execute_310 (by decide) ?_
    refine lv_iload_n hx hb dX7_execute_311 rfl (lv_at hl 1 rfl) ?_
    refine vz_Vv3 (As := [.int 2, .int v1]) (rest := []) hx hb hml hown hts hK hA hP hD hS (a_K_endBy l D g H.size h ki wh wa wi wr wf ph rh la pa pr pf ca ci cr cf lr lf lmx 2 v1 hw_w hw_p hw_c hw_l hmx_l) kv_X7_109 ⟨Nat.le_of_ble_eq_true rfl, Nat.le_of_ble_eq_true rfl⟩ (q0 := 0) (ci := 7) rfl rfl rfl  hl.1 (Nat.le_of_ble_eq_true rfl) dX7_execute_312 ⟨Nat.le_refl _, Nat.le_refl _⟩ rfl (fun ki_49 H locs _ _ hP hD hS => ?_)
    replace hP : va_P D vwCl (vz_w [wkW h ki_49 wh, woW g wh wa wi wr wf ph rh (la 0), pgW g ph pa pr pf, rcW g rh ca ci cr cf, plW g la lr lf lmx]) H := hP
    replace hD : va_D A (vz_w [wkW h ki_49 wh, woW g wh wa wi wr wf ph rh (la 0), pgW g ph pa pr pf, rcW g rh ca ci cr cf, plW g la lr lf lmx]) := hD
    refine lv_goto (tgt := 405) hx hb dX7_execute_315 (by decide) ?_
    exact J405 v1 v2 ki_49 wi wr wf ci cr cf hw_w hw_c H locs ls hP hD hS (lv_sub hl [2, 3, 1, 0] rfl)
  have S20_318 : W p l e { frames := 4, cells := 0, slots := 0, locals := 94 } s m args below meth c H locs 0 0 Q (F0 m 318 ls []) := by
    refine lv_aload_n hx hb dX7_execute_318 rfl (lv_at hl 2 rfl) ?_
    refine lv_iconst (v := 3) hx hb dX7_execute_319 (by decide) ?_
    refine lv_iload_n hx hb dX7_execute_320 rfl (lv_at hl 1 rfl) ?_
    refine vz_Vv3 (As := [.int 3, .int v1]) (rest := []) hx hb hml hown hts hK hA hP hD hS (a_K_endBy l D g H.size h ki wh wa wi wr wf ph rh la pa pr pf ca ci cr cf lr lf lmx 3 v1 hw_w hw_p hw_c hw_l hmx_l) kv_X7_109 ⟨Nat.le_of_ble_eq_true rfl, Nat.le_of_ble_eq_true rfl⟩ (q0 := 0) (ci := 7) rfl rfl rfl  hl.1 (Nat.le_of_ble_eq_true rfl) dX7_execute_321 ⟨Nat.le_refl _, Nat.le_refl _⟩ rfl (fun ki_50 H locs _ _ hP hD hS => ?_)
    replace hP : va_P D vwCl (vz_w [wkW h ki_50 wh, woW g wh wa wi wr wf ph rh (la 0), pgW g ph pa pr pf, rcW g rh ca ci cr cf, plW g la lr lf lmx]) H := hP
    replace hD : va_D A (vz_w [wkW h ki_50 wh, woW g wh wa wi wr wf ph rh (la 0), pgW g ph pa pr pf, rcW g rh ca ci cr cf, plW g la lr lf lmx]) := hD
    refine lv_goto (tgt := 405) hx hb dX7_execute_324 (by decide) ?_
    exact J405 v1 v2 ki_50 wi wr wf ci cr cf hw_w hw_c H locs ls hP hD hS (lv_sub hl [2, 3, 1, 0] rfl)
  have S20_327 : W p l e { frames := 4, cells := 0, slots := 0, locals := 94 } s m args below meth c H locs 0 0 Q (F0 m 327 ls []) := by
    refine lv_aload_n hx hb dX7_execute_327 rfl (lv_at hl 2 rfl) ?_
    refine va_get (D := D) (ci := 7) (v := .ref wh) (C := RX7) (T := TX7) (N := 7) hx hb hts inlX7 hown hK hP 0 rfl rfl 0 (by decide) (hts _ q152) (fun _ h => h) rfl dX7_execute_328 ?_
    refine lv_iload_n hx hb dX7_execute_331 rfl (lv_at hl 1 rfl) ?_
    refine lv_bipush (v := (-9)) hx hb dX7_execute_332 (by decide) ?_
    refine vz_Vv4 (n9 := 5) (bs2 := fun u : (Nat → Int32) × (Nat → Nat) × (Nat → Nat → Int32) => [wkW h ki wh, woW g wh wa u.1 wr wf ph rh (la 0), pgW g ph pa pr pf, rcW g rh ca ci u.2.1 u.2.2, plW g la lr lf lmx]) (br := [wkW h ki wh]) (As := [.int v1, .int (-9)]) (rest := []) hx hb hml hown hts hK hA hP hD hS (a_W_raise l D g H.size wh wa wi wr wf ph rh la pa pr pf ca ci cr cf lr lf lmx v1 (-9) hw_w hw_p hw_c hw_l hmx_l) kv_X7_127 ⟨Nat.le_of_ble_eq_true rfl, Nat.le_of_ble_eq_true rfl⟩ (q0 := 1) (ci := 8) rfl rfl rfl [1, 2, 3, 4] [0] rfl (by decide) rfl (fun _ => rfl) (fun _ => rfl) hl.1 (Nat.le_of_ble_eq_true rfl) dX7_execute_334 ⟨Nat.le_refl _, Nat.le_refl _⟩ rfl (fun ⟨wi_51, cr_52, cf_53⟩ H locs hw_54 _ hP hD hS => ?_)
    try dsimp only at hw_54
    replace hP : va_P D vwCl (vz_w [wkW h ki wh, woW g wh wa wi_51 wr wf ph rh (la 0), pgW g ph pa pr pf, rcW g rh ca ci cr_52 cf_53, plW g la lr lf lmx]) H := hP
    replace hD : va_D A (vz_w [wkW h ki wh, woW g wh wa wi_51 wr wf ph rh (la 0), pgW g ph pa pr pf, rcW g rh ca ci cr_52 cf_53, plW g la lr lf lmx]) := hD
    refine lv_goto (tgt := 405) hx hb dX7_execute_337 (by decide) ?_
    exact J405 v1 v2 ki wi_51 wr wf ci cr_52 cf_53 hw_w hw_54 H locs ls hP hD hS (lv_sub hl [2, 3, 1, 0] rfl)
  have S20_340 : W p l e { frames := 4, cells := 0, slots := 0, locals := 94 } s m args below meth c H locs 0 0 Q (F0 m 340 ls []) := by
    refine lv_aload_n hx hb dX7_execute_340 rfl (lv_at hl 2 rfl) ?_
    refine va_get (D := D) (ci := 7) (v := .ref wh) (C := RX7) (T := TX7) (N := 7) hx hb hts inlX7 hown hK hP 0 rfl rfl 0 (by decide) (hts _ q152) (fun _ h => h) rfl dX7_execute_341 ?_
    refine lv_iload_n hx hb dX7_execute_344 rfl (lv_at hl 1 rfl) ?_
    refine lv_aload_n hx hb dX7_execute_345 rfl (lv_at hl 2 rfl) ?_
    refine va_get (D := D) (ci := 7) (v := .ref wh) (C := RX7) (T := TX7) (N := 7) hx hb hts inlX7 hown hK hP 0 rfl rfl 0 (by decide) (hts _ q152) (fun _ h => h) rfl dX7_execute_346 ?_
    refine lv_iload_n hx hb dX7_execute_349 rfl (lv_at hl 0 rfl) ?_
    refine lv_iconst (v := 1) hx hb dX7_execute_350 (by decide) ?_
    refine vz_Vi4 (n9 := 5) (bs2 := fun u : Unit => [wkW h ki wh, woW g wh wa wi wr wf ph rh (la 0), pgW g ph pa pr pf, rcW g rh ca ci cr cf, plW g la lr lf lmx]) (br := [wkW h ki wh]) (As := [.int v2, .int 1]) (rest := [.int v1, .ref wh]) hx hb hml hown hts hK hA hP hD hS (a_W_slot l D g H.size wh wa wi wr wf ph rh la pa pr pf ca ci cr cf lr lf lmx v2 1 hw_w hw_p hw_c hw_l hmx_l) kv_X7_77 ⟨Nat.le_of_ble_eq_true rfl, Nat.le_of_ble_eq_true rfl⟩ (q0 := 1) (ci := 8) rfl rfl rfl [1, 2, 3, 4] [0] rfl (by decide) rfl (fun _ => rfl) (fun _ => rfl) hl.1 (Nat.le_of_ble_eq_true rfl) dX7_execute_351 ⟨Nat.le_refl _, Nat.le_refl _⟩ rfl (fun v55 _ H locs _ _ hP hD hS => ?_)
    refine vz_Vv4 (n9 := 5) (bs2 := fun u : (Nat → Int32) × (Nat → Nat) × (Nat → Nat → Int32) => [wkW h ki wh, woW g wh wa u.1 wr wf ph rh (la 0), pgW g ph pa pr pf, rcW g rh ca ci u.2.1 u.2.2, plW g la lr lf lmx]) (br := [wkW h ki wh]) (As := [.int v1, .int v55]) (rest := []) hx hb hml hown hts hK hA hP hD hS (a_W_raise l D g H.size wh wa wi wr wf ph rh la pa pr pf ca ci cr cf lr lf lmx v1 v55 hw_w hw_p hw_c hw_l hmx_l) kv_X7_127 ⟨Nat.le_of_ble_eq_true rfl, Nat.le_of_ble_eq_true rfl⟩ (q0 := 1) (ci := 8) rfl rfl rfl [1, 2, 3, 4] [0] rfl (by decide) rfl (fun _ => rfl) (fun _ => rfl) hl.1 (Nat.le_of_ble_eq_true rfl) dX7_execute_354 ⟨Nat.le_refl _, Nat.le_refl _⟩ rfl (fun ⟨wi_56, cr_57, cf_58⟩ H locs hw_59 _ hP hD hS => ?_)
    try dsimp only at hw_59
    replace hP : va_P D vwCl (vz_w [wkW h ki wh, woW g wh wa wi_56 wr wf ph rh (la 0), pgW g ph pa pr pf, rcW g rh ca ci cr_57 cf_58, plW g la lr lf lmx]) H := hP
    replace hD : va_D A (vz_w [wkW h ki wh, woW g wh wa wi_56 wr wf ph rh (la 0), pgW g ph pa pr pf, rcW g rh ca ci cr_57 cf_58, plW g la lr lf lmx]) := hD
    refine lv_goto (tgt := 405) hx hb dX7_execute_357 (by decide) ?_
    exact J405 v1 v2 ki wi_56 wr wf ci cr_57 cf_58 hw_w hw_59 H locs ls hP hD hS (lv_sub hl [2, 3, 1, 0] rfl)
  have S20_360 : W p l e { frames := 4, cells := 0, slots := 0, locals := 94 } s m args below meth c H locs 0 0 Q (F0 m 360 ls []) := by
    refine lv_aload_n hx hb dX7_execute_360 rfl (lv_at hl 2 rfl) ?_
    refine va_get (D := D) (ci := 7) (v := .ref wh) (C := RX7) (T := TX7) (N := 7) hx hb hts inlX7 hown hK hP 0 rfl rfl 0 (by decide) (hts _ q152) (fun _ h => h) rfl dX7_execute_361 ?_
    refine lv_aload_n hx hb dX7_execute_364 rfl (lv_at hl 2 rfl) ?_
    refine va_get (D := D) (ci := 7) (v := .ref wh) (C := RX7) (T := TX7) (N := 7) hx hb hts inlX7 hown hK hP 0 rfl rfl 0 (by decide) (hts _ q152) (fun _ h => h) rfl dX7_execute_365 ?_
    refine lv_iload_n hx hb dX7_execute_368 rfl (lv_at hl 0 rfl) ?_
    refine lv_iconst (v := 1) hx hb dX7_execute_369 (by decide) ?_
    refine vz_Vi4 (n9 := 5) (bs2 := fun u : Unit => [wkW h ki wh, woW g wh wa wi wr wf ph rh (la 0), pgW g ph pa pr pf, rcW g rh ca ci cr cf, plW g la lr lf lmx]) (br := [wkW h ki wh]) (As := [.int v2, .int 1]) (rest := [.ref wh]) hx hb hml hown hts hK hA hP hD hS (a_W_slot l D g H.size wh wa wi wr wf ph rh la pa pr pf ca ci cr cf lr lf lmx v2 1 hw_w hw_p hw_c hw_l hmx_l) kv_X7_77 ⟨Nat.le_of_ble_eq_true rfl, Nat.le_of_ble_eq_true rfl⟩ (q0 := 1) (ci := 8) rfl rfl rfl [1, 2, 3, 4] [0] rfl (by decide) rfl (fun _ => rfl) (fun _ => rfl) hl.1 (Nat.le_of_ble_eq_true rfl) dX7_execute_370 ⟨Nat.le_refl _, Nat.le_refl _⟩ rfl (fun v60 _ H locs _ _ hP hD hS => ?_)
    refine va_put (D := D) (ci := 8) (v := .int v60) (ty := .int) (C := RX8) (T := TX8) (N := 11) hx hb hts inlX8 tyX8 tyX8_ok nmX8 hown hK hP hD hS 1 rfl rfl 9 (by decide) (hts _ q1040) (fun _ h => h) rfl (by decide +kernel) rfl rfl (Nat.le_of_ble_eq_true rfl) dX7_execute_373 (fun H locs hP hD hS => ?_)
    obtain ⟨wi_61, hwi_61, hP, hD⟩ : ∃ wi_61 : Nat → Int32, (wi_61 = (upd wi 1 v60)) ∧ va_P D vwCl (vz_w [wkW h ki wh, woW g wh wa wi_61 wr wf ph rh (la 0), pgW g ph pa pr pf, rcW g rh ca ci cr cf, plW g la lr lf lmx]) H ∧ va_D A (vz_w [wkW h ki wh, woW g wh wa wi_61 wr wf ph rh (la 0), pgW g ph pa pr pf, rcW g rh ca ci cr cf, plW g la lr lf lmx]) := ⟨(upd wi 1 v60), rfl, hP, hD⟩
    refine lv_goto (tgt := 405) hx hb dX7_execute_376 (by decide) ?_
    exact J405 v1 v2 ki wi_61 wr wf ci cr cf hw_w hw_c H locs ls hP hD hS (lv_sub hl [2, 3, 1, 0] rfl)
  have S20_379 : W p l e { frames := 4, cells := 0, slots := 0, locals := 94 } s m args below meth c H locs 0 0 Q (F0 m 379 ls []) := by
    refine lv_aload_n hx hb dX7_execute_379 rfl (lv_at hl 2 rfl) ?_
    refine lv_iload_n hx hb dX7_execute_380 rfl (lv_at hl 3 rfl) ?_
    refine lv_bipush (v := 6) hx hb dX7_execute_381 (by decide) ?_
    refine lv_iconst (v := 0) hx hb dX7_execute_383 (by decide) ?_
    refine vz_Vv3 (As := [.int n1, .int 6, .int 0]) (rest := []) hx hb hml hown hts hK hA hP hD hS (a_K_setSlot l D g H.size h ki wh wa wi wr wf ph rh la pa pr pf ca ci cr cf lr lf lmx n1 6 0 hw_w hw_p hw_c hw_l hmx_l) kv_X7_143 ⟨Nat.le_of_ble_eq_true rfl, Nat.le_of_ble_eq_true rfl⟩ (q0 := 0) (ci := 7) rfl rfl rfl  hl.1 (Nat.le_of_ble_eq_true rfl) dX7_execute_384 ⟨Nat.le_refl _, Nat.le_refl _⟩ rfl (fun wf_62 H locs _ _ hP hD hS => ?_)
    replace hP : va_P D vwCl (vz_w [wkW h ki wh, woW g wh wa wi wr wf_62 ph rh (la 0), pgW g ph pa pr pf, rcW g rh ca ci cr cf, plW g la lr lf lmx]) H := hP
    replace hD : va_D A (vz_w [wkW h ki wh, woW g wh wa wi wr wf_62 ph rh (la 0), pgW g ph pa pr pf, rcW g rh ca ci cr cf, plW g la lr lf lmx]) := hD
    refine lv_aload_n hx hb dX7_execute_387 rfl (lv_at hl 2 rfl) ?_
    refine lv_iload_n hx hb dX7_execute_388 rfl (lv_at hl 3 rfl) ?_
    refine lv_bipush (v := 7) hx hb dX7_execute_389 (by decide) ?_
    refine lv_iconst (v := 0) hx hb dX7_execute_391 (by decide) ?_
    refine vz_Vv3 (As := [.int n1, .int 7, .int 0]) (rest := []) hx hb hml hown hts hK hA hP hD hS (a_K_setSlot l D g H.size h ki wh wa wi wr wf_62 ph rh la pa pr pf ca ci cr cf lr lf lmx n1 7 0 hw_w hw_p hw_c hw_l hmx_l) kv_X7_143 ⟨Nat.le_of_ble_eq_true rfl, Nat.le_of_ble_eq_true rfl⟩ (q0 := 0) (ci := 7) rfl rfl rfl  hl.1 (Nat.le_of_ble_eq_true rfl) dX7_execute_392 ⟨Nat.le_refl _, Nat.le_refl _⟩ rfl (fun wf_63 H locs _ _ hP hD hS => ?_)
    replace hP : va_P D vwCl (vz_w [wkW h ki wh, woW g wh wa wi wr wf_63 ph rh (la 0), pgW g ph pa pr pf, rcW g rh ca ci cr cf, plW g la lr lf lmx]) H := hP
    replace hD : va_D A (vz_w [wkW h ki wh, woW g wh wa wi wr wf_63 ph rh (la 0), pgW g ph pa pr pf, rcW g rh ca ci cr cf, plW g la lr lf lmx]) := hD
    refine lv_aload_n hx hb dX7_execute_395 rfl (lv_at hl 2 rfl) ?_
    refine lv_iload_n hx hb dX7_execute_396 rfl (lv_at hl 3 rfl) ?_
    refine lv_bipush (v := (-9)) hx hb dX7_execute_397 (by decide) ?_
    refine vz_Vv3 (As := [.int n1, .int (-9)]) (rest := []) hx hb hml hown hts hK hA hP hD hS (a_K_enterBlock l D g H.size h ki wh wa wi wr wf_63 ph rh la pa pr pf ca ci cr cf lr lf lmx n1 (-9) hw_w hw_p hw_c hw_l hmx_l) kv_X7_140 ⟨Nat.le_of_ble_eq_true rfl, Nat.le_of_ble_eq_true rfl⟩ (q0 := 0) (ci := 7) rfl rfl rfl  hl.1 (Nat.le_of_ble_eq_true rfl) dX7_execute_399 ⟨Nat.le_refl _, Nat.le_refl _⟩ rfl (fun ki_64 H locs _ _ hP hD hS => ?_)
    replace hP : va_P D vwCl (vz_w [wkW h ki_64 wh, woW g wh wa wi wr wf_63 ph rh (la 0), pgW g ph pa pr pf, rcW g rh ca ci cr cf, plW g la lr lf lmx]) H := hP
    replace hD : va_D A (vz_w [wkW h ki_64 wh, woW g wh wa wi wr wf_63 ph rh (la 0), pgW g ph pa pr pf, rcW g rh ca ci cr cf, plW g la lr lf lmx]) := hD
    refine lv_goto (tgt := 405) hx hb dX7_execute_402 (by decide) ?_
    exact J405 v1 v2 ki_64 wi wr wf_63 ci cr cf hw_w hw_c H locs ls hP hD hS (lv_sub hl [2, 3, 1, 0] rfl)
  have S20_405 : W p l e { frames := 4, cells := 0, slots := 0, locals := 94 } s m args below meth c H locs 0 0 Q (F0 m 405 ls []) := by
    exact J405 v1 v2 ki wi wr wf ci cr cf hw_w hw_c H locs ls hP hD hS (lv_sub hl [2, 3, 1, 0] rfl)
  refine vz_tsw (td := 405) hx hb dX7_execute_20 (by decide) [100, 112, 154, 171, 186, 202, 227, 246, 258, 291, 309, 318, 327, 340, 360, 379] (by decide) (by decide) (fun hv => ?_) (fun k t hk hv => ?_)
  · exact S20_405
  · have hm := List.mem_of_getElem? hk
    simp only [List.mem_cons, List.not_mem_nil, or_false] at hm
    rcases hm with rfl | rfl | rfl | rfl | rfl | rfl | rfl | rfl | rfl | rfl | rfl | rfl | rfl | rfl | rfl | rfl
    · exact S20_100
    · exact S20_112
    · exact S20_154
    · exact S20_171
    · exact S20_186
    · exact S20_202
    · exact S20_227
    · exact S20_246
    · exact S20_258
    · exact S20_291
    · exact S20_309
    · exact S20_318
    · exact S20_327
    · exact S20_340
    · exact S20_360
    · exact S20_379
theorem dX7_endTurn_0 : decode cX7_endTurn 0 = .ok (.aload_n 0, 1) := by decide +kernel
theorem dX7_endTurn_1 : decode cX7_endTurn 1 = .ok (.getfield 87, 3) := by decide +kernel
theorem dX7_endTurn_4 : decode cX7_endTurn 4 = .ok (.ifCond .eq 19, 3) := by decide +kernel
theorem dX7_endTurn_7 : decode cX7_endTurn 7 = .ok (.aload_n 0, 1) := by decide +kernel
theorem dX7_endTurn_8 : decode cX7_endTurn 8 = .ok (.getfield 87, 3) := by decide +kernel
theorem dX7_endTurn_11 : decode cX7_endTurn 11 = .ok (.iconst 3, 1) := by decide +kernel
theorem dX7_endTurn_12 : decode cX7_endTurn 12 = .ok (.if_icmp .ne 19, 3) := by decide +kernel
theorem dX7_endTurn_15 : decode cX7_endTurn 15 = .ok (.aload_n 0, 1) := by decide +kernel
theorem dX7_endTurn_16 : decode cX7_endTurn 16 = .ok (.getfield 90, 3) := by decide +kernel
theorem dX7_endTurn_19 : decode cX7_endTurn 19 = .ok (.iload_n 1, 1) := by decide +kernel
theorem dX7_endTurn_20 : decode cX7_endTurn 20 = .ok (.if_icmp .ne 11, 3) := by decide +kernel
theorem dX7_endTurn_23 : decode cX7_endTurn 23 = .ok (.aload_n 0, 1) := by decide +kernel
theorem dX7_endTurn_24 : decode cX7_endTurn 24 = .ok (.iload_n 1, 1) := by decide +kernel
theorem dX7_endTurn_25 : decode cX7_endTurn 25 = .ok (.invokevirtual 144, 3) := by decide +kernel
theorem dX7_endTurn_28 : decode cX7_endTurn 28 = .ok (.goto 29, 3) := by decide +kernel
theorem dX7_endTurn_31 : decode cX7_endTurn 31 = .ok (.aload_n 0, 1) := by decide +kernel
theorem dX7_endTurn_32 : decode cX7_endTurn 32 = .ok (.getfield 87, 3) := by decide +kernel
theorem dX7_endTurn_35 : decode cX7_endTurn 35 = .ok (.iconst 2, 1) := by decide +kernel
theorem dX7_endTurn_36 : decode cX7_endTurn 36 = .ok (.if_icmp .ne 16, 3) := by decide +kernel
theorem dX7_endTurn_39 : decode cX7_endTurn 39 = .ok (.aload_n 0, 1) := by decide +kernel
theorem dX7_endTurn_40 : decode cX7_endTurn 40 = .ok (.getfield 90, 3) := by decide +kernel
theorem dX7_endTurn_43 : decode cX7_endTurn 43 = .ok (.iload_n 1, 1) := by decide +kernel
theorem dX7_endTurn_44 : decode cX7_endTurn 44 = .ok (.if_icmp .ne 8, 3) := by decide +kernel
theorem dX7_endTurn_47 : decode cX7_endTurn 47 = .ok (.aload_n 0, 1) := by decide +kernel
theorem dX7_endTurn_48 : decode cX7_endTurn 48 = .ok (.iconst 0, 1) := by decide +kernel
theorem dX7_endTurn_49 : decode cX7_endTurn 49 = .ok (.putfield 87, 3) := by decide +kernel
theorem dX7_endTurn_52 : decode cX7_endTurn 52 = .ok (.aload_n 0, 1) := by decide +kernel
theorem dX7_endTurn_53 : decode cX7_endTurn 53 = .ok (.iload_n 1, 1) := by decide +kernel
theorem dX7_endTurn_54 : decode cX7_endTurn 54 = .ok (.invokevirtual 59, 3) := by decide +kernel
theorem dX7_endTurn_57 : decode cX7_endTurn 57 = .ok (.return_, 1) := by decide +kernel
set_option maxHeartbeats 8000000 in
set_option maxRecDepth 100000 in
theorem a_K_endTurn (l : Launch) (D : va_G) (g : Nat → ClassId)   (sz : Nat) (h : Nat) (ki : Nat → Int32) (wh : Nat) (wa : Nat → Nat) (wi : Nat → Int32) (wr : Nat → Nat) (wf : Nat → Nat → Int32) (ph : Nat) (rh : Nat) (la : Nat → Nat) (pa : Nat → Nat) (pr : Nat → Nat) (pf : Nat → Nat → Int32) (ca : Nat → Nat) (ci : Nat → Int32) (cr : Nat → Nat) (cf : Nat → Nat → Int32) (lr : Nat → Nat) (lf : Nat → Nat → Int32) (lmx : Nat) (n1 : Int32) (hw_w : ∀ k, wr k ≤ woW_lim k) (hw_p : ∀ k, pr k ≤ pgW_lim k) (hw_c : ∀ k, cr k ≤ rcW_lim k) (hw_l : ∀ k, lr k ≤ (plW_lim lmx) k) (hmx_l : lmx ≤ 30) : vz_Mv l D (tyG g) yX7_endTurn cX7_endTurn 2 4 92 0 0 [.ref h, .int n1] sz (vz_w [wkW h ki wh, woW g wh wa wi wr wf ph rh (la 0), pgW g ph pa pr pf, rcW g rh ca ci cr cf, plW g la lr lf lmx]) (fun u : (Nat → Int32) × (Nat → Nat → Int32) × (Nat → Int32) => True) (fun u => vz_w [wkW h u.1 wh, woW g wh wa wi wr u.2.1 ph rh (la 0), pgW g ph pa pr pf, rcW g rh ca u.2.2 cr cf, plW g la lr lf lmx]) := by
  refine vz_svQ (by decide) (Nat.le_of_ble_eq_true rfl) (fun p e s m args below meth c hx hb hr hml hts hown hlk hin hK hsz A hA H locs hP hD hS ls hl Q hQ => ?_)
  have hl : lv_has ls 2 [(0, .ref h), (1, .int n1)] := hl
  have J57 : ∀ (ki_57 : Nat → Int32), ∀ (wf_57 : Nat → Nat → Int32), ∀ (ci_57 : Nat → Int32), ∀ (H : Heap) (locs : List Loc) (ls : Array Slot), va_P D vwCl (vz_w [wkW h ki_57 wh, woW g wh wa wi wr wf_57 ph rh (la 0), pgW g ph pa pr pf, rcW g rh ca ci_57 cr cf, plW g la lr lf lmx]) H → va_D A (vz_w [wkW h ki_57 wh, woW g wh wa wi wr wf_57 ph rh (la 0), pgW g ph pa pr pf, rcW g rh ca ci_57 cr cf, plW g la lr lf lmx]) → va_S A s.heap H locs → lv_has ls 2 [(0, .ref h), (1, .int n1)] → W p l e { frames := 4, cells := 0, slots := 0, locals := 92 } s m args below meth c H locs 0 0 Q (F0 m 57 ls []) := by
    intro ki_57 wf_57 ci_57 H locs ls hP hD hS hl
    rw [hQ]
    exact vz_vret3 hx hb hr hlk hK hP hD hS (ki_57, wf_57, ci_57) trivial rfl (Nat.le_refl 0) (Nat.le_refl 0) dX7_endTurn_57
  have J52 : ∀ (ki_52 : Nat → Int32), ∀ (wf_52 : Nat → Nat → Int32), ∀ (ci_52 : Nat → Int32), ∀ (H : Heap) (locs : List Loc) (ls : Array Slot), va_P D vwCl (vz_w [wkW h ki_52 wh, woW g wh wa wi wr wf_52 ph rh (la 0), pgW g ph pa pr pf, rcW g rh ca ci_52 cr cf, plW g la lr lf lmx]) H → va_D A (vz_w [wkW h ki_52 wh, woW g wh wa wi wr wf_52 ph rh (la 0), pgW g ph pa pr pf, rcW g rh ca ci_52 cr cf, plW g la lr lf lmx]) → va_S A s.heap H locs → lv_has ls 2 [(0, .ref h), (1, .int n1)] → W p l e { frames := 4, cells := 0, slots := 0, locals := 92 } s m args below meth c H locs 0 0 Q (F0 m 52 ls []) := by
    intro ki_52 wf_52 ci_52 H locs ls hP hD hS hl
    refine lv_aload_n hx hb dX7_endTurn_52 rfl (lv_at hl 0 rfl) ?_
    refine lv_iload_n hx hb dX7_endTurn_53 rfl (lv_at hl 1 rfl) ?_
    refine vz_Vv3 (As := [.int n1]) (rest := []) hx hb hml hown hts hK hA hP hD hS (a_K_goOn l D g H.size h ki_52 wh wa wi wr wf_52 ph rh la pa pr pf ca ci_52 cr cf lr lf lmx n1 hw_w hw_p hw_c hw_l hmx_l) kv_X7_59 ⟨Nat.le_of_ble_eq_true rfl, Nat.le_of_ble_eq_true rfl⟩ (q0 := 0) (ci := 7) rfl rfl rfl  hl.1 (Nat.le_of_ble_eq_true rfl) dX7_endTurn_54 ⟨Nat.le_refl _, Nat.le_refl _⟩ rfl (fun ki_1 H locs _ _ hP hD hS => ?_)
    replace hP : va_P D vwCl (vz_w [wkW h ki_1 wh, woW g wh wa wi wr wf_52 ph rh (la 0), pgW g ph pa pr pf, rcW g rh ca ci_52 cr cf, plW g la lr lf lmx]) H := hP
    replace hD : va_D A (vz_w [wkW h ki_1 wh, woW g wh wa wi wr wf_52 ph rh (la 0), pgW g ph pa pr pf, rcW g rh ca ci_52 cr cf, plW g la lr lf lmx]) := hD
    exact J57 ki_1 wf_52 ci_52 H locs ls hP hD hS (lv_sub hl [0, 1] rfl)
  have J31 : ∀ (ki_31 : Nat → Int32), ∀ (wf_31 : Nat → Nat → Int32), ∀ (ci_31 : Nat → Int32), ∀ (H : Heap) (locs : List Loc) (ls : Array Slot), va_P D vwCl (vz_w [wkW h ki_31 wh, woW g wh wa wi wr wf_31 ph rh (la 0), pgW g ph pa pr pf, rcW g rh ca ci_31 cr cf, plW g la lr lf lmx]) H → va_D A (vz_w [wkW h ki_31 wh, woW g wh wa wi wr wf_31 ph rh (la 0), pgW g ph pa pr pf, rcW g rh ca ci_31 cr cf, plW g la lr lf lmx]) → va_S A s.heap H locs → lv_has ls 2 [(0, .ref h), (1, .int n1)] → W p l e { frames := 4, cells := 0, slots := 0, locals := 92 } s m args below meth c H locs 0 0 Q (F0 m 31 ls []) := by
    intro ki_31 wf_31 ci_31 H locs ls hP hD hS hl
    refine lv_aload_n hx hb dX7_endTurn_31 rfl (lv_at hl 0 rfl) ?_
    refine va_get (D := D) (ci := 7) (v := .int (ki_31 2)) (C := RX7) (T := TX7) (N := 7) hx hb hts inlX7 hown hK hP 0 rfl rfl 3 (by decide) (hts _ q1047) (fun _ h => h) rfl dX7_endTurn_32 ?_
    refine lv_iconst (v := 2) hx hb dX7_endTurn_35 (by decide) ?_
    refine lv_icmp_ne (tgt := 52) hx hb dX7_endTurn_36 (by decide) (fun kc1 => ?_) (fun kc1 => ?_)
    · exact J52 ki_31 wf_31 ci_31 H locs ls hP hD hS (lv_sub hl [0, 1] rfl)
    · refine lv_aload_n hx hb dX7_endTurn_39 rfl (lv_at hl 0 rfl) ?_
      refine va_get (D := D) (ci := 7) (v := .int (ki_31 3)) (C := RX7) (T := TX7) (N := 7) hx hb hts inlX7 hown hK hP 0 rfl rfl 4 (by decide) (hts _ q1151) (fun _ h => h) rfl dX7_endTurn_40 ?_
      refine lv_iload_n hx hb dX7_endTurn_43 rfl (lv_at hl 1 rfl) ?_
      refine lv_icmp_ne (tgt := 52) hx hb dX7_endTurn_44 (by decide) (fun kc2 => ?_) (fun kc2 => ?_)
      · exact J52 ki_31 wf_31 ci_31 H locs ls hP hD hS (lv_sub hl [0, 1] rfl)
      · refine lv_aload_n hx hb dX7_endTurn_47 rfl (lv_at hl 0 rfl) ?_
        refine lv_iconst (v := 0) hx hb dX7_endTurn_48 (by decide) ?_
        refine va_put (D := D) (ci := 7) (v := .int 0) (ty := .int) (C := RX7) (T := TX7) (N := 7) hx hb hts inlX7 tyX7 tyX7_ok nmX7 hown hK hP hD hS 0 rfl rfl 3 (by decide) (hts _ q1047) (fun _ h => h) rfl (by decide +kernel) rfl rfl (Nat.le_of_ble_eq_true rfl) dX7_endTurn_49 (fun H locs hP hD hS => ?_)
        obtain ⟨ki_3, hki_3, hP, hD⟩ : ∃ ki_3 : Nat → Int32, (ki_3 = (upd ki_31 2 0)) ∧ va_P D vwCl (vz_w [wkW h ki_3 wh, woW g wh wa wi wr wf_31 ph rh (la 0), pgW g ph pa pr pf, rcW g rh ca ci_31 cr cf, plW g la lr lf lmx]) H ∧ va_D A (vz_w [wkW h ki_3 wh, woW g wh wa wi wr wf_31 ph rh (la 0), pgW g ph pa pr pf, rcW g rh ca ci_31 cr cf, plW g la lr lf lmx]) := ⟨(upd ki_31 2 0), rfl, hP, hD⟩
        exact J52 ki_3 wf_31 ci_31 H locs ls hP hD hS (lv_sub hl [0, 1] rfl)
  have J23 : ∀ (ki_23 : Nat → Int32), ∀ (wf_23 : Nat → Nat → Int32), ∀ (ci_23 : Nat → Int32), ∀ (H : Heap) (locs : List Loc) (ls : Array Slot), va_P D vwCl (vz_w [wkW h ki_23 wh, woW g wh wa wi wr wf_23 ph rh (la 0), pgW g ph pa pr pf, rcW g rh ca ci_23 cr cf, plW g la lr lf lmx]) H → va_D A (vz_w [wkW h ki_23 wh, woW g wh wa wi wr wf_23 ph rh (la 0), pgW g ph pa pr pf, rcW g rh ca ci_23 cr cf, plW g la lr lf lmx]) → va_S A s.heap H locs → lv_has ls 2 [(0, .ref h), (1, .int n1)] → W p l e { frames := 4, cells := 0, slots := 0, locals := 92 } s m args below meth c H locs 0 0 Q (F0 m 23 ls []) := by
    intro ki_23 wf_23 ci_23 H locs ls hP hD hS hl
    refine lv_aload_n hx hb dX7_endTurn_23 rfl (lv_at hl 0 rfl) ?_
    refine lv_iload_n hx hb dX7_endTurn_24 rfl (lv_at hl 1 rfl) ?_
    refine vz_Vv3 (As := [.int n1]) (rest := []) hx hb hml hown hts hK hA hP hD hS (a_K_turn l D g H.size h ki_23 wh wa wi wr wf_23 ph rh la pa pr pf ca ci_23 cr cf lr lf lmx n1 hw_w hw_p hw_c hw_l hmx_l) kv_X7_144 ⟨Nat.le_of_ble_eq_true rfl, Nat.le_of_ble_eq_true rfl⟩ (q0 := 0) (ci := 7) rfl rfl rfl  hl.1 (Nat.le_of_ble_eq_true rfl) dX7_endTurn_25 ⟨Nat.le_refl _, Nat.le_refl _⟩ rfl (fun ⟨ki_1, wf_2, ci_3⟩ H locs _ _ hP hD hS => ?_)
    replace hP : va_P D vwCl (vz_w [wkW h ki_1 wh, woW g wh wa wi wr wf_2 ph rh (la 0), pgW g ph pa pr pf, rcW g rh ca ci_3 cr cf, plW g la lr lf lmx]) H := hP
    replace hD : va_D A (vz_w [wkW h ki_1 wh, woW g wh wa wi wr wf_2 ph rh (la 0), pgW g ph pa pr pf, rcW g rh ca ci_3 cr cf, plW g la lr lf lmx]) := hD
    refine lv_goto (tgt := 57) hx hb dX7_endTurn_28 (by decide) ?_
    exact J57 ki_1 wf_2 ci_3 H locs ls hP hD hS (lv_sub hl [0, 1] rfl)
  refine lv_aload_n hx hb dX7_endTurn_0 rfl (lv_at hl 0 rfl) ?_
  refine va_get (D := D) (ci := 7) (v := .int (ki 2)) (C := RX7) (T := TX7) (N := 7) hx hb hts inlX7 hown hK hP 0 rfl rfl 3 (by decide) (hts _ q1047) (fun _ h => h) rfl dX7_endTurn_1 ?_
  refine lv_if_eq (tgt := 23) hx hb dX7_endTurn_4 (by decide) (fun kc1 => ?_) (fun kc1 => ?_)
  · exact J23 ki wf ci H locs ls hP hD hS (lv_sub hl [0, 1] rfl)
  · refine lv_aload_n hx hb dX7_endTurn_7 rfl (lv_at hl 0 rfl) ?_
    refine va_get (D := D) (ci := 7) (v := .int (ki 2)) (C := RX7) (T := TX7) (N := 7) hx hb hts inlX7 hown hK hP 0 rfl rfl 3 (by decide) (hts _ q1047) (fun _ h => h) rfl dX7_endTurn_8 ?_
    refine lv_iconst (v := 3) hx hb dX7_endTurn_11 (by decide) ?_
    refine lv_icmp_ne (tgt := 31) hx hb dX7_endTurn_12 (by decide) (fun kc2 => ?_) (fun kc2 => ?_)
    · exact J31 ki wf ci H locs ls hP hD hS (lv_sub hl [0, 1] rfl)
    · refine lv_aload_n hx hb dX7_endTurn_15 rfl (lv_at hl 0 rfl) ?_
      refine va_get (D := D) (ci := 7) (v := .int (ki 3)) (C := RX7) (T := TX7) (N := 7) hx hb hts inlX7 hown hK hP 0 rfl rfl 4 (by decide) (hts _ q1151) (fun _ h => h) rfl dX7_endTurn_16 ?_
      refine lv_iload_n hx hb dX7_endTurn_19 rfl (lv_at hl 1 rfl) ?_
      refine lv_icmp_ne (tgt := 31) hx hb dX7_endTurn_20 (by decide) (fun kc3 => ?_) (fun kc3 => ?_)
      · exact J31 ki wf ci H locs ls hP hD hS (lv_sub hl [0, 1] rfl)
      · exact J23 ki wf ci H locs ls hP hD hS (lv_sub hl [0, 1] rfl)
theorem q1211 : Cond.methodLink RX7 163 yX8_open ∈ wsL_law := mT_5 (List.mem_of_getElem? (i := 123) rfl) rfl
theorem q1212 : Cond.instanceMethod yX8_open ∈ wsL_law := mT_5 (List.mem_of_getElem? (i := 124) rfl) rfl
theorem q1213 : Cond.selects RX8 yX8_open yX8_open ∈ wsL_law := mT_5 (List.mem_of_getElem? (i := 125) rfl) rfl
theorem q1214 : Cond.code yX8_open cX8_open 4 none ∈ wsL_law := mT_5 (List.mem_of_getElem? (i := 126) rfl) rfl
theorem kv_X7_163 : vz_cv RX7 163 yX8_open cX8_open 4 none 2 := ⟨q1211, q1212, q1213, q47, q1214, by decide +kernel⟩
theorem q1184 : Cond.methodLink RX7 43 yX7_takeThrown ∈ wsL_law := mT_5 (List.mem_of_getElem? (i := 98) rfl) rfl
theorem q1185 : Cond.instanceMethod yX7_takeThrown ∈ wsL_law := mT_5 (List.mem_of_getElem? (i := 100) rfl) rfl
theorem q1186 : Cond.selects RX7 yX7_takeThrown yX7_takeThrown ∈ wsL_law := mS_5 (q := (yX7_takeThrown, 7)) (List.mem_of_getElem? (i := 15) rfl) rfl
theorem q1187 : Cond.code yX7_takeThrown cX7_takeThrown 1 none ∈ wsL_law := mT_5 (List.mem_of_getElem? (i := 101) rfl) rfl
theorem kv_X7_43 : vz_cv RX7 43 yX7_takeThrown cX7_takeThrown 1 none 0 := ⟨q1184, q1185, q1186, q51, q1187, by decide +kernel⟩
theorem dX7_openNext_0 : decode cX7_openNext 0 = .ok (.aload_n 0, 1) := by decide +kernel
theorem dX7_openNext_1 : decode cX7_openNext 1 = .ok (.iload_n 1, 1) := by decide +kernel
theorem dX7_openNext_2 : decode cX7_openNext 2 = .ok (.bipush 7, 2) := by decide +kernel
theorem dX7_openNext_4 : decode cX7_openNext 4 = .ok (.invokevirtual 147, 3) := by decide +kernel
theorem dX7_openNext_7 : decode cX7_openNext 7 = .ok (.istore_n 2, 1) := by decide +kernel
theorem dX7_openNext_8 : decode cX7_openNext 8 = .ok (.iload_n 2, 1) := by decide +kernel
theorem dX7_openNext_9 : decode cX7_openNext 9 = .ok (.aload_n 0, 1) := by decide +kernel
theorem dX7_openNext_10 : decode cX7_openNext 10 = .ok (.iload_n 1, 1) := by decide +kernel
theorem dX7_openNext_11 : decode cX7_openNext 11 = .ok (.iconst 1, 1) := by decide +kernel
theorem dX7_openNext_12 : decode cX7_openNext 12 = .ok (.invokevirtual 49, 3) := by decide +kernel
theorem dX7_openNext_15 : decode cX7_openNext 15 = .ok (.if_icmp .lt 20, 3) := by decide +kernel
theorem dX7_openNext_18 : decode cX7_openNext 18 = .ok (.aload_n 0, 1) := by decide +kernel
theorem dX7_openNext_19 : decode cX7_openNext 19 = .ok (.iload_n 1, 1) := by decide +kernel
theorem dX7_openNext_20 : decode cX7_openNext 20 = .ok (.bipush 6, 2) := by decide +kernel
theorem dX7_openNext_22 : decode cX7_openNext 22 = .ok (.iconst 1, 1) := by decide +kernel
theorem dX7_openNext_23 : decode cX7_openNext 23 = .ok (.invokevirtual 143, 3) := by decide +kernel
theorem dX7_openNext_26 : decode cX7_openNext 26 = .ok (.aload_n 0, 1) := by decide +kernel
theorem dX7_openNext_27 : decode cX7_openNext 27 = .ok (.iload_n 1, 1) := by decide +kernel
theorem dX7_openNext_28 : decode cX7_openNext 28 = .ok (.iconst 5, 1) := by decide +kernel
theorem dX7_openNext_29 : decode cX7_openNext 29 = .ok (.invokevirtual 140, 3) := by decide +kernel
theorem dX7_openNext_32 : decode cX7_openNext 32 = .ok (.goto 59, 3) := by decide +kernel
theorem dX7_openNext_35 : decode cX7_openNext 35 = .ok (.aload_n 0, 1) := by decide +kernel
theorem dX7_openNext_36 : decode cX7_openNext 36 = .ok (.getfield 9, 3) := by decide +kernel
theorem dX7_openNext_39 : decode cX7_openNext 39 = .ok (.invokevirtual 112, 3) := by decide +kernel
theorem dX7_openNext_42 : decode cX7_openNext 42 = .ok (.ifCond .eq 49, 3) := by decide +kernel
theorem dX7_openNext_45 : decode cX7_openNext 45 = .ok (.aload_n 0, 1) := by decide +kernel
theorem dX7_openNext_46 : decode cX7_openNext 46 = .ok (.getfield 9, 3) := by decide +kernel
theorem dX7_openNext_49 : decode cX7_openNext 49 = .ok (.iload_n 1, 1) := by decide +kernel
theorem dX7_openNext_50 : decode cX7_openNext 50 = .ok (.iload_n 2, 1) := by decide +kernel
theorem dX7_openNext_51 : decode cX7_openNext 51 = .ok (.invokevirtual 163, 3) := by decide +kernel
theorem dX7_openNext_54 : decode cX7_openNext 54 = .ok (.aload_n 0, 1) := by decide +kernel
theorem dX7_openNext_55 : decode cX7_openNext 55 = .ok (.getfield 9, 3) := by decide +kernel
theorem dX7_openNext_58 : decode cX7_openNext 58 = .ok (.getfield 37, 3) := by decide +kernel
theorem dX7_openNext_61 : decode cX7_openNext 61 = .ok (.bipush (-9), 2) := by decide +kernel
theorem dX7_openNext_63 : decode cX7_openNext 63 = .ok (.if_icmp .ne 16, 3) := by decide +kernel
theorem dX7_openNext_66 : decode cX7_openNext 66 = .ok (.aload_n 0, 1) := by decide +kernel
theorem dX7_openNext_67 : decode cX7_openNext 67 = .ok (.iload_n 1, 1) := by decide +kernel
theorem dX7_openNext_68 : decode cX7_openNext 68 = .ok (.bipush 7, 2) := by decide +kernel
theorem dX7_openNext_70 : decode cX7_openNext 70 = .ok (.iload_n 2, 1) := by decide +kernel
theorem dX7_openNext_71 : decode cX7_openNext 71 = .ok (.iconst 1, 1) := by decide +kernel
theorem dX7_openNext_72 : decode cX7_openNext 72 = .ok (.iadd, 1) := by decide +kernel
theorem dX7_openNext_73 : decode cX7_openNext 73 = .ok (.invokevirtual 143, 3) := by decide +kernel
theorem dX7_openNext_76 : decode cX7_openNext 76 = .ok (.goto 15, 3) := by decide +kernel
theorem dX7_openNext_79 : decode cX7_openNext 79 = .ok (.aload_n 0, 1) := by decide +kernel
theorem dX7_openNext_80 : decode cX7_openNext 80 = .ok (.iload_n 1, 1) := by decide +kernel
theorem dX7_openNext_81 : decode cX7_openNext 81 = .ok (.bipush 6, 2) := by decide +kernel
theorem dX7_openNext_83 : decode cX7_openNext 83 = .ok (.iconst 2, 1) := by decide +kernel
theorem dX7_openNext_84 : decode cX7_openNext 84 = .ok (.invokevirtual 143, 3) := by decide +kernel
theorem dX7_openNext_87 : decode cX7_openNext 87 = .ok (.aload_n 0, 1) := by decide +kernel
theorem dX7_openNext_88 : decode cX7_openNext 88 = .ok (.invokevirtual 43, 3) := by decide +kernel
theorem dX7_openNext_91 : decode cX7_openNext 91 = .ok (.return_, 1) := by decide +kernel
set_option maxHeartbeats 8000000 in
set_option maxRecDepth 100000 in
theorem a_K_openNext (l : Launch) (D : va_G) (g : Nat → ClassId)   (sz : Nat) (h : Nat) (ki : Nat → Int32) (wh : Nat) (wa : Nat → Nat) (wi : Nat → Int32) (wr : Nat → Nat) (wf : Nat → Nat → Int32) (ph : Nat) (rh : Nat) (la : Nat → Nat) (pa : Nat → Nat) (pr : Nat → Nat) (pf : Nat → Nat → Int32) (ca : Nat → Nat) (ci : Nat → Int32) (cr : Nat → Nat) (cf : Nat → Nat → Int32) (lr : Nat → Nat) (lf : Nat → Nat → Int32) (lmx : Nat) (n1 : Int32) (hw_w : ∀ k, wr k ≤ woW_lim k) (hw_p : ∀ k, pr k ≤ pgW_lim k) (hw_c : ∀ k, cr k ≤ rcW_lim k) (hw_l : ∀ k, lr k ≤ (plW_lim lmx) k) (hmx_l : lmx ≤ 30) : vz_Mv l D (tyG g) yX7_openNext cX7_openNext 3 3 71 0 0 [.ref h, .int n1] sz (vz_w [wkW h ki wh, woW g wh wa wi wr wf ph rh (la 0), pgW g ph pa pr pf, rcW g rh ca ci cr cf, plW g la lr lf lmx]) (fun u : (Nat → Int32) × (Nat → Int32) × (Nat → Nat) × (Nat → Nat → Int32) × (Nat → Int32) × (Nat → Nat) × (Nat → Nat → Int32) => (∀ k, u.2.2.1 k ≤ woW_lim k) ∧ (∀ k, u.2.2.2.2.2.1 k ≤ rcW_lim k)) (fun u => vz_w [wkW h u.1 wh, woW g wh wa u.2.1 u.2.2.1 u.2.2.2.1 ph rh (la 0), pgW g ph pa pr pf, rcW g rh ca u.2.2.2.2.1 u.2.2.2.2.2.1 u.2.2.2.2.2.2, plW g la lr lf lmx]) := by
  refine vz_svQ (by decide) (Nat.le_of_ble_eq_true rfl) (fun p e s m args below meth c hx hb hr hml hts hown hlk hin hK hsz A hA H locs hP hD hS ls hl Q hQ => ?_)
  have hl : lv_has ls 3 [(0, .ref h), (1, .int n1)] := hl
  have J91 : ∀ (x2_91 : Int32), ∀ (ki_91 : Nat → Int32), ∀ (wi_91 : Nat → Int32), ∀ (wr_91 : Nat → Nat), ∀ (wf_91 : Nat → Nat → Int32), ∀ (ci_91 : Nat → Int32), ∀ (cr_91 : Nat → Nat), ∀ (cf_91 : Nat → Nat → Int32), (∀ k, wr_91 k ≤ woW_lim k) → (∀ k, cr_91 k ≤ rcW_lim k) → ∀ (H : Heap) (locs : List Loc) (ls : Array Slot), va_P D vwCl (vz_w [wkW h ki_91 wh, woW g wh wa wi_91 wr_91 wf_91 ph rh (la 0), pgW g ph pa pr pf, rcW g rh ca ci_91 cr_91 cf_91, plW g la lr lf lmx]) H → va_D A (vz_w [wkW h ki_91 wh, woW g wh wa wi_91 wr_91 wf_91 ph rh (la 0), pgW g ph pa pr pf, rcW g rh ca ci_91 cr_91 cf_91, plW g la lr lf lmx]) → va_S A s.heap H locs → lv_has ls 3 [(0, .ref h), (1, .int n1), (2, .int x2_91)] → W p l e { frames := 3, cells := 0, slots := 0, locals := 71 } s m args below meth c H locs 0 0 Q (F0 m 91 ls []) := by
    intro x2_91 ki_91 wi_91 wr_91 wf_91 ci_91 cr_91 cf_91 hw_w_91 hw_c_91 H locs ls hP hD hS hl
    rw [hQ]
    exact vz_vret3 hx hb hr hlk hK hP hD hS (ki_91, wi_91, wr_91, wf_91, ci_91, cr_91, cf_91) (⟨hw_w_91, hw_c_91⟩) rfl (Nat.le_refl 0) (Nat.le_refl 0) dX7_openNext_91
  refine lv_aload_n hx hb dX7_openNext_0 rfl (lv_at hl 0 rfl) ?_
  refine lv_iload_n hx hb dX7_openNext_1 rfl (lv_at hl 1 rfl) ?_
  refine lv_bipush (v := 7) hx hb dX7_openNext_2 (by decide) ?_
  refine vz_Vi3 (As := [.int n1, .int 7]) (rest := []) hx hb hml hown hts hK hA hP hD hS (a_K_slot l D g H.size h ki wh wa wi wr wf ph rh la pa pr pf ca ci cr cf lr lf lmx n1 7 hw_w hw_p hw_c hw_l hmx_l) kv_X7_147 ⟨Nat.le_of_ble_eq_true rfl, Nat.le_of_ble_eq_true rfl⟩ (q0 := 0) (ci := 7) rfl rfl rfl  hl.1 (Nat.le_of_ble_eq_true rfl) dX7_openNext_4 ⟨Nat.le_refl _, Nat.le_refl _⟩ rfl (fun v1 _ H locs _ _ hP hD hS => ?_)
  refine lv_istore_n (lv' := [(2, .int v1), (0, .ref h), (1, .int n1)]) hx hb dX7_openNext_7 rfl hl (by decide) rfl (fun ls hl => ?_)
  refine lv_iload_n hx hb dX7_openNext_8 rfl (lv_at hl 0 rfl) ?_
  refine lv_aload_n hx hb dX7_openNext_9 rfl (lv_at hl 1 rfl) ?_
  refine lv_iload_n hx hb dX7_openNext_10 rfl (lv_at hl 2 rfl) ?_
  refine lv_iconst (v := 1) hx hb dX7_openNext_11 (by decide) ?_
  refine vz_Vi3 (As := [.int n1, .int 1]) (rest := [.int v1]) hx hb hml hown hts hK hA hP hD hS (a_K_at l D g H.size h ki wh wa wi wr wf ph rh la pa pr pf ca ci cr cf lr lf lmx n1 1 hw_w hw_p hw_c hw_l hmx_l) kv_X7_49 ⟨Nat.le_of_ble_eq_true rfl, Nat.le_of_ble_eq_true rfl⟩ (q0 := 0) (ci := 7) rfl rfl rfl  hl.1 (Nat.le_of_ble_eq_true rfl) dX7_openNext_12 ⟨Nat.le_refl _, Nat.le_refl _⟩ rfl (fun v2 _ H locs _ _ hP hD hS => ?_)
  refine lv_icmp_lt (tgt := 35) hx hb dX7_openNext_15 (by decide) (fun kc3 => ?_) (fun kc3 => ?_)
  · refine lv_aload_n hx hb dX7_openNext_35 rfl (lv_at hl 1 rfl) ?_
    refine va_get (D := D) (ci := 7) (v := .ref wh) (C := RX7) (T := TX7) (N := 7) hx hb hts inlX7 hown hK hP 0 rfl rfl 0 (by decide) (hts _ q152) (fun _ h => h) rfl dX7_openNext_36 ?_
    refine vz_Vi4 (n9 := 5) (bs2 := fun u : (Nat → Int32) => [wkW h ki wh, woW g wh wa wi wr wf ph rh (la 0), pgW g ph pa pr pf, rcW g rh ca u cr cf, plW g la lr lf lmx]) (br := [wkW h ki wh]) (As := []) (rest := []) hx hb hml hown hts hK hA hP hD hS (a_W_takeStep l D g H.size wh wa wi wr wf ph rh la pa pr pf ca ci cr cf lr lf lmx hw_w hw_p hw_c hw_l hmx_l) kv_X7_112 ⟨Nat.le_of_ble_eq_true rfl, Nat.le_of_ble_eq_true rfl⟩ (q0 := 1) (ci := 8) rfl rfl rfl [1, 2, 3, 4] [0] rfl (by decide) rfl (fun _ => rfl) (fun _ => rfl) hl.1 (Nat.le_of_ble_eq_true rfl) dX7_openNext_39 ⟨Nat.le_refl _, Nat.le_refl _⟩ rfl (fun v5 ci_4 H locs hz6 _ hP hD hS => ?_)
    replace hP : va_P D vwCl (vz_w [wkW h ki wh, woW g wh wa wi wr wf ph rh (la 0), pgW g ph pa pr pf, rcW g rh ca ci_4 cr cf, plW g la lr lf lmx]) H := hP
    replace hD : va_D A (vz_w [wkW h ki wh, woW g wh wa wi wr wf ph rh (la 0), pgW g ph pa pr pf, rcW g rh ca ci_4 cr cf, plW g la lr lf lmx]) := hD
    refine lv_if_eq (tgt := 91) hx hb dX7_openNext_42 (by decide) (fun kc7 => ?_) (fun kc7 => ?_)
    · exact J91 v1 ki wi wr wf ci_4 cr cf hw_w hw_c H locs ls hP hD hS (lv_sub hl [1, 2, 0] rfl)
    · refine lv_aload_n hx hb dX7_openNext_45 rfl (lv_at hl 1 rfl) ?_
      refine va_get (D := D) (ci := 7) (v := .ref wh) (C := RX7) (T := TX7) (N := 7) hx hb hts inlX7 hown hK hP 0 rfl rfl 0 (by decide) (hts _ q152) (fun _ h => h) rfl dX7_openNext_46 ?_
      refine lv_iload_n hx hb dX7_openNext_49 rfl (lv_at hl 2 rfl) ?_
      refine lv_iload_n hx hb dX7_openNext_50 rfl (lv_at hl 0 rfl) ?_
      refine vz_Vv4 (n9 := 5) (bs2 := fun u : (Nat → Int32) × (Nat → Nat) × (Nat → Nat → Int32) × (Nat → Int32) × (Nat → Nat) × (Nat → Nat → Int32) => [wkW h ki wh, woW g wh wa u.1 u.2.1 u.2.2.1 ph rh (la 0), pgW g ph pa pr pf, rcW g rh ca u.2.2.2.1 u.2.2.2.2.1 u.2.2.2.2.2, plW g la lr lf lmx]) (br := [wkW h ki wh]) (As := [.int n1, .int v1]) (rest := []) hx hb hml hown hts hK hA hP hD hS (a_W_open l D g H.size wh wa wi wr wf ph rh la pa pr pf ca ci_4 cr cf lr lf lmx n1 v1 hw_w hw_p hw_c hw_l hmx_l) kv_X7_163 ⟨Nat.le_of_ble_eq_true rfl, Nat.le_of_ble_eq_true rfl⟩ (q0 := 1) (ci := 8) rfl rfl rfl [1, 2, 3, 4] [0] rfl (by decide) rfl (fun _ => rfl) (fun _ => rfl) hl.1 (Nat.le_of_ble_eq_true rfl) dX7_openNext_51 ⟨Nat.le_refl _, Nat.le_refl _⟩ rfl (fun ⟨wi_8, wr_9, wf_10, ci_11, cr_12, cf_13⟩ H locs ⟨hw_14, hw_15⟩ _ hP hD hS => ?_)
      try dsimp only at hw_14 hw_15
      replace hP : va_P D vwCl (vz_w [wkW h ki wh, woW g wh wa wi_8 wr_9 wf_10 ph rh (la 0), pgW g ph pa pr pf, rcW g rh ca ci_11 cr_12 cf_13, plW g la lr lf lmx]) H := hP
      replace hD : va_D A (vz_w [wkW h ki wh, woW g wh wa wi_8 wr_9 wf_10 ph rh (la 0), pgW g ph pa pr pf, rcW g rh ca ci_11 cr_12 cf_13, plW g la lr lf lmx]) := hD
      refine lv_aload_n hx hb dX7_openNext_54 rfl (lv_at hl 1 rfl) ?_
      refine va_get (D := D) (ci := 7) (v := .ref wh) (C := RX7) (T := TX7) (N := 7) hx hb hts inlX7 hown hK hP 0 rfl rfl 0 (by decide) (hts _ q152) (fun _ h => h) rfl dX7_openNext_55 ?_
      refine va_get (D := D) (ci := 8) (v := .int (wi_8 1)) (C := RX8) (T := TX8) (N := 11) hx hb hts inlX8 hown hK hP 1 rfl rfl 9 (by decide) (hts _ q1040) (fun _ h => h) rfl dX7_openNext_58 ?_
      refine lv_bipush (v := (-9)) hx hb dX7_openNext_61 (by decide) ?_
      refine lv_icmp_ne (tgt := 79) hx hb dX7_openNext_63 (by decide) (fun kc16 => ?_) (fun kc16 => ?_)
      · refine lv_aload_n hx hb dX7_openNext_79 rfl (lv_at hl 1 rfl) ?_
        refine lv_iload_n hx hb dX7_openNext_80 rfl (lv_at hl 2 rfl) ?_
        refine lv_bipush (v := 6) hx hb dX7_openNext_81 (by decide) ?_
        refine lv_iconst (v := 2) hx hb dX7_openNext_83 (by decide) ?_
        refine vz_Vv3 (As := [.int n1, .int 6, .int 2]) (rest := []) hx hb hml hown hts hK hA hP hD hS (a_K_setSlot l D g H.size h ki wh wa wi_8 wr_9 wf_10 ph rh la pa pr pf ca ci_11 cr_12 cf_13 lr lf lmx n1 6 2 hw_14 hw_p hw_15 hw_l hmx_l) kv_X7_143 ⟨Nat.le_of_ble_eq_true rfl, Nat.le_of_ble_eq_true rfl⟩ (q0 := 0) (ci := 7) rfl rfl rfl  hl.1 (Nat.le_of_ble_eq_true rfl) dX7_openNext_84 ⟨Nat.le_refl _, Nat.le_refl _⟩ rfl (fun wf_17 H locs _ _ hP hD hS => ?_)
        replace hP : va_P D vwCl (vz_w [wkW h ki wh, woW g wh wa wi_8 wr_9 wf_17 ph rh (la 0), pgW g ph pa pr pf, rcW g rh ca ci_11 cr_12 cf_13, plW g la lr lf lmx]) H := hP
        replace hD : va_D A (vz_w [wkW h ki wh, woW g wh wa wi_8 wr_9 wf_17 ph rh (la 0), pgW g ph pa pr pf, rcW g rh ca ci_11 cr_12 cf_13, plW g la lr lf lmx]) := hD
        refine lv_aload_n hx hb dX7_openNext_87 rfl (lv_at hl 1 rfl) ?_
        refine vz_Vv3 (As := []) (rest := []) hx hb hml hown hts hK hA hP hD hS (a_K_takeThrown l D g H.size h ki wh wa wi_8 wr_9 wf_17 ph rh la pa pr pf ca ci_11 cr_12 cf_13 lr lf lmx hw_14 hw_p hw_15 hw_l hmx_l) kv_X7_43 ⟨Nat.le_of_ble_eq_true rfl, Nat.le_of_ble_eq_true rfl⟩ (q0 := 0) (ci := 7) rfl rfl rfl  hl.1 (Nat.le_of_ble_eq_true rfl) dX7_openNext_88 ⟨Nat.le_refl _, Nat.le_refl _⟩ rfl (fun ⟨ki_18, wi_19⟩ H locs _ _ hP hD hS => ?_)
        replace hP : va_P D vwCl (vz_w [wkW h ki_18 wh, woW g wh wa wi_19 wr_9 wf_17 ph rh (la 0), pgW g ph pa pr pf, rcW g rh ca ci_11 cr_12 cf_13, plW g la lr lf lmx]) H := hP
        replace hD : va_D A (vz_w [wkW h ki_18 wh, woW g wh wa wi_19 wr_9 wf_17 ph rh (la 0), pgW g ph pa pr pf, rcW g rh ca ci_11 cr_12 cf_13, plW g la lr lf lmx]) := hD
        exact J91 v1 ki_18 wi_19 wr_9 wf_17 ci_11 cr_12 cf_13 hw_14 hw_15 H locs ls hP hD hS (lv_sub hl [1, 2, 0] rfl)
      · refine lv_aload_n hx hb dX7_openNext_66 rfl (lv_at hl 1 rfl) ?_
        refine lv_iload_n hx hb dX7_openNext_67 rfl (lv_at hl 2 rfl) ?_
        refine lv_bipush (v := 7) hx hb dX7_openNext_68 (by decide) ?_
        refine lv_iload_n hx hb dX7_openNext_70 rfl (lv_at hl 0 rfl) ?_
        refine lv_iconst (v := 1) hx hb dX7_openNext_71 (by decide) ?_
        refine lv_iadd hx hb dX7_openNext_72 ?_
        refine vz_Vv3 (As := [.int n1, .int 7, .int (v1 + 1)]) (rest := []) hx hb hml hown hts hK hA hP hD hS (a_K_setSlot l D g H.size h ki wh wa wi_8 wr_9 wf_10 ph rh la pa pr pf ca ci_11 cr_12 cf_13 lr lf lmx n1 7 (v1 + 1) hw_14 hw_p hw_15 hw_l hmx_l) kv_X7_143 ⟨Nat.le_of_ble_eq_true rfl, Nat.le_of_ble_eq_true rfl⟩ (q0 := 0) (ci := 7) rfl rfl rfl  hl.1 (Nat.le_of_ble_eq_true rfl) dX7_openNext_73 ⟨Nat.le_refl _, Nat.le_refl _⟩ rfl (fun wf_20 H locs _ _ hP hD hS => ?_)
        replace hP : va_P D vwCl (vz_w [wkW h ki wh, woW g wh wa wi_8 wr_9 wf_20 ph rh (la 0), pgW g ph pa pr pf, rcW g rh ca ci_11 cr_12 cf_13, plW g la lr lf lmx]) H := hP
        replace hD : va_D A (vz_w [wkW h ki wh, woW g wh wa wi_8 wr_9 wf_20 ph rh (la 0), pgW g ph pa pr pf, rcW g rh ca ci_11 cr_12 cf_13, plW g la lr lf lmx]) := hD
        refine lv_goto (tgt := 91) hx hb dX7_openNext_76 (by decide) ?_
        exact J91 v1 ki wi_8 wr_9 wf_20 ci_11 cr_12 cf_13 hw_14 hw_15 H locs ls hP hD hS (lv_sub hl [1, 2, 0] rfl)
  · refine lv_aload_n hx hb dX7_openNext_18 rfl (lv_at hl 1 rfl) ?_
    refine lv_iload_n hx hb dX7_openNext_19 rfl (lv_at hl 2 rfl) ?_
    refine lv_bipush (v := 6) hx hb dX7_openNext_20 (by decide) ?_
    refine lv_iconst (v := 1) hx hb dX7_openNext_22 (by decide) ?_
    refine vz_Vv3 (As := [.int n1, .int 6, .int 1]) (rest := []) hx hb hml hown hts hK hA hP hD hS (a_K_setSlot l D g H.size h ki wh wa wi wr wf ph rh la pa pr pf ca ci cr cf lr lf lmx n1 6 1 hw_w hw_p hw_c hw_l hmx_l) kv_X7_143 ⟨Nat.le_of_ble_eq_true rfl, Nat.le_of_ble_eq_true rfl⟩ (q0 := 0) (ci := 7) rfl rfl rfl  hl.1 (Nat.le_of_ble_eq_true rfl) dX7_openNext_23 ⟨Nat.le_refl _, Nat.le_refl _⟩ rfl (fun wf_21 H locs _ _ hP hD hS => ?_)
    replace hP : va_P D vwCl (vz_w [wkW h ki wh, woW g wh wa wi wr wf_21 ph rh (la 0), pgW g ph pa pr pf, rcW g rh ca ci cr cf, plW g la lr lf lmx]) H := hP
    replace hD : va_D A (vz_w [wkW h ki wh, woW g wh wa wi wr wf_21 ph rh (la 0), pgW g ph pa pr pf, rcW g rh ca ci cr cf, plW g la lr lf lmx]) := hD
    refine lv_aload_n hx hb dX7_openNext_26 rfl (lv_at hl 1 rfl) ?_
    refine lv_iload_n hx hb dX7_openNext_27 rfl (lv_at hl 2 rfl) ?_
    refine lv_iconst (v := 5) hx hb dX7_openNext_28 (by decide) ?_
    refine vz_Vv3 (As := [.int n1, .int 5]) (rest := []) hx hb hml hown hts hK hA hP hD hS (a_K_enterBlock l D g H.size h ki wh wa wi wr wf_21 ph rh la pa pr pf ca ci cr cf lr lf lmx n1 5 hw_w hw_p hw_c hw_l hmx_l) kv_X7_140 ⟨Nat.le_of_ble_eq_true rfl, Nat.le_of_ble_eq_true rfl⟩ (q0 := 0) (ci := 7) rfl rfl rfl  hl.1 (Nat.le_of_ble_eq_true rfl) dX7_openNext_29 ⟨Nat.le_refl _, Nat.le_refl _⟩ rfl (fun ki_22 H locs _ _ hP hD hS => ?_)
    replace hP : va_P D vwCl (vz_w [wkW h ki_22 wh, woW g wh wa wi wr wf_21 ph rh (la 0), pgW g ph pa pr pf, rcW g rh ca ci cr cf, plW g la lr lf lmx]) H := hP
    replace hD : va_D A (vz_w [wkW h ki_22 wh, woW g wh wa wi wr wf_21 ph rh (la 0), pgW g ph pa pr pf, rcW g rh ca ci cr cf, plW g la lr lf lmx]) := hD
    refine lv_goto (tgt := 91) hx hb dX7_openNext_32 (by decide) ?_
    exact J91 v1 ki_22 wi wr wf_21 ci cr cf hw_w hw_c H locs ls hP hD hS (lv_sub hl [1, 2, 0] rfl)
theorem q1221 : Cond.methodLink RX7 166 yX8_close ∈ wsL_law := mT_5 (List.mem_of_getElem? (i := 132) rfl) rfl
theorem q1222 : Cond.instanceMethod yX8_close ∈ wsL_law := mT_5 (List.mem_of_getElem? (i := 133) rfl) rfl
theorem q1223 : Cond.selects RX8 yX8_close yX8_close ∈ wsL_law := mT_5 (List.mem_of_getElem? (i := 134) rfl) rfl
theorem q1224 : Cond.code yX8_close cX8_close 5 none ∈ wsL_law := mT_5 (List.mem_of_getElem? (i := 135) rfl) rfl
theorem kv_X7_166 : vz_cv RX7 166 yX8_close cX8_close 5 none 2 := ⟨q1221, q1222, q1223, q47, q1224, by decide +kernel⟩
theorem q1227 : Cond.methodLink RX7 169 yX8_suppress ∈ wsL_law := mT_5 (List.mem_of_getElem? (i := 137) rfl) rfl
theorem q1228 : Cond.instanceMethod yX8_suppress ∈ wsL_law := mT_5 (List.mem_of_getElem? (i := 138) rfl) rfl
theorem q1229 : Cond.selects RX8 yX8_suppress yX8_suppress ∈ wsL_law := mT_5 (List.mem_of_getElem? (i := 139) rfl) rfl
theorem q1230 : Cond.code yX8_suppress cX8_suppress 5 none ∈ wsL_law := mT_5 (List.mem_of_getElem? (i := 140) rfl) rfl
theorem kv_X7_169 : vz_cv RX7 169 yX8_suppress cX8_suppress 5 none 2 := ⟨q1227, q1228, q1229, q47, q1230, by decide +kernel⟩
theorem dX7_closeNext_0 : decode cX7_closeNext 0 = .ok (.aload_n 0, 1) := by decide +kernel
theorem dX7_closeNext_1 : decode cX7_closeNext 1 = .ok (.iload_n 1, 1) := by decide +kernel
theorem dX7_closeNext_2 : decode cX7_closeNext 2 = .ok (.bipush 7, 2) := by decide +kernel
theorem dX7_closeNext_4 : decode cX7_closeNext 4 = .ok (.invokevirtual 147, 3) := by decide +kernel
theorem dX7_closeNext_7 : decode cX7_closeNext 7 = .ok (.iconst 1, 1) := by decide +kernel
theorem dX7_closeNext_8 : decode cX7_closeNext 8 = .ok (.isub, 1) := by decide +kernel
theorem dX7_closeNext_9 : decode cX7_closeNext 9 = .ok (.istore_n 2, 1) := by decide +kernel
theorem dX7_closeNext_10 : decode cX7_closeNext 10 = .ok (.aload_n 0, 1) := by decide +kernel
theorem dX7_closeNext_11 : decode cX7_closeNext 11 = .ok (.getfield 9, 3) := by decide +kernel
theorem dX7_closeNext_14 : decode cX7_closeNext 14 = .ok (.invokevirtual 112, 3) := by decide +kernel
theorem dX7_closeNext_17 : decode cX7_closeNext 17 = .ok (.ifCond .eq 71, 3) := by decide +kernel
theorem dX7_closeNext_20 : decode cX7_closeNext 20 = .ok (.aload_n 0, 1) := by decide +kernel
theorem dX7_closeNext_21 : decode cX7_closeNext 21 = .ok (.iload_n 1, 1) := by decide +kernel
theorem dX7_closeNext_22 : decode cX7_closeNext 22 = .ok (.bipush 7, 2) := by decide +kernel
theorem dX7_closeNext_24 : decode cX7_closeNext 24 = .ok (.iload_n 2, 1) := by decide +kernel
theorem dX7_closeNext_25 : decode cX7_closeNext 25 = .ok (.invokevirtual 143, 3) := by decide +kernel
theorem dX7_closeNext_28 : decode cX7_closeNext 28 = .ok (.aload_n 0, 1) := by decide +kernel
theorem dX7_closeNext_29 : decode cX7_closeNext 29 = .ok (.getfield 9, 3) := by decide +kernel
theorem dX7_closeNext_32 : decode cX7_closeNext 32 = .ok (.iload_n 1, 1) := by decide +kernel
theorem dX7_closeNext_33 : decode cX7_closeNext 33 = .ok (.iload_n 2, 1) := by decide +kernel
theorem dX7_closeNext_34 : decode cX7_closeNext 34 = .ok (.invokevirtual 166, 3) := by decide +kernel
theorem dX7_closeNext_37 : decode cX7_closeNext 37 = .ok (.aload_n 0, 1) := by decide +kernel
theorem dX7_closeNext_38 : decode cX7_closeNext 38 = .ok (.getfield 9, 3) := by decide +kernel
theorem dX7_closeNext_41 : decode cX7_closeNext 41 = .ok (.getfield 37, 3) := by decide +kernel
theorem dX7_closeNext_44 : decode cX7_closeNext 44 = .ok (.bipush (-9), 2) := by decide +kernel
theorem dX7_closeNext_46 : decode cX7_closeNext 46 = .ok (.if_icmp .eq 38, 3) := by decide +kernel
theorem dX7_closeNext_49 : decode cX7_closeNext 49 = .ok (.aload_n 0, 1) := by decide +kernel
theorem dX7_closeNext_50 : decode cX7_closeNext 50 = .ok (.getfield 87, 3) := by decide +kernel
theorem dX7_closeNext_53 : decode cX7_closeNext 53 = .ok (.iconst 4, 1) := by decide +kernel
theorem dX7_closeNext_54 : decode cX7_closeNext 54 = .ok (.if_icmp .ne 30, 3) := by decide +kernel
theorem dX7_closeNext_57 : decode cX7_closeNext 57 = .ok (.aload_n 0, 1) := by decide +kernel
theorem dX7_closeNext_58 : decode cX7_closeNext 58 = .ok (.getfield 9, 3) := by decide +kernel
theorem dX7_closeNext_61 : decode cX7_closeNext 61 = .ok (.aload_n 0, 1) := by decide +kernel
theorem dX7_closeNext_62 : decode cX7_closeNext 62 = .ok (.getfield 90, 3) := by decide +kernel
theorem dX7_closeNext_65 : decode cX7_closeNext 65 = .ok (.aload_n 0, 1) := by decide +kernel
theorem dX7_closeNext_66 : decode cX7_closeNext 66 = .ok (.getfield 9, 3) := by decide +kernel
theorem dX7_closeNext_69 : decode cX7_closeNext 69 = .ok (.getfield 37, 3) := by decide +kernel
theorem dX7_closeNext_72 : decode cX7_closeNext 72 = .ok (.invokevirtual 169, 3) := by decide +kernel
theorem dX7_closeNext_75 : decode cX7_closeNext 75 = .ok (.aload_n 0, 1) := by decide +kernel
theorem dX7_closeNext_76 : decode cX7_closeNext 76 = .ok (.getfield 9, 3) := by decide +kernel
theorem dX7_closeNext_79 : decode cX7_closeNext 79 = .ok (.bipush (-9), 2) := by decide +kernel
theorem dX7_closeNext_81 : decode cX7_closeNext 81 = .ok (.putfield 37, 3) := by decide +kernel
theorem dX7_closeNext_84 : decode cX7_closeNext 84 = .ok (.aload_n 0, 1) := by decide +kernel
theorem dX7_closeNext_85 : decode cX7_closeNext 85 = .ok (.invokevirtual 43, 3) := by decide +kernel
theorem dX7_closeNext_88 : decode cX7_closeNext 88 = .ok (.return_, 1) := by decide +kernel
set_option maxHeartbeats 8000000 in
set_option maxRecDepth 100000 in
theorem a_K_closeNext (l : Launch) (D : va_G) (g : Nat → ClassId)   (sz : Nat) (h : Nat) (ki : Nat → Int32) (wh : Nat) (wa : Nat → Nat) (wi : Nat → Int32) (wr : Nat → Nat) (wf : Nat → Nat → Int32) (ph : Nat) (rh : Nat) (la : Nat → Nat) (pa : Nat → Nat) (pr : Nat → Nat) (pf : Nat → Nat → Int32) (ca : Nat → Nat) (ci : Nat → Int32) (cr : Nat → Nat) (cf : Nat → Nat → Int32) (lr : Nat → Nat) (lf : Nat → Nat → Int32) (lmx : Nat) (n1 : Int32) (hw_w : ∀ k, wr k ≤ woW_lim k) (hw_p : ∀ k, pr k ≤ pgW_lim k) (hw_c : ∀ k, cr k ≤ rcW_lim k) (hw_l : ∀ k, lr k ≤ (plW_lim lmx) k) (hmx_l : lmx ≤ 30) : vz_Mv l D (tyG g) yX7_closeNext cX7_closeNext 3 3 72 0 0 [.ref h, .int n1] sz (vz_w [wkW h ki wh, woW g wh wa wi wr wf ph rh (la 0), pgW g ph pa pr pf, rcW g rh ca ci cr cf, plW g la lr lf lmx]) (fun u : (Nat → Int32) × (Nat → Int32) × (Nat → Nat) × (Nat → Nat → Int32) × (Nat → Int32) × (Nat → Nat) × (Nat → Nat → Int32) => (∀ k, u.2.2.1 k ≤ woW_lim k) ∧ (∀ k, u.2.2.2.2.2.1 k ≤ rcW_lim k)) (fun u => vz_w [wkW h u.1 wh, woW g wh wa u.2.1 u.2.2.1 u.2.2.2.1 ph rh (la 0), pgW g ph pa pr pf, rcW g rh ca u.2.2.2.2.1 u.2.2.2.2.2.1 u.2.2.2.2.2.2, plW g la lr lf lmx]) := by
  refine vz_svQ (by decide) (Nat.le_of_ble_eq_true rfl) (fun p e s m args below meth c hx hb hr hml hts hown hlk hin hK hsz A hA H locs hP hD hS ls hl Q hQ => ?_)
  have hl : lv_has ls 3 [(0, .ref h), (1, .int n1)] := hl
  have J88 : ∀ (x2_88 : Int32), ∀ (ki_88 : Nat → Int32), ∀ (wi_88 : Nat → Int32), ∀ (wr_88 : Nat → Nat), ∀ (wf_88 : Nat → Nat → Int32), ∀ (ci_88 : Nat → Int32), ∀ (cr_88 : Nat → Nat), ∀ (cf_88 : Nat → Nat → Int32), (∀ k, wr_88 k ≤ woW_lim k) → (∀ k, cr_88 k ≤ rcW_lim k) → ∀ (H : Heap) (locs : List Loc) (ls : Array Slot), va_P D vwCl (vz_w [wkW h ki_88 wh, woW g wh wa wi_88 wr_88 wf_88 ph rh (la 0), pgW g ph pa pr pf, rcW g rh ca ci_88 cr_88 cf_88, plW g la lr lf lmx]) H → va_D A (vz_w [wkW h ki_88 wh, woW g wh wa wi_88 wr_88 wf_88 ph rh (la 0), pgW g ph pa pr pf, rcW g rh ca ci_88 cr_88 cf_88, plW g la lr lf lmx]) → va_S A s.heap H locs → lv_has ls 3 [(0, .ref h), (1, .int n1), (2, .int x2_88)] → W p l e { frames := 3, cells := 0, slots := 0, locals := 72 } s m args below meth c H locs 0 0 Q (F0 m 88 ls []) := by
    intro x2_88 ki_88 wi_88 wr_88 wf_88 ci_88 cr_88 cf_88 hw_w_88 hw_c_88 H locs ls hP hD hS hl
    rw [hQ]
    exact vz_vret3 hx hb hr hlk hK hP hD hS (ki_88, wi_88, wr_88, wf_88, ci_88, cr_88, cf_88) (⟨hw_w_88, hw_c_88⟩) rfl (Nat.le_refl 0) (Nat.le_refl 0) dX7_closeNext_88
  have J84 : ∀ (x2_84 : Int32), ∀ (ki_84 : Nat → Int32), ∀ (wi_84 : Nat → Int32), ∀ (wr_84 : Nat → Nat), ∀ (wf_84 : Nat → Nat → Int32), ∀ (ci_84 : Nat → Int32), ∀ (cr_84 : Nat → Nat), ∀ (cf_84 : Nat → Nat → Int32), (∀ k, wr_84 k ≤ woW_lim k) → (∀ k, cr_84 k ≤ rcW_lim k) → ∀ (H : Heap) (locs : List Loc) (ls : Array Slot), va_P D vwCl (vz_w [wkW h ki_84 wh, woW g wh wa wi_84 wr_84 wf_84 ph rh (la 0), pgW g ph pa pr pf, rcW g rh ca ci_84 cr_84 cf_84, plW g la lr lf lmx]) H → va_D A (vz_w [wkW h ki_84 wh, woW g wh wa wi_84 wr_84 wf_84 ph rh (la 0), pgW g ph pa pr pf, rcW g rh ca ci_84 cr_84 cf_84, plW g la lr lf lmx]) → va_S A s.heap H locs → lv_has ls 3 [(0, .ref h), (1, .int n1), (2, .int x2_84)] → W p l e { frames := 3, cells := 0, slots := 0, locals := 72 } s m args below meth c H locs 0 0 Q (F0 m 84 ls []) := by
    intro x2_84 ki_84 wi_84 wr_84 wf_84 ci_84 cr_84 cf_84 hw_w_84 hw_c_84 H locs ls hP hD hS hl
    refine lv_aload_n hx hb dX7_closeNext_84 rfl (lv_at hl 0 rfl) ?_
    refine vz_Vv3 (As := []) (rest := []) hx hb hml hown hts hK hA hP hD hS (a_K_takeThrown l D g H.size h ki_84 wh wa wi_84 wr_84 wf_84 ph rh la pa pr pf ca ci_84 cr_84 cf_84 lr lf lmx hw_w_84 hw_p hw_c_84 hw_l hmx_l) kv_X7_43 ⟨Nat.le_of_ble_eq_true rfl, Nat.le_of_ble_eq_true rfl⟩ (q0 := 0) (ci := 7) rfl rfl rfl  hl.1 (Nat.le_of_ble_eq_true rfl) dX7_closeNext_85 ⟨Nat.le_refl _, Nat.le_refl _⟩ rfl (fun ⟨ki_1, wi_2⟩ H locs _ _ hP hD hS => ?_)
    replace hP : va_P D vwCl (vz_w [wkW h ki_1 wh, woW g wh wa wi_2 wr_84 wf_84 ph rh (la 0), pgW g ph pa pr pf, rcW g rh ca ci_84 cr_84 cf_84, plW g la lr lf lmx]) H := hP
    replace hD : va_D A (vz_w [wkW h ki_1 wh, woW g wh wa wi_2 wr_84 wf_84 ph rh (la 0), pgW g ph pa pr pf, rcW g rh ca ci_84 cr_84 cf_84, plW g la lr lf lmx]) := hD
    exact J88 x2_84 ki_1 wi_2 wr_84 wf_84 ci_84 cr_84 cf_84 hw_w_84 hw_c_84 H locs ls hP hD hS (lv_sub hl [0, 1, 2] rfl)
  refine lv_aload_n hx hb dX7_closeNext_0 rfl (lv_at hl 0 rfl) ?_
  refine lv_iload_n hx hb dX7_closeNext_1 rfl (lv_at hl 1 rfl) ?_
  refine lv_bipush (v := 7) hx hb dX7_closeNext_2 (by decide) ?_
  refine vz_Vi3 (As := [.int n1, .int 7]) (rest := []) hx hb hml hown hts hK hA hP hD hS (a_K_slot l D g H.size h ki wh wa wi wr wf ph rh la pa pr pf ca ci cr cf lr lf lmx n1 7 hw_w hw_p hw_c hw_l hmx_l) kv_X7_147 ⟨Nat.le_of_ble_eq_true rfl, Nat.le_of_ble_eq_true rfl⟩ (q0 := 0) (ci := 7) rfl rfl rfl  hl.1 (Nat.le_of_ble_eq_true rfl) dX7_closeNext_4 ⟨Nat.le_refl _, Nat.le_refl _⟩ rfl (fun v1 _ H locs _ _ hP hD hS => ?_)
  refine lv_iconst (v := 1) hx hb dX7_closeNext_7 (by decide) ?_
  refine lv_isub hx hb dX7_closeNext_8 ?_
  refine lv_istore_n (lv' := [(2, .int (v1 - 1)), (0, .ref h), (1, .int n1)]) hx hb dX7_closeNext_9 rfl hl (by decide) rfl (fun ls hl => ?_)
  refine lv_aload_n hx hb dX7_closeNext_10 rfl (lv_at hl 1 rfl) ?_
  refine va_get (D := D) (ci := 7) (v := .ref wh) (C := RX7) (T := TX7) (N := 7) hx hb hts inlX7 hown hK hP 0 rfl rfl 0 (by decide) (hts _ q152) (fun _ h => h) rfl dX7_closeNext_11 ?_
  refine vz_Vi4 (n9 := 5) (bs2 := fun u : (Nat → Int32) => [wkW h ki wh, woW g wh wa wi wr wf ph rh (la 0), pgW g ph pa pr pf, rcW g rh ca u cr cf, plW g la lr lf lmx]) (br := [wkW h ki wh]) (As := []) (rest := []) hx hb hml hown hts hK hA hP hD hS (a_W_takeStep l D g H.size wh wa wi wr wf ph rh la pa pr pf ca ci cr cf lr lf lmx hw_w hw_p hw_c hw_l hmx_l) kv_X7_112 ⟨Nat.le_of_ble_eq_true rfl, Nat.le_of_ble_eq_true rfl⟩ (q0 := 1) (ci := 8) rfl rfl rfl [1, 2, 3, 4] [0] rfl (by decide) rfl (fun _ => rfl) (fun _ => rfl) hl.1 (Nat.le_of_ble_eq_true rfl) dX7_closeNext_14 ⟨Nat.le_refl _, Nat.le_refl _⟩ rfl (fun v3 ci_2 H locs hz4 _ hP hD hS => ?_)
  replace hP : va_P D vwCl (vz_w [wkW h ki wh, woW g wh wa wi wr wf ph rh (la 0), pgW g ph pa pr pf, rcW g rh ca ci_2 cr cf, plW g la lr lf lmx]) H := hP
  replace hD : va_D A (vz_w [wkW h ki wh, woW g wh wa wi wr wf ph rh (la 0), pgW g ph pa pr pf, rcW g rh ca ci_2 cr cf, plW g la lr lf lmx]) := hD
  refine lv_if_eq (tgt := 88) hx hb dX7_closeNext_17 (by decide) (fun kc5 => ?_) (fun kc5 => ?_)
  · exact J88 (v1 - 1) ki wi wr wf ci_2 cr cf hw_w hw_c H locs ls hP hD hS (lv_sub hl [1, 2, 0] rfl)
  · refine lv_aload_n hx hb dX7_closeNext_20 rfl (lv_at hl 1 rfl) ?_
    refine lv_iload_n hx hb dX7_closeNext_21 rfl (lv_at hl 2 rfl) ?_
    refine lv_bipush (v := 7) hx hb dX7_closeNext_22 (by decide) ?_
    refine lv_iload_n hx hb dX7_closeNext_24 rfl (lv_at hl 0 rfl) ?_
    refine vz_Vv3 (As := [.int n1, .int 7, .int (v1 - 1)]) (rest := []) hx hb hml hown hts hK hA hP hD hS (a_K_setSlot l D g H.size h ki wh wa wi wr wf ph rh la pa pr pf ca ci_2 cr cf lr lf lmx n1 7 (v1 - 1) hw_w hw_p hw_c hw_l hmx_l) kv_X7_143 ⟨Nat.le_of_ble_eq_true rfl, Nat.le_of_ble_eq_true rfl⟩ (q0 := 0) (ci := 7) rfl rfl rfl  hl.1 (Nat.le_of_ble_eq_true rfl) dX7_closeNext_25 ⟨Nat.le_refl _, Nat.le_refl _⟩ rfl (fun wf_6 H locs _ _ hP hD hS => ?_)
    replace hP : va_P D vwCl (vz_w [wkW h ki wh, woW g wh wa wi wr wf_6 ph rh (la 0), pgW g ph pa pr pf, rcW g rh ca ci_2 cr cf, plW g la lr lf lmx]) H := hP
    replace hD : va_D A (vz_w [wkW h ki wh, woW g wh wa wi wr wf_6 ph rh (la 0), pgW g ph pa pr pf, rcW g rh ca ci_2 cr cf, plW g la lr lf lmx]) := hD
    refine lv_aload_n hx hb dX7_closeNext_28 rfl (lv_at hl 1 rfl) ?_
    refine va_get (D := D) (ci := 7) (v := .ref wh) (C := RX7) (T := TX7) (N := 7) hx hb hts inlX7 hown hK hP 0 rfl rfl 0 (by decide) (hts _ q152) (fun _ h => h) rfl dX7_closeNext_29 ?_
    refine lv_iload_n hx hb dX7_closeNext_32 rfl (lv_at hl 2 rfl) ?_
    refine lv_iload_n hx hb dX7_closeNext_33 rfl (lv_at hl 0 rfl) ?_
    refine vz_Vv4 (n9 := 5) (bs2 := fun u : (Nat → Int32) × (Nat → Nat) × (Nat → Nat → Int32) × (Nat → Nat) × (Nat → Nat → Int32) => [wkW h ki wh, woW g wh wa u.1 u.2.1 u.2.2.1 ph rh (la 0), pgW g ph pa pr pf, rcW g rh ca ci_2 u.2.2.2.1 u.2.2.2.2, plW g la lr lf lmx]) (br := [wkW h ki wh]) (As := [.int n1, .int (v1 - 1)]) (rest := []) hx hb hml hown hts hK hA hP hD hS (a_W_close l D g H.size wh wa wi wr wf_6 ph rh la pa pr pf ca ci_2 cr cf lr lf lmx n1 (v1 - 1) hw_w hw_p hw_c hw_l hmx_l) kv_X7_166 ⟨Nat.le_of_ble_eq_true rfl, Nat.le_of_ble_eq_true rfl⟩ (q0 := 1) (ci := 8) rfl rfl rfl [1, 2, 3, 4] [0] rfl (by decide) rfl (fun _ => rfl) (fun _ => rfl) hl.1 (Nat.le_of_ble_eq_true rfl) dX7_closeNext_34 ⟨Nat.le_refl _, Nat.le_refl _⟩ rfl (fun ⟨wi_7, wr_8, wf_9, cr_10, cf_11⟩ H locs ⟨hw_12, hw_13⟩ _ hP hD hS => ?_)
    try dsimp only at hw_12 hw_13
    replace hP : va_P D vwCl (vz_w [wkW h ki wh, woW g wh wa wi_7 wr_8 wf_9 ph rh (la 0), pgW g ph pa pr pf, rcW g rh ca ci_2 cr_10 cf_11, plW g la lr lf lmx]) H := hP
    replace hD : va_D A (vz_w [wkW h ki wh, woW g wh wa wi_7 wr_8 wf_9 ph rh (la 0), pgW g ph pa pr pf, rcW g rh ca ci_2 cr_10 cf_11, plW g la lr lf lmx]) := hD
    refine lv_aload_n hx hb dX7_closeNext_37 rfl (lv_at hl 1 rfl) ?_
    refine va_get (D := D) (ci := 7) (v := .ref wh) (C := RX7) (T := TX7) (N := 7) hx hb hts inlX7 hown hK hP 0 rfl rfl 0 (by decide) (hts _ q152) (fun _ h => h) rfl dX7_closeNext_38 ?_
    refine va_get (D := D) (ci := 8) (v := .int (wi_7 1)) (C := RX8) (T := TX8) (N := 11) hx hb hts inlX8 hown hK hP 1 rfl rfl 9 (by decide) (hts _ q1040) (fun _ h => h) rfl dX7_closeNext_41 ?_
    refine lv_bipush (v := (-9)) hx hb dX7_closeNext_44 (by decide) ?_
    refine lv_icmp_eq (tgt := 84) hx hb dX7_closeNext_46 (by decide) (fun kc14 => ?_) (fun kc14 => ?_)
    · exact J84 (v1 - 1) ki wi_7 wr_8 wf_9 ci_2 cr_10 cf_11 hw_12 hw_13 H locs ls hP hD hS (lv_sub hl [1, 2, 0] rfl)
    · refine lv_aload_n hx hb dX7_closeNext_49 rfl (lv_at hl 1 rfl) ?_
      refine va_get (D := D) (ci := 7) (v := .int (ki 2)) (C := RX7) (T := TX7) (N := 7) hx hb hts inlX7 hown hK hP 0 rfl rfl 3 (by decide) (hts _ q1047) (fun _ h => h) rfl dX7_closeNext_50 ?_
      refine lv_iconst (v := 4) hx hb dX7_closeNext_53 (by decide) ?_
      refine lv_icmp_ne (tgt := 84) hx hb dX7_closeNext_54 (by decide) (fun kc15 => ?_) (fun kc15 => ?_)
      · exact J84 (v1 - 1) ki wi_7 wr_8 wf_9 ci_2 cr_10 cf_11 hw_12 hw_13 H locs ls hP hD hS (lv_sub hl [1, 2, 0] rfl)
      · refine lv_aload_n hx hb dX7_closeNext_57 rfl (lv_at hl 1 rfl) ?_
        refine va_get (D := D) (ci := 7) (v := .ref wh) (C := RX7) (T := TX7) (N := 7) hx hb hts inlX7 hown hK hP 0 rfl rfl 0 (by decide) (hts _ q152) (fun _ h => h) rfl dX7_closeNext_58 ?_
        refine lv_aload_n hx hb dX7_closeNext_61 rfl (lv_at hl 1 rfl) ?_
        refine va_get (D := D) (ci := 7) (v := .int (ki 3)) (C := RX7) (T := TX7) (N := 7) hx hb hts inlX7 hown hK hP 0 rfl rfl 4 (by decide) (hts _ q1151) (fun _ h => h) rfl dX7_closeNext_62 ?_
        refine lv_aload_n hx hb dX7_closeNext_65 rfl (lv_at hl 1 rfl) ?_
        refine va_get (D := D) (ci := 7) (v := .ref wh) (C := RX7) (T := TX7) (N := 7) hx hb hts inlX7 hown hK hP 0 rfl rfl 0 (by decide) (hts _ q152) (fun _ h => h) rfl dX7_closeNext_66 ?_
        refine va_get (D := D) (ci := 8) (v := .int (wi_7 1)) (C := RX8) (T := TX8) (N := 11) hx hb hts inlX8 hown hK hP 1 rfl rfl 9 (by decide) (hts _ q1040) (fun _ h => h) rfl dX7_closeNext_69 ?_
        refine vz_Vv4 (n9 := 5) (bs2 := fun u : (Nat → Nat → Int32) => [wkW h ki wh, woW g wh wa wi_7 wr_8 wf_9 ph rh (la 0), pgW g ph pa pr pf, rcW g rh ca ci_2 cr_10 u, plW g la lr lf lmx]) (br := [wkW h ki wh]) (As := [.int (ki 3), .int (wi_7 1)]) (rest := []) hx hb hml hown hts hK hA hP hD hS (a_W_suppress l D g H.size wh wa wi_7 wr_8 wf_9 ph rh la pa pr pf ca ci_2 cr_10 cf_11 lr lf lmx (ki 3) (wi_7 1) hw_12 hw_p hw_13 hw_l hmx_l) kv_X7_169 ⟨Nat.le_of_ble_eq_true rfl, Nat.le_of_ble_eq_true rfl⟩ (q0 := 1) (ci := 8) rfl rfl rfl [1, 2, 3, 4] [0] rfl (by decide) rfl (fun _ => rfl) (fun _ => rfl) hl.1 (Nat.le_of_ble_eq_true rfl) dX7_closeNext_72 ⟨Nat.le_refl _, Nat.le_refl _⟩ rfl (fun cf_16 H locs _ _ hP hD hS => ?_)
        replace hP : va_P D vwCl (vz_w [wkW h ki wh, woW g wh wa wi_7 wr_8 wf_9 ph rh (la 0), pgW g ph pa pr pf, rcW g rh ca ci_2 cr_10 cf_16, plW g la lr lf lmx]) H := hP
        replace hD : va_D A (vz_w [wkW h ki wh, woW g wh wa wi_7 wr_8 wf_9 ph rh (la 0), pgW g ph pa pr pf, rcW g rh ca ci_2 cr_10 cf_16, plW g la lr lf lmx]) := hD
        refine lv_aload_n hx hb dX7_closeNext_75 rfl (lv_at hl 1 rfl) ?_
        refine va_get (D := D) (ci := 7) (v := .ref wh) (C := RX7) (T := TX7) (N := 7) hx hb hts inlX7 hown hK hP 0 rfl rfl 0 (by decide) (hts _ q152) (fun _ h => h) rfl dX7_closeNext_76 ?_
        refine lv_bipush (v := (-9)) hx hb dX7_closeNext_79 (by decide) ?_
        refine va_put (D := D) (ci := 8) (v := .int (-9)) (ty := .int) (C := RX8) (T := TX8) (N := 11) hx hb hts inlX8 tyX8 tyX8_ok nmX8 hown hK hP hD hS 1 rfl rfl 9 (by decide) (hts _ q1040) (fun _ h => h) rfl (by decide +kernel) rfl rfl (Nat.le_of_ble_eq_true rfl) dX7_closeNext_81 (fun H locs hP hD hS => ?_)
        obtain ⟨wi_17, hwi_17, hP, hD⟩ : ∃ wi_17 : Nat → Int32, (wi_17 = (upd wi_7 1 (-9))) ∧ va_P D vwCl (vz_w [wkW h ki wh, woW g wh wa wi_17 wr_8 wf_9 ph rh (la 0), pgW g ph pa pr pf, rcW g rh ca ci_2 cr_10 cf_16, plW g la lr lf lmx]) H ∧ va_D A (vz_w [wkW h ki wh, woW g wh wa wi_17 wr_8 wf_9 ph rh (la 0), pgW g ph pa pr pf, rcW g rh ca ci_2 cr_10 cf_16, plW g la lr lf lmx]) := ⟨(upd wi_7 1 (-9)), rfl, hP, hD⟩
        exact J84 (v1 - 1) ki wi_17 wr_8 wf_9 ci_2 cr_10 cf_16 hw_12 hw_13 H locs ls hP hD hS (lv_sub hl [1, 2, 0] rfl)
theorem q1236 : Cond.methodLink RX7 172 yX8_kindOf ∈ wsL_law := mT_5 (List.mem_of_getElem? (i := 145) rfl) rfl
theorem q1237 : Cond.instanceMethod yX8_kindOf ∈ wsL_law := mT_5 (List.mem_of_getElem? (i := 146) rfl) rfl
theorem q1238 : Cond.selects RX8 yX8_kindOf yX8_kindOf ∈ wsL_law := mT_5 (List.mem_of_getElem? (i := 147) rfl) rfl
theorem q1239 : Cond.code yX8_kindOf cX8_kindOf 2 (some .int) ∈ wsL_law := mT_5 (List.mem_of_getElem? (i := 148) rfl) rfl
theorem kv_X7_172 : vz_cv RX7 172 yX8_kindOf cX8_kindOf 2 (some .int) 1 := ⟨q1236, q1237, q1238, q47, q1239, by decide +kernel⟩
theorem q1240 : Cond.methodLink RX7 175 yX2_catchOf ∈ wsL_law := mT_5 (List.mem_of_getElem? (i := 149) rfl) rfl
theorem q508 : Cond.instanceMethod yX2_catchOf ∈ wsL_law := mT_4 (List.mem_of_getElem? (i := 0) rfl) rfl
theorem q509 : Cond.selects RX2 yX2_catchOf yX2_catchOf ∈ wsL_law := mT_4 (List.mem_of_getElem? (i := 1) rfl) rfl
theorem q510 : Cond.code yX2_catchOf cX2_catchOf 5 (some .int) ∈ wsL_law := mT_4 (List.mem_of_getElem? (i := 2) rfl) rfl
theorem kv_X7_175 : vz_cv RX7 175 yX2_catchOf cX2_catchOf 5 (some .int) 2 := ⟨q1240, q508, q509, q23, q510, by decide +kernel⟩
theorem q1235 : Cond.fieldLink RX7 178 "WaysAtlas$Program" "catches" "LWaysAtlas$Table;" ∈ wsL_law := mT_1 (List.mem_of_getElem? (i := 93) rfl) rfl
theorem dX7_chooseCatch_0 : decode cX7_chooseCatch 0 = .ok (.aload_n 0, 1) := by decide +kernel
theorem dX7_chooseCatch_1 : decode cX7_chooseCatch 1 = .ok (.iload_n 1, 1) := by decide +kernel
theorem dX7_chooseCatch_2 : decode cX7_chooseCatch 2 = .ok (.bipush 6, 2) := by decide +kernel
theorem dX7_chooseCatch_4 : decode cX7_chooseCatch 4 = .ok (.iconst 3, 1) := by decide +kernel
theorem dX7_chooseCatch_5 : decode cX7_chooseCatch 5 = .ok (.invokevirtual 143, 3) := by decide +kernel
theorem dX7_chooseCatch_8 : decode cX7_chooseCatch 8 = .ok (.aload_n 0, 1) := by decide +kernel
theorem dX7_chooseCatch_9 : decode cX7_chooseCatch 9 = .ok (.getfield 87, 3) := by decide +kernel
theorem dX7_chooseCatch_12 : decode cX7_chooseCatch 12 = .ok (.iconst 4, 1) := by decide +kernel
theorem dX7_chooseCatch_13 : decode cX7_chooseCatch 13 = .ok (.if_icmp .ne 28, 3) := by decide +kernel
theorem dX7_chooseCatch_16 : decode cX7_chooseCatch 16 = .ok (.aload_n 0, 1) := by decide +kernel
theorem dX7_chooseCatch_17 : decode cX7_chooseCatch 17 = .ok (.getfield 9, 3) := by decide +kernel
theorem dX7_chooseCatch_20 : decode cX7_chooseCatch 20 = .ok (.getfield 62, 3) := by decide +kernel
theorem dX7_chooseCatch_23 : decode cX7_chooseCatch 23 = .ok (.iload_n 1, 1) := by decide +kernel
theorem dX7_chooseCatch_24 : decode cX7_chooseCatch 24 = .ok (.aload_n 0, 1) := by decide +kernel
theorem dX7_chooseCatch_25 : decode cX7_chooseCatch 25 = .ok (.getfield 9, 3) := by decide +kernel
theorem dX7_chooseCatch_28 : decode cX7_chooseCatch 28 = .ok (.aload_n 0, 1) := by decide +kernel
theorem dX7_chooseCatch_29 : decode cX7_chooseCatch 29 = .ok (.getfield 90, 3) := by decide +kernel
theorem dX7_chooseCatch_32 : decode cX7_chooseCatch 32 = .ok (.invokevirtual 172, 3) := by decide +kernel
theorem dX7_chooseCatch_35 : decode cX7_chooseCatch 35 = .ok (.invokevirtual 175, 3) := by decide +kernel
theorem dX7_chooseCatch_38 : decode cX7_chooseCatch 38 = .ok (.goto 5, 3) := by decide +kernel
theorem dX7_chooseCatch_41 : decode cX7_chooseCatch 41 = .ok (.bipush (-9), 2) := by decide +kernel
theorem dX7_chooseCatch_43 : decode cX7_chooseCatch 43 = .ok (.istore_n 2, 1) := by decide +kernel
theorem dX7_chooseCatch_44 : decode cX7_chooseCatch 44 = .ok (.iload_n 2, 1) := by decide +kernel
theorem dX7_chooseCatch_45 : decode cX7_chooseCatch 45 = .ok (.bipush (-9), 2) := by decide +kernel
theorem dX7_chooseCatch_47 : decode cX7_chooseCatch 47 = .ok (.if_icmp .eq 37, 3) := by decide +kernel
theorem dX7_chooseCatch_50 : decode cX7_chooseCatch 50 = .ok (.aload_n 0, 1) := by decide +kernel
theorem dX7_chooseCatch_51 : decode cX7_chooseCatch 51 = .ok (.iload_n 1, 1) := by decide +kernel
theorem dX7_chooseCatch_52 : decode cX7_chooseCatch 52 = .ok (.iconst 1, 1) := by decide +kernel
theorem dX7_chooseCatch_53 : decode cX7_chooseCatch 53 = .ok (.aload_n 0, 1) := by decide +kernel
theorem dX7_chooseCatch_54 : decode cX7_chooseCatch 54 = .ok (.getfield 90, 3) := by decide +kernel
theorem dX7_chooseCatch_57 : decode cX7_chooseCatch 57 = .ok (.invokevirtual 143, 3) := by decide +kernel
theorem dX7_chooseCatch_60 : decode cX7_chooseCatch 60 = .ok (.aload_n 0, 1) := by decide +kernel
theorem dX7_chooseCatch_61 : decode cX7_chooseCatch 61 = .ok (.iconst 0, 1) := by decide +kernel
theorem dX7_chooseCatch_62 : decode cX7_chooseCatch 62 = .ok (.putfield 87, 3) := by decide +kernel
theorem dX7_chooseCatch_65 : decode cX7_chooseCatch 65 = .ok (.aload_n 0, 1) := by decide +kernel
theorem dX7_chooseCatch_66 : decode cX7_chooseCatch 66 = .ok (.aload_n 0, 1) := by decide +kernel
theorem dX7_chooseCatch_67 : decode cX7_chooseCatch 67 = .ok (.getfield 9, 3) := by decide +kernel
theorem dX7_chooseCatch_70 : decode cX7_chooseCatch 70 = .ok (.getfield 62, 3) := by decide +kernel
theorem dX7_chooseCatch_73 : decode cX7_chooseCatch 73 = .ok (.getfield 178, 3) := by decide +kernel
theorem dX7_chooseCatch_76 : decode cX7_chooseCatch 76 = .ok (.iload_n 2, 1) := by decide +kernel
theorem dX7_chooseCatch_77 : decode cX7_chooseCatch 77 = .ok (.iconst 3, 1) := by decide +kernel
theorem dX7_chooseCatch_78 : decode cX7_chooseCatch 78 = .ok (.invokevirtual 72, 3) := by decide +kernel
theorem dX7_chooseCatch_81 : decode cX7_chooseCatch 81 = .ok (.putfield 15, 3) := by decide +kernel
theorem dX7_chooseCatch_84 : decode cX7_chooseCatch 84 = .ok (.return_, 1) := by decide +kernel
set_option maxHeartbeats 8000000 in
set_option maxRecDepth 100000 in
theorem a_K_chooseCatch (l : Launch) (D : va_G) (g : Nat → ClassId)   (sz : Nat) (h : Nat) (ki : Nat → Int32) (wh : Nat) (wa : Nat → Nat) (wi : Nat → Int32) (wr : Nat → Nat) (wf : Nat → Nat → Int32) (ph : Nat) (rh : Nat) (la : Nat → Nat) (pa : Nat → Nat) (pr : Nat → Nat) (pf : Nat → Nat → Int32) (ca : Nat → Nat) (ci : Nat → Int32) (cr : Nat → Nat) (cf : Nat → Nat → Int32) (lr : Nat → Nat) (lf : Nat → Nat → Int32) (lmx : Nat) (n1 : Int32) (hw_w : ∀ k, wr k ≤ woW_lim k) (hw_p : ∀ k, pr k ≤ pgW_lim k) (hw_c : ∀ k, cr k ≤ rcW_lim k) (hw_l : ∀ k, lr k ≤ (plW_lim lmx) k) (hmx_l : lmx ≤ 30) : vz_Mv l D (tyG g) yX7_chooseCatch cX7_chooseCatch 3 3 71 0 0 [.ref h, .int n1] sz (vz_w [wkW h ki wh, woW g wh wa wi wr wf ph rh (la 0), pgW g ph pa pr pf, rcW g rh ca ci cr cf, plW g la lr lf lmx]) (fun u : (Nat → Int32) × (Nat → Nat → Int32) => True) (fun u => vz_w [wkW h u.1 wh, woW g wh wa wi wr u.2 ph rh (la 0), pgW g ph pa pr pf, rcW g rh ca ci cr cf, plW g la lr lf lmx]) := by
  refine vz_svQ (by decide) (Nat.le_of_ble_eq_true rfl) (fun p e s m args below meth c hx hb hr hml hts hown hlk hin hK hsz A hA H locs hP hD hS ls hl Q hQ => ?_)
  have hl : lv_has ls 3 [(0, .ref h), (1, .int n1)] := hl
  have J84 : ∀ (x2_84 : Int32), ∀ (ki_84 : Nat → Int32), ∀ (wf_84 : Nat → Nat → Int32), ∀ (H : Heap) (locs : List Loc) (ls : Array Slot), va_P D vwCl (vz_w [wkW h ki_84 wh, woW g wh wa wi wr wf_84 ph rh (la 0), pgW g ph pa pr pf, rcW g rh ca ci cr cf, plW g la lr lf lmx]) H → va_D A (vz_w [wkW h ki_84 wh, woW g wh wa wi wr wf_84 ph rh (la 0), pgW g ph pa pr pf, rcW g rh ca ci cr cf, plW g la lr lf lmx]) → va_S A s.heap H locs → lv_has ls 3 [(0, .ref h), (1, .int n1), (2, .int x2_84)] → W p l e { frames := 3, cells := 0, slots := 0, locals := 71 } s m args below meth c H locs 0 0 Q (F0 m 84 ls []) := by
    intro x2_84 ki_84 wf_84 H locs ls hP hD hS hl
    rw [hQ]
    exact vz_vret3 hx hb hr hlk hK hP hD hS (ki_84, wf_84) trivial rfl (Nat.le_refl 0) (Nat.le_refl 0) dX7_chooseCatch_84
  have J43 : ∀ (y0_43 : Int32), ∀ (ki_43 : Nat → Int32), ∀ (wf_43 : Nat → Nat → Int32), ∀ (H : Heap) (locs : List Loc) (ls : Array Slot), va_P D vwCl (vz_w [wkW h ki_43 wh, woW g wh wa wi wr wf_43 ph rh (la 0), pgW g ph pa pr pf, rcW g rh ca ci cr cf, plW g la lr lf lmx]) H → va_D A (vz_w [wkW h ki_43 wh, woW g wh wa wi wr wf_43 ph rh (la 0), pgW g ph pa pr pf, rcW g rh ca ci cr cf, plW g la lr lf lmx]) → va_S A s.heap H locs → lv_has ls 3 [(0, .ref h), (1, .int n1)] → W p l e { frames := 3, cells := 0, slots := 0, locals := 71 } s m args below meth c H locs 0 0 Q (F0 m 43 ls [.int y0_43]) := by
    intro y0_43 ki_43 wf_43 H locs ls hP hD hS hl
    refine lv_istore_n (lv' := [(2, .int y0_43), (0, .ref h), (1, .int n1)]) hx hb dX7_chooseCatch_43 rfl hl (by decide) rfl (fun ls hl => ?_)
    refine lv_iload_n hx hb dX7_chooseCatch_44 rfl (lv_at hl 0 rfl) ?_
    refine lv_bipush (v := (-9)) hx hb dX7_chooseCatch_45 (by decide) ?_
    refine lv_icmp_eq (tgt := 84) hx hb dX7_chooseCatch_47 (by decide) (fun kc1 => ?_) (fun kc1 => ?_)
    · exact J84 y0_43 ki_43 wf_43 H locs ls hP hD hS (lv_sub hl [1, 2, 0] rfl)
    · refine lv_aload_n hx hb dX7_chooseCatch_50 rfl (lv_at hl 1 rfl) ?_
      refine lv_iload_n hx hb dX7_chooseCatch_51 rfl (lv_at hl 2 rfl) ?_
      refine lv_iconst (v := 1) hx hb dX7_chooseCatch_52 (by decide) ?_
      refine lv_aload_n hx hb dX7_chooseCatch_53 rfl (lv_at hl 1 rfl) ?_
      refine va_get (D := D) (ci := 7) (v := .int (ki_43 3)) (C := RX7) (T := TX7) (N := 7) hx hb hts inlX7 hown hK hP 0 rfl rfl 4 (by decide) (hts _ q1151) (fun _ h => h) rfl dX7_chooseCatch_54 ?_
      refine vz_Vv3 (As := [.int n1, .int 1, .int (ki_43 3)]) (rest := []) hx hb hml hown hts hK hA hP hD hS (a_K_setSlot l D g H.size h ki_43 wh wa wi wr wf_43 ph rh la pa pr pf ca ci cr cf lr lf lmx n1 1 (ki_43 3) hw_w hw_p hw_c hw_l hmx_l) kv_X7_143 ⟨Nat.le_of_ble_eq_true rfl, Nat.le_of_ble_eq_true rfl⟩ (q0 := 0) (ci := 7) rfl rfl rfl  hl.1 (Nat.le_of_ble_eq_true rfl) dX7_chooseCatch_57 ⟨Nat.le_refl _, Nat.le_refl _⟩ rfl (fun wf_2 H locs _ _ hP hD hS => ?_)
      replace hP : va_P D vwCl (vz_w [wkW h ki_43 wh, woW g wh wa wi wr wf_2 ph rh (la 0), pgW g ph pa pr pf, rcW g rh ca ci cr cf, plW g la lr lf lmx]) H := hP
      replace hD : va_D A (vz_w [wkW h ki_43 wh, woW g wh wa wi wr wf_2 ph rh (la 0), pgW g ph pa pr pf, rcW g rh ca ci cr cf, plW g la lr lf lmx]) := hD
      refine lv_aload_n hx hb dX7_chooseCatch_60 rfl (lv_at hl 1 rfl) ?_
      refine lv_iconst (v := 0) hx hb dX7_chooseCatch_61 (by decide) ?_
      refine va_put (D := D) (ci := 7) (v := .int 0) (ty := .int) (C := RX7) (T := TX7) (N := 7) hx hb hts inlX7 tyX7 tyX7_ok nmX7 hown hK hP hD hS 0 rfl rfl 3 (by decide) (hts _ q1047) (fun _ h => h) rfl (by decide +kernel) rfl rfl (Nat.le_of_ble_eq_true rfl) dX7_chooseCatch_62 (fun H locs hP hD hS => ?_)
      obtain ⟨ki_3, hki_3, hP, hD⟩ : ∃ ki_3 : Nat → Int32, (ki_3 = (upd ki_43 2 0)) ∧ va_P D vwCl (vz_w [wkW h ki_3 wh, woW g wh wa wi wr wf_2 ph rh (la 0), pgW g ph pa pr pf, rcW g rh ca ci cr cf, plW g la lr lf lmx]) H ∧ va_D A (vz_w [wkW h ki_3 wh, woW g wh wa wi wr wf_2 ph rh (la 0), pgW g ph pa pr pf, rcW g rh ca ci cr cf, plW g la lr lf lmx]) := ⟨(upd ki_43 2 0), rfl, hP, hD⟩
      refine lv_aload_n hx hb dX7_chooseCatch_65 rfl (lv_at hl 1 rfl) ?_
      refine lv_aload_n hx hb dX7_chooseCatch_66 rfl (lv_at hl 1 rfl) ?_
      refine va_get (D := D) (ci := 7) (v := .ref wh) (C := RX7) (T := TX7) (N := 7) hx hb hts inlX7 hown hK hP 0 rfl rfl 0 (by decide) (hts _ q152) (fun _ h => h) rfl dX7_chooseCatch_67 ?_
      refine va_get (D := D) (ci := 8) (v := .ref ph) (C := RX8) (T := TX8) (N := 11) hx hb hts inlX8 hown hK hP 1 rfl rfl 5 (by decide) (hts _ q1045) (fun _ h => h) rfl dX7_chooseCatch_70 ?_
      refine va_get (D := D) (ci := 2) (v := .ref (pa 4)) (C := RX2) (T := TX2) (N := 5) hx hb hts inlX2 hown hK hP 12 rfl rfl 2 (by decide) (hts _ q1235) (fun _ h => h) rfl dX7_chooseCatch_73 ?_
      refine lv_iload_n hx hb dX7_chooseCatch_76 rfl (lv_at hl 0 rfl) ?_
      refine lv_iconst (v := 3) hx hb dX7_chooseCatch_77 (by decide) ?_
      refine vz_Vi2 (ws' := fun u : Unit => vz_w [wkW h ki_3 wh, woW g wh wa wi wr wf_2 ph rh (la 0), pgW g ph pa pr pf, rcW g rh ca ci cr cf, plW g la lr lf lmx]) (As := [.int y0_43, .int 3]) (rest := [.ref h]) hx hb hml hown hts hK hA hP hD hS (c_T_get l D g (pa 4) (pa 5) H.size 5 112 (pr 2) 560 (pf 2) y0_43 3 ⟨rfl, by decide, by decide, by decide, by decide, hw_p 2⟩) kv_X7_72 ⟨Nat.le_of_ble_eq_true rfl, Nat.le_of_ble_eq_true rfl⟩ (q0 := 17) (ci := 6) rfl rfl rfl [17, 18] rfl (by decide) (fun _ => rfl) (fun _ => rfl) hl.1 (Nat.le_of_ble_eq_true rfl) dX7_chooseCatch_78 ⟨Nat.le_refl _, Nat.le_refl _⟩ rfl (fun v4 _ H locs he5 _ hP hD hS => ?_)
      refine va_put (D := D) (ci := 7) (v := .int v4) (ty := .int) (C := RX7) (T := TX7) (N := 7) hx hb hts inlX7 tyX7 tyX7_ok nmX7 hown hK hP hD hS 0 rfl rfl 1 (by decide) (hts _ q153) (fun _ h => h) rfl (by decide +kernel) rfl rfl (Nat.le_of_ble_eq_true rfl) dX7_chooseCatch_81 (fun H locs hP hD hS => ?_)
      obtain ⟨ki_6, hki_6, hP, hD⟩ : ∃ ki_6 : Nat → Int32, (ki_6 = (upd ki_3 0 v4)) ∧ va_P D vwCl (vz_w [wkW h ki_6 wh, woW g wh wa wi wr wf_2 ph rh (la 0), pgW g ph pa pr pf, rcW g rh ca ci cr cf, plW g la lr lf lmx]) H ∧ va_D A (vz_w [wkW h ki_6 wh, woW g wh wa wi wr wf_2 ph rh (la 0), pgW g ph pa pr pf, rcW g rh ca ci cr cf, plW g la lr lf lmx]) := ⟨(upd ki_3 0 v4), rfl, hP, hD⟩
      exact J84 y0_43 ki_6 wf_2 H locs ls hP hD hS (lv_sub hl [1, 2, 0] rfl)
  refine lv_aload_n hx hb dX7_chooseCatch_0 rfl (lv_at hl 0 rfl) ?_
  refine lv_iload_n hx hb dX7_chooseCatch_1 rfl (lv_at hl 1 rfl) ?_
  refine lv_bipush (v := 6) hx hb dX7_chooseCatch_2 (by decide) ?_
  refine lv_iconst (v := 3) hx hb dX7_chooseCatch_4 (by decide) ?_
  refine vz_Vv3 (As := [.int n1, .int 6, .int 3]) (rest := []) hx hb hml hown hts hK hA hP hD hS (a_K_setSlot l D g H.size h ki wh wa wi wr wf ph rh la pa pr pf ca ci cr cf lr lf lmx n1 6 3 hw_w hw_p hw_c hw_l hmx_l) kv_X7_143 ⟨Nat.le_of_ble_eq_true rfl, Nat.le_of_ble_eq_true rfl⟩ (q0 := 0) (ci := 7) rfl rfl rfl  hl.1 (Nat.le_of_ble_eq_true rfl) dX7_chooseCatch_5 ⟨Nat.le_refl _, Nat.le_refl _⟩ rfl (fun wf_1 H locs _ _ hP hD hS => ?_)
  replace hP : va_P D vwCl (vz_w [wkW h ki wh, woW g wh wa wi wr wf_1 ph rh (la 0), pgW g ph pa pr pf, rcW g rh ca ci cr cf, plW g la lr lf lmx]) H := hP
  replace hD : va_D A (vz_w [wkW h ki wh, woW g wh wa wi wr wf_1 ph rh (la 0), pgW g ph pa pr pf, rcW g rh ca ci cr cf, plW g la lr lf lmx]) := hD
  refine lv_aload_n hx hb dX7_chooseCatch_8 rfl (lv_at hl 0 rfl) ?_
  refine va_get (D := D) (ci := 7) (v := .int (ki 2)) (C := RX7) (T := TX7) (N := 7) hx hb hts inlX7 hown hK hP 0 rfl rfl 3 (by decide) (hts _ q1047) (fun _ h => h) rfl dX7_chooseCatch_9 ?_
  refine lv_iconst (v := 4) hx hb dX7_chooseCatch_12 (by decide) ?_
  refine lv_icmp_ne (tgt := 41) hx hb dX7_chooseCatch_13 (by decide) (fun kc2 => ?_) (fun kc2 => ?_)
  · refine lv_bipush (v := (-9)) hx hb dX7_chooseCatch_41 (by decide) ?_
    exact J43 (-9) ki wf_1 H locs ls hP hD hS (lv_sub hl [0, 1] rfl)
  · refine lv_aload_n hx hb dX7_chooseCatch_16 rfl (lv_at hl 0 rfl) ?_
    refine va_get (D := D) (ci := 7) (v := .ref wh) (C := RX7) (T := TX7) (N := 7) hx hb hts inlX7 hown hK hP 0 rfl rfl 0 (by decide) (hts _ q152) (fun _ h => h) rfl dX7_chooseCatch_17 ?_
    refine va_get (D := D) (ci := 8) (v := .ref ph) (C := RX8) (T := TX8) (N := 11) hx hb hts inlX8 hown hK hP 1 rfl rfl 5 (by decide) (hts _ q1045) (fun _ h => h) rfl dX7_chooseCatch_20 ?_
    refine lv_iload_n hx hb dX7_chooseCatch_23 rfl (lv_at hl 1 rfl) ?_
    refine lv_aload_n hx hb dX7_chooseCatch_24 rfl (lv_at hl 0 rfl) ?_
    refine va_get (D := D) (ci := 7) (v := .ref wh) (C := RX7) (T := TX7) (N := 7) hx hb hts inlX7 hown hK hP 0 rfl rfl 0 (by decide) (hts _ q152) (fun _ h => h) rfl dX7_chooseCatch_25 ?_
    refine lv_aload_n hx hb dX7_chooseCatch_28 rfl (lv_at hl 0 rfl) ?_
    refine va_get (D := D) (ci := 7) (v := .int (ki 3)) (C := RX7) (T := TX7) (N := 7) hx hb hts inlX7 hown hK hP 0 rfl rfl 4 (by decide) (hts _ q1151) (fun _ h => h) rfl dX7_chooseCatch_29 ?_
    refine vz_Vi4 (n9 := 5) (bs2 := fun u : Unit => [wkW h ki wh, woW g wh wa wi wr wf_1 ph rh (la 0), pgW g ph pa pr pf, rcW g rh ca ci cr cf, plW g la lr lf lmx]) (br := [wkW h ki wh]) (As := [.int (ki 3)]) (rest := [.int n1, .ref ph]) hx hb hml hown hts hK hA hP hD hS (a_W_kindOf l D g H.size wh wa wi wr wf_1 ph rh la pa pr pf ca ci cr cf lr lf lmx (ki 3) hw_w hw_p hw_c hw_l hmx_l) kv_X7_172 ⟨Nat.le_of_ble_eq_true rfl, Nat.le_of_ble_eq_true rfl⟩ (q0 := 1) (ci := 8) rfl rfl rfl [1, 2, 3, 4] [0] rfl (by decide) rfl (fun _ => rfl) (fun _ => rfl) hl.1 (Nat.le_of_ble_eq_true rfl) dX7_chooseCatch_32 ⟨Nat.le_refl _, Nat.le_refl _⟩ rfl (fun v3 _ H locs _ _ hP hD hS => ?_)
    refine vz_Vi4 (n9 := 5) (bs2 := fun u : Unit => [wkW h ki wh, woW g wh wa wi wr wf_1 ph rh (la 0), pgW g ph pa pr pf, rcW g rh ca ci cr cf, plW g la lr lf lmx]) (br := [wkW h ki wh, woW g wh wa wi wr wf_1 ph rh (la 0), rcW g rh ca ci cr cf, plW g la lr lf lmx]) (As := [.int n1, .int v3]) (rest := []) hx hb hml hown hts hK hA hP hD hS (a_P_catchOf l D g H.size ph pa pr pf n1 v3 hw_p) kv_X7_175 ⟨Nat.le_of_ble_eq_true rfl, Nat.le_of_ble_eq_true rfl⟩ (q0 := 12) (ci := 2) rfl rfl rfl [2] [0, 1, 3, 4] rfl (by decide) rfl (fun _ => rfl) (fun _ => rfl) hl.1 (Nat.le_of_ble_eq_true rfl) dX7_chooseCatch_35 ⟨Nat.le_refl _, Nat.le_refl _⟩ rfl (fun v4 _ H locs _ _ hP hD hS => ?_)
    refine lv_goto (tgt := 43) hx hb dX7_chooseCatch_38 (by decide) ?_
    exact J43 v4 ki wf_1 H locs ls hP hD hS (lv_sub hl [0, 1] rfl)
theorem q1245 : Cond.methodLink RX7 181 yX8_finish ∈ wsL_law := mT_5 (List.mem_of_getElem? (i := 154) rfl) rfl
theorem q1246 : Cond.instanceMethod yX8_finish ∈ wsL_law := mT_5 (List.mem_of_getElem? (i := 155) rfl) rfl
theorem q1247 : Cond.selects RX8 yX8_finish yX8_finish ∈ wsL_law := mT_5 (List.mem_of_getElem? (i := 156) rfl) rfl
theorem q1248 : Cond.code yX8_finish cX8_finish 2 none ∈ wsL_law := mT_5 (List.mem_of_getElem? (i := 157) rfl) rfl
theorem kv_X7_181 : vz_cv RX7 181 yX8_finish cX8_finish 2 none 1 := ⟨q1245, q1246, q1247, q47, q1248, by decide +kernel⟩
theorem dX7_finish_0 : decode cX7_finish 0 = .ok (.aload_n 0, 1) := by decide +kernel
theorem dX7_finish_1 : decode cX7_finish 1 = .ok (.iload_n 1, 1) := by decide +kernel
theorem dX7_finish_2 : decode cX7_finish 2 = .ok (.bipush 7, 2) := by decide +kernel
theorem dX7_finish_4 : decode cX7_finish 4 = .ok (.invokevirtual 49, 3) := by decide +kernel
theorem dX7_finish_7 : decode cX7_finish 7 = .ok (.iconst 1, 1) := by decide +kernel
theorem dX7_finish_8 : decode cX7_finish 8 = .ok (.if_icmp .eq 9, 3) := by decide +kernel
theorem dX7_finish_11 : decode cX7_finish 11 = .ok (.aload_n 0, 1) := by decide +kernel
theorem dX7_finish_12 : decode cX7_finish 12 = .ok (.iload_n 1, 1) := by decide +kernel
theorem dX7_finish_13 : decode cX7_finish 13 = .ok (.invokevirtual 59, 3) := by decide +kernel
theorem dX7_finish_16 : decode cX7_finish 16 = .ok (.return_, 1) := by decide +kernel
theorem dX7_finish_17 : decode cX7_finish 17 = .ok (.aload_n 0, 1) := by decide +kernel
theorem dX7_finish_18 : decode cX7_finish 18 = .ok (.iload_n 1, 1) := by decide +kernel
theorem dX7_finish_19 : decode cX7_finish 19 = .ok (.iconst 3, 1) := by decide +kernel
theorem dX7_finish_20 : decode cX7_finish 20 = .ok (.aload_n 0, 1) := by decide +kernel
theorem dX7_finish_21 : decode cX7_finish 21 = .ok (.getfield 87, 3) := by decide +kernel
theorem dX7_finish_24 : decode cX7_finish 24 = .ok (.invokevirtual 143, 3) := by decide +kernel
theorem dX7_finish_27 : decode cX7_finish 27 = .ok (.aload_n 0, 1) := by decide +kernel
theorem dX7_finish_28 : decode cX7_finish 28 = .ok (.iload_n 1, 1) := by decide +kernel
theorem dX7_finish_29 : decode cX7_finish 29 = .ok (.iconst 2, 1) := by decide +kernel
theorem dX7_finish_30 : decode cX7_finish 30 = .ok (.aload_n 0, 1) := by decide +kernel
theorem dX7_finish_31 : decode cX7_finish 31 = .ok (.getfield 90, 3) := by decide +kernel
theorem dX7_finish_34 : decode cX7_finish 34 = .ok (.invokevirtual 143, 3) := by decide +kernel
theorem dX7_finish_37 : decode cX7_finish 37 = .ok (.aload_n 0, 1) := by decide +kernel
theorem dX7_finish_38 : decode cX7_finish 38 = .ok (.iload_n 1, 1) := by decide +kernel
theorem dX7_finish_39 : decode cX7_finish 39 = .ok (.bipush 6, 2) := by decide +kernel
theorem dX7_finish_41 : decode cX7_finish 41 = .ok (.iconst 4, 1) := by decide +kernel
theorem dX7_finish_42 : decode cX7_finish 42 = .ok (.invokevirtual 143, 3) := by decide +kernel
theorem dX7_finish_45 : decode cX7_finish 45 = .ok (.aload_n 0, 1) := by decide +kernel
theorem dX7_finish_46 : decode cX7_finish 46 = .ok (.getfield 9, 3) := by decide +kernel
theorem dX7_finish_49 : decode cX7_finish 49 = .ok (.iload_n 1, 1) := by decide +kernel
theorem dX7_finish_50 : decode cX7_finish 50 = .ok (.invokevirtual 181, 3) := by decide +kernel
theorem dX7_finish_53 : decode cX7_finish 53 = .ok (.aload_n 0, 1) := by decide +kernel
theorem dX7_finish_54 : decode cX7_finish 54 = .ok (.iload_n 1, 1) := by decide +kernel
theorem dX7_finish_55 : decode cX7_finish 55 = .ok (.bipush 6, 2) := by decide +kernel
theorem dX7_finish_57 : decode cX7_finish 57 = .ok (.invokevirtual 140, 3) := by decide +kernel
theorem dX7_finish_60 : decode cX7_finish 60 = .ok (.return_, 1) := by decide +kernel
set_option maxHeartbeats 8000000 in
set_option maxRecDepth 100000 in
theorem a_K_finish (l : Launch) (D : va_G) (g : Nat → ClassId)   (sz : Nat) (h : Nat) (ki : Nat → Int32) (wh : Nat) (wa : Nat → Nat) (wi : Nat → Int32) (wr : Nat → Nat) (wf : Nat → Nat → Int32) (ph : Nat) (rh : Nat) (la : Nat → Nat) (pa : Nat → Nat) (pr : Nat → Nat) (pf : Nat → Nat → Int32) (ca : Nat → Nat) (ci : Nat → Int32) (cr : Nat → Nat) (cf : Nat → Nat → Int32) (lr : Nat → Nat) (lf : Nat → Nat → Int32) (lmx : Nat) (n1 : Int32) (hw_w : ∀ k, wr k ≤ woW_lim k) (hw_p : ∀ k, pr k ≤ pgW_lim k) (hw_c : ∀ k, cr k ≤ rcW_lim k) (hw_l : ∀ k, lr k ≤ (plW_lim lmx) k) (hmx_l : lmx ≤ 30) : vz_Mv l D (tyG g) yX7_finish cX7_finish 2 3 70 0 0 [.ref h, .int n1] sz (vz_w [wkW h ki wh, woW g wh wa wi wr wf ph rh (la 0), pgW g ph pa pr pf, rcW g rh ca ci cr cf, plW g la lr lf lmx]) (fun u : (Nat → Int32) × (Nat → Nat → Int32) × (Nat → Nat → Int32) => True) (fun u => vz_w [wkW h u.1 wh, woW g wh wa wi wr u.2.1 ph rh (la 0), pgW g ph pa pr pf, rcW g rh ca ci cr u.2.2, plW g la lr lf lmx]) := by
  refine vz_svQ (by decide) (Nat.le_of_ble_eq_true rfl) (fun p e s m args below meth c hx hb hr hml hts hown hlk hin hK hsz A hA H locs hP hD hS ls hl Q hQ => ?_)
  have hl : lv_has ls 2 [(0, .ref h), (1, .int n1)] := hl
  refine lv_aload_n hx hb dX7_finish_0 rfl (lv_at hl 0 rfl) ?_
  refine lv_iload_n hx hb dX7_finish_1 rfl (lv_at hl 1 rfl) ?_
  refine lv_bipush (v := 7) hx hb dX7_finish_2 (by decide) ?_
  refine vz_Vi3 (As := [.int n1, .int 7]) (rest := []) hx hb hml hown hts hK hA hP hD hS (a_K_at l D g H.size h ki wh wa wi wr wf ph rh la pa pr pf ca ci cr cf lr lf lmx n1 7 hw_w hw_p hw_c hw_l hmx_l) kv_X7_49 ⟨Nat.le_of_ble_eq_true rfl, Nat.le_of_ble_eq_true rfl⟩ (q0 := 0) (ci := 7) rfl rfl rfl  hl.1 (Nat.le_of_ble_eq_true rfl) dX7_finish_4 ⟨Nat.le_refl _, Nat.le_refl _⟩ rfl (fun v1 _ H locs _ _ hP hD hS => ?_)
  refine lv_iconst (v := 1) hx hb dX7_finish_7 (by decide) ?_
  refine lv_icmp_eq (tgt := 17) hx hb dX7_finish_8 (by decide) (fun kc2 => ?_) (fun kc2 => ?_)
  · refine lv_aload_n hx hb dX7_finish_17 rfl (lv_at hl 0 rfl) ?_
    refine lv_iload_n hx hb dX7_finish_18 rfl (lv_at hl 1 rfl) ?_
    refine lv_iconst (v := 3) hx hb dX7_finish_19 (by decide) ?_
    refine lv_aload_n hx hb dX7_finish_20 rfl (lv_at hl 0 rfl) ?_
    refine va_get (D := D) (ci := 7) (v := .int (ki 2)) (C := RX7) (T := TX7) (N := 7) hx hb hts inlX7 hown hK hP 0 rfl rfl 3 (by decide) (hts _ q1047) (fun _ h => h) rfl dX7_finish_21 ?_
    refine vz_Vv3 (As := [.int n1, .int 3, .int (ki 2)]) (rest := []) hx hb hml hown hts hK hA hP hD hS (a_K_setSlot l D g H.size h ki wh wa wi wr wf ph rh la pa pr pf ca ci cr cf lr lf lmx n1 3 (ki 2) hw_w hw_p hw_c hw_l hmx_l) kv_X7_143 ⟨Nat.le_of_ble_eq_true rfl, Nat.le_of_ble_eq_true rfl⟩ (q0 := 0) (ci := 7) rfl rfl rfl  hl.1 (Nat.le_of_ble_eq_true rfl) dX7_finish_24 ⟨Nat.le_refl _, Nat.le_refl _⟩ rfl (fun wf_3 H locs _ _ hP hD hS => ?_)
    replace hP : va_P D vwCl (vz_w [wkW h ki wh, woW g wh wa wi wr wf_3 ph rh (la 0), pgW g ph pa pr pf, rcW g rh ca ci cr cf, plW g la lr lf lmx]) H := hP
    replace hD : va_D A (vz_w [wkW h ki wh, woW g wh wa wi wr wf_3 ph rh (la 0), pgW g ph pa pr pf, rcW g rh ca ci cr cf, plW g la lr lf lmx]) := hD
    refine lv_aload_n hx hb dX7_finish_27 rfl (lv_at hl 0 rfl) ?_
    refine lv_iload_n hx hb dX7_finish_28 rfl (lv_at hl 1 rfl) ?_
    refine lv_iconst (v := 2) hx hb dX7_finish_29 (by decide) ?_
    refine lv_aload_n hx hb dX7_finish_30 rfl (lv_at hl 0 rfl) ?_
    refine va_get (D := D) (ci := 7) (v := .int (ki 3)) (C := RX7) (T := TX7) (N := 7) hx hb hts inlX7 hown hK hP 0 rfl rfl 4 (by decide) (hts _ q1151) (fun _ h => h) rfl dX7_finish_31 ?_
    refine vz_Vv3 (As := [.int n1, .int 2, .int (ki 3)]) (rest := []) hx hb hml hown hts hK hA hP hD hS (a_K_setSlot l D g H.size h ki wh wa wi wr wf_3 ph rh la pa pr pf ca ci cr cf lr lf lmx n1 2 (ki 3) hw_w hw_p hw_c hw_l hmx_l) kv_X7_143 ⟨Nat.le_of_ble_eq_true rfl, Nat.le_of_ble_eq_true rfl⟩ (q0 := 0) (ci := 7) rfl rfl rfl  hl.1 (Nat.le_of_ble_eq_true rfl) dX7_finish_34 ⟨Nat.le_refl _, Nat.le_refl _⟩ rfl (fun wf_4 H locs _ _ hP hD hS => ?_)
    replace hP : va_P D vwCl (vz_w [wkW h ki wh, woW g wh wa wi wr wf_4 ph rh (la 0), pgW g ph pa pr pf, rcW g rh ca ci cr cf, plW g la lr lf lmx]) H := hP
    replace hD : va_D A (vz_w [wkW h ki wh, woW g wh wa wi wr wf_4 ph rh (la 0), pgW g ph pa pr pf, rcW g rh ca ci cr cf, plW g la lr lf lmx]) := hD
    refine lv_aload_n hx hb dX7_finish_37 rfl (lv_at hl 0 rfl) ?_
    refine lv_iload_n hx hb dX7_finish_38 rfl (lv_at hl 1 rfl) ?_
    refine lv_bipush (v := 6) hx hb dX7_finish_39 (by decide) ?_
    refine lv_iconst (v := 4) hx hb dX7_finish_41 (by decide) ?_
    refine vz_Vv3 (As := [.int n1, .int 6, .int 4]) (rest := []) hx hb hml hown hts hK hA hP hD hS (a_K_setSlot l D g H.size h ki wh wa wi wr wf_4 ph rh la pa pr pf ca ci cr cf lr lf lmx n1 6 4 hw_w hw_p hw_c hw_l hmx_l) kv_X7_143 ⟨Nat.le_of_ble_eq_true rfl, Nat.le_of_ble_eq_true rfl⟩ (q0 := 0) (ci := 7) rfl rfl rfl  hl.1 (Nat.le_of_ble_eq_true rfl) dX7_finish_42 ⟨Nat.le_refl _, Nat.le_refl _⟩ rfl (fun wf_5 H locs _ _ hP hD hS => ?_)
    replace hP : va_P D vwCl (vz_w [wkW h ki wh, woW g wh wa wi wr wf_5 ph rh (la 0), pgW g ph pa pr pf, rcW g rh ca ci cr cf, plW g la lr lf lmx]) H := hP
    replace hD : va_D A (vz_w [wkW h ki wh, woW g wh wa wi wr wf_5 ph rh (la 0), pgW g ph pa pr pf, rcW g rh ca ci cr cf, plW g la lr lf lmx]) := hD
    refine lv_aload_n hx hb dX7_finish_45 rfl (lv_at hl 0 rfl) ?_
    refine va_get (D := D) (ci := 7) (v := .ref wh) (C := RX7) (T := TX7) (N := 7) hx hb hts inlX7 hown hK hP 0 rfl rfl 0 (by decide) (hts _ q152) (fun _ h => h) rfl dX7_finish_46 ?_
    refine lv_iload_n hx hb dX7_finish_49 rfl (lv_at hl 1 rfl) ?_
    refine vz_Vv4 (n9 := 5) (bs2 := fun u : (Nat → Nat → Int32) => [wkW h ki wh, woW g wh wa wi wr wf_5 ph rh (la 0), pgW g ph pa pr pf, rcW g rh ca ci cr u, plW g la lr lf lmx]) (br := [wkW h ki wh]) (As := [.int n1]) (rest := []) hx hb hml hown hts hK hA hP hD hS (a_W_finish l D g H.size wh wa wi wr wf_5 ph rh la pa pr pf ca ci cr cf lr lf lmx n1 hw_w hw_p hw_c hw_l hmx_l) kv_X7_181 ⟨Nat.le_of_ble_eq_true rfl, Nat.le_of_ble_eq_true rfl⟩ (q0 := 1) (ci := 8) rfl rfl rfl [1, 2, 3, 4] [0] rfl (by decide) rfl (fun _ => rfl) (fun _ => rfl) hl.1 (Nat.le_of_ble_eq_true rfl) dX7_finish_50 ⟨Nat.le_refl _, Nat.le_refl _⟩ rfl (fun cf_6 H locs _ _ hP hD hS => ?_)
    replace hP : va_P D vwCl (vz_w [wkW h ki wh, woW g wh wa wi wr wf_5 ph rh (la 0), pgW g ph pa pr pf, rcW g rh ca ci cr cf_6, plW g la lr lf lmx]) H := hP
    replace hD : va_D A (vz_w [wkW h ki wh, woW g wh wa wi wr wf_5 ph rh (la 0), pgW g ph pa pr pf, rcW g rh ca ci cr cf_6, plW g la lr lf lmx]) := hD
    refine lv_aload_n hx hb dX7_finish_53 rfl (lv_at hl 0 rfl) ?_
    refine lv_iload_n hx hb dX7_finish_54 rfl (lv_at hl 1 rfl) ?_
    refine lv_bipush (v := 6) hx hb dX7_finish_55 (by decide) ?_
    refine vz_Vv3 (As := [.int n1, .int 6]) (rest := []) hx hb hml hown hts hK hA hP hD hS (a_K_enterBlock l D g H.size h ki wh wa wi wr wf_5 ph rh la pa pr pf ca ci cr cf_6 lr lf lmx n1 6 hw_w hw_p hw_c hw_l hmx_l) kv_X7_140 ⟨Nat.le_of_ble_eq_true rfl, Nat.le_of_ble_eq_true rfl⟩ (q0 := 0) (ci := 7) rfl rfl rfl  hl.1 (Nat.le_of_ble_eq_true rfl) dX7_finish_57 ⟨Nat.le_refl _, Nat.le_refl _⟩ rfl (fun ki_7 H locs _ _ hP hD hS => ?_)
    replace hP : va_P D vwCl (vz_w [wkW h ki_7 wh, woW g wh wa wi wr wf_5 ph rh (la 0), pgW g ph pa pr pf, rcW g rh ca ci cr cf_6, plW g la lr lf lmx]) H := hP
    replace hD : va_D A (vz_w [wkW h ki_7 wh, woW g wh wa wi wr wf_5 ph rh (la 0), pgW g ph pa pr pf, rcW g rh ca ci cr cf_6, plW g la lr lf lmx]) := hD
    rw [hQ]
    exact vz_vret3 hx hb hr hlk hK hP hD hS (ki_7, wf_5, cf_6) trivial rfl (Nat.le_refl 0) (Nat.le_refl 0) dX7_finish_60
  · refine lv_aload_n hx hb dX7_finish_11 rfl (lv_at hl 0 rfl) ?_
    refine lv_iload_n hx hb dX7_finish_12 rfl (lv_at hl 1 rfl) ?_
    refine vz_Vv3 (As := [.int n1]) (rest := []) hx hb hml hown hts hK hA hP hD hS (a_K_goOn l D g H.size h ki wh wa wi wr wf ph rh la pa pr pf ca ci cr cf lr lf lmx n1 hw_w hw_p hw_c hw_l hmx_l) kv_X7_59 ⟨Nat.le_of_ble_eq_true rfl, Nat.le_of_ble_eq_true rfl⟩ (q0 := 0) (ci := 7) rfl rfl rfl  hl.1 (Nat.le_of_ble_eq_true rfl) dX7_finish_13 ⟨Nat.le_refl _, Nat.le_refl _⟩ rfl (fun ki_8 H locs _ _ hP hD hS => ?_)
    replace hP : va_P D vwCl (vz_w [wkW h ki_8 wh, woW g wh wa wi wr wf ph rh (la 0), pgW g ph pa pr pf, rcW g rh ca ci cr cf, plW g la lr lf lmx]) H := hP
    replace hD : va_D A (vz_w [wkW h ki_8 wh, woW g wh wa wi wr wf ph rh (la 0), pgW g ph pa pr pf, rcW g rh ca ci cr cf, plW g la lr lf lmx]) := hD
    rw [hQ]
    exact vz_vret3 hx hb hr hlk hK hP hD hS (ki_8, wf, cf) trivial rfl (Nat.le_refl 0) (Nat.le_refl 0) dX7_finish_16
theorem q1254 : Cond.fieldLink RX7 182 "WaysAtlas$World" "record" "LWaysAtlas$RunRecord;" ∈ wsL_law := mT_2 (List.mem_of_getElem? (i := 49) rfl) rfl
theorem q1255 : Cond.fieldLink RX7 186 "WaysAtlas$RunRecord" "lost" "I" ∈ wsL_law := mT_1 (List.mem_of_getElem? (i := 233) rfl) rfl
theorem dX7_endFinally_0 : decode cX7_endFinally 0 = .ok (.aload_n 0, 1) := by decide +kernel
theorem dX7_endFinally_1 : decode cX7_endFinally 1 = .ok (.iload_n 1, 1) := by decide +kernel
theorem dX7_endFinally_2 : decode cX7_endFinally 2 = .ok (.iconst 3, 1) := by decide +kernel
theorem dX7_endFinally_3 : decode cX7_endFinally 3 = .ok (.invokevirtual 147, 3) := by decide +kernel
theorem dX7_endFinally_6 : decode cX7_endFinally 6 = .ok (.istore_n 2, 1) := by decide +kernel
theorem dX7_endFinally_7 : decode cX7_endFinally 7 = .ok (.aload_n 0, 1) := by decide +kernel
theorem dX7_endFinally_8 : decode cX7_endFinally 8 = .ok (.getfield 87, 3) := by decide +kernel
theorem dX7_endFinally_11 : decode cX7_endFinally 11 = .ok (.ifCond .ne 21, 3) := by decide +kernel
theorem dX7_endFinally_14 : decode cX7_endFinally 14 = .ok (.aload_n 0, 1) := by decide +kernel
theorem dX7_endFinally_15 : decode cX7_endFinally 15 = .ok (.iload_n 2, 1) := by decide +kernel
theorem dX7_endFinally_16 : decode cX7_endFinally 16 = .ok (.putfield 87, 3) := by decide +kernel
theorem dX7_endFinally_19 : decode cX7_endFinally 19 = .ok (.aload_n 0, 1) := by decide +kernel
theorem dX7_endFinally_20 : decode cX7_endFinally 20 = .ok (.aload_n 0, 1) := by decide +kernel
theorem dX7_endFinally_21 : decode cX7_endFinally 21 = .ok (.iload_n 1, 1) := by decide +kernel
theorem dX7_endFinally_22 : decode cX7_endFinally 22 = .ok (.iconst 2, 1) := by decide +kernel
theorem dX7_endFinally_23 : decode cX7_endFinally 23 = .ok (.invokevirtual 147, 3) := by decide +kernel
theorem dX7_endFinally_26 : decode cX7_endFinally 26 = .ok (.putfield 90, 3) := by decide +kernel
theorem dX7_endFinally_29 : decode cX7_endFinally 29 = .ok (.goto 24, 3) := by decide +kernel
theorem dX7_endFinally_32 : decode cX7_endFinally 32 = .ok (.iload_n 2, 1) := by decide +kernel
theorem dX7_endFinally_33 : decode cX7_endFinally 33 = .ok (.iconst 4, 1) := by decide +kernel
theorem dX7_endFinally_34 : decode cX7_endFinally 34 = .ok (.if_icmp .ne 19, 3) := by decide +kernel
theorem dX7_endFinally_37 : decode cX7_endFinally 37 = .ok (.aload_n 0, 1) := by decide +kernel
theorem dX7_endFinally_38 : decode cX7_endFinally 38 = .ok (.getfield 9, 3) := by decide +kernel
theorem dX7_endFinally_41 : decode cX7_endFinally 41 = .ok (.getfield 182, 3) := by decide +kernel
theorem dX7_endFinally_44 : decode cX7_endFinally 44 = .ok (.dup, 1) := by decide +kernel
theorem dX7_endFinally_45 : decode cX7_endFinally 45 = .ok (.getfield 186, 3) := by decide +kernel
theorem dX7_endFinally_48 : decode cX7_endFinally 48 = .ok (.iconst 1, 1) := by decide +kernel
theorem dX7_endFinally_49 : decode cX7_endFinally 49 = .ok (.iadd, 1) := by decide +kernel
theorem dX7_endFinally_50 : decode cX7_endFinally 50 = .ok (.putfield 186, 3) := by decide +kernel
theorem dX7_endFinally_53 : decode cX7_endFinally 53 = .ok (.aload_n 0, 1) := by decide +kernel
theorem dX7_endFinally_54 : decode cX7_endFinally 54 = .ok (.iload_n 1, 1) := by decide +kernel
theorem dX7_endFinally_55 : decode cX7_endFinally 55 = .ok (.invokevirtual 59, 3) := by decide +kernel
theorem dX7_endFinally_58 : decode cX7_endFinally 58 = .ok (.return_, 1) := by decide +kernel
set_option maxHeartbeats 8000000 in
set_option maxRecDepth 100000 in
theorem a_K_endFinally (l : Launch) (D : va_G) (g : Nat → ClassId)   (sz : Nat) (h : Nat) (ki : Nat → Int32) (wh : Nat) (wa : Nat → Nat) (wi : Nat → Int32) (wr : Nat → Nat) (wf : Nat → Nat → Int32) (ph : Nat) (rh : Nat) (la : Nat → Nat) (pa : Nat → Nat) (pr : Nat → Nat) (pf : Nat → Nat → Int32) (ca : Nat → Nat) (ci : Nat → Int32) (cr : Nat → Nat) (cf : Nat → Nat → Int32) (lr : Nat → Nat) (lf : Nat → Nat → Int32) (lmx : Nat) (n1 : Int32) (hw_w : ∀ k, wr k ≤ woW_lim k) (hw_p : ∀ k, pr k ≤ pgW_lim k) (hw_c : ∀ k, cr k ≤ rcW_lim k) (hw_l : ∀ k, lr k ≤ (plW_lim lmx) k) (hmx_l : lmx ≤ 30) : vz_Mv l D (tyG g) yX7_endFinally cX7_endFinally 3 3 67 0 0 [.ref h, .int n1] sz (vz_w [wkW h ki wh, woW g wh wa wi wr wf ph rh (la 0), pgW g ph pa pr pf, rcW g rh ca ci cr cf, plW g la lr lf lmx]) (fun u : (Nat → Int32) × (Nat → Int32) => True) (fun u => vz_w [wkW h u.1 wh, woW g wh wa wi wr wf ph rh (la 0), pgW g ph pa pr pf, rcW g rh ca u.2 cr cf, plW g la lr lf lmx]) := by
  refine vz_svQ (by decide) (Nat.le_of_ble_eq_true rfl) (fun p e s m args below meth c hx hb hr hml hts hown hlk hin hK hsz A hA H locs hP hD hS ls hl Q hQ => ?_)
  have hl : lv_has ls 3 [(0, .ref h), (1, .int n1)] := hl
  have J53 : ∀ (x2_53 : Int32), ∀ (ki_53 : Nat → Int32), ∀ (ci_53 : Nat → Int32), ∀ (H : Heap) (locs : List Loc) (ls : Array Slot), va_P D vwCl (vz_w [wkW h ki_53 wh, woW g wh wa wi wr wf ph rh (la 0), pgW g ph pa pr pf, rcW g rh ca ci_53 cr cf, plW g la lr lf lmx]) H → va_D A (vz_w [wkW h ki_53 wh, woW g wh wa wi wr wf ph rh (la 0), pgW g ph pa pr pf, rcW g rh ca ci_53 cr cf, plW g la lr lf lmx]) → va_S A s.heap H locs → lv_has ls 3 [(0, .ref h), (1, .int n1), (2, .int x2_53)] → W p l e { frames := 3, cells := 0, slots := 0, locals := 67 } s m args below meth c H locs 0 0 Q (F0 m 53 ls []) := by
    intro x2_53 ki_53 ci_53 H locs ls hP hD hS hl
    refine lv_aload_n hx hb dX7_endFinally_53 rfl (lv_at hl 0 rfl) ?_
    refine lv_iload_n hx hb dX7_endFinally_54 rfl (lv_at hl 1 rfl) ?_
    refine vz_Vv3 (As := [.int n1]) (rest := []) hx hb hml hown hts hK hA hP hD hS (a_K_goOn l D g H.size h ki_53 wh wa wi wr wf ph rh la pa pr pf ca ci_53 cr cf lr lf lmx n1 hw_w hw_p hw_c hw_l hmx_l) kv_X7_59 ⟨Nat.le_of_ble_eq_true rfl, Nat.le_of_ble_eq_true rfl⟩ (q0 := 0) (ci := 7) rfl rfl rfl  hl.1 (Nat.le_of_ble_eq_true rfl) dX7_endFinally_55 ⟨Nat.le_refl _, Nat.le_refl _⟩ rfl (fun ki_1 H locs _ _ hP hD hS => ?_)
    replace hP : va_P D vwCl (vz_w [wkW h ki_1 wh, woW g wh wa wi wr wf ph rh (la 0), pgW g ph pa pr pf, rcW g rh ca ci_53 cr cf, plW g la lr lf lmx]) H := hP
    replace hD : va_D A (vz_w [wkW h ki_1 wh, woW g wh wa wi wr wf ph rh (la 0), pgW g ph pa pr pf, rcW g rh ca ci_53 cr cf, plW g la lr lf lmx]) := hD
    rw [hQ]
    exact vz_vret3 hx hb hr hlk hK hP hD hS (ki_1, ci_53) trivial rfl (Nat.le_refl 0) (Nat.le_refl 0) dX7_endFinally_58
  refine lv_aload_n hx hb dX7_endFinally_0 rfl (lv_at hl 0 rfl) ?_
  refine lv_iload_n hx hb dX7_endFinally_1 rfl (lv_at hl 1 rfl) ?_
  refine lv_iconst (v := 3) hx hb dX7_endFinally_2 (by decide) ?_
  refine vz_Vi3 (As := [.int n1, .int 3]) (rest := []) hx hb hml hown hts hK hA hP hD hS (a_K_slot l D g H.size h ki wh wa wi wr wf ph rh la pa pr pf ca ci cr cf lr lf lmx n1 3 hw_w hw_p hw_c hw_l hmx_l) kv_X7_147 ⟨Nat.le_of_ble_eq_true rfl, Nat.le_of_ble_eq_true rfl⟩ (q0 := 0) (ci := 7) rfl rfl rfl  hl.1 (Nat.le_of_ble_eq_true rfl) dX7_endFinally_3 ⟨Nat.le_refl _, Nat.le_refl _⟩ rfl (fun v1 _ H locs _ _ hP hD hS => ?_)
  refine lv_istore_n (lv' := [(2, .int v1), (0, .ref h), (1, .int n1)]) hx hb dX7_endFinally_6 rfl hl (by decide) rfl (fun ls hl => ?_)
  refine lv_aload_n hx hb dX7_endFinally_7 rfl (lv_at hl 1 rfl) ?_
  refine va_get (D := D) (ci := 7) (v := .int (ki 2)) (C := RX7) (T := TX7) (N := 7) hx hb hts inlX7 hown hK hP 0 rfl rfl 3 (by decide) (hts _ q1047) (fun _ h => h) rfl dX7_endFinally_8 ?_
  refine lv_if_ne (tgt := 32) hx hb dX7_endFinally_11 (by decide) (fun kc2 => ?_) (fun kc2 => ?_)
  · refine lv_iload_n hx hb dX7_endFinally_32 rfl (lv_at hl 0 rfl) ?_
    refine lv_iconst (v := 4) hx hb dX7_endFinally_33 (by decide) ?_
    refine lv_icmp_ne (tgt := 53) hx hb dX7_endFinally_34 (by decide) (fun kc3 => ?_) (fun kc3 => ?_)
    · exact J53 v1 ki ci H locs ls hP hD hS (lv_sub hl [1, 2, 0] rfl)
    · refine lv_aload_n hx hb dX7_endFinally_37 rfl (lv_at hl 1 rfl) ?_
      refine va_get (D := D) (ci := 7) (v := .ref wh) (C := RX7) (T := TX7) (N := 7) hx hb hts inlX7 hown hK hP 0 rfl rfl 0 (by decide) (hts _ q152) (fun _ h => h) rfl dX7_endFinally_38 ?_
      refine va_get (D := D) (ci := 8) (v := .ref rh) (C := RX8) (T := TX8) (N := 11) hx hb hts inlX8 hown hK hP 1 rfl rfl 6 (by decide) (hts _ q1254) (fun _ h => h) rfl dX7_endFinally_41 ?_
      refine lv_dup hx hb dX7_endFinally_44 rfl ?_
      refine va_get (D := D) (ci := 4) (v := .int (ci 4)) (C := RX4) (T := TX4) (N := 12) hx hb hts inlX4 hown hK hP 23 rfl rfl 9 (by decide) (hts _ q1255) (fun _ h => h) rfl dX7_endFinally_45 ?_
      refine lv_iconst (v := 1) hx hb dX7_endFinally_48 (by decide) ?_
      refine lv_iadd hx hb dX7_endFinally_49 ?_
      refine va_put (D := D) (ci := 4) (v := .int ((ci 4) + 1)) (ty := .int) (C := RX4) (T := TX4) (N := 12) hx hb hts inlX4 tyX4 tyX4_ok nmX4 hown hK hP hD hS 23 rfl rfl 9 (by decide) (hts _ q1255) (fun _ h => h) rfl (by decide +kernel) rfl rfl (Nat.le_of_ble_eq_true rfl) dX7_endFinally_50 (fun H locs hP hD hS => ?_)
      obtain ⟨ci_4, hci_4, hP, hD⟩ : ∃ ci_4 : Nat → Int32, (ci_4 = (upd ci 4 ((ci 4) + 1))) ∧ va_P D vwCl (vz_w [wkW h ki wh, woW g wh wa wi wr wf ph rh (la 0), pgW g ph pa pr pf, rcW g rh ca ci_4 cr cf, plW g la lr lf lmx]) H ∧ va_D A (vz_w [wkW h ki wh, woW g wh wa wi wr wf ph rh (la 0), pgW g ph pa pr pf, rcW g rh ca ci_4 cr cf, plW g la lr lf lmx]) := ⟨(upd ci 4 ((ci 4) + 1)), rfl, hP, hD⟩
      exact J53 v1 ki ci_4 H locs ls hP hD hS (lv_sub hl [1, 2, 0] rfl)
  · refine lv_aload_n hx hb dX7_endFinally_14 rfl (lv_at hl 1 rfl) ?_
    refine lv_iload_n hx hb dX7_endFinally_15 rfl (lv_at hl 0 rfl) ?_
    refine va_put (D := D) (ci := 7) (v := .int v1) (ty := .int) (C := RX7) (T := TX7) (N := 7) hx hb hts inlX7 tyX7 tyX7_ok nmX7 hown hK hP hD hS 0 rfl rfl 3 (by decide) (hts _ q1047) (fun _ h => h) rfl (by decide +kernel) rfl rfl (Nat.le_of_ble_eq_true rfl) dX7_endFinally_16 (fun H locs hP hD hS => ?_)
    obtain ⟨ki_5, hki_5, hP, hD⟩ : ∃ ki_5 : Nat → Int32, (ki_5 = (upd ki 2 v1)) ∧ va_P D vwCl (vz_w [wkW h ki_5 wh, woW g wh wa wi wr wf ph rh (la 0), pgW g ph pa pr pf, rcW g rh ca ci cr cf, plW g la lr lf lmx]) H ∧ va_D A (vz_w [wkW h ki_5 wh, woW g wh wa wi wr wf ph rh (la 0), pgW g ph pa pr pf, rcW g rh ca ci cr cf, plW g la lr lf lmx]) := ⟨(upd ki 2 v1), rfl, hP, hD⟩
    refine lv_aload_n hx hb dX7_endFinally_19 rfl (lv_at hl 1 rfl) ?_
    refine lv_aload_n hx hb dX7_endFinally_20 rfl (lv_at hl 1 rfl) ?_
    refine lv_iload_n hx hb dX7_endFinally_21 rfl (lv_at hl 2 rfl) ?_
    refine lv_iconst (v := 2) hx hb dX7_endFinally_22 (by decide) ?_
    refine vz_Vi3 (As := [.int n1, .int 2]) (rest := [.ref h]) hx hb hml hown hts hK hA hP hD hS (a_K_slot l D g H.size h ki_5 wh wa wi wr wf ph rh la pa pr pf ca ci cr cf lr lf lmx n1 2 hw_w hw_p hw_c hw_l hmx_l) kv_X7_147 ⟨Nat.le_of_ble_eq_true rfl, Nat.le_of_ble_eq_true rfl⟩ (q0 := 0) (ci := 7) rfl rfl rfl  hl.1 (Nat.le_of_ble_eq_true rfl) dX7_endFinally_23 ⟨Nat.le_refl _, Nat.le_refl _⟩ rfl (fun v6 _ H locs _ _ hP hD hS => ?_)
    refine va_put (D := D) (ci := 7) (v := .int v6) (ty := .int) (C := RX7) (T := TX7) (N := 7) hx hb hts inlX7 tyX7 tyX7_ok nmX7 hown hK hP hD hS 0 rfl rfl 4 (by decide) (hts _ q1151) (fun _ h => h) rfl (by decide +kernel) rfl rfl (Nat.le_of_ble_eq_true rfl) dX7_endFinally_26 (fun H locs hP hD hS => ?_)
    obtain ⟨ki_7, hki_7, hP, hD⟩ : ∃ ki_7 : Nat → Int32, (ki_7 = (upd ki_5 3 v6)) ∧ va_P D vwCl (vz_w [wkW h ki_7 wh, woW g wh wa wi wr wf ph rh (la 0), pgW g ph pa pr pf, rcW g rh ca ci cr cf, plW g la lr lf lmx]) H ∧ va_D A (vz_w [wkW h ki_7 wh, woW g wh wa wi wr wf ph rh (la 0), pgW g ph pa pr pf, rcW g rh ca ci cr cf, plW g la lr lf lmx]) := ⟨(upd ki_5 3 v6), rfl, hP, hD⟩
    refine lv_goto (tgt := 53) hx hb dX7_endFinally_29 (by decide) ?_
    exact J53 v1 ki_7 ci H locs ls hP hD hS (lv_sub hl [1, 2, 0] rfl)
theorem q1250 : Cond.methodLink RX7 160 yX7_endFinally ∈ wsL_law := mT_5 (List.mem_of_getElem? (i := 158) rfl) rfl
theorem q1251 : Cond.instanceMethod yX7_endFinally ∈ wsL_law := mT_5 (List.mem_of_getElem? (i := 160) rfl) rfl
theorem q1252 : Cond.selects RX7 yX7_endFinally yX7_endFinally ∈ wsL_law := mS_6 (q := (yX7_endFinally, 7)) (List.mem_of_getElem? (i := 6) rfl) rfl
theorem q1253 : Cond.code yX7_endFinally cX7_endFinally 3 none ∈ wsL_law := mT_5 (List.mem_of_getElem? (i := 161) rfl) rfl
theorem kv_X7_160 : vz_cv RX7 160 yX7_endFinally cX7_endFinally 3 none 1 := ⟨q1250, q1251, q1252, q51, q1253, by decide +kernel⟩
theorem q1241 : Cond.methodLink RX7 157 yX7_finish ∈ wsL_law := mT_5 (List.mem_of_getElem? (i := 150) rfl) rfl
theorem q1242 : Cond.instanceMethod yX7_finish ∈ wsL_law := mT_5 (List.mem_of_getElem? (i := 152) rfl) rfl
theorem q1243 : Cond.selects RX7 yX7_finish yX7_finish ∈ wsL_law := mS_6 (q := (yX7_finish, 7)) (List.mem_of_getElem? (i := 5) rfl) rfl
theorem q1244 : Cond.code yX7_finish cX7_finish 2 none ∈ wsL_law := mT_5 (List.mem_of_getElem? (i := 153) rfl) rfl
theorem kv_X7_157 : vz_cv RX7 157 yX7_finish cX7_finish 2 none 1 := ⟨q1241, q1242, q1243, q51, q1244, by decide +kernel⟩
theorem q1217 : Cond.methodLink RX7 151 yX7_closeNext ∈ wsL_law := mT_5 (List.mem_of_getElem? (i := 128) rfl) rfl
theorem q1218 : Cond.instanceMethod yX7_closeNext ∈ wsL_law := mT_5 (List.mem_of_getElem? (i := 130) rfl) rfl
theorem q1219 : Cond.selects RX7 yX7_closeNext yX7_closeNext ∈ wsL_law := mS_6 (q := (yX7_closeNext, 7)) (List.mem_of_getElem? (i := 3) rfl) rfl
theorem q1220 : Cond.code yX7_closeNext cX7_closeNext 3 none ∈ wsL_law := mT_5 (List.mem_of_getElem? (i := 131) rfl) rfl
theorem kv_X7_151 : vz_cv RX7 151 yX7_closeNext cX7_closeNext 3 none 1 := ⟨q1217, q1218, q1219, q51, q1220, by decide +kernel⟩
theorem q1231 : Cond.methodLink RX7 154 yX7_chooseCatch ∈ wsL_law := mT_5 (List.mem_of_getElem? (i := 141) rfl) rfl
theorem q1232 : Cond.instanceMethod yX7_chooseCatch ∈ wsL_law := mT_5 (List.mem_of_getElem? (i := 143) rfl) rfl
theorem q1233 : Cond.selects RX7 yX7_chooseCatch yX7_chooseCatch ∈ wsL_law := mS_6 (q := (yX7_chooseCatch, 7)) (List.mem_of_getElem? (i := 4) rfl) rfl
theorem q1234 : Cond.code yX7_chooseCatch cX7_chooseCatch 3 none ∈ wsL_law := mT_5 (List.mem_of_getElem? (i := 144) rfl) rfl
theorem kv_X7_154 : vz_cv RX7 154 yX7_chooseCatch cX7_chooseCatch 3 none 1 := ⟨q1231, q1232, q1233, q51, q1234, by decide +kernel⟩
theorem q1207 : Cond.methodLink RX7 148 yX7_openNext ∈ wsL_law := mT_5 (List.mem_of_getElem? (i := 119) rfl) rfl
theorem q1208 : Cond.instanceMethod yX7_openNext ∈ wsL_law := mT_5 (List.mem_of_getElem? (i := 121) rfl) rfl
theorem q1209 : Cond.selects RX7 yX7_openNext yX7_openNext ∈ wsL_law := mS_6 (q := (yX7_openNext, 7)) (List.mem_of_getElem? (i := 2) rfl) rfl
theorem q1210 : Cond.code yX7_openNext cX7_openNext 3 none ∈ wsL_law := mT_5 (List.mem_of_getElem? (i := 122) rfl) rfl
theorem kv_X7_148 : vz_cv RX7 148 yX7_openNext cX7_openNext 3 none 1 := ⟨q1207, q1208, q1209, q51, q1210, by decide +kernel⟩
theorem dX7_endPhase_0 : decode cX7_endPhase 0 = .ok (.aload_n 0, 1) := by decide +kernel
theorem dX7_endPhase_1 : decode cX7_endPhase 1 = .ok (.iload_n 1, 1) := by decide +kernel
theorem dX7_endPhase_2 : decode cX7_endPhase 2 = .ok (.bipush 6, 2) := by decide +kernel
theorem dX7_endPhase_4 : decode cX7_endPhase 4 = .ok (.invokevirtual 147, 3) := by decide +kernel
theorem dX7_endPhase_7 : decode cX7_endPhase 7 = .ok (.tableswitch 82 0 3 #[29, 37, 48, 74], 29) := by decide +kernel
theorem dX7_endPhase_36 : decode cX7_endPhase 36 = .ok (.aload_n 0, 1) := by decide +kernel
theorem dX7_endPhase_37 : decode cX7_endPhase 37 = .ok (.iload_n 1, 1) := by decide +kernel
theorem dX7_endPhase_38 : decode cX7_endPhase 38 = .ok (.invokevirtual 148, 3) := by decide +kernel
theorem dX7_endPhase_41 : decode cX7_endPhase 41 = .ok (.goto 53, 3) := by decide +kernel
theorem dX7_endPhase_44 : decode cX7_endPhase 44 = .ok (.aload_n 0, 1) := by decide +kernel
theorem dX7_endPhase_45 : decode cX7_endPhase 45 = .ok (.iload_n 1, 1) := by decide +kernel
theorem dX7_endPhase_46 : decode cX7_endPhase 46 = .ok (.bipush 6, 2) := by decide +kernel
theorem dX7_endPhase_48 : decode cX7_endPhase 48 = .ok (.iconst 2, 1) := by decide +kernel
theorem dX7_endPhase_49 : decode cX7_endPhase 49 = .ok (.invokevirtual 143, 3) := by decide +kernel
theorem dX7_endPhase_52 : decode cX7_endPhase 52 = .ok (.goto 42, 3) := by decide +kernel
theorem dX7_endPhase_55 : decode cX7_endPhase 55 = .ok (.aload_n 0, 1) := by decide +kernel
theorem dX7_endPhase_56 : decode cX7_endPhase 56 = .ok (.iload_n 1, 1) := by decide +kernel
theorem dX7_endPhase_57 : decode cX7_endPhase 57 = .ok (.bipush 7, 2) := by decide +kernel
theorem dX7_endPhase_59 : decode cX7_endPhase 59 = .ok (.invokevirtual 147, 3) := by decide +kernel
theorem dX7_endPhase_62 : decode cX7_endPhase 62 = .ok (.ifCond .le 11, 3) := by decide +kernel
theorem dX7_endPhase_65 : decode cX7_endPhase 65 = .ok (.aload_n 0, 1) := by decide +kernel
theorem dX7_endPhase_66 : decode cX7_endPhase 66 = .ok (.iload_n 1, 1) := by decide +kernel
theorem dX7_endPhase_67 : decode cX7_endPhase 67 = .ok (.invokevirtual 151, 3) := by decide +kernel
theorem dX7_endPhase_70 : decode cX7_endPhase 70 = .ok (.goto 24, 3) := by decide +kernel
theorem dX7_endPhase_73 : decode cX7_endPhase 73 = .ok (.aload_n 0, 1) := by decide +kernel
theorem dX7_endPhase_74 : decode cX7_endPhase 74 = .ok (.iload_n 1, 1) := by decide +kernel
theorem dX7_endPhase_75 : decode cX7_endPhase 75 = .ok (.invokevirtual 154, 3) := by decide +kernel
theorem dX7_endPhase_78 : decode cX7_endPhase 78 = .ok (.goto 16, 3) := by decide +kernel
theorem dX7_endPhase_81 : decode cX7_endPhase 81 = .ok (.aload_n 0, 1) := by decide +kernel
theorem dX7_endPhase_82 : decode cX7_endPhase 82 = .ok (.iload_n 1, 1) := by decide +kernel
theorem dX7_endPhase_83 : decode cX7_endPhase 83 = .ok (.invokevirtual 157, 3) := by decide +kernel
theorem dX7_endPhase_86 : decode cX7_endPhase 86 = .ok (.goto 8, 3) := by decide +kernel
theorem dX7_endPhase_89 : decode cX7_endPhase 89 = .ok (.aload_n 0, 1) := by decide +kernel
theorem dX7_endPhase_90 : decode cX7_endPhase 90 = .ok (.iload_n 1, 1) := by decide +kernel
theorem dX7_endPhase_91 : decode cX7_endPhase 91 = .ok (.invokevirtual 160, 3) := by decide +kernel
theorem dX7_endPhase_94 : decode cX7_endPhase 94 = .ok (.return_, 1) := by decide +kernel
set_option maxHeartbeats 8000000 in
set_option maxRecDepth 100000 in
theorem a_K_endPhase (l : Launch) (D : va_G) (g : Nat → ClassId)   (sz : Nat) (h : Nat) (ki : Nat → Int32) (wh : Nat) (wa : Nat → Nat) (wi : Nat → Int32) (wr : Nat → Nat) (wf : Nat → Nat → Int32) (ph : Nat) (rh : Nat) (la : Nat → Nat) (pa : Nat → Nat) (pr : Nat → Nat) (pf : Nat → Nat → Int32) (ca : Nat → Nat) (ci : Nat → Int32) (cr : Nat → Nat) (cf : Nat → Nat → Int32) (lr : Nat → Nat) (lf : Nat → Nat → Int32) (lmx : Nat) (n1 : Int32) (hw_w : ∀ k, wr k ≤ woW_lim k) (hw_p : ∀ k, pr k ≤ pgW_lim k) (hw_c : ∀ k, cr k ≤ rcW_lim k) (hw_l : ∀ k, lr k ≤ (plW_lim lmx) k) (hmx_l : lmx ≤ 30) : vz_Mv l D (tyG g) yX7_endPhase cX7_endPhase 2 4 94 0 0 [.ref h, .int n1] sz (vz_w [wkW h ki wh, woW g wh wa wi wr wf ph rh (la 0), pgW g ph pa pr pf, rcW g rh ca ci cr cf, plW g la lr lf lmx]) (fun u : (Nat → Int32) × (Nat → Int32) × (Nat → Nat) × (Nat → Nat → Int32) × (Nat → Int32) × (Nat → Nat) × (Nat → Nat → Int32) => (∀ k, u.2.2.1 k ≤ woW_lim k) ∧ (∀ k, u.2.2.2.2.2.1 k ≤ rcW_lim k)) (fun u => vz_w [wkW h u.1 wh, woW g wh wa u.2.1 u.2.2.1 u.2.2.2.1 ph rh (la 0), pgW g ph pa pr pf, rcW g rh ca u.2.2.2.2.1 u.2.2.2.2.2.1 u.2.2.2.2.2.2, plW g la lr lf lmx]) := by
  refine vz_svQ (by decide) (Nat.le_of_ble_eq_true rfl) (fun p e s m args below meth c hx hb hr hml hts hown hlk hin hK hsz A hA H locs hP hD hS ls hl Q hQ => ?_)
  have hl : lv_has ls 2 [(0, .ref h), (1, .int n1)] := hl
  have J94 : ∀ (ki_94 : Nat → Int32), ∀ (wi_94 : Nat → Int32), ∀ (wr_94 : Nat → Nat), ∀ (wf_94 : Nat → Nat → Int32), ∀ (ci_94 : Nat → Int32), ∀ (cr_94 : Nat → Nat), ∀ (cf_94 : Nat → Nat → Int32), (∀ k, wr_94 k ≤ woW_lim k) → (∀ k, cr_94 k ≤ rcW_lim k) → ∀ (H : Heap) (locs : List Loc) (ls : Array Slot), va_P D vwCl (vz_w [wkW h ki_94 wh, woW g wh wa wi_94 wr_94 wf_94 ph rh (la 0), pgW g ph pa pr pf, rcW g rh ca ci_94 cr_94 cf_94, plW g la lr lf lmx]) H → va_D A (vz_w [wkW h ki_94 wh, woW g wh wa wi_94 wr_94 wf_94 ph rh (la 0), pgW g ph pa pr pf, rcW g rh ca ci_94 cr_94 cf_94, plW g la lr lf lmx]) → va_S A s.heap H locs → lv_has ls 2 [(0, .ref h), (1, .int n1)] → W p l e { frames := 4, cells := 0, slots := 0, locals := 94 } s m args below meth c H locs 0 0 Q (F0 m 94 ls []) := by
    intro ki_94 wi_94 wr_94 wf_94 ci_94 cr_94 cf_94 hw_w_94 hw_c_94 H locs ls hP hD hS hl
    rw [hQ]
    exact vz_vret3 hx hb hr hlk hK hP hD hS (ki_94, wi_94, wr_94, wf_94, ci_94, cr_94, cf_94) (⟨hw_w_94, hw_c_94⟩) rfl (Nat.le_refl 0) (Nat.le_refl 0) dX7_endPhase_94
  refine lv_aload_n hx hb dX7_endPhase_0 rfl (lv_at hl 0 rfl) ?_
  refine lv_iload_n hx hb dX7_endPhase_1 rfl (lv_at hl 1 rfl) ?_
  refine lv_bipush (v := 6) hx hb dX7_endPhase_2 (by decide) ?_
  refine vz_Vi3 (As := [.int n1, .int 6]) (rest := []) hx hb hml hown hts hK hA hP hD hS (a_K_slot l D g H.size h ki wh wa wi wr wf ph rh la pa pr pf ca ci cr cf lr lf lmx n1 6 hw_w hw_p hw_c hw_l hmx_l) kv_X7_147 ⟨Nat.le_of_ble_eq_true rfl, Nat.le_of_ble_eq_true rfl⟩ (q0 := 0) (ci := 7) rfl rfl rfl  hl.1 (Nat.le_of_ble_eq_true rfl) dX7_endPhase_4 ⟨Nat.le_refl _, Nat.le_refl _⟩ rfl (fun v1 _ H locs _ _ hP hD hS => ?_)
  have S7_36 : W p l e { frames := 4, cells := 0, slots := 0, locals := 94 } s m args below meth c H locs 0 0 Q (F0 m 36 ls []) := by
    refine lv_aload_n hx hb dX7_endPhase_36 rfl (lv_at hl 0 rfl) ?_
    refine lv_iload_n hx hb dX7_endPhase_37 rfl (lv_at hl 1 rfl) ?_
    refine vz_Vv3 (As := [.int n1]) (rest := []) hx hb hml hown hts hK hA hP hD hS (a_K_openNext l D g H.size h ki wh wa wi wr wf ph rh la pa pr pf ca ci cr cf lr lf lmx n1 hw_w hw_p hw_c hw_l hmx_l) kv_X7_148 ⟨Nat.le_of_ble_eq_true rfl, Nat.le_of_ble_eq_true rfl⟩ (q0 := 0) (ci := 7) rfl rfl rfl  hl.1 (Nat.le_of_ble_eq_true rfl) dX7_endPhase_38 ⟨Nat.le_refl _, Nat.le_refl _⟩ rfl (fun ⟨ki_2, wi_3, wr_4, wf_5, ci_6, cr_7, cf_8⟩ H locs ⟨hw_9, hw_10⟩ _ hP hD hS => ?_)
    try dsimp only at hw_9 hw_10
    replace hP : va_P D vwCl (vz_w [wkW h ki_2 wh, woW g wh wa wi_3 wr_4 wf_5 ph rh (la 0), pgW g ph pa pr pf, rcW g rh ca ci_6 cr_7 cf_8, plW g la lr lf lmx]) H := hP
    replace hD : va_D A (vz_w [wkW h ki_2 wh, woW g wh wa wi_3 wr_4 wf_5 ph rh (la 0), pgW g ph pa pr pf, rcW g rh ca ci_6 cr_7 cf_8, plW g la lr lf lmx]) := hD
    refine lv_goto (tgt := 94) hx hb dX7_endPhase_41 (by decide) ?_
    exact J94 ki_2 wi_3 wr_4 wf_5 ci_6 cr_7 cf_8 hw_9 hw_10 H locs ls hP hD hS (lv_sub hl [0, 1] rfl)
  have S7_44 : W p l e { frames := 4, cells := 0, slots := 0, locals := 94 } s m args below meth c H locs 0 0 Q (F0 m 44 ls []) := by
    refine lv_aload_n hx hb dX7_endPhase_44 rfl (lv_at hl 0 rfl) ?_
    refine lv_iload_n hx hb dX7_endPhase_45 rfl (lv_at hl 1 rfl) ?_
    refine lv_bipush (v := 6) hx hb dX7_endPhase_46 (by decide) ?_
    refine lv_iconst (v := 2) hx hb dX7_endPhase_48 (by decide) ?_
    refine vz_Vv3 (As := [.int n1, .int 6, .int 2]) (rest := []) hx hb hml hown hts hK hA hP hD hS (a_K_setSlot l D g H.size h ki wh wa wi wr wf ph rh la pa pr pf ca ci cr cf lr lf lmx n1 6 2 hw_w hw_p hw_c hw_l hmx_l) kv_X7_143 ⟨Nat.le_of_ble_eq_true rfl, Nat.le_of_ble_eq_true rfl⟩ (q0 := 0) (ci := 7) rfl rfl rfl  hl.1 (Nat.le_of_ble_eq_true rfl) dX7_endPhase_49 ⟨Nat.le_refl _, Nat.le_refl _⟩ rfl (fun wf_11 H locs _ _ hP hD hS => ?_)
    replace hP : va_P D vwCl (vz_w [wkW h ki wh, woW g wh wa wi wr wf_11 ph rh (la 0), pgW g ph pa pr pf, rcW g rh ca ci cr cf, plW g la lr lf lmx]) H := hP
    replace hD : va_D A (vz_w [wkW h ki wh, woW g wh wa wi wr wf_11 ph rh (la 0), pgW g ph pa pr pf, rcW g rh ca ci cr cf, plW g la lr lf lmx]) := hD
    refine lv_goto (tgt := 94) hx hb dX7_endPhase_52 (by decide) ?_
    exact J94 ki wi wr wf_11 ci cr cf hw_w hw_c H locs ls hP hD hS (lv_sub hl [0, 1] rfl)
  have S7_55 : W p l e { frames := 4, cells := 0, slots := 0, locals := 94 } s m args below meth c H locs 0 0 Q (F0 m 55 ls []) := by
    refine lv_aload_n hx hb dX7_endPhase_55 rfl (lv_at hl 0 rfl) ?_
    refine lv_iload_n hx hb dX7_endPhase_56 rfl (lv_at hl 1 rfl) ?_
    refine lv_bipush (v := 7) hx hb dX7_endPhase_57 (by decide) ?_
    refine vz_Vi3 (As := [.int n1, .int 7]) (rest := []) hx hb hml hown hts hK hA hP hD hS (a_K_slot l D g H.size h ki wh wa wi wr wf ph rh la pa pr pf ca ci cr cf lr lf lmx n1 7 hw_w hw_p hw_c hw_l hmx_l) kv_X7_147 ⟨Nat.le_of_ble_eq_true rfl, Nat.le_of_ble_eq_true rfl⟩ (q0 := 0) (ci := 7) rfl rfl rfl  hl.1 (Nat.le_of_ble_eq_true rfl) dX7_endPhase_59 ⟨Nat.le_refl _, Nat.le_refl _⟩ rfl (fun v12 _ H locs _ _ hP hD hS => ?_)
    refine lv_if_le (tgt := 73) hx hb dX7_endPhase_62 (by decide) (fun kc13 => ?_) (fun kc13 => ?_)
    · refine lv_aload_n hx hb dX7_endPhase_73 rfl (lv_at hl 0 rfl) ?_
      refine lv_iload_n hx hb dX7_endPhase_74 rfl (lv_at hl 1 rfl) ?_
      refine vz_Vv3 (As := [.int n1]) (rest := []) hx hb hml hown hts hK hA hP hD hS (a_K_chooseCatch l D g H.size h ki wh wa wi wr wf ph rh la pa pr pf ca ci cr cf lr lf lmx n1 hw_w hw_p hw_c hw_l hmx_l) kv_X7_154 ⟨Nat.le_of_ble_eq_true rfl, Nat.le_of_ble_eq_true rfl⟩ (q0 := 0) (ci := 7) rfl rfl rfl  hl.1 (Nat.le_of_ble_eq_true rfl) dX7_endPhase_75 ⟨Nat.le_refl _, Nat.le_refl _⟩ rfl (fun ⟨ki_14, wf_15⟩ H locs _ _ hP hD hS => ?_)
      replace hP : va_P D vwCl (vz_w [wkW h ki_14 wh, woW g wh wa wi wr wf_15 ph rh (la 0), pgW g ph pa pr pf, rcW g rh ca ci cr cf, plW g la lr lf lmx]) H := hP
      replace hD : va_D A (vz_w [wkW h ki_14 wh, woW g wh wa wi wr wf_15 ph rh (la 0), pgW g ph pa pr pf, rcW g rh ca ci cr cf, plW g la lr lf lmx]) := hD
      refine lv_goto (tgt := 94) hx hb dX7_endPhase_78 (by decide) ?_
      exact J94 ki_14 wi wr wf_15 ci cr cf hw_w hw_c H locs ls hP hD hS (lv_sub hl [0, 1] rfl)
    · refine lv_aload_n hx hb dX7_endPhase_65 rfl (lv_at hl 0 rfl) ?_
      refine lv_iload_n hx hb dX7_endPhase_66 rfl (lv_at hl 1 rfl) ?_
      refine vz_Vv3 (As := [.int n1]) (rest := []) hx hb hml hown hts hK hA hP hD hS (a_K_closeNext l D g H.size h ki wh wa wi wr wf ph rh la pa pr pf ca ci cr cf lr lf lmx n1 hw_w hw_p hw_c hw_l hmx_l) kv_X7_151 ⟨Nat.le_of_ble_eq_true rfl, Nat.le_of_ble_eq_true rfl⟩ (q0 := 0) (ci := 7) rfl rfl rfl  hl.1 (Nat.le_of_ble_eq_true rfl) dX7_endPhase_67 ⟨Nat.le_refl _, Nat.le_refl _⟩ rfl (fun ⟨ki_16, wi_17, wr_18, wf_19, ci_20, cr_21, cf_22⟩ H locs ⟨hw_23, hw_24⟩ _ hP hD hS => ?_)
      try dsimp only at hw_23 hw_24
      replace hP : va_P D vwCl (vz_w [wkW h ki_16 wh, woW g wh wa wi_17 wr_18 wf_19 ph rh (la 0), pgW g ph pa pr pf, rcW g rh ca ci_20 cr_21 cf_22, plW g la lr lf lmx]) H := hP
      replace hD : va_D A (vz_w [wkW h ki_16 wh, woW g wh wa wi_17 wr_18 wf_19 ph rh (la 0), pgW g ph pa pr pf, rcW g rh ca ci_20 cr_21 cf_22, plW g la lr lf lmx]) := hD
      refine lv_goto (tgt := 94) hx hb dX7_endPhase_70 (by decide) ?_
      exact J94 ki_16 wi_17 wr_18 wf_19 ci_20 cr_21 cf_22 hw_23 hw_24 H locs ls hP hD hS (lv_sub hl [0, 1] rfl)
  have S7_81 : W p l e { frames := 4, cells := 0, slots := 0, locals := 94 } s m args below meth c H locs 0 0 Q (F0 m 81 ls []) := by
    refine lv_aload_n hx hb dX7_endPhase_81 rfl (lv_at hl 0 rfl) ?_
    refine lv_iload_n hx hb dX7_endPhase_82 rfl (lv_at hl 1 rfl) ?_
    refine vz_Vv3 (As := [.int n1]) (rest := []) hx hb hml hown hts hK hA hP hD hS (a_K_finish l D g H.size h ki wh wa wi wr wf ph rh la pa pr pf ca ci cr cf lr lf lmx n1 hw_w hw_p hw_c hw_l hmx_l) kv_X7_157 ⟨Nat.le_of_ble_eq_true rfl, Nat.le_of_ble_eq_true rfl⟩ (q0 := 0) (ci := 7) rfl rfl rfl  hl.1 (Nat.le_of_ble_eq_true rfl) dX7_endPhase_83 ⟨Nat.le_refl _, Nat.le_refl _⟩ rfl (fun ⟨ki_25, wf_26, cf_27⟩ H locs _ _ hP hD hS => ?_)
    replace hP : va_P D vwCl (vz_w [wkW h ki_25 wh, woW g wh wa wi wr wf_26 ph rh (la 0), pgW g ph pa pr pf, rcW g rh ca ci cr cf_27, plW g la lr lf lmx]) H := hP
    replace hD : va_D A (vz_w [wkW h ki_25 wh, woW g wh wa wi wr wf_26 ph rh (la 0), pgW g ph pa pr pf, rcW g rh ca ci cr cf_27, plW g la lr lf lmx]) := hD
    refine lv_goto (tgt := 94) hx hb dX7_endPhase_86 (by decide) ?_
    exact J94 ki_25 wi wr wf_26 ci cr cf_27 hw_w hw_c H locs ls hP hD hS (lv_sub hl [0, 1] rfl)
  have S7_89 : W p l e { frames := 4, cells := 0, slots := 0, locals := 94 } s m args below meth c H locs 0 0 Q (F0 m 89 ls []) := by
    refine lv_aload_n hx hb dX7_endPhase_89 rfl (lv_at hl 0 rfl) ?_
    refine lv_iload_n hx hb dX7_endPhase_90 rfl (lv_at hl 1 rfl) ?_
    refine vz_Vv3 (As := [.int n1]) (rest := []) hx hb hml hown hts hK hA hP hD hS (a_K_endFinally l D g H.size h ki wh wa wi wr wf ph rh la pa pr pf ca ci cr cf lr lf lmx n1 hw_w hw_p hw_c hw_l hmx_l) kv_X7_160 ⟨Nat.le_of_ble_eq_true rfl, Nat.le_of_ble_eq_true rfl⟩ (q0 := 0) (ci := 7) rfl rfl rfl  hl.1 (Nat.le_of_ble_eq_true rfl) dX7_endPhase_91 ⟨Nat.le_refl _, Nat.le_refl _⟩ rfl (fun ⟨ki_28, ci_29⟩ H locs _ _ hP hD hS => ?_)
    replace hP : va_P D vwCl (vz_w [wkW h ki_28 wh, woW g wh wa wi wr wf ph rh (la 0), pgW g ph pa pr pf, rcW g rh ca ci_29 cr cf, plW g la lr lf lmx]) H := hP
    replace hD : va_D A (vz_w [wkW h ki_28 wh, woW g wh wa wi wr wf ph rh (la 0), pgW g ph pa pr pf, rcW g rh ca ci_29 cr cf, plW g la lr lf lmx]) := hD
    exact J94 ki_28 wi wr wf ci_29 cr cf hw_w hw_c H locs ls hP hD hS (lv_sub hl [0, 1] rfl)
  refine vz_tsw (td := 89) hx hb dX7_endPhase_7 (by decide) [36, 44, 55, 81] (by decide) (by decide) (fun hv => ?_) (fun k t hk hv => ?_)
  · exact S7_89
  · have hm := List.mem_of_getElem? hk
    simp only [List.mem_cons, List.not_mem_nil, or_false] at hm
    rcases hm with rfl | rfl | rfl | rfl
    · exact S7_36
    · exact S7_44
    · exact S7_55
    · exact S7_81
theorem q1039 : Cond.constant RX7 26 (1000000) ∈ wsL_law := mT_4 (List.mem_of_getElem? (i := 230) rfl) rfl
theorem q1067 : Cond.methodLink RX7 27 yX8_isRunning ∈ wsL_law := mT_4 (List.mem_of_getElem? (i := 231) rfl) rfl
theorem q1068 : Cond.instanceMethod yX8_isRunning ∈ wsL_law := mT_4 (List.mem_of_getElem? (i := 232) rfl) rfl
theorem q1069 : Cond.selects RX8 yX8_isRunning yX8_isRunning ∈ wsL_law := mT_4 (List.mem_of_getElem? (i := 233) rfl) rfl
theorem q1070 : Cond.code yX8_isRunning cX8_isRunning 1 (some .boolean) ∈ wsL_law := mT_4 (List.mem_of_getElem? (i := 234) rfl) rfl
theorem kv_X7_27 : vz_cv RX7 27 yX8_isRunning cX8_isRunning 1 (some .boolean) 0 := ⟨q1067, q1068, q1069, q47, q1070, by decide +kernel⟩
theorem q1072 : Cond.methodLink RX7 33 yX7_begin ∈ wsL_law := mT_4 (List.mem_of_getElem? (i := 235) rfl) rfl
theorem q1073 : Cond.instanceMethod yX7_begin ∈ wsL_law := mT_4 (List.mem_of_getElem? (i := 237) rfl) rfl
theorem q1074 : Cond.selects RX7 yX7_begin yX7_begin ∈ wsL_law := mS_5 (q := (yX7_begin, 7)) (List.mem_of_getElem? (i := 2) rfl) rfl
theorem q1075 : Cond.code yX7_begin cX7_begin 2 none ∈ wsL_law := mT_4 (List.mem_of_getElem? (i := 238) rfl) rfl
theorem kv_X7_33 : vz_cv RX7 33 yX7_begin cX7_begin 2 none 1 := ⟨q1072, q1073, q1074, q51, q1075, by decide +kernel⟩
theorem q1120 : Cond.methodLink RX7 40 yX7_execute ∈ wsL_law := mT_5 (List.mem_of_getElem? (i := 37) rfl) rfl
theorem q1121 : Cond.instanceMethod yX7_execute ∈ wsL_law := mT_5 (List.mem_of_getElem? (i := 39) rfl) rfl
theorem q1122 : Cond.selects RX7 yX7_execute yX7_execute ∈ wsL_law := mS_5 (q := (yX7_execute, 7)) (List.mem_of_getElem? (i := 7) rfl) rfl
theorem q1123 : Cond.code yX7_execute cX7_execute 4 none ∈ wsL_law := mT_5 (List.mem_of_getElem? (i := 40) rfl) rfl
theorem kv_X7_40 : vz_cv RX7 40 yX7_execute cX7_execute 4 none 1 := ⟨q1120, q1121, q1122, q51, q1123, by decide +kernel⟩
theorem q1188 : Cond.methodLink RX7 46 yX7_leave ∈ wsL_law := mT_5 (List.mem_of_getElem? (i := 102) rfl) rfl
theorem q1189 : Cond.instanceMethod yX7_leave ∈ wsL_law := mT_5 (List.mem_of_getElem? (i := 104) rfl) rfl
theorem q1190 : Cond.selects RX7 yX7_leave yX7_leave ∈ wsL_law := mS_6 (q := (yX7_leave, 7)) (List.mem_of_getElem? (i := 0) rfl) rfl
theorem q1191 : Cond.code yX7_leave cX7_leave 3 none ∈ wsL_law := mT_5 (List.mem_of_getElem? (i := 105) rfl) rfl
theorem kv_X7_46 : vz_cv RX7 46 yX7_leave cX7_leave 3 none 0 := ⟨q1188, q1189, q1190, q51, q1191, by decide +kernel⟩
theorem q1203 : Cond.methodLink RX7 53 yX7_endPhase ∈ wsL_law := mT_5 (List.mem_of_getElem? (i := 115) rfl) rfl
theorem q1204 : Cond.instanceMethod yX7_endPhase ∈ wsL_law := mT_5 (List.mem_of_getElem? (i := 117) rfl) rfl
theorem q1205 : Cond.selects RX7 yX7_endPhase yX7_endPhase ∈ wsL_law := mS_6 (q := (yX7_endPhase, 7)) (List.mem_of_getElem? (i := 1) rfl) rfl
theorem q1206 : Cond.code yX7_endPhase cX7_endPhase 2 none ∈ wsL_law := mT_5 (List.mem_of_getElem? (i := 118) rfl) rfl
theorem kv_X7_53 : vz_cv RX7 53 yX7_endPhase cX7_endPhase 2 none 1 := ⟨q1203, q1204, q1205, q51, q1206, by decide +kernel⟩
theorem q1256 : Cond.methodLink RX7 56 yX7_endTurn ∈ wsL_law := mT_5 (List.mem_of_getElem? (i := 162) rfl) rfl
theorem q1257 : Cond.instanceMethod yX7_endTurn ∈ wsL_law := mT_5 (List.mem_of_getElem? (i := 164) rfl) rfl
theorem q1258 : Cond.selects RX7 yX7_endTurn yX7_endTurn ∈ wsL_law := mS_6 (q := (yX7_endTurn, 7)) (List.mem_of_getElem? (i := 7) rfl) rfl
theorem q1259 : Cond.code yX7_endTurn cX7_endTurn 2 none ∈ wsL_law := mT_5 (List.mem_of_getElem? (i := 165) rfl) rfl
theorem kv_X7_56 : vz_cv RX7 56 yX7_endTurn cX7_endTurn 2 none 1 := ⟨q1256, q1257, q1258, q51, q1259, by decide +kernel⟩
theorem dX7_walk_0 : decode cX7_walk 0 = .ok (.aload_n 0, 1) := by decide +kernel
theorem dX7_walk_1 : decode cX7_walk 1 = .ok (.iload_n 1, 1) := by decide +kernel
theorem dX7_walk_2 : decode cX7_walk 2 = .ok (.iload_n 2, 1) := by decide +kernel
theorem dX7_walk_3 : decode cX7_walk 3 = .ok (.iload_n 3, 1) := by decide +kernel
theorem dX7_walk_4 : decode cX7_walk 4 = .ok (.invokevirtual 22, 3) := by decide +kernel
theorem dX7_walk_7 : decode cX7_walk 7 = .ok (.iconst 0, 1) := by decide +kernel
theorem dX7_walk_8 : decode cX7_walk 8 = .ok (.istore 4, 2) := by decide +kernel
theorem dX7_walk_10 : decode cX7_walk 10 = .ok (.iload 4, 2) := by decide +kernel
theorem dX7_walk_12 : decode cX7_walk 12 = .ok (.ldc 26, 2) := by decide +kernel
theorem dX7_walk_14 : decode cX7_walk 14 = .ok (.if_icmp .ge 155, 3) := by decide +kernel
theorem dX7_walk_17 : decode cX7_walk 17 = .ok (.aload_n 0, 1) := by decide +kernel
theorem dX7_walk_18 : decode cX7_walk 18 = .ok (.getfield 9, 3) := by decide +kernel
theorem dX7_walk_21 : decode cX7_walk 21 = .ok (.invokevirtual 27, 3) := by decide +kernel
theorem dX7_walk_24 : decode cX7_walk 24 = .ok (.ifCond .eq 145, 3) := by decide +kernel
theorem dX7_walk_27 : decode cX7_walk 27 = .ok (.aload_n 0, 1) := by decide +kernel
theorem dX7_walk_28 : decode cX7_walk 28 = .ok (.getfield 15, 3) := by decide +kernel
theorem dX7_walk_31 : decode cX7_walk 31 = .ok (.bipush (-9), 2) := by decide +kernel
theorem dX7_walk_33 : decode cX7_walk 33 = .ok (.if_icmp .ne 10, 3) := by decide +kernel
theorem dX7_walk_36 : decode cX7_walk 36 = .ok (.aload_n 0, 1) := by decide +kernel
theorem dX7_walk_37 : decode cX7_walk 37 = .ok (.getfield 19, 3) := by decide +kernel
theorem dX7_walk_40 : decode cX7_walk 40 = .ok (.goto 7, 3) := by decide +kernel
theorem dX7_walk_43 : decode cX7_walk 43 = .ok (.aload_n 0, 1) := by decide +kernel
theorem dX7_walk_44 : decode cX7_walk 44 = .ok (.getfield 15, 3) := by decide +kernel
theorem dX7_walk_47 : decode cX7_walk 47 = .ok (.istore 5, 2) := by decide +kernel
theorem dX7_walk_49 : decode cX7_walk 49 = .ok (.aload_n 0, 1) := by decide +kernel
theorem dX7_walk_50 : decode cX7_walk 50 = .ok (.getfield 15, 3) := by decide +kernel
theorem dX7_walk_53 : decode cX7_walk 53 = .ok (.bipush (-9), 2) := by decide +kernel
theorem dX7_walk_55 : decode cX7_walk 55 = .ok (.if_icmp .eq 44, 3) := by decide +kernel
theorem dX7_walk_58 : decode cX7_walk 58 = .ok (.aload_n 0, 1) := by decide +kernel
theorem dX7_walk_59 : decode cX7_walk 59 = .ok (.iload 5, 2) := by decide +kernel
theorem dX7_walk_61 : decode cX7_walk 61 = .ok (.invokevirtual 33, 3) := by decide +kernel
theorem dX7_walk_64 : decode cX7_walk 64 = .ok (.aload_n 0, 1) := by decide +kernel
theorem dX7_walk_65 : decode cX7_walk 65 = .ok (.getfield 9, 3) := by decide +kernel
theorem dX7_walk_68 : decode cX7_walk 68 = .ok (.invokevirtual 27, 3) := by decide +kernel
theorem dX7_walk_71 : decode cX7_walk 71 = .ok (.ifCond .eq 21, 3) := by decide +kernel
theorem dX7_walk_74 : decode cX7_walk 74 = .ok (.aload_n 0, 1) := by decide +kernel
theorem dX7_walk_75 : decode cX7_walk 75 = .ok (.getfield 9, 3) := by decide +kernel
theorem dX7_walk_78 : decode cX7_walk 78 = .ok (.getfield 37, 3) := by decide +kernel
theorem dX7_walk_81 : decode cX7_walk 81 = .ok (.bipush (-9), 2) := by decide +kernel
theorem dX7_walk_83 : decode cX7_walk 83 = .ok (.if_icmp .ne 9, 3) := by decide +kernel
theorem dX7_walk_86 : decode cX7_walk 86 = .ok (.aload_n 0, 1) := by decide +kernel
theorem dX7_walk_87 : decode cX7_walk 87 = .ok (.iload 5, 2) := by decide +kernel
theorem dX7_walk_89 : decode cX7_walk 89 = .ok (.invokevirtual 40, 3) := by decide +kernel
theorem dX7_walk_92 : decode cX7_walk 92 = .ok (.aload_n 0, 1) := by decide +kernel
theorem dX7_walk_93 : decode cX7_walk 93 = .ok (.invokevirtual 43, 3) := by decide +kernel
theorem dX7_walk_96 : decode cX7_walk 96 = .ok (.goto 67, 3) := by decide +kernel
theorem dX7_walk_99 : decode cX7_walk 99 = .ok (.aload_n 0, 1) := by decide +kernel
theorem dX7_walk_100 : decode cX7_walk 100 = .ok (.getfield 19, 3) := by decide +kernel
theorem dX7_walk_103 : decode cX7_walk 103 = .ok (.bipush (-9), 2) := by decide +kernel
theorem dX7_walk_105 : decode cX7_walk 105 = .ok (.if_icmp .ne 10, 3) := by decide +kernel
theorem dX7_walk_108 : decode cX7_walk 108 = .ok (.aload_n 0, 1) := by decide +kernel
theorem dX7_walk_109 : decode cX7_walk 109 = .ok (.invokevirtual 46, 3) := by decide +kernel
theorem dX7_walk_112 : decode cX7_walk 112 = .ok (.goto 51, 3) := by decide +kernel
theorem dX7_walk_115 : decode cX7_walk 115 = .ok (.aload_n 0, 1) := by decide +kernel
theorem dX7_walk_116 : decode cX7_walk 116 = .ok (.iload 5, 2) := by decide +kernel
theorem dX7_walk_118 : decode cX7_walk 118 = .ok (.iconst 0, 1) := by decide +kernel
theorem dX7_walk_119 : decode cX7_walk 119 = .ok (.invokevirtual 49, 3) := by decide +kernel
theorem dX7_walk_122 : decode cX7_walk 122 = .ok (.bipush 15, 2) := by decide +kernel
theorem dX7_walk_124 : decode cX7_walk 124 = .ok (.if_icmp .ne 12, 3) := by decide +kernel
theorem dX7_walk_127 : decode cX7_walk 127 = .ok (.aload_n 0, 1) := by decide +kernel
theorem dX7_walk_128 : decode cX7_walk 128 = .ok (.iload 5, 2) := by decide +kernel
theorem dX7_walk_130 : decode cX7_walk 130 = .ok (.invokevirtual 53, 3) := by decide +kernel
theorem dX7_walk_133 : decode cX7_walk 133 = .ok (.goto 30, 3) := by decide +kernel
theorem dX7_walk_136 : decode cX7_walk 136 = .ok (.aload_n 0, 1) := by decide +kernel
theorem dX7_walk_137 : decode cX7_walk 137 = .ok (.iload 5, 2) := by decide +kernel
theorem dX7_walk_139 : decode cX7_walk 139 = .ok (.iconst 0, 1) := by decide +kernel
theorem dX7_walk_140 : decode cX7_walk 140 = .ok (.invokevirtual 49, 3) := by decide +kernel
theorem dX7_walk_143 : decode cX7_walk 143 = .ok (.bipush 9, 2) := by decide +kernel
theorem dX7_walk_145 : decode cX7_walk 145 = .ok (.if_icmp .ne 12, 3) := by decide +kernel
theorem dX7_walk_148 : decode cX7_walk 148 = .ok (.aload_n 0, 1) := by decide +kernel
theorem dX7_walk_149 : decode cX7_walk 149 = .ok (.iload 5, 2) := by decide +kernel
theorem dX7_walk_151 : decode cX7_walk 151 = .ok (.invokevirtual 56, 3) := by decide +kernel
theorem dX7_walk_154 : decode cX7_walk 154 = .ok (.goto 9, 3) := by decide +kernel
theorem dX7_walk_157 : decode cX7_walk 157 = .ok (.aload_n 0, 1) := by decide +kernel
theorem dX7_walk_158 : decode cX7_walk 158 = .ok (.iload 5, 2) := by decide +kernel
theorem dX7_walk_160 : decode cX7_walk 160 = .ok (.invokevirtual 59, 3) := by decide +kernel
theorem dX7_walk_163 : decode cX7_walk 163 = .ok (.iinc 4 1, 3) := by decide +kernel
theorem dX7_walk_166 : decode cX7_walk 166 = .ok (.goto (-156), 3) := by decide +kernel
theorem dX7_walk_169 : decode cX7_walk 169 = .ok (.return_, 1) := by decide +kernel
set_option maxHeartbeats 8000000 in
set_option maxRecDepth 100000 in
theorem a_K_walk (l : Launch) (D : va_G) (g : Nat → ClassId)   (sz : Nat) (h : Nat) (ki : Nat → Int32) (wh : Nat) (wa : Nat → Nat) (wi : Nat → Int32) (wr : Nat → Nat) (wf : Nat → Nat → Int32) (ph : Nat) (rh : Nat) (la : Nat → Nat) (pa : Nat → Nat) (pr : Nat → Nat) (pf : Nat → Nat → Int32) (ca : Nat → Nat) (ci : Nat → Int32) (cr : Nat → Nat) (cf : Nat → Nat → Int32) (lr : Nat → Nat) (lf : Nat → Nat → Int32) (lmx : Nat) (n1 : Int32) (n2 : Int32) (n3 : Int32) (hw_w : ∀ k, wr k ≤ woW_lim k) (hw_p : ∀ k, pr k ≤ pgW_lim k) (hw_c : ∀ k, cr k ≤ rcW_lim k) (hw_l : ∀ k, lr k ≤ (plW_lim lmx) k) (hmx_l : lmx ≤ 30) : vz_Mv l D (tyG g) yX7_walk cX7_walk 6 104 3120 0 0 [.ref h, .int n1, .int n2, .int n3] sz (vz_w [wkW h ki wh, woW g wh wa wi wr wf ph rh (la 0), pgW g ph pa pr pf, rcW g rh ca ci cr cf, plW g la lr lf lmx]) (fun u : (Nat → Int32) × (Nat → Int32) × (Nat → Nat) × (Nat → Nat → Int32) × (Nat → Int32) × (Nat → Nat) × (Nat → Nat → Int32) => (∀ k, u.2.2.1 k ≤ woW_lim k) ∧ (∀ k, u.2.2.2.2.2.1 k ≤ rcW_lim k)) (fun u => vz_w [wkW h u.1 wh, woW g wh wa u.2.1 u.2.2.1 u.2.2.2.1 ph rh (la 0), pgW g ph pa pr pf, rcW g rh ca u.2.2.2.2.1 u.2.2.2.2.2.1 u.2.2.2.2.2.2, plW g la lr lf lmx]) := by
  refine vz_svQ (by decide) (Nat.le_of_ble_eq_true rfl) (fun p e s m args below meth c hx hb hr hml hts hown hlk hin hK hsz A hA H locs hP hD hS ls hl Q hQ => ?_)
  have hl : lv_has ls 6 [(0, .ref h), (1, .int n1), (2, .int n2), (3, .int n3)] := hl
  have J169 : ∀ (x4_169 : Int32), ∀ (ki_169 : Nat → Int32), ∀ (wi_169 : Nat → Int32), ∀ (wr_169 : Nat → Nat), ∀ (wf_169 : Nat → Nat → Int32), ∀ (ci_169 : Nat → Int32), ∀ (cr_169 : Nat → Nat), ∀ (cf_169 : Nat → Nat → Int32), (∀ k, wr_169 k ≤ woW_lim k) → (∀ k, cr_169 k ≤ rcW_lim k) → ∀ (H : Heap) (locs : List Loc) (ls : Array Slot), va_P D vwCl (vz_w [wkW h ki_169 wh, woW g wh wa wi_169 wr_169 wf_169 ph rh (la 0), pgW g ph pa pr pf, rcW g rh ca ci_169 cr_169 cf_169, plW g la lr lf lmx]) H → va_D A (vz_w [wkW h ki_169 wh, woW g wh wa wi_169 wr_169 wf_169 ph rh (la 0), pgW g ph pa pr pf, rcW g rh ca ci_169 cr_169 cf_169, plW g la lr lf lmx]) → va_S A s.heap H locs → lv_has ls 6 [(0, .ref h), (1, .int n1), (2, .int n2), (3, .int n3), (4, .int x4_169)] → W p l e { frames := 104, cells := 0, slots := 0, locals := 3120 } s m args below meth c H locs 0 0 Q (F0 m 169 ls []) := by
    intro x4_169 ki_169 wi_169 wr_169 wf_169 ci_169 cr_169 cf_169 hw_w_169 hw_c_169 H locs ls hP hD hS hl
    rw [hQ]
    exact vz_vret3 hx hb hr hlk hK hP hD hS (ki_169, wi_169, wr_169, wf_169, ci_169, cr_169, cf_169) (⟨hw_w_169, hw_c_169⟩) rfl (Nat.le_refl 0) (Nat.le_refl 0) dX7_walk_169
  have J10 : ∀ (fu10 n10 : Nat), 1000000 - n10 < fu10 → n10 ≤ 1000000 → ∀ (ki_10 : Nat → Int32), ∀ (wi_10 : Nat → Int32), ∀ (wr_10 : Nat → Nat), ∀ (wf_10 : Nat → Nat → Int32), ∀ (ci_10 : Nat → Int32), ∀ (cr_10 : Nat → Nat), ∀ (cf_10 : Nat → Nat → Int32), (∀ k, wr_10 k ≤ woW_lim k) → (∀ k, cr_10 k ≤ rcW_lim k) → ∀ (H : Heap) (locs : List Loc) (ls : Array Slot), va_P D vwCl (vz_w [wkW h ki_10 wh, woW g wh wa wi_10 wr_10 wf_10 ph rh (la 0), pgW g ph pa pr pf, rcW g rh ca ci_10 cr_10 cf_10, plW g la lr lf lmx]) H → va_D A (vz_w [wkW h ki_10 wh, woW g wh wa wi_10 wr_10 wf_10 ph rh (la 0), pgW g ph pa pr pf, rcW g rh ca ci_10 cr_10 cf_10, plW g la lr lf lmx]) → va_S A s.heap H locs → lv_has ls 6 [(0, .ref h), (1, .int n1), (2, .int n2), (3, .int n3), (4, .int (nI n10))] → W p l e { frames := 104, cells := 0, slots := 0, locals := 3120 } s m args below meth c H locs 0 0 Q (F0 m 10 ls []) := by
    intro fu10
    induction fu10 with
    | zero => intro n10 z; omega
    | succ fu10 ih10 =>
      intro n10 hf10 hb10 ki_10 wi_10 wr_10 wf_10 ci_10 cr_10 cf_10 hw_w_10 hw_c_10 H locs ls hP hD hS hl
      have J163 : n10 < 1000000 → ∀ (x5_163 : Int32), ∀ (ki_163 : Nat → Int32), ∀ (wi_163 : Nat → Int32), ∀ (wr_163 : Nat → Nat), ∀ (wf_163 : Nat → Nat → Int32), ∀ (ci_163 : Nat → Int32), ∀ (cr_163 : Nat → Nat), ∀ (cf_163 : Nat → Nat → Int32), (∀ k, wr_163 k ≤ woW_lim k) → (∀ k, cr_163 k ≤ rcW_lim k) → ∀ (H : Heap) (locs : List Loc) (ls : Array Slot), va_P D vwCl (vz_w [wkW h ki_163 wh, woW g wh wa wi_163 wr_163 wf_163 ph rh (la 0), pgW g ph pa pr pf, rcW g rh ca ci_163 cr_163 cf_163, plW g la lr lf lmx]) H → va_D A (vz_w [wkW h ki_163 wh, woW g wh wa wi_163 wr_163 wf_163 ph rh (la 0), pgW g ph pa pr pf, rcW g rh ca ci_163 cr_163 cf_163, plW g la lr lf lmx]) → va_S A s.heap H locs → lv_has ls 6 [(0, .ref h), (1, .int n1), (2, .int n2), (3, .int n3), (4, .int (nI n10)), (5, .int x5_163)] → W p l e { frames := 104, cells := 0, slots := 0, locals := 3120 } s m args below meth c H locs 0 0 Q (F0 m 163 ls []) := by
        intro hn10 x5_163 ki_163 wi_163 wr_163 wf_163 ci_163 cr_163 cf_163 hw_w_163 hw_c_163 H locs ls hP hD hS hl
        refine lv_iinc (v := (nI (n10 + 1))) (lv' := [(4, .int (nI (n10 + 1))), (0, .ref h), (1, .int n1), (2, .int n2), (3, .int n3), (5, .int x5_163)]) hx hb dX7_walk_163 hl (k := 4) rfl (nI_1 n10) (by decide) rfl (fun ls hl => ?_)
        refine lv_goto (tgt := 10) hx hb dX7_walk_166 (by decide) ?_
        exact ih10 (n10 + 1) (by omega) (by omega) ki_163 wi_163 wr_163 wf_163 ci_163 cr_163 cf_163 hw_w_163 hw_c_163 H locs ls hP hD hS (lv_sub hl [1, 2, 3, 4, 0] rfl)
      have J92 : n10 < 1000000 → ∀ (x5_92 : Int32), ∀ (ki_92 : Nat → Int32), ∀ (wi_92 : Nat → Int32), ∀ (wr_92 : Nat → Nat), ∀ (wf_92 : Nat → Nat → Int32), ∀ (ci_92 : Nat → Int32), ∀ (cr_92 : Nat → Nat), ∀ (cf_92 : Nat → Nat → Int32), (∀ k, wr_92 k ≤ woW_lim k) → (∀ k, cr_92 k ≤ rcW_lim k) → ∀ (H : Heap) (locs : List Loc) (ls : Array Slot), va_P D vwCl (vz_w [wkW h ki_92 wh, woW g wh wa wi_92 wr_92 wf_92 ph rh (la 0), pgW g ph pa pr pf, rcW g rh ca ci_92 cr_92 cf_92, plW g la lr lf lmx]) H → va_D A (vz_w [wkW h ki_92 wh, woW g wh wa wi_92 wr_92 wf_92 ph rh (la 0), pgW g ph pa pr pf, rcW g rh ca ci_92 cr_92 cf_92, plW g la lr lf lmx]) → va_S A s.heap H locs → lv_has ls 6 [(0, .ref h), (1, .int n1), (2, .int n2), (3, .int n3), (4, .int (nI n10)), (5, .int x5_92)] → W p l e { frames := 104, cells := 0, slots := 0, locals := 3120 } s m args below meth c H locs 0 0 Q (F0 m 92 ls []) := by
        intro hn10 x5_92 ki_92 wi_92 wr_92 wf_92 ci_92 cr_92 cf_92 hw_w_92 hw_c_92 H locs ls hP hD hS hl
        refine lv_aload_n hx hb dX7_walk_92 rfl (lv_at hl 0 rfl) ?_
        refine vz_Vv3 (As := []) (rest := []) hx hb hml hown hts hK hA hP hD hS (a_K_takeThrown l D g H.size h ki_92 wh wa wi_92 wr_92 wf_92 ph rh la pa pr pf ca ci_92 cr_92 cf_92 lr lf lmx hw_w_92 hw_p hw_c_92 hw_l hmx_l) kv_X7_43 ⟨Nat.le_of_ble_eq_true rfl, Nat.le_of_ble_eq_true rfl⟩ (q0 := 0) (ci := 7) rfl rfl rfl  hl.1 (Nat.le_of_ble_eq_true rfl) dX7_walk_93 ⟨Nat.le_refl _, Nat.le_refl _⟩ rfl (fun ⟨ki_1, wi_2⟩ H locs _ _ hP hD hS => ?_)
        replace hP : va_P D vwCl (vz_w [wkW h ki_1 wh, woW g wh wa wi_2 wr_92 wf_92 ph rh (la 0), pgW g ph pa pr pf, rcW g rh ca ci_92 cr_92 cf_92, plW g la lr lf lmx]) H := hP
        replace hD : va_D A (vz_w [wkW h ki_1 wh, woW g wh wa wi_2 wr_92 wf_92 ph rh (la 0), pgW g ph pa pr pf, rcW g rh ca ci_92 cr_92 cf_92, plW g la lr lf lmx]) := hD
        refine lv_goto (tgt := 163) hx hb dX7_walk_96 (by decide) ?_
        exact J163 hn10 x5_92 ki_1 wi_2 wr_92 wf_92 ci_92 cr_92 cf_92 hw_w_92 hw_c_92 H locs ls hP hD hS (lv_sub hl [0, 1, 2, 3, 4, 5] rfl)
      have J47 : n10 < 1000000 → ∀ (y0_47 : Int32), ∀ (ki_47 : Nat → Int32), ∀ (wi_47 : Nat → Int32), ∀ (wr_47 : Nat → Nat), ∀ (wf_47 : Nat → Nat → Int32), ∀ (ci_47 : Nat → Int32), ∀ (cr_47 : Nat → Nat), ∀ (cf_47 : Nat → Nat → Int32), (∀ k, wr_47 k ≤ woW_lim k) → (∀ k, cr_47 k ≤ rcW_lim k) → ∀ (H : Heap) (locs : List Loc) (ls : Array Slot), va_P D vwCl (vz_w [wkW h ki_47 wh, woW g wh wa wi_47 wr_47 wf_47 ph rh (la 0), pgW g ph pa pr pf, rcW g rh ca ci_47 cr_47 cf_47, plW g la lr lf lmx]) H → va_D A (vz_w [wkW h ki_47 wh, woW g wh wa wi_47 wr_47 wf_47 ph rh (la 0), pgW g ph pa pr pf, rcW g rh ca ci_47 cr_47 cf_47, plW g la lr lf lmx]) → va_S A s.heap H locs → lv_has ls 6 [(0, .ref h), (1, .int n1), (2, .int n2), (3, .int n3), (4, .int (nI n10))] → W p l e { frames := 104, cells := 0, slots := 0, locals := 3120 } s m args below meth c H locs 0 0 Q (F0 m 47 ls [.int y0_47]) := by
        intro hn10 y0_47 ki_47 wi_47 wr_47 wf_47 ci_47 cr_47 cf_47 hw_w_47 hw_c_47 H locs ls hP hD hS hl
        refine lv_istore (lv' := [(5, .int y0_47), (0, .ref h), (1, .int n1), (2, .int n2), (3, .int n3), (4, .int (nI n10))]) hx hb dX7_walk_47 hl (by decide) rfl (fun ls hl => ?_)
        refine lv_aload_n hx hb dX7_walk_49 rfl (lv_at hl 1 rfl) ?_
        refine va_get (D := D) (ci := 7) (v := .int (ki_47 0)) (C := RX7) (T := TX7) (N := 7) hx hb hts inlX7 hown hK hP 0 rfl rfl 1 (by decide) (hts _ q153) (fun _ h => h) rfl dX7_walk_50 ?_
        refine lv_bipush (v := (-9)) hx hb dX7_walk_53 (by decide) ?_
        refine lv_icmp_eq (tgt := 99) hx hb dX7_walk_55 (by decide) (fun kc1 => ?_) (fun kc1 => ?_)
        · refine lv_aload_n hx hb dX7_walk_99 rfl (lv_at hl 1 rfl) ?_
          refine va_get (D := D) (ci := 7) (v := .int (ki_47 1)) (C := RX7) (T := TX7) (N := 7) hx hb hts inlX7 hown hK hP 0 rfl rfl 2 (by decide) (hts _ q154) (fun _ h => h) rfl dX7_walk_100 ?_
          refine lv_bipush (v := (-9)) hx hb dX7_walk_103 (by decide) ?_
          refine lv_icmp_ne (tgt := 115) hx hb dX7_walk_105 (by decide) (fun kc2 => ?_) (fun kc2 => ?_)
          · refine lv_aload_n hx hb dX7_walk_115 rfl (lv_at hl 1 rfl) ?_
            refine lv_iload hx hb dX7_walk_116 (lv_at hl 0 rfl) ?_
            refine lv_iconst (v := 0) hx hb dX7_walk_118 (by decide) ?_
            refine vz_Vi3 (As := [.int y0_47, .int 0]) (rest := []) hx hb hml hown hts hK hA hP hD hS (a_K_at l D g H.size h ki_47 wh wa wi_47 wr_47 wf_47 ph rh la pa pr pf ca ci_47 cr_47 cf_47 lr lf lmx y0_47 0 hw_w_47 hw_p hw_c_47 hw_l hmx_l) kv_X7_49 ⟨Nat.le_of_ble_eq_true rfl, Nat.le_of_ble_eq_true rfl⟩ (q0 := 0) (ci := 7) rfl rfl rfl  hl.1 (Nat.le_of_ble_eq_true rfl) dX7_walk_119 ⟨Nat.le_refl _, Nat.le_refl _⟩ rfl (fun v3 _ H locs _ _ hP hD hS => ?_)
            refine lv_bipush (v := 15) hx hb dX7_walk_122 (by decide) ?_
            refine lv_icmp_ne (tgt := 136) hx hb dX7_walk_124 (by decide) (fun kc4 => ?_) (fun kc4 => ?_)
            · refine lv_aload_n hx hb dX7_walk_136 rfl (lv_at hl 1 rfl) ?_
              refine lv_iload hx hb dX7_walk_137 (lv_at hl 0 rfl) ?_
              refine lv_iconst (v := 0) hx hb dX7_walk_139 (by decide) ?_
              refine vz_Vi3 (As := [.int y0_47, .int 0]) (rest := []) hx hb hml hown hts hK hA hP hD hS (a_K_at l D g H.size h ki_47 wh wa wi_47 wr_47 wf_47 ph rh la pa pr pf ca ci_47 cr_47 cf_47 lr lf lmx y0_47 0 hw_w_47 hw_p hw_c_47 hw_l hmx_l) kv_X7_49 ⟨Nat.le_of_ble_eq_true rfl, Nat.le_of_ble_eq_true rfl⟩ (q0 := 0) (ci := 7) rfl rfl rfl  hl.1 (Nat.le_of_ble_eq_true rfl) dX7_walk_140 ⟨Nat.le_refl _, Nat.le_refl _⟩ rfl (fun v5 _ H locs _ _ hP hD hS => ?_)
              refine lv_bipush (v := 9) hx hb dX7_walk_143 (by decide) ?_
              refine lv_icmp_ne (tgt := 157) hx hb dX7_walk_145 (by decide) (fun kc6 => ?_) (fun kc6 => ?_)
              · refine lv_aload_n hx hb dX7_walk_157 rfl (lv_at hl 1 rfl) ?_
                refine lv_iload hx hb dX7_walk_158 (lv_at hl 0 rfl) ?_
                refine vz_Vv3 (As := [.int y0_47]) (rest := []) hx hb hml hown hts hK hA hP hD hS (a_K_goOn l D g H.size h ki_47 wh wa wi_47 wr_47 wf_47 ph rh la pa pr pf ca ci_47 cr_47 cf_47 lr lf lmx y0_47 hw_w_47 hw_p hw_c_47 hw_l hmx_l) kv_X7_59 ⟨Nat.le_of_ble_eq_true rfl, Nat.le_of_ble_eq_true rfl⟩ (q0 := 0) (ci := 7) rfl rfl rfl  hl.1 (Nat.le_of_ble_eq_true rfl) dX7_walk_160 ⟨Nat.le_refl _, Nat.le_refl _⟩ rfl (fun ki_7 H locs _ _ hP hD hS => ?_)
                replace hP : va_P D vwCl (vz_w [wkW h ki_7 wh, woW g wh wa wi_47 wr_47 wf_47 ph rh (la 0), pgW g ph pa pr pf, rcW g rh ca ci_47 cr_47 cf_47, plW g la lr lf lmx]) H := hP
                replace hD : va_D A (vz_w [wkW h ki_7 wh, woW g wh wa wi_47 wr_47 wf_47 ph rh (la 0), pgW g ph pa pr pf, rcW g rh ca ci_47 cr_47 cf_47, plW g la lr lf lmx]) := hD
                exact J163 hn10 y0_47 ki_7 wi_47 wr_47 wf_47 ci_47 cr_47 cf_47 hw_w_47 hw_c_47 H locs ls hP hD hS (lv_sub hl [1, 2, 3, 4, 5, 0] rfl)
              · refine lv_aload_n hx hb dX7_walk_148 rfl (lv_at hl 1 rfl) ?_
                refine lv_iload hx hb dX7_walk_149 (lv_at hl 0 rfl) ?_
                refine vz_Vv3 (As := [.int y0_47]) (rest := []) hx hb hml hown hts hK hA hP hD hS (a_K_endTurn l D g H.size h ki_47 wh wa wi_47 wr_47 wf_47 ph rh la pa pr pf ca ci_47 cr_47 cf_47 lr lf lmx y0_47 hw_w_47 hw_p hw_c_47 hw_l hmx_l) kv_X7_56 ⟨Nat.le_of_ble_eq_true rfl, Nat.le_of_ble_eq_true rfl⟩ (q0 := 0) (ci := 7) rfl rfl rfl  hl.1 (Nat.le_of_ble_eq_true rfl) dX7_walk_151 ⟨Nat.le_refl _, Nat.le_refl _⟩ rfl (fun ⟨ki_8, wf_9, ci_10⟩ H locs _ _ hP hD hS => ?_)
                replace hP : va_P D vwCl (vz_w [wkW h ki_8 wh, woW g wh wa wi_47 wr_47 wf_9 ph rh (la 0), pgW g ph pa pr pf, rcW g rh ca ci_10 cr_47 cf_47, plW g la lr lf lmx]) H := hP
                replace hD : va_D A (vz_w [wkW h ki_8 wh, woW g wh wa wi_47 wr_47 wf_9 ph rh (la 0), pgW g ph pa pr pf, rcW g rh ca ci_10 cr_47 cf_47, plW g la lr lf lmx]) := hD
                refine lv_goto (tgt := 163) hx hb dX7_walk_154 (by decide) ?_
                exact J163 hn10 y0_47 ki_8 wi_47 wr_47 wf_9 ci_10 cr_47 cf_47 hw_w_47 hw_c_47 H locs ls hP hD hS (lv_sub hl [1, 2, 3, 4, 5, 0] rfl)
            · refine lv_aload_n hx hb dX7_walk_127 rfl (lv_at hl 1 rfl) ?_
              refine lv_iload hx hb dX7_walk_128 (lv_at hl 0 rfl) ?_
              refine vz_Vv3 (As := [.int y0_47]) (rest := []) hx hb hml hown hts hK hA hP hD hS (a_K_endPhase l D g H.size h ki_47 wh wa wi_47 wr_47 wf_47 ph rh la pa pr pf ca ci_47 cr_47 cf_47 lr lf lmx y0_47 hw_w_47 hw_p hw_c_47 hw_l hmx_l) kv_X7_53 ⟨Nat.le_of_ble_eq_true rfl, Nat.le_of_ble_eq_true rfl⟩ (q0 := 0) (ci := 7) rfl rfl rfl  hl.1 (Nat.le_of_ble_eq_true rfl) dX7_walk_130 ⟨Nat.le_refl _, Nat.le_refl _⟩ rfl (fun ⟨ki_11, wi_12, wr_13, wf_14, ci_15, cr_16, cf_17⟩ H locs ⟨hw_18, hw_19⟩ _ hP hD hS => ?_)
              try dsimp only at hw_18 hw_19
              replace hP : va_P D vwCl (vz_w [wkW h ki_11 wh, woW g wh wa wi_12 wr_13 wf_14 ph rh (la 0), pgW g ph pa pr pf, rcW g rh ca ci_15 cr_16 cf_17, plW g la lr lf lmx]) H := hP
              replace hD : va_D A (vz_w [wkW h ki_11 wh, woW g wh wa wi_12 wr_13 wf_14 ph rh (la 0), pgW g ph pa pr pf, rcW g rh ca ci_15 cr_16 cf_17, plW g la lr lf lmx]) := hD
              refine lv_goto (tgt := 163) hx hb dX7_walk_133 (by decide) ?_
              exact J163 hn10 y0_47 ki_11 wi_12 wr_13 wf_14 ci_15 cr_16 cf_17 hw_18 hw_19 H locs ls hP hD hS (lv_sub hl [1, 2, 3, 4, 5, 0] rfl)
          · refine lv_aload_n hx hb dX7_walk_108 rfl (lv_at hl 1 rfl) ?_
            refine vz_Vv3 (As := []) (rest := []) hx hb hml hown hts hK hA hP hD hS (a_K_leave l D g H.size h ki_47 wh wa wi_47 wr_47 wf_47 ph rh la pa pr pf ca ci_47 cr_47 cf_47 lr lf lmx hw_w_47 hw_p hw_c_47 hw_l hmx_l) kv_X7_46 ⟨Nat.le_of_ble_eq_true rfl, Nat.le_of_ble_eq_true rfl⟩ (q0 := 0) (ci := 7) rfl rfl rfl  hl.1 (Nat.le_of_ble_eq_true rfl) dX7_walk_109 ⟨Nat.le_refl _, Nat.le_refl _⟩ rfl (fun ⟨ki_20, wr_21, wf_22, ci_23⟩ H locs hw_24 _ hP hD hS => ?_)
            try dsimp only at hw_24
            replace hP : va_P D vwCl (vz_w [wkW h ki_20 wh, woW g wh wa wi_47 wr_21 wf_22 ph rh (la 0), pgW g ph pa pr pf, rcW g rh ca ci_23 cr_47 cf_47, plW g la lr lf lmx]) H := hP
            replace hD : va_D A (vz_w [wkW h ki_20 wh, woW g wh wa wi_47 wr_21 wf_22 ph rh (la 0), pgW g ph pa pr pf, rcW g rh ca ci_23 cr_47 cf_47, plW g la lr lf lmx]) := hD
            refine lv_goto (tgt := 163) hx hb dX7_walk_112 (by decide) ?_
            exact J163 hn10 y0_47 ki_20 wi_47 wr_21 wf_22 ci_23 cr_47 cf_47 hw_24 hw_c_47 H locs ls hP hD hS (lv_sub hl [1, 2, 3, 4, 5, 0] rfl)
        · refine lv_aload_n hx hb dX7_walk_58 rfl (lv_at hl 1 rfl) ?_
          refine lv_iload hx hb dX7_walk_59 (lv_at hl 0 rfl) ?_
          refine vz_Vv3 (As := [.int y0_47]) (rest := []) hx hb hml hown hts hK hA hP hD hS (a_K_begin l D g H.size h ki_47 wh wa wi_47 wr_47 wf_47 ph rh la pa pr pf ca ci_47 cr_47 cf_47 lr lf lmx y0_47 hw_w_47 hw_p hw_c_47 hw_l hmx_l) kv_X7_33 ⟨Nat.le_of_ble_eq_true rfl, Nat.le_of_ble_eq_true rfl⟩ (q0 := 0) (ci := 7) rfl rfl rfl  hl.1 (Nat.le_of_ble_eq_true rfl) dX7_walk_61 ⟨Nat.le_refl _, Nat.le_refl _⟩ rfl (fun ⟨ki_25, wi_26, wf_27, ci_28, cr_29, cf_30⟩ H locs hw_31 _ hP hD hS => ?_)
          try dsimp only at hw_31
          replace hP : va_P D vwCl (vz_w [wkW h ki_25 wh, woW g wh wa wi_26 wr_47 wf_27 ph rh (la 0), pgW g ph pa pr pf, rcW g rh ca ci_28 cr_29 cf_30, plW g la lr lf lmx]) H := hP
          replace hD : va_D A (vz_w [wkW h ki_25 wh, woW g wh wa wi_26 wr_47 wf_27 ph rh (la 0), pgW g ph pa pr pf, rcW g rh ca ci_28 cr_29 cf_30, plW g la lr lf lmx]) := hD
          refine lv_aload_n hx hb dX7_walk_64 rfl (lv_at hl 1 rfl) ?_
          refine va_get (D := D) (ci := 7) (v := .ref wh) (C := RX7) (T := TX7) (N := 7) hx hb hts inlX7 hown hK hP 0 rfl rfl 0 (by decide) (hts _ q152) (fun _ h => h) rfl dX7_walk_65 ?_
          refine vz_Vi4 (n9 := 5) (bs2 := fun u : Unit => [wkW h ki_25 wh, woW g wh wa wi_26 wr_47 wf_27 ph rh (la 0), pgW g ph pa pr pf, rcW g rh ca ci_28 cr_29 cf_30, plW g la lr lf lmx]) (br := [wkW h ki_25 wh]) (As := []) (rest := []) hx hb hml hown hts hK hA hP hD hS (a_W_isRunning l D g H.size wh wa wi_26 wr_47 wf_27 ph rh la pa pr pf ca ci_28 cr_29 cf_30 lr lf lmx hw_w_47 hw_p hw_31 hw_l hmx_l) kv_X7_27 ⟨Nat.le_of_ble_eq_true rfl, Nat.le_of_ble_eq_true rfl⟩ (q0 := 1) (ci := 8) rfl rfl rfl [1, 2, 3, 4] [0] rfl (by decide) rfl (fun _ => rfl) (fun _ => rfl) hl.1 (Nat.le_of_ble_eq_true rfl) dX7_walk_68 ⟨Nat.le_refl _, Nat.le_refl _⟩ rfl (fun v32 _ H locs hz33 _ hP hD hS => ?_)
          refine lv_if_eq (tgt := 92) hx hb dX7_walk_71 (by decide) (fun kc34 => ?_) (fun kc34 => ?_)
          · exact J92 hn10 y0_47 ki_25 wi_26 wr_47 wf_27 ci_28 cr_29 cf_30 hw_w_47 hw_31 H locs ls hP hD hS (lv_sub hl [1, 2, 3, 4, 5, 0] rfl)
          · refine lv_aload_n hx hb dX7_walk_74 rfl (lv_at hl 1 rfl) ?_
            refine va_get (D := D) (ci := 7) (v := .ref wh) (C := RX7) (T := TX7) (N := 7) hx hb hts inlX7 hown hK hP 0 rfl rfl 0 (by decide) (hts _ q152) (fun _ h => h) rfl dX7_walk_75 ?_
            refine va_get (D := D) (ci := 8) (v := .int (wi_26 1)) (C := RX8) (T := TX8) (N := 11) hx hb hts inlX8 hown hK hP 1 rfl rfl 9 (by decide) (hts _ q1040) (fun _ h => h) rfl dX7_walk_78 ?_
            refine lv_bipush (v := (-9)) hx hb dX7_walk_81 (by decide) ?_
            refine lv_icmp_ne (tgt := 92) hx hb dX7_walk_83 (by decide) (fun kc35 => ?_) (fun kc35 => ?_)
            · exact J92 hn10 y0_47 ki_25 wi_26 wr_47 wf_27 ci_28 cr_29 cf_30 hw_w_47 hw_31 H locs ls hP hD hS (lv_sub hl [1, 2, 3, 4, 5, 0] rfl)
            · refine lv_aload_n hx hb dX7_walk_86 rfl (lv_at hl 1 rfl) ?_
              refine lv_iload hx hb dX7_walk_87 (lv_at hl 0 rfl) ?_
              refine vz_Vv3 (As := [.int y0_47]) (rest := []) hx hb hml hown hts hK hA hP hD hS (a_K_execute l D g H.size h ki_25 wh wa wi_26 wr_47 wf_27 ph rh la pa pr pf ca ci_28 cr_29 cf_30 lr lf lmx y0_47 hw_w_47 hw_p hw_31 hw_l hmx_l) kv_X7_40 ⟨Nat.le_of_ble_eq_true rfl, Nat.le_of_ble_eq_true rfl⟩ (q0 := 0) (ci := 7) rfl rfl rfl  hl.1 (Nat.le_of_ble_eq_true rfl) dX7_walk_89 ⟨Nat.le_refl _, Nat.le_refl _⟩ rfl (fun ⟨ki_36, wi_37, wr_38, wf_39, ci_40, cr_41, cf_42⟩ H locs ⟨hw_43, hw_44⟩ _ hP hD hS => ?_)
              try dsimp only at hw_43 hw_44
              replace hP : va_P D vwCl (vz_w [wkW h ki_36 wh, woW g wh wa wi_37 wr_38 wf_39 ph rh (la 0), pgW g ph pa pr pf, rcW g rh ca ci_40 cr_41 cf_42, plW g la lr lf lmx]) H := hP
              replace hD : va_D A (vz_w [wkW h ki_36 wh, woW g wh wa wi_37 wr_38 wf_39 ph rh (la 0), pgW g ph pa pr pf, rcW g rh ca ci_40 cr_41 cf_42, plW g la lr lf lmx]) := hD
              exact J92 hn10 y0_47 ki_36 wi_37 wr_38 wf_39 ci_40 cr_41 cf_42 hw_43 hw_44 H locs ls hP hD hS (lv_sub hl [1, 2, 3, 4, 5, 0] rfl)
      refine lv_iload hx hb dX7_walk_10 (lv_at hl 4 rfl) ?_
      refine lv_ldc hx hb hown (hts _ q1039) dX7_walk_12 ?_
      refine lv_icmp_ge (tgt := 169) hx hb dX7_walk_14 (by decide) (fun kc1 => ?_) (fun kc1 => ?_)
      · exact J169 (nI n10) ki_10 wi_10 wr_10 wf_10 ci_10 cr_10 cf_10 hw_w_10 hw_c_10 H locs ls hP hD hS (lv_sub hl [0, 1, 2, 3, 4] rfl)
      · have hn10 : n10 < 1000000 := vz_ltge (B := 1000000) (by omega) kc1
        refine lv_aload_n hx hb dX7_walk_17 rfl (lv_at hl 0 rfl) ?_
        refine va_get (D := D) (ci := 7) (v := .ref wh) (C := RX7) (T := TX7) (N := 7) hx hb hts inlX7 hown hK hP 0 rfl rfl 0 (by decide) (hts _ q152) (fun _ h => h) rfl dX7_walk_18 ?_
        refine vz_Vi4 (n9 := 5) (bs2 := fun u : Unit => [wkW h ki_10 wh, woW g wh wa wi_10 wr_10 wf_10 ph rh (la 0), pgW g ph pa pr pf, rcW g rh ca ci_10 cr_10 cf_10, plW g la lr lf lmx]) (br := [wkW h ki_10 wh]) (As := []) (rest := []) hx hb hml hown hts hK hA hP hD hS (a_W_isRunning l D g H.size wh wa wi_10 wr_10 wf_10 ph rh la pa pr pf ca ci_10 cr_10 cf_10 lr lf lmx hw_w_10 hw_p hw_c_10 hw_l hmx_l) kv_X7_27 ⟨Nat.le_of_ble_eq_true rfl, Nat.le_of_ble_eq_true rfl⟩ (q0 := 1) (ci := 8) rfl rfl rfl [1, 2, 3, 4] [0] rfl (by decide) rfl (fun _ => rfl) (fun _ => rfl) hl.1 (Nat.le_of_ble_eq_true rfl) dX7_walk_21 ⟨Nat.le_refl _, Nat.le_refl _⟩ rfl (fun v2 _ H locs hz3 _ hP hD hS => ?_)
        refine lv_if_eq (tgt := 169) hx hb dX7_walk_24 (by decide) (fun kc4 => ?_) (fun kc4 => ?_)
        · exact J169 (nI n10) ki_10 wi_10 wr_10 wf_10 ci_10 cr_10 cf_10 hw_w_10 hw_c_10 H locs ls hP hD hS (lv_sub hl [0, 1, 2, 3, 4] rfl)
        · refine lv_aload_n hx hb dX7_walk_27 rfl (lv_at hl 0 rfl) ?_
          refine va_get (D := D) (ci := 7) (v := .int (ki_10 0)) (C := RX7) (T := TX7) (N := 7) hx hb hts inlX7 hown hK hP 0 rfl rfl 1 (by decide) (hts _ q153) (fun _ h => h) rfl dX7_walk_28 ?_
          refine lv_bipush (v := (-9)) hx hb dX7_walk_31 (by decide) ?_
          refine lv_icmp_ne (tgt := 43) hx hb dX7_walk_33 (by decide) (fun kc5 => ?_) (fun kc5 => ?_)
          · refine lv_aload_n hx hb dX7_walk_43 rfl (lv_at hl 0 rfl) ?_
            refine va_get (D := D) (ci := 7) (v := .int (ki_10 0)) (C := RX7) (T := TX7) (N := 7) hx hb hts inlX7 hown hK hP 0 rfl rfl 1 (by decide) (hts _ q153) (fun _ h => h) rfl dX7_walk_44 ?_
            exact J47 hn10 (ki_10 0) ki_10 wi_10 wr_10 wf_10 ci_10 cr_10 cf_10 hw_w_10 hw_c_10 H locs ls hP hD hS (lv_sub hl [0, 1, 2, 3, 4] rfl)
          · refine lv_aload_n hx hb dX7_walk_36 rfl (lv_at hl 0 rfl) ?_
            refine va_get (D := D) (ci := 7) (v := .int (ki_10 1)) (C := RX7) (T := TX7) (N := 7) hx hb hts inlX7 hown hK hP 0 rfl rfl 2 (by decide) (hts _ q154) (fun _ h => h) rfl dX7_walk_37 ?_
            refine lv_goto (tgt := 47) hx hb dX7_walk_40 (by decide) ?_
            exact J47 hn10 (ki_10 1) ki_10 wi_10 wr_10 wf_10 ci_10 cr_10 cf_10 hw_w_10 hw_c_10 H locs ls hP hD hS (lv_sub hl [0, 1, 2, 3, 4] rfl)
  refine lv_aload_n hx hb dX7_walk_0 rfl (lv_at hl 0 rfl) ?_
  refine lv_iload_n hx hb dX7_walk_1 rfl (lv_at hl 1 rfl) ?_
  refine lv_iload_n hx hb dX7_walk_2 rfl (lv_at hl 2 rfl) ?_
  refine lv_iload_n hx hb dX7_walk_3 rfl (lv_at hl 3 rfl) ?_
  refine vz_Vv3 (As := [.int n1, .int n2, .int n3]) (rest := []) hx hb hml hown hts hK hA hP hD hS (a_K_enter l D g H.size h ki wh wa wi wr wf ph rh la pa pr pf ca ci cr cf lr lf lmx n1 n2 n3 hw_w hw_p hw_c hw_l hmx_l) kv_X7_22 ⟨Nat.le_of_ble_eq_true rfl, Nat.le_of_ble_eq_true rfl⟩ (q0 := 0) (ci := 7) rfl rfl rfl  hl.1 (Nat.le_of_ble_eq_true rfl) dX7_walk_4 ⟨Nat.le_refl _, Nat.le_refl _⟩ rfl (fun ⟨ki_1, wr_2, wf_3, ci_4, cr_5, cf_6⟩ H locs ⟨hw_7, hw_8⟩ _ hP hD hS => ?_)
  try dsimp only at hw_7 hw_8
  replace hP : va_P D vwCl (vz_w [wkW h ki_1 wh, woW g wh wa wi wr_2 wf_3 ph rh (la 0), pgW g ph pa pr pf, rcW g rh ca ci_4 cr_5 cf_6, plW g la lr lf lmx]) H := hP
  replace hD : va_D A (vz_w [wkW h ki_1 wh, woW g wh wa wi wr_2 wf_3 ph rh (la 0), pgW g ph pa pr pf, rcW g rh ca ci_4 cr_5 cf_6, plW g la lr lf lmx]) := hD
  refine lv_iconst (v := 0) hx hb dX7_walk_7 (by decide) ?_
  refine lv_istore (lv' := [(4, .int 0), (0, .ref h), (1, .int n1), (2, .int n2), (3, .int n3)]) hx hb dX7_walk_8 hl (by decide) rfl (fun ls hl => ?_)
  exact J10 (1000001) 0 (by omega) (by omega) ki_1 wi wr_2 wf_3 ci_4 cr_5 cf_6 hw_7 hw_8 H locs ls hP hD hS (lv_sub hl [1, 2, 3, 4, 0] rfl)
