set_option maxHeartbeats 8000000 in
set_option maxRecDepth 100000 in
theorem a_W_slot (l : Launch) (D : va_G) (g : Nat → ClassId)  (sz : Nat) (h : Nat) (wa : Nat → Nat) (wi : Nat → Int32) (wr : Nat → Nat) (wf : Nat → Nat → Int32) (ph : Nat) (rh : Nat) (la : Nat → Nat) (pa : Nat → Nat) (pr : Nat → Nat) (pf : Nat → Nat → Int32) (ca : Nat → Nat) (ci : Nat → Int32) (cr : Nat → Nat) (cf : Nat → Nat → Int32) (lr : Nat → Nat) (lf : Nat → Nat → Int32) (lmx : Nat) (n1 : Int32) (n2 : Int32) (hw_w : ∀ k, wr k ≤ woW_lim k) (hw_p : ∀ k, pr k ≤ pgW_lim k) (hw_c : ∀ k, cr k ≤ rcW_lim k) (hw_l : ∀ k, lr k ≤ (plW_lim lmx) k) (hmx_l : lmx ≤ 30) : vz_Mi l D (tyG g) yX8_slot cX8_slot 3 1 23 0 0 .int [.ref h, .int n1, .int n2] sz ((woW g h wa wi wr wf ph rh (la 0)) ++ (pgW g ph pa pr pf) ++ (rcW g rh ca ci cr cf) ++ (plW g la lr lf lmx)) (fun r (u : Unit) => True) (fun u => (woW g h wa wi wr wf ph rh (la 0)) ++ (pgW g ph pa pr pf) ++ (rcW g rh ca ci cr cf) ++ (plW g la lr lf lmx)) := by
  refine vz_siQ (by decide) (Nat.le_of_ble_eq_true rfl) (fun p e s m args below meth c hx hb hr hml hts hown hlk hin hK hsz A hA H locs hP hD hS ls hl Q hQ => ?_)
  have hl : lv_has ls 3 [(0, .ref h), (1, .int n1), (2, .int n2)] := hl
  refine lv_aload_n hx hb dX8_slot_0 rfl (lv_at hl 0 rfl) ?_
  refine va_get (D := D) (ci := 8) (v := .ref (wa 4)) (C := RX8) (T := TX8) (N := 11) hx hb hts inlX8 hown hK hP 0 rfl rfl 2 (by decide) (hts _ q136) (fun _ h => h) rfl dX8_slot_1 ?_
  refine lv_aload_n hx hb dX8_slot_4 rfl (lv_at hl 0 rfl) ?_
  refine va_get (D := D) (ci := 8) (v := .ref (wa 2)) (C := RX8) (T := TX8) (N := 11) hx hb hts inlX8 hown hK hP 0 rfl rfl 1 (by decide) (hts _ q135) (fun _ h => h) rfl dX8_slot_5 ?_
  refine va_get (D := D) (ci := 6) (v := .int (nI (wr 1))) (C := RX6) (T := TX6) (N := 4) hx hb hts inlX6 hown hK hP 3 rfl rfl 3 (by decide) (hts _ q1021) (fun _ h => h) rfl dX8_slot_8 ?_
  refine lv_iconst (v := 1) hx hb dX8_slot_11 (by decide) ?_
  refine lv_isub hx hb dX8_slot_12 ?_
  refine lv_bipush (v := 6) hx hb dX8_slot_13 (by decide) ?_
  refine lv_imul hx hb dX8_slot_15 ?_
  refine lv_iload_n hx hb dX8_slot_16 rfl (lv_at hl 1 rfl) ?_
  refine lv_iadd hx hb dX8_slot_17 ?_
  refine lv_iload_n hx hb dX8_slot_18 rfl (lv_at hl 2 rfl) ?_
  refine vz_Vi2 (ws' := fun u : Unit => (woW g h wa wi wr wf ph rh (la 0)) ++ (pgW g ph pa pr pf) ++ (rcW g rh ca ci cr cf) ++ (plW g la lr lf lmx)) (As := [.int ((((nI (wr 1)) - 1) * 6) + n1), .int n2]) (rest := []) hx hb hml hown hts hK hA hP hD hS (c_T_get l D g (wa 4) (wa 5) H.size 11 72 (wr 2) 792 (wf 2) ((((nI (wr 1)) - 1) * 6) + n1) n2 ⟨rfl, by decide, by decide, by decide, by decide, hw_w 2⟩) kv_X8_110 ⟨Nat.le_of_ble_eq_true rfl, Nat.le_of_ble_eq_true rfl⟩ (q0 := 5) (ci := 6) rfl rfl rfl [5, 6] rfl (by decide) (fun _ => rfl) (fun _ => rfl) hl.1 (Nat.le_of_ble_eq_true rfl) dX8_slot_19 ⟨Nat.le_refl _, Nat.le_refl _⟩ rfl (fun v1 _ H locs he2 _ hP hD hS => ?_)
  rw [hQ]
  exact vz_iret3 hx hb hr hlk hK hP hD hS () trivial rfl (Nat.le_refl 0) (Nat.le_refl 0) dX8_slot_22
theorem dX8_setSlot_0 : decode cX8_setSlot 0 = .ok (.aload_n 0, 1) := by decide +kernel
theorem dX8_setSlot_1 : decode cX8_setSlot 1 = .ok (.getfield 34, 3) := by decide +kernel
theorem dX8_setSlot_4 : decode cX8_setSlot 4 = .ok (.aload_n 0, 1) := by decide +kernel
theorem dX8_setSlot_5 : decode cX8_setSlot 5 = .ok (.getfield 31, 3) := by decide +kernel
theorem dX8_setSlot_8 : decode cX8_setSlot 8 = .ok (.getfield 58, 3) := by decide +kernel
theorem dX8_setSlot_11 : decode cX8_setSlot 11 = .ok (.iconst 1, 1) := by decide +kernel
theorem dX8_setSlot_12 : decode cX8_setSlot 12 = .ok (.isub, 1) := by decide +kernel
theorem dX8_setSlot_13 : decode cX8_setSlot 13 = .ok (.bipush 6, 2) := by decide +kernel
theorem dX8_setSlot_15 : decode cX8_setSlot 15 = .ok (.imul, 1) := by decide +kernel
theorem dX8_setSlot_16 : decode cX8_setSlot 16 = .ok (.iload_n 1, 1) := by decide +kernel
theorem dX8_setSlot_17 : decode cX8_setSlot 17 = .ok (.iadd, 1) := by decide +kernel
theorem dX8_setSlot_18 : decode cX8_setSlot 18 = .ok (.iload_n 2, 1) := by decide +kernel
theorem dX8_setSlot_19 : decode cX8_setSlot 19 = .ok (.iload_n 3, 1) := by decide +kernel
theorem dX8_setSlot_20 : decode cX8_setSlot 20 = .ok (.invokevirtual 91, 3) := by decide +kernel
theorem dX8_setSlot_23 : decode cX8_setSlot 23 = .ok (.return_, 1) := by decide +kernel
set_option maxHeartbeats 8000000 in
set_option maxRecDepth 100000 in
theorem a_W_setSlot (l : Launch) (D : va_G) (g : Nat → ClassId)  (sz : Nat) (h : Nat) (wa : Nat → Nat) (wi : Nat → Int32) (wr : Nat → Nat) (wf : Nat → Nat → Int32) (ph : Nat) (rh : Nat) (la : Nat → Nat) (pa : Nat → Nat) (pr : Nat → Nat) (pf : Nat → Nat → Int32) (ca : Nat → Nat) (ci : Nat → Int32) (cr : Nat → Nat) (cf : Nat → Nat → Int32) (lr : Nat → Nat) (lf : Nat → Nat → Int32) (lmx : Nat) (n1 : Int32) (n2 : Int32) (n3 : Int32) (hw_w : ∀ k, wr k ≤ woW_lim k) (hw_p : ∀ k, pr k ≤ pgW_lim k) (hw_c : ∀ k, cr k ≤ rcW_lim k) (hw_l : ∀ k, lr k ≤ (plW_lim lmx) k) (hmx_l : lmx ≤ 30) : vz_Mv l D (tyG g) yX8_setSlot cX8_setSlot 4 1 24 0 0 [.ref h, .int n1, .int n2, .int n3] sz ((woW g h wa wi wr wf ph rh (la 0)) ++ (pgW g ph pa pr pf) ++ (rcW g rh ca ci cr cf) ++ (plW g la lr lf lmx)) (fun u : (Nat → Nat → Int32) => True) (fun u => (woW g h wa wi wr u ph rh (la 0)) ++ (pgW g ph pa pr pf) ++ (rcW g rh ca ci cr cf) ++ (plW g la lr lf lmx)) := by
  refine vz_svQ (by decide) (Nat.le_of_ble_eq_true rfl) (fun p e s m args below meth c hx hb hr hml hts hown hlk hin hK hsz A hA H locs hP hD hS ls hl Q hQ => ?_)
  have hl : lv_has ls 4 [(0, .ref h), (1, .int n1), (2, .int n2), (3, .int n3)] := hl
  refine lv_aload_n hx hb dX8_setSlot_0 rfl (lv_at hl 0 rfl) ?_
  refine va_get (D := D) (ci := 8) (v := .ref (wa 4)) (C := RX8) (T := TX8) (N := 11) hx hb hts inlX8 hown hK hP 0 rfl rfl 2 (by decide) (hts _ q136) (fun _ h => h) rfl dX8_setSlot_1 ?_
  refine lv_aload_n hx hb dX8_setSlot_4 rfl (lv_at hl 0 rfl) ?_
  refine va_get (D := D) (ci := 8) (v := .ref (wa 2)) (C := RX8) (T := TX8) (N := 11) hx hb hts inlX8 hown hK hP 0 rfl rfl 1 (by decide) (hts _ q135) (fun _ h => h) rfl dX8_setSlot_5 ?_
  refine va_get (D := D) (ci := 6) (v := .int (nI (wr 1))) (C := RX6) (T := TX6) (N := 4) hx hb hts inlX6 hown hK hP 3 rfl rfl 3 (by decide) (hts _ q1021) (fun _ h => h) rfl dX8_setSlot_8 ?_
  refine lv_iconst (v := 1) hx hb dX8_setSlot_11 (by decide) ?_
  refine lv_isub hx hb dX8_setSlot_12 ?_
  refine lv_bipush (v := 6) hx hb dX8_setSlot_13 (by decide) ?_
  refine lv_imul hx hb dX8_setSlot_15 ?_
  refine lv_iload_n hx hb dX8_setSlot_16 rfl (lv_at hl 1 rfl) ?_
  refine lv_iadd hx hb dX8_setSlot_17 ?_
  refine lv_iload_n hx hb dX8_setSlot_18 rfl (lv_at hl 2 rfl) ?_
  refine lv_iload_n hx hb dX8_setSlot_19 rfl (lv_at hl 3 rfl) ?_
  refine vz_Vv2 (ws' := fun u : (Nat → Int32) => (woW g h wa wi wr (vz_uf wf 2 u) ph rh (la 0)) ++ (pgW g ph pa pr pf) ++ (rcW g rh ca ci cr cf) ++ (plW g la lr lf lmx)) (As := [.int ((((nI (wr 1)) - 1) * 6) + n1), .int n2, .int n3]) (rest := []) hx hb hml hown hts hK hA hP hD hS (c_T_set l D g (wa 4) (wa 5) H.size 11 72 (wr 2) 792 (wf 2) ((((nI (wr 1)) - 1) * 6) + n1) n2 n3 ⟨rfl, by decide, by decide, by decide, by decide, hw_w 2⟩) kv_X8_91 ⟨Nat.le_of_ble_eq_true rfl, Nat.le_of_ble_eq_true rfl⟩ (q0 := 5) (ci := 6) rfl rfl rfl [5, 6] rfl (by decide) (fun _ => rfl) (fun _ => rfl) hl.1 (Nat.le_of_ble_eq_true rfl) dX8_setSlot_20 ⟨Nat.le_refl _, Nat.le_refl _⟩ rfl (fun nf1 H locs _ _ hP hD hS => ?_)
  obtain ⟨wf_2, hP, hD⟩ : ∃ wf_2 : Nat → Nat → Int32, va_P D vwCl ((woW g h wa wi wr wf_2 ph rh (la 0)) ++ (pgW g ph pa pr pf) ++ (rcW g rh ca ci cr cf) ++ (plW g la lr lf lmx)) H ∧ va_D A ((woW g h wa wi wr wf_2 ph rh (la 0)) ++ (pgW g ph pa pr pf) ++ (rcW g rh ca ci cr cf) ++ (plW g la lr lf lmx)) := ⟨(vz_uf wf 2 nf1), hP, hD⟩
  rw [hQ]
  exact vz_vret3 hx hb hr hlk hK hP hD hS wf_2 trivial rfl (Nat.le_refl 0) (Nat.le_refl 0) dX8_setSlot_23
theorem q1052 : Cond.fieldLink RX8 82 "WaysAtlas$RunRecord" "activations" "LWaysAtlas$Table;" ∈ wsL_law := mT_1 (List.mem_of_getElem? (i := 213) rfl) rfl
theorem q1055 : Cond.methodLink RX8 83 yX6_add ∈ wsL_law := mT_4 (List.mem_of_getElem? (i := 217) rfl) rfl
theorem kv_X8_83 : vz_cv RX8 83 yX6_add cX6_add 2 (some .int) 0 := ⟨q1055, q261, q262, q15, q263, by decide +kernel⟩
theorem q1056 : Cond.methodLink RX8 87 yX8_now ∈ wsL_law := mT_4 (List.mem_of_getElem? (i := 218) rfl) rfl
theorem q1057 : Cond.instanceMethod yX8_now ∈ wsL_law := mT_4 (List.mem_of_getElem? (i := 219) rfl) rfl
theorem q1058 : Cond.selects RX8 yX8_now yX8_now ∈ wsL_law := mT_4 (List.mem_of_getElem? (i := 220) rfl) rfl
theorem q47 : Cond.initialized RX8 ∈ wsL_law := mT_1 (List.mem_of_getElem? (i := 9) rfl) rfl
theorem q1059 : Cond.code yX8_now cX8_now 2 (some .int) ∈ wsL_law := mT_4 (List.mem_of_getElem? (i := 221) rfl) rfl
theorem kv_X8_87 : vz_cv RX8 87 yX8_now cX8_now 2 (some .int) 1 := ⟨q1056, q1057, q1058, q47, q1059, by decide +kernel⟩
theorem q1062 : Cond.methodLink RX8 95 yX8_setNow ∈ wsL_law := mT_4 (List.mem_of_getElem? (i := 224) rfl) rfl
theorem q1063 : Cond.instanceMethod yX8_setNow ∈ wsL_law := mT_4 (List.mem_of_getElem? (i := 225) rfl) rfl
theorem q1064 : Cond.selects RX8 yX8_setNow yX8_setNow ∈ wsL_law := mT_4 (List.mem_of_getElem? (i := 226) rfl) rfl
theorem q1065 : Cond.code yX8_setNow cX8_setNow 3 none ∈ wsL_law := mT_4 (List.mem_of_getElem? (i := 227) rfl) rfl
theorem kv_X8_95 : vz_cv RX8 95 yX8_setNow cX8_setNow 3 none 2 := ⟨q1062, q1063, q1064, q47, q1065, by decide +kernel⟩
theorem q1053 : Cond.fieldLink RX8 98 "WaysAtlas$RunRecord" "deepest" "I" ∈ wsL_law := mT_1 (List.mem_of_getElem? (i := 235) rfl) rfl
theorem q1054 : Cond.methodLink RX8 101 Lib.Math.max.name ∈ wsL_law := mT_4 (List.mem_of_getElem? (i := 228) rfl) rfl
theorem dX8_enter_0 : decode cX8_enter 0 = .ok (.aload_n 0, 1) := by decide +kernel
theorem dX8_enter_1 : decode cX8_enter 1 = .ok (.getfield 19, 3) := by decide +kernel
theorem dX8_enter_4 : decode cX8_enter 4 = .ok (.getfield 82, 3) := by decide +kernel
theorem dX8_enter_7 : decode cX8_enter 7 = .ok (.invokevirtual 83, 3) := by decide +kernel
theorem dX8_enter_10 : decode cX8_enter 10 = .ok (.istore 4, 2) := by decide +kernel
theorem dX8_enter_12 : decode cX8_enter 12 = .ok (.aload_n 0, 1) := by decide +kernel
theorem dX8_enter_13 : decode cX8_enter 13 = .ok (.getfield 19, 3) := by decide +kernel
theorem dX8_enter_16 : decode cX8_enter 16 = .ok (.getfield 82, 3) := by decide +kernel
theorem dX8_enter_19 : decode cX8_enter 19 = .ok (.iload 4, 2) := by decide +kernel
theorem dX8_enter_21 : decode cX8_enter 21 = .ok (.iconst 0, 1) := by decide +kernel
theorem dX8_enter_22 : decode cX8_enter 22 = .ok (.aload_n 0, 1) := by decide +kernel
theorem dX8_enter_23 : decode cX8_enter 23 = .ok (.iconst 1, 1) := by decide +kernel
theorem dX8_enter_24 : decode cX8_enter 24 = .ok (.invokevirtual 87, 3) := by decide +kernel
theorem dX8_enter_27 : decode cX8_enter 27 = .ok (.invokevirtual 91, 3) := by decide +kernel
theorem dX8_enter_30 : decode cX8_enter 30 = .ok (.aload_n 0, 1) := by decide +kernel
theorem dX8_enter_31 : decode cX8_enter 31 = .ok (.getfield 19, 3) := by decide +kernel
theorem dX8_enter_34 : decode cX8_enter 34 = .ok (.getfield 82, 3) := by decide +kernel
theorem dX8_enter_37 : decode cX8_enter 37 = .ok (.iload 4, 2) := by decide +kernel
theorem dX8_enter_39 : decode cX8_enter 39 = .ok (.iconst 2, 1) := by decide +kernel
theorem dX8_enter_40 : decode cX8_enter 40 = .ok (.aload_n 0, 1) := by decide +kernel
theorem dX8_enter_41 : decode cX8_enter 41 = .ok (.iconst 0, 1) := by decide +kernel
theorem dX8_enter_42 : decode cX8_enter 42 = .ok (.invokevirtual 87, 3) := by decide +kernel
theorem dX8_enter_45 : decode cX8_enter 45 = .ok (.invokevirtual 91, 3) := by decide +kernel
theorem dX8_enter_48 : decode cX8_enter 48 = .ok (.aload_n 0, 1) := by decide +kernel
theorem dX8_enter_49 : decode cX8_enter 49 = .ok (.getfield 19, 3) := by decide +kernel
theorem dX8_enter_52 : decode cX8_enter 52 = .ok (.getfield 82, 3) := by decide +kernel
theorem dX8_enter_55 : decode cX8_enter 55 = .ok (.iload 4, 2) := by decide +kernel
theorem dX8_enter_57 : decode cX8_enter 57 = .ok (.iconst 1, 1) := by decide +kernel
theorem dX8_enter_58 : decode cX8_enter 58 = .ok (.iload_n 1, 1) := by decide +kernel
theorem dX8_enter_59 : decode cX8_enter 59 = .ok (.invokevirtual 91, 3) := by decide +kernel
theorem dX8_enter_62 : decode cX8_enter 62 = .ok (.aload_n 0, 1) := by decide +kernel
theorem dX8_enter_63 : decode cX8_enter 63 = .ok (.getfield 31, 3) := by decide +kernel
theorem dX8_enter_66 : decode cX8_enter 66 = .ok (.invokevirtual 83, 3) := by decide +kernel
theorem dX8_enter_69 : decode cX8_enter 69 = .ok (.pop, 1) := by decide +kernel
theorem dX8_enter_70 : decode cX8_enter 70 = .ok (.aload_n 0, 1) := by decide +kernel
theorem dX8_enter_71 : decode cX8_enter 71 = .ok (.iconst 1, 1) := by decide +kernel
theorem dX8_enter_72 : decode cX8_enter 72 = .ok (.iload 4, 2) := by decide +kernel
theorem dX8_enter_74 : decode cX8_enter 74 = .ok (.invokevirtual 95, 3) := by decide +kernel
theorem dX8_enter_77 : decode cX8_enter 77 = .ok (.iconst 0, 1) := by decide +kernel
theorem dX8_enter_78 : decode cX8_enter 78 = .ok (.istore 5, 2) := by decide +kernel
theorem dX8_enter_80 : decode cX8_enter 80 = .ok (.iload 5, 2) := by decide +kernel
theorem dX8_enter_82 : decode cX8_enter 82 = .ok (.bipush 6, 2) := by decide +kernel
theorem dX8_enter_84 : decode cX8_enter 84 = .ok (.if_icmp .ge 37, 3) := by decide +kernel
theorem dX8_enter_87 : decode cX8_enter 87 = .ok (.aload_n 0, 1) := by decide +kernel
theorem dX8_enter_88 : decode cX8_enter 88 = .ok (.iconst 3, 1) := by decide +kernel
theorem dX8_enter_89 : decode cX8_enter 89 = .ok (.iload 5, 2) := by decide +kernel
theorem dX8_enter_91 : decode cX8_enter 91 = .ok (.iadd, 1) := by decide +kernel
theorem dX8_enter_92 : decode cX8_enter 92 = .ok (.iload 5, 2) := by decide +kernel
theorem dX8_enter_94 : decode cX8_enter 94 = .ok (.ifCond .ne 7, 3) := by decide +kernel
theorem dX8_enter_97 : decode cX8_enter 97 = .ok (.iload_n 2, 1) := by decide +kernel
theorem dX8_enter_98 : decode cX8_enter 98 = .ok (.goto 14, 3) := by decide +kernel
theorem dX8_enter_101 : decode cX8_enter 101 = .ok (.iload 5, 2) := by decide +kernel
theorem dX8_enter_103 : decode cX8_enter 103 = .ok (.iconst 1, 1) := by decide +kernel
theorem dX8_enter_104 : decode cX8_enter 104 = .ok (.if_icmp .ne 7, 3) := by decide +kernel
theorem dX8_enter_107 : decode cX8_enter 107 = .ok (.iload_n 3, 1) := by decide +kernel
theorem dX8_enter_108 : decode cX8_enter 108 = .ok (.goto 4, 3) := by decide +kernel
theorem dX8_enter_111 : decode cX8_enter 111 = .ok (.iconst 0, 1) := by decide +kernel
theorem dX8_enter_112 : decode cX8_enter 112 = .ok (.invokevirtual 95, 3) := by decide +kernel
theorem dX8_enter_115 : decode cX8_enter 115 = .ok (.iinc 5 1, 3) := by decide +kernel
theorem dX8_enter_118 : decode cX8_enter 118 = .ok (.goto (-38), 3) := by decide +kernel
theorem dX8_enter_121 : decode cX8_enter 121 = .ok (.aload_n 0, 1) := by decide +kernel
theorem dX8_enter_122 : decode cX8_enter 122 = .ok (.getfield 19, 3) := by decide +kernel
theorem dX8_enter_125 : decode cX8_enter 125 = .ok (.aload_n 0, 1) := by decide +kernel
theorem dX8_enter_126 : decode cX8_enter 126 = .ok (.getfield 19, 3) := by decide +kernel
theorem dX8_enter_129 : decode cX8_enter 129 = .ok (.getfield 98, 3) := by decide +kernel
theorem dX8_enter_132 : decode cX8_enter 132 = .ok (.aload_n 0, 1) := by decide +kernel
theorem dX8_enter_133 : decode cX8_enter 133 = .ok (.getfield 31, 3) := by decide +kernel
theorem dX8_enter_136 : decode cX8_enter 136 = .ok (.getfield 58, 3) := by decide +kernel
theorem dX8_enter_139 : decode cX8_enter 139 = .ok (.invokestatic 101, 3) := by decide +kernel
theorem dX8_enter_142 : decode cX8_enter 142 = .ok (.putfield 98, 3) := by decide +kernel
theorem dX8_enter_145 : decode cX8_enter 145 = .ok (.return_, 1) := by decide +kernel
set_option maxHeartbeats 8000000 in
set_option maxRecDepth 100000 in
theorem a_W_enter (l : Launch) (D : va_G) (g : Nat → ClassId)  (sz : Nat) (h : Nat) (wa : Nat → Nat) (wi : Nat → Int32) (wr : Nat → Nat) (wf : Nat → Nat → Int32) (ph : Nat) (rh : Nat) (la : Nat → Nat) (pa : Nat → Nat) (pr : Nat → Nat) (pf : Nat → Nat → Int32) (ca : Nat → Nat) (ci : Nat → Int32) (cr : Nat → Nat) (cf : Nat → Nat → Int32) (lr : Nat → Nat) (lf : Nat → Nat → Int32) (lmx : Nat) (n1 : Int32) (n2 : Int32) (n3 : Int32) (hw_w : ∀ k, wr k ≤ woW_lim k) (hw_p : ∀ k, pr k ≤ pgW_lim k) (hw_c : ∀ k, cr k ≤ rcW_lim k) (hw_l : ∀ k, lr k ≤ (plW_lim lmx) k) (hmx_l : lmx ≤ 30) : vz_Mv l D (tyG g) yX8_enter cX8_enter 6 2 46 0 0 [.ref h, .int n1, .int n2, .int n3] sz ((woW g h wa wi wr wf ph rh (la 0)) ++ (pgW g ph pa pr pf) ++ (rcW g rh ca ci cr cf) ++ (plW g la lr lf lmx)) (fun u : (Nat → Nat) × (Nat → Nat → Int32) × (Nat → Int32) × (Nat → Nat) × (Nat → Nat → Int32) => (∀ k, u.1 k ≤ woW_lim k) ∧ (∀ k, u.2.2.2.1 k ≤ rcW_lim k)) (fun u => (woW g h wa wi u.1 u.2.1 ph rh (la 0)) ++ (pgW g ph pa pr pf) ++ (rcW g rh ca u.2.2.1 u.2.2.2.1 u.2.2.2.2) ++ (plW g la lr lf lmx)) := by
  refine vz_svQ (by decide) (Nat.le_of_ble_eq_true rfl) (fun p e s m args below meth c hx hb hr hml hts hown hlk hin hK hsz A hA H locs hP hD hS ls hl Q hQ => ?_)
  have hl : lv_has ls 6 [(0, .ref h), (1, .int n1), (2, .int n2), (3, .int n3)] := hl
  have J80 : ∀ (fu80 n80 : Nat), 6 - n80 < fu80 → n80 ≤ 6 → ∀ (x4_80 : Int32), ∀ (wr_80 : Nat → Nat), ∀ (wf_80 : Nat → Nat → Int32), ∀ (ci_80 : Nat → Int32), ∀ (cr_80 : Nat → Nat), ∀ (cf_80 : Nat → Nat → Int32), (∀ k, wr_80 k ≤ woW_lim k) → (∀ k, cr_80 k ≤ rcW_lim k) → ∀ (H : Heap) (locs : List Loc) (ls : Array Slot), va_P D vwCl ((woW g h wa wi wr_80 wf_80 ph rh (la 0)) ++ (pgW g ph pa pr pf) ++ (rcW g rh ca ci_80 cr_80 cf_80) ++ (plW g la lr lf lmx)) H → va_D A ((woW g h wa wi wr_80 wf_80 ph rh (la 0)) ++ (pgW g ph pa pr pf) ++ (rcW g rh ca ci_80 cr_80 cf_80) ++ (plW g la lr lf lmx)) → va_S A s.heap H locs → lv_has ls 6 [(0, .ref h), (1, .int n1), (2, .int n2), (3, .int n3), (4, .int x4_80), (5, .int (nI n80))] → W p l e { frames := 2, cells := 0, slots := 0, locals := 46 } s m args below meth c H locs 0 0 Q (F0 m 80 ls []) := by
    intro fu80
    induction fu80 with
    | zero => intro n80 z; omega
    | succ fu80 ih80 =>
      intro n80 hf80 hb80 x4_80 wr_80 wf_80 ci_80 cr_80 cf_80 hw_w_80 hw_c_80 H locs ls hP hD hS hl
      have J112 : n80 < 6 → ∀ (y0_112 : Int32), ∀ (y1_112 : Int32), ∀ (wr_112 : Nat → Nat), ∀ (wf_112 : Nat → Nat → Int32), ∀ (ci_112 : Nat → Int32), ∀ (cr_112 : Nat → Nat), ∀ (cf_112 : Nat → Nat → Int32), (∀ k, wr_112 k ≤ woW_lim k) → (∀ k, cr_112 k ≤ rcW_lim k) → ∀ (H : Heap) (locs : List Loc) (ls : Array Slot), va_P D vwCl ((woW g h wa wi wr_112 wf_112 ph rh (la 0)) ++ (pgW g ph pa pr pf) ++ (rcW g rh ca ci_112 cr_112 cf_112) ++ (plW g la lr lf lmx)) H → va_D A ((woW g h wa wi wr_112 wf_112 ph rh (la 0)) ++ (pgW g ph pa pr pf) ++ (rcW g rh ca ci_112 cr_112 cf_112) ++ (plW g la lr lf lmx)) → va_S A s.heap H locs → lv_has ls 6 [(0, .ref h), (1, .int n1), (2, .int n2), (3, .int n3), (4, .int x4_80), (5, .int (nI n80))] → W p l e { frames := 2, cells := 0, slots := 0, locals := 46 } s m args below meth c H locs 0 0 Q (F0 m 112 ls [.int y0_112, .int y1_112, .ref h]) := by
        intro hn80 y0_112 y1_112 wr_112 wf_112 ci_112 cr_112 cf_112 hw_w_112 hw_c_112 H locs ls hP hD hS hl
        refine vz_Vv3 (As := [.int y1_112, .int y0_112]) (rest := []) hx hb hml hown hts hK hA hP hD hS (a_W_setNow l D g H.size h wa wi wr_112 wf_112 ph rh la pa pr pf ca ci_112 cr_112 cf_112 lr lf lmx y1_112 y0_112 hw_w_112 hw_p hw_c_112 hw_l hmx_l) kv_X8_95 ⟨Nat.le_of_ble_eq_true rfl, Nat.le_of_ble_eq_true rfl⟩ (q0 := 0) (ci := 8) rfl rfl rfl  hl.1 (Nat.le_of_ble_eq_true rfl) dX8_enter_112 ⟨Nat.le_refl _, Nat.le_refl _⟩ rfl (fun wf_1 H locs _ _ hP hD hS => ?_)
        replace hP : va_P D vwCl ((woW g h wa wi wr_112 wf_1 ph rh (la 0)) ++ (pgW g ph pa pr pf) ++ (rcW g rh ca ci_112 cr_112 cf_112) ++ (plW g la lr lf lmx)) H := hP
        replace hD : va_D A ((woW g h wa wi wr_112 wf_1 ph rh (la 0)) ++ (pgW g ph pa pr pf) ++ (rcW g rh ca ci_112 cr_112 cf_112) ++ (plW g la lr lf lmx)) := hD
        refine lv_iinc (v := (nI (n80 + 1))) (lv' := [(5, .int (nI (n80 + 1))), (0, .ref h), (1, .int n1), (2, .int n2), (3, .int n3), (4, .int x4_80)]) hx hb dX8_enter_115 hl (k := 5) rfl (nI_1 n80) (by decide) rfl (fun ls hl => ?_)
        refine lv_goto (tgt := 80) hx hb dX8_enter_118 (by decide) ?_
        exact ih80 (n80 + 1) (by omega) (by omega) x4_80 wr_112 wf_1 ci_112 cr_112 cf_112 hw_w_112 hw_c_112 H locs ls hP hD hS (lv_sub hl [1, 2, 3, 4, 5, 0] rfl)
      refine lv_iload hx hb dX8_enter_80 (lv_at hl 5 rfl) ?_
      refine lv_bipush (v := 6) hx hb dX8_enter_82 (by decide) ?_
      refine lv_icmp_ge (tgt := 121) hx hb dX8_enter_84 (by decide) (fun kc1 => ?_) (fun kc1 => ?_)
      · refine lv_aload_n hx hb dX8_enter_121 rfl (lv_at hl 0 rfl) ?_
        refine va_get (D := D) (ci := 8) (v := .ref rh) (C := RX8) (T := TX8) (N := 11) hx hb hts inlX8 hown hK hP 0 rfl rfl 6 (by decide) (hts _ q132) (fun _ h => h) rfl dX8_enter_122 ?_
        refine lv_aload_n hx hb dX8_enter_125 rfl (lv_at hl 0 rfl) ?_
        refine va_get (D := D) (ci := 8) (v := .ref rh) (C := RX8) (T := TX8) (N := 11) hx hb hts inlX8 hown hK hP 0 rfl rfl 6 (by decide) (hts _ q132) (fun _ h => h) rfl dX8_enter_126 ?_
        refine va_get (D := D) (ci := 4) (v := .int (ci_80 5)) (C := RX4) (T := TX4) (N := 12) hx hb hts inlX4 hown hK hP 22 rfl rfl 10 (by decide) (hts _ q1053) (fun _ h => h) rfl dX8_enter_129 ?_
        refine lv_aload_n hx hb dX8_enter_132 rfl (lv_at hl 0 rfl) ?_
        refine va_get (D := D) (ci := 8) (v := .ref (wa 2)) (C := RX8) (T := TX8) (N := 11) hx hb hts inlX8 hown hK hP 0 rfl rfl 1 (by decide) (hts _ q135) (fun _ h => h) rfl dX8_enter_133 ?_
        refine va_get (D := D) (ci := 6) (v := .int (nI (wr_80 1))) (C := RX6) (T := TX6) (N := 4) hx hb hts inlX6 hown hK hP 3 rfl rfl 3 (by decide) (hts _ q1021) (fun _ h => h) rfl dX8_enter_136 ?_
        refine va_mmax hx hb (hml.trans hl.1.symm) hown (hts _ q1054) (hts _ q65) (hts _ q66) (hts _ q67) (Nat.le_of_ble_eq_true rfl) (Nat.le_of_ble_eq_true rfl) (Nat.le_of_ble_eq_true rfl) (Nat.le_of_ble_eq_true rfl) dX8_enter_139 ?_
        refine va_put (D := D) (ci := 4) (v := .int (if (ci_80 5) < (nI (wr_80 1)) then (nI (wr_80 1)) else (ci_80 5))) (ty := .int) (C := RX4) (T := TX4) (N := 12) hx hb hts inlX4 tyX4 tyX4_ok nmX4 hown hK hP hD hS 22 rfl rfl 10 (by decide) (hts _ q1053) (fun _ h => h) rfl (by decide +kernel) rfl rfl (Nat.le_of_ble_eq_true rfl) dX8_enter_142 (fun H locs hP hD hS => ?_)
        obtain ⟨ci_2, hci_2, hP, hD⟩ : ∃ ci_2 : Nat → Int32, (ci_2 = (upd ci_80 5 (if (ci_80 5) < (nI (wr_80 1)) then (nI (wr_80 1)) else (ci_80 5)))) ∧ va_P D vwCl ((woW g h wa wi wr_80 wf_80 ph rh (la 0)) ++ (pgW g ph pa pr pf) ++ (rcW g rh ca ci_2 cr_80 cf_80) ++ (plW g la lr lf lmx)) H ∧ va_D A ((woW g h wa wi wr_80 wf_80 ph rh (la 0)) ++ (pgW g ph pa pr pf) ++ (rcW g rh ca ci_2 cr_80 cf_80) ++ (plW g la lr lf lmx)) := ⟨(upd ci_80 5 (if (ci_80 5) < (nI (wr_80 1)) then (nI (wr_80 1)) else (ci_80 5))), rfl, hP, hD⟩
        rw [hQ]
        exact vz_vret3 hx hb hr hlk hK hP hD hS (wr_80, wf_80, ci_2, cr_80, cf_80) (⟨hw_w_80, hw_c_80⟩) rfl (Nat.le_refl 0) (Nat.le_refl 0) dX8_enter_145
      · have hn80 : n80 < 6 := vz_ltge (B := 6) (by omega) kc1
        refine lv_aload_n hx hb dX8_enter_87 rfl (lv_at hl 0 rfl) ?_
        refine lv_iconst (v := 3) hx hb dX8_enter_88 (by decide) ?_
        refine lv_iload hx hb dX8_enter_89 (lv_at hl 5 rfl) ?_
        refine lv_iadd hx hb dX8_enter_91 ?_
        refine lv_iload hx hb dX8_enter_92 (lv_at hl 5 rfl) ?_
        refine lv_if_ne (tgt := 101) hx hb dX8_enter_94 (by decide) (fun kc3 => ?_) (fun kc3 => ?_)
        · refine lv_iload hx hb dX8_enter_101 (lv_at hl 5 rfl) ?_
          refine lv_iconst (v := 1) hx hb dX8_enter_103 (by decide) ?_
          refine lv_icmp_ne (tgt := 111) hx hb dX8_enter_104 (by decide) (fun kc4 => ?_) (fun kc4 => ?_)
          · refine lv_iconst (v := 0) hx hb dX8_enter_111 (by decide) ?_
            exact J112 hn80 0 (3 + (nI n80)) wr_80 wf_80 ci_80 cr_80 cf_80 hw_w_80 hw_c_80 H locs ls hP hD hS (lv_sub hl [0, 1, 2, 3, 4, 5] rfl)
          · refine lv_iload_n hx hb dX8_enter_107 rfl (lv_at hl 3 rfl) ?_
            refine lv_goto (tgt := 112) hx hb dX8_enter_108 (by decide) ?_
            exact J112 hn80 n3 (3 + (nI n80)) wr_80 wf_80 ci_80 cr_80 cf_80 hw_w_80 hw_c_80 H locs ls hP hD hS (lv_sub hl [0, 1, 2, 3, 4, 5] rfl)
        · refine lv_iload_n hx hb dX8_enter_97 rfl (lv_at hl 2 rfl) ?_
          refine lv_goto (tgt := 112) hx hb dX8_enter_98 (by decide) ?_
          exact J112 hn80 n2 (3 + (nI n80)) wr_80 wf_80 ci_80 cr_80 cf_80 hw_w_80 hw_c_80 H locs ls hP hD hS (lv_sub hl [0, 1, 2, 3, 4, 5] rfl)
  refine lv_aload_n hx hb dX8_enter_0 rfl (lv_at hl 0 rfl) ?_
  refine va_get (D := D) (ci := 8) (v := .ref rh) (C := RX8) (T := TX8) (N := 11) hx hb hts inlX8 hown hK hP 0 rfl rfl 6 (by decide) (hts _ q132) (fun _ h => h) rfl dX8_enter_1 ?_
  refine va_get (D := D) (ci := 4) (v := .ref (ca 4)) (C := RX4) (T := TX4) (N := 12) hx hb hts inlX4 hown hK hP 22 rfl rfl 2 (by decide) (hts _ q1052) (fun _ h => h) rfl dX8_enter_4 ?_
  refine vz_Vi2 (ws' := fun u : (Nat × (Nat → Int32)) => (woW g h wa wi wr wf ph rh (la 0)) ++ (pgW g ph pa pr pf) ++ (rcW g rh ca ci (vz_un cr 2 u.1) (vz_uf cf 2 u.2)) ++ (plW g la lr lf lmx)) (As := []) (rest := []) hx hb hml hown hts hK hA hP hD hS (c_T_add l D g (ca 4) (ca 5) H.size 3 401 (cr 2) 1203 (cf 2) ⟨rfl, by decide, by decide, by decide, by decide, hw_c 2⟩) kv_X8_83 ⟨Nat.le_of_ble_eq_true rfl, Nat.le_of_ble_eq_true rfl⟩ (q0 := 27) (ci := 6) rfl rfl rfl [27, 28] rfl (by decide) (fun _ => rfl) (fun _ => rfl) hl.1 (Nat.le_of_ble_eq_true rfl) dX8_enter_7 ⟨Nat.le_refl _, Nat.le_refl _⟩ rfl (fun v3 ⟨u1R, u1f⟩ H locs ha2 _ hP hD hS => ?_)
  have hq : (cr 2) ≤ 401 := hw_c 2
  replace ha2 : u1R ≤ 401 := by rcases ha2 with ⟨z1, -, z2, -⟩ | ⟨z1, -, z2, -⟩ <;> (dsimp only at z2; omega)
  obtain ⟨cr_4, hw_cr_4, cf_5, hP, hD⟩ : ∃ cr_4 : Nat → Nat, (∀ k, cr_4 k ≤ rcW_lim k) ∧ ∃ cf_5 : Nat → Nat → Int32, va_P D vwCl ((woW g h wa wi wr wf ph rh (la 0)) ++ (pgW g ph pa pr pf) ++ (rcW g rh ca ci cr_4 cf_5) ++ (plW g la lr lf lmx)) H ∧ va_D A ((woW g h wa wi wr wf ph rh (la 0)) ++ (pgW g ph pa pr pf) ++ (rcW g rh ca ci cr_4 cf_5) ++ (plW g la lr lf lmx)) := ⟨(vz_un cr 2 u1R), (vz_wf hw_c (t := 2) (v := u1R) (ha2)), (vz_uf cf 2 u1f), hP, hD⟩
  refine lv_istore (lv' := [(4, .int v3), (0, .ref h), (1, .int n1), (2, .int n2), (3, .int n3)]) hx hb dX8_enter_10 hl (by decide) rfl (fun ls hl => ?_)
  refine lv_aload_n hx hb dX8_enter_12 rfl (lv_at hl 1 rfl) ?_
  refine va_get (D := D) (ci := 8) (v := .ref rh) (C := RX8) (T := TX8) (N := 11) hx hb hts inlX8 hown hK hP 0 rfl rfl 6 (by decide) (hts _ q132) (fun _ h => h) rfl dX8_enter_13 ?_
  refine va_get (D := D) (ci := 4) (v := .ref (ca 4)) (C := RX4) (T := TX4) (N := 12) hx hb hts inlX4 hown hK hP 22 rfl rfl 2 (by decide) (hts _ q1052) (fun _ h => h) rfl dX8_enter_16 ?_
  refine lv_iload hx hb dX8_enter_19 (lv_at hl 0 rfl) ?_
  refine lv_iconst (v := 0) hx hb dX8_enter_21 (by decide) ?_
  refine lv_aload_n hx hb dX8_enter_22 rfl (lv_at hl 1 rfl) ?_
  refine lv_iconst (v := 1) hx hb dX8_enter_23 (by decide) ?_
  refine vz_Vi3 (As := [.int 1]) (rest := [.int 0, .int v3, .ref (ca 4)]) hx hb hml hown hts hK hA hP hD hS (a_W_now l D g H.size h wa wi wr wf ph rh la pa pr pf ca ci cr_4 cf_5 lr lf lmx 1 hw_w hw_p hw_cr_4 hw_l hmx_l) kv_X8_87 ⟨Nat.le_of_ble_eq_true rfl, Nat.le_of_ble_eq_true rfl⟩ (q0 := 0) (ci := 8) rfl rfl rfl  hl.1 (Nat.le_of_ble_eq_true rfl) dX8_enter_24 ⟨Nat.le_refl _, Nat.le_refl _⟩ rfl (fun v6 _ H locs _ _ hP hD hS => ?_)
  refine vz_Vv2 (ws' := fun u : (Nat → Int32) => (woW g h wa wi wr wf ph rh (la 0)) ++ (pgW g ph pa pr pf) ++ (rcW g rh ca ci cr_4 (vz_uf cf_5 2 u)) ++ (plW g la lr lf lmx)) (As := [.int v3, .int 0, .int v6]) (rest := []) hx hb hml hown hts hK hA hP hD hS (c_T_set l D g (ca 4) (ca 5) H.size 3 401 (cr_4 2) 1203 (cf_5 2) v3 0 v6 ⟨rfl, by decide, by decide, by decide, by decide, hw_cr_4 2⟩) kv_X8_91 ⟨Nat.le_of_ble_eq_true rfl, Nat.le_of_ble_eq_true rfl⟩ (q0 := 27) (ci := 6) rfl rfl rfl [27, 28] rfl (by decide) (fun _ => rfl) (fun _ => rfl) hl.1 (Nat.le_of_ble_eq_true rfl) dX8_enter_27 ⟨Nat.le_refl _, Nat.le_refl _⟩ rfl (fun nf7 H locs _ _ hP hD hS => ?_)
  obtain ⟨cf_8, hP, hD⟩ : ∃ cf_8 : Nat → Nat → Int32, va_P D vwCl ((woW g h wa wi wr wf ph rh (la 0)) ++ (pgW g ph pa pr pf) ++ (rcW g rh ca ci cr_4 cf_8) ++ (plW g la lr lf lmx)) H ∧ va_D A ((woW g h wa wi wr wf ph rh (la 0)) ++ (pgW g ph pa pr pf) ++ (rcW g rh ca ci cr_4 cf_8) ++ (plW g la lr lf lmx)) := ⟨(vz_uf cf_5 2 nf7), hP, hD⟩
  refine lv_aload_n hx hb dX8_enter_30 rfl (lv_at hl 1 rfl) ?_
  refine va_get (D := D) (ci := 8) (v := .ref rh) (C := RX8) (T := TX8) (N := 11) hx hb hts inlX8 hown hK hP 0 rfl rfl 6 (by decide) (hts _ q132) (fun _ h => h) rfl dX8_enter_31 ?_
  refine va_get (D := D) (ci := 4) (v := .ref (ca 4)) (C := RX4) (T := TX4) (N := 12) hx hb hts inlX4 hown hK hP 22 rfl rfl 2 (by decide) (hts _ q1052) (fun _ h => h) rfl dX8_enter_34 ?_
  refine lv_iload hx hb dX8_enter_37 (lv_at hl 0 rfl) ?_
  refine lv_iconst (v := 2) hx hb dX8_enter_39 (by decide) ?_
  refine lv_aload_n hx hb dX8_enter_40 rfl (lv_at hl 1 rfl) ?_
  refine lv_iconst (v := 0) hx hb dX8_enter_41 (by decide) ?_
  refine vz_Vi3 (As := [.int 0]) (rest := [.int 2, .int v3, .ref (ca 4)]) hx hb hml hown hts hK hA hP hD hS (a_W_now l D g H.size h wa wi wr wf ph rh la pa pr pf ca ci cr_4 cf_8 lr lf lmx 0 hw_w hw_p hw_cr_4 hw_l hmx_l) kv_X8_87 ⟨Nat.le_of_ble_eq_true rfl, Nat.le_of_ble_eq_true rfl⟩ (q0 := 0) (ci := 8) rfl rfl rfl  hl.1 (Nat.le_of_ble_eq_true rfl) dX8_enter_42 ⟨Nat.le_refl _, Nat.le_refl _⟩ rfl (fun v9 _ H locs _ _ hP hD hS => ?_)
  refine vz_Vv2 (ws' := fun u : (Nat → Int32) => (woW g h wa wi wr wf ph rh (la 0)) ++ (pgW g ph pa pr pf) ++ (rcW g rh ca ci cr_4 (vz_uf cf_8 2 u)) ++ (plW g la lr lf lmx)) (As := [.int v3, .int 2, .int v9]) (rest := []) hx hb hml hown hts hK hA hP hD hS (c_T_set l D g (ca 4) (ca 5) H.size 3 401 (cr_4 2) 1203 (cf_8 2) v3 2 v9 ⟨rfl, by decide, by decide, by decide, by decide, hw_cr_4 2⟩) kv_X8_91 ⟨Nat.le_of_ble_eq_true rfl, Nat.le_of_ble_eq_true rfl⟩ (q0 := 27) (ci := 6) rfl rfl rfl [27, 28] rfl (by decide) (fun _ => rfl) (fun _ => rfl) hl.1 (Nat.le_of_ble_eq_true rfl) dX8_enter_45 ⟨Nat.le_refl _, Nat.le_refl _⟩ rfl (fun nf10 H locs _ _ hP hD hS => ?_)
  obtain ⟨cf_11, hP, hD⟩ : ∃ cf_11 : Nat → Nat → Int32, va_P D vwCl ((woW g h wa wi wr wf ph rh (la 0)) ++ (pgW g ph pa pr pf) ++ (rcW g rh ca ci cr_4 cf_11) ++ (plW g la lr lf lmx)) H ∧ va_D A ((woW g h wa wi wr wf ph rh (la 0)) ++ (pgW g ph pa pr pf) ++ (rcW g rh ca ci cr_4 cf_11) ++ (plW g la lr lf lmx)) := ⟨(vz_uf cf_8 2 nf10), hP, hD⟩
  refine lv_aload_n hx hb dX8_enter_48 rfl (lv_at hl 1 rfl) ?_
  refine va_get (D := D) (ci := 8) (v := .ref rh) (C := RX8) (T := TX8) (N := 11) hx hb hts inlX8 hown hK hP 0 rfl rfl 6 (by decide) (hts _ q132) (fun _ h => h) rfl dX8_enter_49 ?_
  refine va_get (D := D) (ci := 4) (v := .ref (ca 4)) (C := RX4) (T := TX4) (N := 12) hx hb hts inlX4 hown hK hP 22 rfl rfl 2 (by decide) (hts _ q1052) (fun _ h => h) rfl dX8_enter_52 ?_
  refine lv_iload hx hb dX8_enter_55 (lv_at hl 0 rfl) ?_
  refine lv_iconst (v := 1) hx hb dX8_enter_57 (by decide) ?_
  refine lv_iload_n hx hb dX8_enter_58 rfl (lv_at hl 2 rfl) ?_
  refine vz_Vv2 (ws' := fun u : (Nat → Int32) => (woW g h wa wi wr wf ph rh (la 0)) ++ (pgW g ph pa pr pf) ++ (rcW g rh ca ci cr_4 (vz_uf cf_11 2 u)) ++ (plW g la lr lf lmx)) (As := [.int v3, .int 1, .int n1]) (rest := []) hx hb hml hown hts hK hA hP hD hS (c_T_set l D g (ca 4) (ca 5) H.size 3 401 (cr_4 2) 1203 (cf_11 2) v3 1 n1 ⟨rfl, by decide, by decide, by decide, by decide, hw_cr_4 2⟩) kv_X8_91 ⟨Nat.le_of_ble_eq_true rfl, Nat.le_of_ble_eq_true rfl⟩ (q0 := 27) (ci := 6) rfl rfl rfl [27, 28] rfl (by decide) (fun _ => rfl) (fun _ => rfl) hl.1 (Nat.le_of_ble_eq_true rfl) dX8_enter_59 ⟨Nat.le_refl _, Nat.le_refl _⟩ rfl (fun nf12 H locs _ _ hP hD hS => ?_)
  obtain ⟨cf_13, hP, hD⟩ : ∃ cf_13 : Nat → Nat → Int32, va_P D vwCl ((woW g h wa wi wr wf ph rh (la 0)) ++ (pgW g ph pa pr pf) ++ (rcW g rh ca ci cr_4 cf_13) ++ (plW g la lr lf lmx)) H ∧ va_D A ((woW g h wa wi wr wf ph rh (la 0)) ++ (pgW g ph pa pr pf) ++ (rcW g rh ca ci cr_4 cf_13) ++ (plW g la lr lf lmx)) := ⟨(vz_uf cf_11 2 nf12), hP, hD⟩
  refine lv_aload_n hx hb dX8_enter_62 rfl (lv_at hl 1 rfl) ?_
  refine va_get (D := D) (ci := 8) (v := .ref (wa 2)) (C := RX8) (T := TX8) (N := 11) hx hb hts inlX8 hown hK hP 0 rfl rfl 1 (by decide) (hts _ q135) (fun _ h => h) rfl dX8_enter_63 ?_
  refine vz_Vi2 (ws' := fun u : (Nat × (Nat → Int32)) => (woW g h wa wi (vz_un wr 1 u.1) (vz_uf wf 1 u.2) ph rh (la 0)) ++ (pgW g ph pa pr pf) ++ (rcW g rh ca ci cr_4 cf_13) ++ (plW g la lr lf lmx)) (As := []) (rest := []) hx hb hml hown hts hK hA hP hD hS (c_T_add l D g (wa 2) (wa 3) H.size 12 12 (wr 1) 144 (wf 1) ⟨rfl, by decide, by decide, by decide, by decide, hw_w 1⟩) kv_X8_83 ⟨Nat.le_of_ble_eq_true rfl, Nat.le_of_ble_eq_true rfl⟩ (q0 := 3) (ci := 6) rfl rfl rfl [3, 4] rfl (by decide) (fun _ => rfl) (fun _ => rfl) hl.1 (Nat.le_of_ble_eq_true rfl) dX8_enter_66 ⟨Nat.le_refl _, Nat.le_refl _⟩ rfl (fun v16 ⟨u14R, u14f⟩ H locs ha15 _ hP hD hS => ?_)
  have hq : (wr 1) ≤ 12 := hw_w 1
  replace ha15 : u14R ≤ 12 := by rcases ha15 with ⟨z1, -, z2, -⟩ | ⟨z1, -, z2, -⟩ <;> (dsimp only at z2; omega)
  obtain ⟨wr_17, hw_wr_17, wf_18, hP, hD⟩ : ∃ wr_17 : Nat → Nat, (∀ k, wr_17 k ≤ woW_lim k) ∧ ∃ wf_18 : Nat → Nat → Int32, va_P D vwCl ((woW g h wa wi wr_17 wf_18 ph rh (la 0)) ++ (pgW g ph pa pr pf) ++ (rcW g rh ca ci cr_4 cf_13) ++ (plW g la lr lf lmx)) H ∧ va_D A ((woW g h wa wi wr_17 wf_18 ph rh (la 0)) ++ (pgW g ph pa pr pf) ++ (rcW g rh ca ci cr_4 cf_13) ++ (plW g la lr lf lmx)) := ⟨(vz_un wr 1 u14R), (vz_wf hw_w (t := 1) (v := u14R) (ha15)), (vz_uf wf 1 u14f), hP, hD⟩
  refine lv_pop hx hb dX8_enter_69 rfl ?_
  refine lv_aload_n hx hb dX8_enter_70 rfl (lv_at hl 1 rfl) ?_
  refine lv_iconst (v := 1) hx hb dX8_enter_71 (by decide) ?_
  refine lv_iload hx hb dX8_enter_72 (lv_at hl 0 rfl) ?_
  refine vz_Vv3 (As := [.int 1, .int v3]) (rest := []) hx hb hml hown hts hK hA hP hD hS (a_W_setNow l D g H.size h wa wi wr_17 wf_18 ph rh la pa pr pf ca ci cr_4 cf_13 lr lf lmx 1 v3 hw_wr_17 hw_p hw_cr_4 hw_l hmx_l) kv_X8_95 ⟨Nat.le_of_ble_eq_true rfl, Nat.le_of_ble_eq_true rfl⟩ (q0 := 0) (ci := 8) rfl rfl rfl  hl.1 (Nat.le_of_ble_eq_true rfl) dX8_enter_74 ⟨Nat.le_refl _, Nat.le_refl _⟩ rfl (fun wf_19 H locs _ _ hP hD hS => ?_)
  replace hP : va_P D vwCl ((woW g h wa wi wr_17 wf_19 ph rh (la 0)) ++ (pgW g ph pa pr pf) ++ (rcW g rh ca ci cr_4 cf_13) ++ (plW g la lr lf lmx)) H := hP
  replace hD : va_D A ((woW g h wa wi wr_17 wf_19 ph rh (la 0)) ++ (pgW g ph pa pr pf) ++ (rcW g rh ca ci cr_4 cf_13) ++ (plW g la lr lf lmx)) := hD
  refine lv_iconst (v := 0) hx hb dX8_enter_77 (by decide) ?_
  refine lv_istore (lv' := [(5, .int 0), (4, .int v3), (0, .ref h), (1, .int n1), (2, .int n2), (3, .int n3)]) hx hb dX8_enter_78 hl (by decide) rfl (fun ls hl => ?_)
  exact J80 (7) 0 (by omega) (by omega) v3 wr_17 wf_19 ci cr_4 cf_13 hw_wr_17 hw_cr_4 H locs ls hP hD hS (lv_sub hl [2, 3, 4, 5, 1, 0] rfl)
theorem q1103 : Cond.fieldLink RX8 113 "WaysAtlas$RunRecord" "failures" "LWaysAtlas$Table;" ∈ wsL_law := mT_1 (List.mem_of_getElem? (i := 211) rfl) rfl
theorem dX8_kindOf_0 : decode cX8_kindOf 0 = .ok (.aload_n 0, 1) := by decide +kernel
theorem dX8_kindOf_1 : decode cX8_kindOf 1 = .ok (.getfield 19, 3) := by decide +kernel
theorem dX8_kindOf_4 : decode cX8_kindOf 4 = .ok (.getfield 113, 3) := by decide +kernel
theorem dX8_kindOf_7 : decode cX8_kindOf 7 = .ok (.iload_n 1, 1) := by decide +kernel
theorem dX8_kindOf_8 : decode cX8_kindOf 8 = .ok (.iconst 0, 1) := by decide +kernel
theorem dX8_kindOf_9 : decode cX8_kindOf 9 = .ok (.invokevirtual 110, 3) := by decide +kernel
theorem dX8_kindOf_12 : decode cX8_kindOf 12 = .ok (.ireturn, 1) := by decide +kernel
set_option maxHeartbeats 8000000 in
set_option maxRecDepth 100000 in
theorem a_W_kindOf (l : Launch) (D : va_G) (g : Nat → ClassId)  (sz : Nat) (h : Nat) (wa : Nat → Nat) (wi : Nat → Int32) (wr : Nat → Nat) (wf : Nat → Nat → Int32) (ph : Nat) (rh : Nat) (la : Nat → Nat) (pa : Nat → Nat) (pr : Nat → Nat) (pf : Nat → Nat → Int32) (ca : Nat → Nat) (ci : Nat → Int32) (cr : Nat → Nat) (cf : Nat → Nat → Int32) (lr : Nat → Nat) (lf : Nat → Nat → Int32) (lmx : Nat) (n1 : Int32) (hw_w : ∀ k, wr k ≤ woW_lim k) (hw_p : ∀ k, pr k ≤ pgW_lim k) (hw_c : ∀ k, cr k ≤ rcW_lim k) (hw_l : ∀ k, lr k ≤ (plW_lim lmx) k) (hmx_l : lmx ≤ 30) : vz_Mi l D (tyG g) yX8_kindOf cX8_kindOf 2 1 23 0 0 .int [.ref h, .int n1] sz ((woW g h wa wi wr wf ph rh (la 0)) ++ (pgW g ph pa pr pf) ++ (rcW g rh ca ci cr cf) ++ (plW g la lr lf lmx)) (fun r (u : Unit) => True) (fun u => (woW g h wa wi wr wf ph rh (la 0)) ++ (pgW g ph pa pr pf) ++ (rcW g rh ca ci cr cf) ++ (plW g la lr lf lmx)) := by
  refine vz_siQ (by decide) (Nat.le_of_ble_eq_true rfl) (fun p e s m args below meth c hx hb hr hml hts hown hlk hin hK hsz A hA H locs hP hD hS ls hl Q hQ => ?_)
  have hl : lv_has ls 2 [(0, .ref h), (1, .int n1)] := hl
  refine lv_aload_n hx hb dX8_kindOf_0 rfl (lv_at hl 0 rfl) ?_
  refine va_get (D := D) (ci := 8) (v := .ref rh) (C := RX8) (T := TX8) (N := 11) hx hb hts inlX8 hown hK hP 0 rfl rfl 6 (by decide) (hts _ q132) (fun _ h => h) rfl dX8_kindOf_1 ?_
  refine va_get (D := D) (ci := 4) (v := .ref (ca 2)) (C := RX4) (T := TX4) (N := 12) hx hb hts inlX4 hown hK hP 22 rfl rfl 1 (by decide) (hts _ q1103) (fun _ h => h) rfl dX8_kindOf_4 ?_
  refine lv_iload_n hx hb dX8_kindOf_7 rfl (lv_at hl 1 rfl) ?_
  refine lv_iconst (v := 0) hx hb dX8_kindOf_8 (by decide) ?_
  refine vz_Vi2 (ws' := fun u : Unit => (woW g h wa wi wr wf ph rh (la 0)) ++ (pgW g ph pa pr pf) ++ (rcW g rh ca ci cr cf) ++ (plW g la lr lf lmx)) (As := [.int n1, .int 0]) (rest := []) hx hb hml hown hts hK hA hP hD hS (c_T_get l D g (ca 2) (ca 3) H.size 7 400 (cr 1) 2800 (cf 1) n1 0 ⟨rfl, by decide, by decide, by decide, by decide, hw_c 1⟩) kv_X8_110 ⟨Nat.le_of_ble_eq_true rfl, Nat.le_of_ble_eq_true rfl⟩ (q0 := 25) (ci := 6) rfl rfl rfl [25, 26] rfl (by decide) (fun _ => rfl) (fun _ => rfl) hl.1 (Nat.le_of_ble_eq_true rfl) dX8_kindOf_9 ⟨Nat.le_refl _, Nat.le_refl _⟩ rfl (fun v1 _ H locs he2 _ hP hD hS => ?_)
  rw [hQ]
  exact vz_iret3 hx hb hr hlk hK hP hD hS () trivial rfl (Nat.le_refl 0) (Nat.le_refl 0) dX8_kindOf_12
theorem q139 : Cond.fieldLink RX8 46 "WaysAtlas$World" "thrown" "I" ∈ wsL_law := mT_2 (List.mem_of_getElem? (i := 52) rfl) rfl
theorem dX8_raise_0 : decode cX8_raise 0 = .ok (.aload_n 0, 1) := by decide +kernel
theorem dX8_raise_1 : decode cX8_raise 1 = .ok (.getfield 31, 3) := by decide +kernel
theorem dX8_raise_4 : decode cX8_raise 4 = .ok (.getfield 58, 3) := by decide +kernel
theorem dX8_raise_7 : decode cX8_raise 7 = .ok (.iconst 1, 1) := by decide +kernel
theorem dX8_raise_8 : decode cX8_raise 8 = .ok (.isub, 1) := by decide +kernel
theorem dX8_raise_9 : decode cX8_raise 9 = .ok (.istore_n 3, 1) := by decide +kernel
theorem dX8_raise_10 : decode cX8_raise 10 = .ok (.aload_n 0, 1) := by decide +kernel
theorem dX8_raise_11 : decode cX8_raise 11 = .ok (.getfield 19, 3) := by decide +kernel
theorem dX8_raise_14 : decode cX8_raise 14 = .ok (.getfield 113, 3) := by decide +kernel
theorem dX8_raise_17 : decode cX8_raise 17 = .ok (.invokevirtual 83, 3) := by decide +kernel
theorem dX8_raise_20 : decode cX8_raise 20 = .ok (.istore 4, 2) := by decide +kernel
theorem dX8_raise_22 : decode cX8_raise 22 = .ok (.aload_n 0, 1) := by decide +kernel
theorem dX8_raise_23 : decode cX8_raise 23 = .ok (.getfield 19, 3) := by decide +kernel
theorem dX8_raise_26 : decode cX8_raise 26 = .ok (.getfield 113, 3) := by decide +kernel
theorem dX8_raise_29 : decode cX8_raise 29 = .ok (.iload 4, 2) := by decide +kernel
theorem dX8_raise_31 : decode cX8_raise 31 = .ok (.iconst 0, 1) := by decide +kernel
theorem dX8_raise_32 : decode cX8_raise 32 = .ok (.iload_n 1, 1) := by decide +kernel
theorem dX8_raise_33 : decode cX8_raise 33 = .ok (.invokevirtual 91, 3) := by decide +kernel
theorem dX8_raise_36 : decode cX8_raise 36 = .ok (.aload_n 0, 1) := by decide +kernel
theorem dX8_raise_37 : decode cX8_raise 37 = .ok (.getfield 19, 3) := by decide +kernel
theorem dX8_raise_40 : decode cX8_raise 40 = .ok (.getfield 113, 3) := by decide +kernel
theorem dX8_raise_43 : decode cX8_raise 43 = .ok (.iload 4, 2) := by decide +kernel
theorem dX8_raise_45 : decode cX8_raise 45 = .ok (.iconst 1, 1) := by decide +kernel
theorem dX8_raise_46 : decode cX8_raise 46 = .ok (.iload_n 2, 1) := by decide +kernel
theorem dX8_raise_47 : decode cX8_raise 47 = .ok (.invokevirtual 91, 3) := by decide +kernel
theorem dX8_raise_50 : decode cX8_raise 50 = .ok (.aload_n 0, 1) := by decide +kernel
theorem dX8_raise_51 : decode cX8_raise 51 = .ok (.getfield 19, 3) := by decide +kernel
theorem dX8_raise_54 : decode cX8_raise 54 = .ok (.getfield 113, 3) := by decide +kernel
theorem dX8_raise_57 : decode cX8_raise 57 = .ok (.iload 4, 2) := by decide +kernel
theorem dX8_raise_59 : decode cX8_raise 59 = .ok (.iconst 4, 1) := by decide +kernel
theorem dX8_raise_60 : decode cX8_raise 60 = .ok (.aload_n 0, 1) := by decide +kernel
theorem dX8_raise_61 : decode cX8_raise 61 = .ok (.getfield 31, 3) := by decide +kernel
theorem dX8_raise_64 : decode cX8_raise 64 = .ok (.iload_n 3, 1) := by decide +kernel
theorem dX8_raise_65 : decode cX8_raise 65 = .ok (.iconst 0, 1) := by decide +kernel
theorem dX8_raise_66 : decode cX8_raise 66 = .ok (.invokevirtual 110, 3) := by decide +kernel
theorem dX8_raise_69 : decode cX8_raise 69 = .ok (.invokevirtual 91, 3) := by decide +kernel
theorem dX8_raise_72 : decode cX8_raise 72 = .ok (.aload_n 0, 1) := by decide +kernel
theorem dX8_raise_73 : decode cX8_raise 73 = .ok (.getfield 19, 3) := by decide +kernel
theorem dX8_raise_76 : decode cX8_raise 76 = .ok (.getfield 113, 3) := by decide +kernel
theorem dX8_raise_79 : decode cX8_raise 79 = .ok (.iload 4, 2) := by decide +kernel
theorem dX8_raise_81 : decode cX8_raise 81 = .ok (.iconst 5, 1) := by decide +kernel
theorem dX8_raise_82 : decode cX8_raise 82 = .ok (.aload_n 0, 1) := by decide +kernel
theorem dX8_raise_83 : decode cX8_raise 83 = .ok (.getfield 31, 3) := by decide +kernel
theorem dX8_raise_86 : decode cX8_raise 86 = .ok (.getfield 58, 3) := by decide +kernel
theorem dX8_raise_89 : decode cX8_raise 89 = .ok (.invokevirtual 91, 3) := by decide +kernel
theorem dX8_raise_92 : decode cX8_raise 92 = .ok (.aload_n 0, 1) := by decide +kernel
theorem dX8_raise_93 : decode cX8_raise 93 = .ok (.getfield 19, 3) := by decide +kernel
theorem dX8_raise_96 : decode cX8_raise 96 = .ok (.getfield 113, 3) := by decide +kernel
theorem dX8_raise_99 : decode cX8_raise 99 = .ok (.iload 4, 2) := by decide +kernel
theorem dX8_raise_101 : decode cX8_raise 101 = .ok (.bipush 6, 2) := by decide +kernel
theorem dX8_raise_103 : decode cX8_raise 103 = .ok (.aload_n 0, 1) := by decide +kernel
theorem dX8_raise_104 : decode cX8_raise 104 = .ok (.getfield 31, 3) := by decide +kernel
theorem dX8_raise_107 : decode cX8_raise 107 = .ok (.iload_n 3, 1) := by decide +kernel
theorem dX8_raise_108 : decode cX8_raise 108 = .ok (.iconst 1, 1) := by decide +kernel
theorem dX8_raise_109 : decode cX8_raise 109 = .ok (.invokevirtual 110, 3) := by decide +kernel
theorem dX8_raise_112 : decode cX8_raise 112 = .ok (.invokevirtual 91, 3) := by decide +kernel
theorem dX8_raise_115 : decode cX8_raise 115 = .ok (.aload_n 0, 1) := by decide +kernel
theorem dX8_raise_116 : decode cX8_raise 116 = .ok (.iload 4, 2) := by decide +kernel
theorem dX8_raise_118 : decode cX8_raise 118 = .ok (.putfield 46, 3) := by decide +kernel
theorem dX8_raise_121 : decode cX8_raise 121 = .ok (.return_, 1) := by decide +kernel
