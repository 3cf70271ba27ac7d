theorem q78 : Cond.fieldLink RX5 14 "WaysAtlas$Scanner" "tokens" "LWaysAtlas$Table;" ∈ wsL_law := mT_1 (List.mem_of_getElem? (i := 64) rfl) rfl
theorem q314 : Cond.methodLink RX5 60 yX6_add ∈ wsL_law := mT_2 (List.mem_of_getElem? (i := 235) rfl) rfl
theorem q261 : Cond.instanceMethod yX6_add ∈ wsL_law := mT_2 (List.mem_of_getElem? (i := 195) rfl) rfl
theorem q262 : Cond.selects RX6 yX6_add yX6_add ∈ wsL_law := mT_2 (List.mem_of_getElem? (i := 196) rfl) rfl
theorem q15 : Cond.initialized RX6 ∈ wsL_law := mT_1 (List.mem_of_getElem? (i := 2) rfl) rfl
theorem q263 : Cond.code yX6_add cX6_add 2 (some .int) ∈ wsL_law := mT_2 (List.mem_of_getElem? (i := 197) rfl) rfl
theorem kv_X5_60 : vz_cv RX5 60 yX6_add cX6_add 2 (some .int) 0 := ⟨q314, q261, q262, q15, q263, by decide +kernel⟩
theorem q315 : Cond.methodLink RX5 64 yX6_set ∈ wsL_law := mT_2 (List.mem_of_getElem? (i := 236) rfl) rfl
theorem q265 : Cond.instanceMethod yX6_set ∈ wsL_law := mT_2 (List.mem_of_getElem? (i := 199) rfl) rfl
theorem q266 : Cond.selects RX6 yX6_set yX6_set ∈ wsL_law := mT_2 (List.mem_of_getElem? (i := 200) rfl) rfl
theorem q267 : Cond.code yX6_set cX6_set 5 none ∈ wsL_law := mT_2 (List.mem_of_getElem? (i := 201) rfl) rfl
theorem kv_X5_64 : vz_cv RX5 64 yX6_set cX6_set 5 none 3 := ⟨q315, q265, q266, q15, q267, by decide +kernel⟩
theorem dX5_note_0 : decode cX5_note 0 = .ok (.aload_n 0, 1) := by decide +kernel
theorem dX5_note_1 : decode cX5_note 1 = .ok (.getfield 14, 3) := by decide +kernel
theorem dX5_note_4 : decode cX5_note 4 = .ok (.invokevirtual 60, 3) := by decide +kernel
theorem dX5_note_7 : decode cX5_note 7 = .ok (.istore 4, 2) := by decide +kernel
theorem dX5_note_9 : decode cX5_note 9 = .ok (.aload_n 0, 1) := by decide +kernel
theorem dX5_note_10 : decode cX5_note 10 = .ok (.getfield 14, 3) := by decide +kernel
theorem dX5_note_13 : decode cX5_note 13 = .ok (.iload 4, 2) := by decide +kernel
theorem dX5_note_15 : decode cX5_note 15 = .ok (.iconst 0, 1) := by decide +kernel
theorem dX5_note_16 : decode cX5_note 16 = .ok (.iload_n 1, 1) := by decide +kernel
theorem dX5_note_17 : decode cX5_note 17 = .ok (.invokevirtual 64, 3) := by decide +kernel
theorem dX5_note_20 : decode cX5_note 20 = .ok (.aload_n 0, 1) := by decide +kernel
theorem dX5_note_21 : decode cX5_note 21 = .ok (.getfield 14, 3) := by decide +kernel
theorem dX5_note_24 : decode cX5_note 24 = .ok (.iload 4, 2) := by decide +kernel
theorem dX5_note_26 : decode cX5_note 26 = .ok (.iconst 1, 1) := by decide +kernel
theorem dX5_note_27 : decode cX5_note 27 = .ok (.iload_n 2, 1) := by decide +kernel
theorem dX5_note_28 : decode cX5_note 28 = .ok (.invokevirtual 64, 3) := by decide +kernel
theorem dX5_note_31 : decode cX5_note 31 = .ok (.aload_n 0, 1) := by decide +kernel
theorem dX5_note_32 : decode cX5_note 32 = .ok (.getfield 14, 3) := by decide +kernel
theorem dX5_note_35 : decode cX5_note 35 = .ok (.iload 4, 2) := by decide +kernel
theorem dX5_note_37 : decode cX5_note 37 = .ok (.iconst 2, 1) := by decide +kernel
theorem dX5_note_38 : decode cX5_note 38 = .ok (.iload_n 3, 1) := by decide +kernel
theorem dX5_note_39 : decode cX5_note 39 = .ok (.invokevirtual 64, 3) := by decide +kernel
theorem dX5_note_42 : decode cX5_note 42 = .ok (.return_, 1) := by decide +kernel
set_option maxHeartbeats 8000000 in
set_option maxRecDepth 100000 in
theorem a_S_note (l : Launch) (D : va_G) (g : Nat → ClassId)   (sz : Nat) (h : Nat) (si : Nat → Int32) (ta : Nat → Nat) (tr : Nat → Nat) (tf_ : Nat → Nat → Int32) (n1 : Int32) (n2 : Int32) (n3 : Int32) (hw_t : ∀ k, tr k ≤ tkW_lim k) : vz_Mv l D (tyG g) yX5_note cX5_note 5 1 24 0 0 [.ref h, .int n1, .int n2, .int n3] sz (vz_w [scW h si (ta 0), tkW g ta tr tf_]) (fun u : (Nat → Nat) × (Nat → Nat → Int32) => (∀ k, u.1 k ≤ tkW_lim k)) (fun u => vz_w [scW h si (ta 0), tkW g ta u.1 u.2]) := by
  refine vz_svQ (by decide) (Nat.le_of_ble_eq_true rfl) (fun p e s m args below meth c hx hb hr hml hts hown hlk hin hK hsz A hA H locs hP hD hS ls hl Q hQ => ?_)
  have hl : lv_has ls 5 [(0, .ref h), (1, .int n1), (2, .int n2), (3, .int n3)] := hl
  refine lv_aload_n hx hb dX5_note_0 rfl (lv_at hl 0 rfl) ?_
  refine va_get (D := D) (ci := 5) (v := .ref (ta 0)) (C := RX5) (T := TX5) (N := 2) hx hb hts inlX5 hown hK hP 0 rfl rfl 0 (by decide) (hts _ q78) (fun _ h => h) rfl dX5_note_1 ?_
  refine vz_Vi2 (ws' := fun u : (Nat × (Nat → Int32)) => vz_w [scW h si (ta 0), tkW g ta (vz_un tr 0 u.1) (vz_uf tf_ 0 u.2)]) (As := []) (rest := []) hx hb hml hown hts hK hA hP hD hS (c_T_add l D g (ta 0) (ta 1) H.size 3 1001 (tr 0) 3003 (tf_ 0) ⟨rfl, by decide, by decide, by decide, by decide, hw_t 0⟩) kv_X5_60 ⟨Nat.le_of_ble_eq_true rfl, Nat.le_of_ble_eq_true rfl⟩ (q0 := 1) (ci := 6) rfl rfl rfl [1, 2] rfl (by decide) (fun _ => rfl) (fun _ => rfl) hl.1 (Nat.le_of_ble_eq_true rfl) dX5_note_4 ⟨Nat.le_refl _, Nat.le_refl _⟩ rfl (fun v3 ⟨u1R, u1f⟩ H locs ha2 _ hP hD hS => ?_)
  have hq : (tr 0) ≤ 1001 := hw_t 0
  replace ha2 : u1R ≤ 1001 := by rcases ha2 with ⟨z1, -, z2, -⟩ | ⟨z1, -, z2, -⟩ <;> (dsimp only at z2; omega)
  obtain ⟨tr_4, hw_tr_4, tf_5, hP, hD⟩ : ∃ tr_4 : Nat → Nat, (∀ k, tr_4 k ≤ tkW_lim k) ∧ ∃ tf_5 : Nat → Nat → Int32, va_P D vwCl (vz_w [scW h si (ta 0), tkW g ta tr_4 tf_5]) H ∧ va_D A (vz_w [scW h si (ta 0), tkW g ta tr_4 tf_5]) := ⟨(vz_un tr 0 u1R), (vz_wf hw_t (t := 0) (v := u1R) (ha2)), (vz_uf tf_ 0 u1f), hP, hD⟩
  refine lv_istore (lv' := [(4, .int v3), (0, .ref h), (1, .int n1), (2, .int n2), (3, .int n3)]) hx hb dX5_note_7 hl (by decide) rfl (fun ls hl => ?_)
  refine lv_aload_n hx hb dX5_note_9 rfl (lv_at hl 1 rfl) ?_
  refine va_get (D := D) (ci := 5) (v := .ref (ta 0)) (C := RX5) (T := TX5) (N := 2) hx hb hts inlX5 hown hK hP 0 rfl rfl 0 (by decide) (hts _ q78) (fun _ h => h) rfl dX5_note_10 ?_
  refine lv_iload hx hb dX5_note_13 (lv_at hl 0 rfl) ?_
  refine lv_iconst (v := 0) hx hb dX5_note_15 (by decide) ?_
  refine lv_iload_n hx hb dX5_note_16 rfl (lv_at hl 2 rfl) ?_
  refine vz_Vv2 (ws' := fun u : (Nat → Int32) => vz_w [scW h si (ta 0), tkW g ta tr_4 (vz_uf tf_5 0 u)]) (As := [.int v3, .int 0, .int n1]) (rest := []) hx hb hml hown hts hK hA hP hD hS (c_T_set l D g (ta 0) (ta 1) H.size 3 1001 (tr_4 0) 3003 (tf_5 0) v3 0 n1 ⟨rfl, by decide, by decide, by decide, by decide, hw_tr_4 0⟩) kv_X5_64 ⟨Nat.le_of_ble_eq_true rfl, Nat.le_of_ble_eq_true rfl⟩ (q0 := 1) (ci := 6) rfl rfl rfl [1, 2] rfl (by decide) (fun _ => rfl) (fun _ => rfl) hl.1 (Nat.le_of_ble_eq_true rfl) dX5_note_17 ⟨Nat.le_refl _, Nat.le_refl _⟩ rfl (fun nf6 H locs _ _ hP hD hS => ?_)
  obtain ⟨tf_7, hP, hD⟩ : ∃ tf_7 : Nat → Nat → Int32, va_P D vwCl (vz_w [scW h si (ta 0), tkW g ta tr_4 tf_7]) H ∧ va_D A (vz_w [scW h si (ta 0), tkW g ta tr_4 tf_7]) := ⟨(vz_uf tf_5 0 nf6), hP, hD⟩
  refine lv_aload_n hx hb dX5_note_20 rfl (lv_at hl 1 rfl) ?_
  refine va_get (D := D) (ci := 5) (v := .ref (ta 0)) (C := RX5) (T := TX5) (N := 2) hx hb hts inlX5 hown hK hP 0 rfl rfl 0 (by decide) (hts _ q78) (fun _ h => h) rfl dX5_note_21 ?_
  refine lv_iload hx hb dX5_note_24 (lv_at hl 0 rfl) ?_
  refine lv_iconst (v := 1) hx hb dX5_note_26 (by decide) ?_
  refine lv_iload_n hx hb dX5_note_27 rfl (lv_at hl 3 rfl) ?_
  refine vz_Vv2 (ws' := fun u : (Nat → Int32) => vz_w [scW h si (ta 0), tkW g ta tr_4 (vz_uf tf_7 0 u)]) (As := [.int v3, .int 1, .int n2]) (rest := []) hx hb hml hown hts hK hA hP hD hS (c_T_set l D g (ta 0) (ta 1) H.size 3 1001 (tr_4 0) 3003 (tf_7 0) v3 1 n2 ⟨rfl, by decide, by decide, by decide, by decide, hw_tr_4 0⟩) kv_X5_64 ⟨Nat.le_of_ble_eq_true rfl, Nat.le_of_ble_eq_true rfl⟩ (q0 := 1) (ci := 6) rfl rfl rfl [1, 2] rfl (by decide) (fun _ => rfl) (fun _ => rfl) hl.1 (Nat.le_of_ble_eq_true rfl) dX5_note_28 ⟨Nat.le_refl _, Nat.le_refl _⟩ rfl (fun nf8 H locs _ _ hP hD hS => ?_)
  obtain ⟨tf_9, hP, hD⟩ : ∃ tf_9 : Nat → Nat → Int32, va_P D vwCl (vz_w [scW h si (ta 0), tkW g ta tr_4 tf_9]) H ∧ va_D A (vz_w [scW h si (ta 0), tkW g ta tr_4 tf_9]) := ⟨(vz_uf tf_7 0 nf8), hP, hD⟩
  refine lv_aload_n hx hb dX5_note_31 rfl (lv_at hl 1 rfl) ?_
  refine va_get (D := D) (ci := 5) (v := .ref (ta 0)) (C := RX5) (T := TX5) (N := 2) hx hb hts inlX5 hown hK hP 0 rfl rfl 0 (by decide) (hts _ q78) (fun _ h => h) rfl dX5_note_32 ?_
  refine lv_iload hx hb dX5_note_35 (lv_at hl 0 rfl) ?_
  refine lv_iconst (v := 2) hx hb dX5_note_37 (by decide) ?_
  refine lv_iload_n hx hb dX5_note_38 rfl (lv_at hl 4 rfl) ?_
  refine vz_Vv2 (ws' := fun u : (Nat → Int32) => vz_w [scW h si (ta 0), tkW g ta tr_4 (vz_uf tf_9 0 u)]) (As := [.int v3, .int 2, .int n3]) (rest := []) hx hb hml hown hts hK hA hP hD hS (c_T_set l D g (ta 0) (ta 1) H.size 3 1001 (tr_4 0) 3003 (tf_9 0) v3 2 n3 ⟨rfl, by decide, by decide, by decide, by decide, hw_tr_4 0⟩) kv_X5_64 ⟨Nat.le_of_ble_eq_true rfl, Nat.le_of_ble_eq_true rfl⟩ (q0 := 1) (ci := 6) rfl rfl rfl [1, 2] rfl (by decide) (fun _ => rfl) (fun _ => rfl) hl.1 (Nat.le_of_ble_eq_true rfl) dX5_note_39 ⟨Nat.le_refl _, Nat.le_refl _⟩ rfl (fun nf10 H locs _ _ hP hD hS => ?_)
  obtain ⟨tf_11, hP, hD⟩ : ∃ tf_11 : Nat → Nat → Int32, va_P D vwCl (vz_w [scW h si (ta 0), tkW g ta tr_4 tf_11]) H ∧ va_D A (vz_w [scW h si (ta 0), tkW g ta tr_4 tf_11]) := ⟨(vz_uf tf_9 0 nf10), hP, hD⟩
  rw [hQ]
  exact vz_vret3 hx hb hr hlk hK hP hD hS (tr_4, tf_11) hw_tr_4 rfl (Nat.le_refl 0) (Nat.le_refl 0) dX5_note_42
theorem q86 : Cond.fieldLink RX2 14 "WaysAtlas$Program" "statements" "LWaysAtlas$Table;" ∈ wsL_law := mT_1 (List.mem_of_getElem? (i := 80) rfl) rfl
theorem q456 : Cond.methodLink RX2 32 yX6_reset ∈ wsL_law := mT_3 (List.mem_of_getElem? (i := 133) rfl) rfl
theorem q290 : Cond.instanceMethod yX6_reset ∈ wsL_law := mT_2 (List.mem_of_getElem? (i := 211) rfl) rfl
theorem q291 : Cond.selects RX6 yX6_reset yX6_reset ∈ wsL_law := mT_2 (List.mem_of_getElem? (i := 212) rfl) rfl
theorem q292 : Cond.code yX6_reset cX6_reset 1 none ∈ wsL_law := mT_2 (List.mem_of_getElem? (i := 213) rfl) rfl
theorem kv_X2_32 : vz_cv RX2 32 yX6_reset cX6_reset 1 none 0 := ⟨q456, q290, q291, q15, q292, by decide +kernel⟩
theorem q87 : Cond.fieldLink RX2 20 "WaysAtlas$Program" "nodes" "LWaysAtlas$Table;" ∈ wsL_law := mT_1 (List.mem_of_getElem? (i := 87) rfl) rfl
theorem q88 : Cond.fieldLink RX2 23 "WaysAtlas$Program" "catches" "LWaysAtlas$Table;" ∈ wsL_law := mT_1 (List.mem_of_getElem? (i := 91) rfl) rfl
theorem q90 : Cond.fieldLink RX2 29 "WaysAtlas$Program" "methods" "LWaysAtlas$Table;" ∈ wsL_law := mT_1 (List.mem_of_getElem? (i := 99) rfl) rfl
theorem q89 : Cond.fieldLink RX2 26 "WaysAtlas$Program" "kinds" "LWaysAtlas$Table;" ∈ wsL_law := mT_1 (List.mem_of_getElem? (i := 96) rfl) rfl
theorem q457 : Cond.methodLink RX2 35 yX6_add ∈ wsL_law := mT_3 (List.mem_of_getElem? (i := 134) rfl) rfl
theorem kv_X2_35 : vz_cv RX2 35 yX6_add cX6_add 2 (some .int) 0 := ⟨q457, q261, q262, q15, q263, by decide +kernel⟩
theorem q458 : Cond.methodLink RX2 39 yX6_set ∈ wsL_law := mT_3 (List.mem_of_getElem? (i := 135) rfl) rfl
theorem kv_X2_39 : vz_cv RX2 39 yX6_set cX6_set 5 none 3 := ⟨q458, q265, q266, q15, q267, by decide +kernel⟩
theorem dX2_reset_0 : decode cX2_reset 0 = .ok (.aload_n 0, 1) := by decide +kernel
theorem dX2_reset_1 : decode cX2_reset 1 = .ok (.getfield 14, 3) := by decide +kernel
theorem dX2_reset_4 : decode cX2_reset 4 = .ok (.invokevirtual 32, 3) := by decide +kernel
theorem dX2_reset_7 : decode cX2_reset 7 = .ok (.aload_n 0, 1) := by decide +kernel
theorem dX2_reset_8 : decode cX2_reset 8 = .ok (.getfield 20, 3) := by decide +kernel
theorem dX2_reset_11 : decode cX2_reset 11 = .ok (.invokevirtual 32, 3) := by decide +kernel
theorem dX2_reset_14 : decode cX2_reset 14 = .ok (.aload_n 0, 1) := by decide +kernel
theorem dX2_reset_15 : decode cX2_reset 15 = .ok (.getfield 23, 3) := by decide +kernel
theorem dX2_reset_18 : decode cX2_reset 18 = .ok (.invokevirtual 32, 3) := by decide +kernel
theorem dX2_reset_21 : decode cX2_reset 21 = .ok (.aload_n 0, 1) := by decide +kernel
theorem dX2_reset_22 : decode cX2_reset 22 = .ok (.getfield 29, 3) := by decide +kernel
theorem dX2_reset_25 : decode cX2_reset 25 = .ok (.invokevirtual 32, 3) := by decide +kernel
theorem dX2_reset_28 : decode cX2_reset 28 = .ok (.aload_n 0, 1) := by decide +kernel
theorem dX2_reset_29 : decode cX2_reset 29 = .ok (.getfield 26, 3) := by decide +kernel
theorem dX2_reset_32 : decode cX2_reset 32 = .ok (.invokevirtual 32, 3) := by decide +kernel
theorem dX2_reset_35 : decode cX2_reset 35 = .ok (.iconst 0, 1) := by decide +kernel
theorem dX2_reset_36 : decode cX2_reset 36 = .ok (.istore_n 1, 1) := by decide +kernel
theorem dX2_reset_37 : decode cX2_reset 37 = .ok (.iload_n 1, 1) := by decide +kernel
theorem dX2_reset_38 : decode cX2_reset 38 = .ok (.bipush 7, 2) := by decide +kernel
theorem dX2_reset_40 : decode cX2_reset 40 = .ok (.if_icmp .ge 45, 3) := by decide +kernel
theorem dX2_reset_43 : decode cX2_reset 43 = .ok (.aload_n 0, 1) := by decide +kernel
theorem dX2_reset_44 : decode cX2_reset 44 = .ok (.getfield 26, 3) := by decide +kernel
theorem dX2_reset_47 : decode cX2_reset 47 = .ok (.invokevirtual 35, 3) := by decide +kernel
theorem dX2_reset_50 : decode cX2_reset 50 = .ok (.istore_n 2, 1) := by decide +kernel
theorem dX2_reset_51 : decode cX2_reset 51 = .ok (.aload_n 0, 1) := by decide +kernel
theorem dX2_reset_52 : decode cX2_reset 52 = .ok (.getfield 26, 3) := by decide +kernel
theorem dX2_reset_55 : decode cX2_reset 55 = .ok (.iload_n 2, 1) := by decide +kernel
theorem dX2_reset_56 : decode cX2_reset 56 = .ok (.iconst 0, 1) := by decide +kernel
theorem dX2_reset_57 : decode cX2_reset 57 = .ok (.iload_n 1, 1) := by decide +kernel
theorem dX2_reset_58 : decode cX2_reset 58 = .ok (.ifCond .ne 8, 3) := by decide +kernel
theorem dX2_reset_61 : decode cX2_reset 61 = .ok (.bipush (-9), 2) := by decide +kernel
theorem dX2_reset_63 : decode cX2_reset 63 = .ok (.goto 13, 3) := by decide +kernel
theorem dX2_reset_66 : decode cX2_reset 66 = .ok (.iload_n 1, 1) := by decide +kernel
theorem dX2_reset_67 : decode cX2_reset 67 = .ok (.iconst 1, 1) := by decide +kernel
theorem dX2_reset_68 : decode cX2_reset 68 = .ok (.if_icmp .ne 7, 3) := by decide +kernel
theorem dX2_reset_71 : decode cX2_reset 71 = .ok (.iconst 0, 1) := by decide +kernel
theorem dX2_reset_72 : decode cX2_reset 72 = .ok (.goto 4, 3) := by decide +kernel
theorem dX2_reset_75 : decode cX2_reset 75 = .ok (.iconst 1, 1) := by decide +kernel
theorem dX2_reset_76 : decode cX2_reset 76 = .ok (.invokevirtual 39, 3) := by decide +kernel
theorem dX2_reset_79 : decode cX2_reset 79 = .ok (.iinc 1 1, 3) := by decide +kernel
theorem dX2_reset_82 : decode cX2_reset 82 = .ok (.goto (-45), 3) := by decide +kernel
theorem dX2_reset_85 : decode cX2_reset 85 = .ok (.return_, 1) := by decide +kernel
set_option maxHeartbeats 8000000 in
set_option maxRecDepth 100000 in
theorem a_P_reset (l : Launch) (D : va_G) (g : Nat → ClassId)   (sz : Nat) (h : Nat) (pa : Nat → Nat) (pr : Nat → Nat) (pf : Nat → Nat → Int32) (hw_p : ∀ k, pr k ≤ pgW_lim k) : vz_Mv l D (tyG g) yX2_reset cX2_reset 3 1 24 0 0 [.ref h] sz (vz_w [pgW g h pa pr pf]) (fun u : (Nat → Nat) × (Nat → Nat → Int32) => (∀ k, u.1 k ≤ pgW_lim k)) (fun u => vz_w [pgW g h pa u.1 u.2]) := by
  refine vz_svQ (by decide) (Nat.le_of_ble_eq_true rfl) (fun p e s m args below meth c hx hb hr hml hts hown hlk hin hK hsz A hA H locs hP hD hS ls hl Q hQ => ?_)
  have hl : lv_has ls 3 [(0, .ref h)] := hl
  have J37 : ∀ (fu37 n37 : Nat), 7 - n37 < fu37 → n37 ≤ 7 → ∀ (pr_37 : Nat → Nat), ∀ (pf_37 : Nat → Nat → Int32), (∀ k, pr_37 k ≤ pgW_lim k) → ∀ (H : Heap) (locs : List Loc) (ls : Array Slot), va_P D vwCl (vz_w [pgW g h pa pr_37 pf_37]) H → va_D A (vz_w [pgW g h pa pr_37 pf_37]) → va_S A s.heap H locs → lv_has ls 3 [(0, .ref h), (1, .int (nI n37))] → W p l e { frames := 1, cells := 0, slots := 0, locals := 24 } s m args below meth c H locs 0 0 Q (F0 m 37 ls []) := by
    intro fu37
    induction fu37 with
    | zero => intro n37 z; omega
    | succ fu37 ih37 =>
      intro n37 hf37 hb37 pr_37 pf_37 hw_p_37 H locs ls hP hD hS hl
      have J76 : n37 < 7 → ∀ (x2_76 : Int32), ∀ (y0_76 : Int32), ∀ (y2_76 : Int32), ∀ (pr_76 : Nat → Nat), ∀ (pf_76 : Nat → Nat → Int32), (∀ k, pr_76 k ≤ pgW_lim k) → ∀ (H : Heap) (locs : List Loc) (ls : Array Slot), va_P D vwCl (vz_w [pgW g h pa pr_76 pf_76]) H → va_D A (vz_w [pgW g h pa pr_76 pf_76]) → va_S A s.heap H locs → lv_has ls 3 [(0, .ref h), (1, .int (nI n37)), (2, .int x2_76)] → W p l e { frames := 1, cells := 0, slots := 0, locals := 24 } s m args below meth c H locs 0 0 Q (F0 m 76 ls [.int y0_76, .int 0, .int y2_76, .ref (pa 6)]) := by
        intro hn37 x2_76 y0_76 y2_76 pr_76 pf_76 hw_p_76 H locs ls hP hD hS hl
        refine vz_Vv2 (ws' := fun u : (Nat → Int32) => vz_w [pgW g h pa pr_76 (vz_uf pf_76 3 u)]) (As := [.int y2_76, .int 0, .int y0_76]) (rest := []) hx hb hml hown hts hK hA hP hD hS (c_T_set l D g (pa 6) (pa 7) H.size 1 16 (pr_76 3) 16 (pf_76 3) y2_76 0 y0_76 ⟨rfl, by decide, by decide, by decide, by decide, hw_p_76 3⟩) kv_X2_39 ⟨Nat.le_of_ble_eq_true rfl, Nat.le_of_ble_eq_true rfl⟩ (q0 := 7) (ci := 6) rfl rfl rfl [7, 8] rfl (by decide) (fun _ => rfl) (fun _ => rfl) hl.1 (Nat.le_of_ble_eq_true rfl) dX2_reset_76 ⟨Nat.le_refl _, Nat.le_refl _⟩ rfl (fun nf1 H locs _ _ hP hD hS => ?_)
        obtain ⟨pf_2, hP, hD⟩ : ∃ pf_2 : Nat → Nat → Int32, va_P D vwCl (vz_w [pgW g h pa pr_76 pf_2]) H ∧ va_D A (vz_w [pgW g h pa pr_76 pf_2]) := ⟨(vz_uf pf_76 3 nf1), hP, hD⟩
        refine lv_iinc (v := (nI (n37 + 1))) (lv' := [(1, .int (nI (n37 + 1))), (0, .ref h), (2, .int x2_76)]) hx hb dX2_reset_79 hl (k := 1) rfl (nI_1 n37) (by decide) rfl (fun ls hl => ?_)
        refine lv_goto (tgt := 37) hx hb dX2_reset_82 (by decide) ?_
        exact ih37 (n37 + 1) (by omega) (by omega) pr_76 pf_2 hw_p_76 H locs ls hP hD hS (lv_sub hl [1, 0] rfl)
      refine lv_iload_n hx hb dX2_reset_37 rfl (lv_at hl 1 rfl) ?_
      refine lv_bipush (v := 7) hx hb dX2_reset_38 (by decide) ?_
      refine lv_icmp_ge (tgt := 85) hx hb dX2_reset_40 (by decide) (fun kc1 => ?_) (fun kc1 => ?_)
      · rw [hQ]
        exact vz_vret3 hx hb hr hlk hK hP hD hS (pr_37, pf_37) hw_p_37 rfl (Nat.le_refl 0) (Nat.le_refl 0) dX2_reset_85
      · have hn37 : n37 < 7 := vz_ltge (B := 7) (by omega) kc1
        refine lv_aload_n hx hb dX2_reset_43 rfl (lv_at hl 0 rfl) ?_
        refine va_get (D := D) (ci := 2) (v := .ref (pa 6)) (C := RX2) (T := TX2) (N := 5) hx hb hts inlX2 hown hK hP 0 rfl rfl 3 (by decide) (hts _ q89) (fun _ h => h) rfl dX2_reset_44 ?_
        refine vz_Vi2 (ws' := fun u : (Nat × (Nat → Int32)) => vz_w [pgW g h pa (vz_un pr_37 3 u.1) (vz_uf pf_37 3 u.2)]) (As := []) (rest := []) hx hb hml hown hts hK hA hP hD hS (c_T_add l D g (pa 6) (pa 7) H.size 1 16 (pr_37 3) 16 (pf_37 3) ⟨rfl, by decide, by decide, by decide, by decide, hw_p_37 3⟩) kv_X2_35 ⟨Nat.le_of_ble_eq_true rfl, Nat.le_of_ble_eq_true rfl⟩ (q0 := 7) (ci := 6) rfl rfl rfl [7, 8] rfl (by decide) (fun _ => rfl) (fun _ => rfl) hl.1 (Nat.le_of_ble_eq_true rfl) dX2_reset_47 ⟨Nat.le_refl _, Nat.le_refl _⟩ rfl (fun v4 ⟨u2R, u2f⟩ H locs ha3 _ hP hD hS => ?_)
        have hq : (pr_37 3) ≤ 16 := hw_p_37 3
        replace ha3 : u2R ≤ 16 := by rcases ha3 with ⟨z1, -, z2, -⟩ | ⟨z1, -, z2, -⟩ <;> (dsimp only at z2; omega)
        obtain ⟨pr_5, hw_pr_5, pf_6, hP, hD⟩ : ∃ pr_5 : Nat → Nat, (∀ k, pr_5 k ≤ pgW_lim k) ∧ ∃ pf_6 : Nat → Nat → Int32, va_P D vwCl (vz_w [pgW g h pa pr_5 pf_6]) H ∧ va_D A (vz_w [pgW g h pa pr_5 pf_6]) := ⟨(vz_un pr_37 3 u2R), (vz_wf hw_p_37 (t := 3) (v := u2R) (ha3)), (vz_uf pf_37 3 u2f), hP, hD⟩
        refine lv_istore_n (lv' := [(2, .int v4), (0, .ref h), (1, .int (nI n37))]) hx hb dX2_reset_50 rfl hl (by decide) rfl (fun ls hl => ?_)
        refine lv_aload_n hx hb dX2_reset_51 rfl (lv_at hl 1 rfl) ?_
        refine va_get (D := D) (ci := 2) (v := .ref (pa 6)) (C := RX2) (T := TX2) (N := 5) hx hb hts inlX2 hown hK hP 0 rfl rfl 3 (by decide) (hts _ q89) (fun _ h => h) rfl dX2_reset_52 ?_
        refine lv_iload_n hx hb dX2_reset_55 rfl (lv_at hl 0 rfl) ?_
        refine lv_iconst (v := 0) hx hb dX2_reset_56 (by decide) ?_
        refine lv_iload_n hx hb dX2_reset_57 rfl (lv_at hl 2 rfl) ?_
        refine lv_if_ne (tgt := 66) hx hb dX2_reset_58 (by decide) (fun kc7 => ?_) (fun kc7 => ?_)
        · refine lv_iload_n hx hb dX2_reset_66 rfl (lv_at hl 2 rfl) ?_
          refine lv_iconst (v := 1) hx hb dX2_reset_67 (by decide) ?_
          refine lv_icmp_ne (tgt := 75) hx hb dX2_reset_68 (by decide) (fun kc8 => ?_) (fun kc8 => ?_)
          · refine lv_iconst (v := 1) hx hb dX2_reset_75 (by decide) ?_
            exact J76 hn37 v4 1 v4 pr_5 pf_6 hw_pr_5 H locs ls hP hD hS (lv_sub hl [1, 2, 0] rfl)
          · refine lv_iconst (v := 0) hx hb dX2_reset_71 (by decide) ?_
            refine lv_goto (tgt := 76) hx hb dX2_reset_72 (by decide) ?_
            exact J76 hn37 v4 0 v4 pr_5 pf_6 hw_pr_5 H locs ls hP hD hS (lv_sub hl [1, 2, 0] rfl)
        · refine lv_bipush (v := (-9)) hx hb dX2_reset_61 (by decide) ?_
          refine lv_goto (tgt := 76) hx hb dX2_reset_63 (by decide) ?_
          exact J76 hn37 v4 (-9) v4 pr_5 pf_6 hw_pr_5 H locs ls hP hD hS (lv_sub hl [1, 2, 0] rfl)
  refine lv_aload_n hx hb dX2_reset_0 rfl (lv_at hl 0 rfl) ?_
  refine va_get (D := D) (ci := 2) (v := .ref (pa 0)) (C := RX2) (T := TX2) (N := 5) hx hb hts inlX2 hown hK hP 0 rfl rfl 0 (by decide) (hts _ q86) (fun _ h => h) rfl dX2_reset_1 ?_
  refine vz_Vv2 (ws' := fun u : Unit => vz_w [pgW g h pa (vz_un pr 0 0) pf]) (As := []) (rest := []) hx hb hml hown hts hK hA hP hD hS (c_T_reset l D g (pa 0) (pa 1) H.size (nI 12) (nI 80) (nI (pr 0))) kv_X2_32 ⟨Nat.le_of_ble_eq_true rfl, Nat.le_of_ble_eq_true rfl⟩ (q0 := 1) (ci := 6) rfl rfl rfl [1] rfl (by decide) (fun _ => rfl) (fun _ => rfl) hl.1 (Nat.le_of_ble_eq_true rfl) dX2_reset_4 ⟨Nat.le_refl _, Nat.le_refl _⟩ rfl (fun _ H locs _ _ hP hD hS => ?_)
  obtain ⟨pr_1, hw_pr_1, hP, hD⟩ : ∃ pr_1 : Nat → Nat, (∀ k, pr_1 k ≤ pgW_lim k) ∧ va_P D vwCl (vz_w [pgW g h pa pr_1 pf]) H ∧ va_D A (vz_w [pgW g h pa pr_1 pf]) := ⟨(vz_un pr 0 0), (vz_wf hw_p (t := 0) (v := 0) (Nat.zero_le _)), hP, hD⟩
  refine lv_aload_n hx hb dX2_reset_7 rfl (lv_at hl 0 rfl) ?_
  refine va_get (D := D) (ci := 2) (v := .ref (pa 2)) (C := RX2) (T := TX2) (N := 5) hx hb hts inlX2 hown hK hP 0 rfl rfl 1 (by decide) (hts _ q87) (fun _ h => h) rfl dX2_reset_8 ?_
  refine vz_Vv2 (ws' := fun u : Unit => vz_w [pgW g h pa (vz_un pr_1 1 0) pf]) (As := []) (rest := []) hx hb hml hown hts hK hA hP hD hS (c_T_reset l D g (pa 2) (pa 3) H.size (nI 5) (nI 1000) (nI (pr_1 1))) kv_X2_32 ⟨Nat.le_of_ble_eq_true rfl, Nat.le_of_ble_eq_true rfl⟩ (q0 := 3) (ci := 6) rfl rfl rfl [3] rfl (by decide) (fun _ => rfl) (fun _ => rfl) hl.1 (Nat.le_of_ble_eq_true rfl) dX2_reset_11 ⟨Nat.le_refl _, Nat.le_refl _⟩ rfl (fun _ H locs _ _ hP hD hS => ?_)
  obtain ⟨pr_2, hw_pr_2, hP, hD⟩ : ∃ pr_2 : Nat → Nat, (∀ k, pr_2 k ≤ pgW_lim k) ∧ va_P D vwCl (vz_w [pgW g h pa pr_2 pf]) H ∧ va_D A (vz_w [pgW g h pa pr_2 pf]) := ⟨(vz_un pr_1 1 0), (vz_wf hw_pr_1 (t := 1) (v := 0) (Nat.zero_le _)), hP, hD⟩
  refine lv_aload_n hx hb dX2_reset_14 rfl (lv_at hl 0 rfl) ?_
  refine va_get (D := D) (ci := 2) (v := .ref (pa 4)) (C := RX2) (T := TX2) (N := 5) hx hb hts inlX2 hown hK hP 0 rfl rfl 2 (by decide) (hts _ q88) (fun _ h => h) rfl dX2_reset_15 ?_
  refine vz_Vv2 (ws' := fun u : Unit => vz_w [pgW g h pa (vz_un pr_2 2 0) pf]) (As := []) (rest := []) hx hb hml hown hts hK hA hP hD hS (c_T_reset l D g (pa 4) (pa 5) H.size (nI 5) (nI 112) (nI (pr_2 2))) kv_X2_32 ⟨Nat.le_of_ble_eq_true rfl, Nat.le_of_ble_eq_true rfl⟩ (q0 := 5) (ci := 6) rfl rfl rfl [5] rfl (by decide) (fun _ => rfl) (fun _ => rfl) hl.1 (Nat.le_of_ble_eq_true rfl) dX2_reset_18 ⟨Nat.le_refl _, Nat.le_refl _⟩ rfl (fun _ H locs _ _ hP hD hS => ?_)
  obtain ⟨pr_3, hw_pr_3, hP, hD⟩ : ∃ pr_3 : Nat → Nat, (∀ k, pr_3 k ≤ pgW_lim k) ∧ va_P D vwCl (vz_w [pgW g h pa pr_3 pf]) H ∧ va_D A (vz_w [pgW g h pa pr_3 pf]) := ⟨(vz_un pr_2 2 0), (vz_wf hw_pr_2 (t := 2) (v := 0) (Nat.zero_le _)), hP, hD⟩
  refine lv_aload_n hx hb dX2_reset_21 rfl (lv_at hl 0 rfl) ?_
  refine va_get (D := D) (ci := 2) (v := .ref (pa 8)) (C := RX2) (T := TX2) (N := 5) hx hb hts inlX2 hown hK hP 0 rfl rfl 4 (by decide) (hts _ q90) (fun _ h => h) rfl dX2_reset_22 ?_
  refine vz_Vv2 (ws' := fun u : Unit => vz_w [pgW g h pa (vz_un pr_3 4 0) pf]) (As := []) (rest := []) hx hb hml hown hts hK hA hP hD hS (c_T_reset l D g (pa 8) (pa 9) H.size (nI 2) (nI 8) (nI (pr_3 4))) kv_X2_32 ⟨Nat.le_of_ble_eq_true rfl, Nat.le_of_ble_eq_true rfl⟩ (q0 := 9) (ci := 6) rfl rfl rfl [9] rfl (by decide) (fun _ => rfl) (fun _ => rfl) hl.1 (Nat.le_of_ble_eq_true rfl) dX2_reset_25 ⟨Nat.le_refl _, Nat.le_refl _⟩ rfl (fun _ H locs _ _ hP hD hS => ?_)
  obtain ⟨pr_4, hw_pr_4, hP, hD⟩ : ∃ pr_4 : Nat → Nat, (∀ k, pr_4 k ≤ pgW_lim k) ∧ va_P D vwCl (vz_w [pgW g h pa pr_4 pf]) H ∧ va_D A (vz_w [pgW g h pa pr_4 pf]) := ⟨(vz_un pr_3 4 0), (vz_wf hw_pr_3 (t := 4) (v := 0) (Nat.zero_le _)), hP, hD⟩
  refine lv_aload_n hx hb dX2_reset_28 rfl (lv_at hl 0 rfl) ?_
  refine va_get (D := D) (ci := 2) (v := .ref (pa 6)) (C := RX2) (T := TX2) (N := 5) hx hb hts inlX2 hown hK hP 0 rfl rfl 3 (by decide) (hts _ q89) (fun _ h => h) rfl dX2_reset_29 ?_
  refine vz_Vv2 (ws' := fun u : Unit => vz_w [pgW g h pa (vz_un pr_4 3 0) pf]) (As := []) (rest := []) hx hb hml hown hts hK hA hP hD hS (c_T_reset l D g (pa 6) (pa 7) H.size (nI 1) (nI 16) (nI (pr_4 3))) kv_X2_32 ⟨Nat.le_of_ble_eq_true rfl, Nat.le_of_ble_eq_true rfl⟩ (q0 := 7) (ci := 6) rfl rfl rfl [7] rfl (by decide) (fun _ => rfl) (fun _ => rfl) hl.1 (Nat.le_of_ble_eq_true rfl) dX2_reset_32 ⟨Nat.le_refl _, Nat.le_refl _⟩ rfl (fun _ H locs _ _ hP hD hS => ?_)
  obtain ⟨pr_5, hw_pr_5, hP, hD⟩ : ∃ pr_5 : Nat → Nat, (∀ k, pr_5 k ≤ pgW_lim k) ∧ va_P D vwCl (vz_w [pgW g h pa pr_5 pf]) H ∧ va_D A (vz_w [pgW g h pa pr_5 pf]) := ⟨(vz_un pr_4 3 0), (vz_wf hw_pr_4 (t := 3) (v := 0) (Nat.zero_le _)), hP, hD⟩
  refine lv_iconst (v := 0) hx hb dX2_reset_35 (by decide) ?_
  refine lv_istore_n (lv' := [(1, .int 0), (0, .ref h)]) hx hb dX2_reset_36 rfl hl (by decide) rfl (fun ls hl => ?_)
  exact J37 (8) 0 (by omega) (by omega) pr_5 pf hw_pr_5 H locs ls hP hD hS (lv_sub hl [1, 0] rfl)
theorem q511 : Cond.methodLink RX2 43 yX6_get ∈ wsL_law := mT_4 (List.mem_of_getElem? (i := 3) rfl) rfl
theorem q294 : Cond.instanceMethod yX6_get ∈ wsL_law := mT_2 (List.mem_of_getElem? (i := 215) rfl) rfl
theorem q295 : Cond.selects RX6 yX6_get yX6_get ∈ wsL_law := mT_2 (List.mem_of_getElem? (i := 216) rfl) rfl
theorem q296 : Cond.code yX6_get cX6_get 4 (some .int) ∈ wsL_law := mT_2 (List.mem_of_getElem? (i := 217) rfl) rfl
theorem kv_X2_43 : vz_cv RX2 43 yX6_get cX6_get 4 (some .int) 2 := ⟨q511, q294, q295, q15, q296, by decide +kernel⟩
theorem dX2_covers_0 : decode cX2_covers 0 = .ok (.iload_n 2, 1) := by decide +kernel
theorem dX2_covers_1 : decode cX2_covers 1 = .ok (.istore_n 3, 1) := by decide +kernel
theorem dX2_covers_2 : decode cX2_covers 2 = .ok (.iconst 0, 1) := by decide +kernel
theorem dX2_covers_3 : decode cX2_covers 3 = .ok (.istore 4, 2) := by decide +kernel
theorem dX2_covers_5 : decode cX2_covers 5 = .ok (.iload 4, 2) := by decide +kernel
theorem dX2_covers_7 : decode cX2_covers 7 = .ok (.bipush 16, 2) := by decide +kernel
theorem dX2_covers_9 : decode cX2_covers 9 = .ok (.if_icmp .ge 32, 3) := by decide +kernel
theorem dX2_covers_12 : decode cX2_covers 12 = .ok (.iload_n 3, 1) := by decide +kernel
theorem dX2_covers_13 : decode cX2_covers 13 = .ok (.bipush (-9), 2) := by decide +kernel
theorem dX2_covers_15 : decode cX2_covers 15 = .ok (.if_icmp .eq 26, 3) := by decide +kernel
theorem dX2_covers_18 : decode cX2_covers 18 = .ok (.iload_n 3, 1) := by decide +kernel
theorem dX2_covers_19 : decode cX2_covers 19 = .ok (.iload_n 1, 1) := by decide +kernel
theorem dX2_covers_20 : decode cX2_covers 20 = .ok (.if_icmp .ne 5, 3) := by decide +kernel
theorem dX2_covers_23 : decode cX2_covers 23 = .ok (.iconst 1, 1) := by decide +kernel
theorem dX2_covers_24 : decode cX2_covers 24 = .ok (.ireturn, 1) := by decide +kernel
theorem dX2_covers_25 : decode cX2_covers 25 = .ok (.aload_n 0, 1) := by decide +kernel
theorem dX2_covers_26 : decode cX2_covers 26 = .ok (.getfield 26, 3) := by decide +kernel
theorem dX2_covers_29 : decode cX2_covers 29 = .ok (.iload_n 3, 1) := by decide +kernel
theorem dX2_covers_30 : decode cX2_covers 30 = .ok (.iconst 0, 1) := by decide +kernel
theorem dX2_covers_31 : decode cX2_covers 31 = .ok (.invokevirtual 43, 3) := by decide +kernel
theorem dX2_covers_34 : decode cX2_covers 34 = .ok (.istore_n 3, 1) := by decide +kernel
theorem dX2_covers_35 : decode cX2_covers 35 = .ok (.iinc 4 1, 3) := by decide +kernel
theorem dX2_covers_38 : decode cX2_covers 38 = .ok (.goto (-33), 3) := by decide +kernel
theorem dX2_covers_41 : decode cX2_covers 41 = .ok (.iconst 0, 1) := by decide +kernel
theorem dX2_covers_42 : decode cX2_covers 42 = .ok (.ireturn, 1) := by decide +kernel
set_option maxHeartbeats 8000000 in
set_option maxRecDepth 100000 in
theorem a_P_covers (l : Launch) (D : va_G) (g : Nat → ClassId)   (sz : Nat) (h : Nat) (pa : Nat → Nat) (pr : Nat → Nat) (pf : Nat → Nat → Int32) (n1 : Int32) (n2 : Int32) (hw_p : ∀ k, pr k ≤ pgW_lim k) : vz_Mi l D (tyG g) yX2_covers cX2_covers 5 1 23 0 0 .boolean [.ref h, .int n1, .int n2] sz (vz_w [pgW g h pa pr pf]) (fun r (u : Unit) => (r = 0 ∨ r = 1)) (fun u => vz_w [pgW g h pa pr pf]) := by
  refine vz_siQ (by decide) (Nat.le_of_ble_eq_true rfl) (fun p e s m args below meth c hx hb hr hml hts hown hlk hin hK hsz A hA H locs hP hD hS ls hl Q hQ => ?_)
  have hl : lv_has ls 5 [(0, .ref h), (1, .int n1), (2, .int n2)] := hl
  have J41 : ∀ (x3_41 : Int32), ∀ (x4_41 : Int32), ∀ (H : Heap) (locs : List Loc) (ls : Array Slot), va_P D vwCl (vz_w [pgW g h pa pr pf]) H → va_D A (vz_w [pgW g h pa pr pf]) → va_S A s.heap H locs → lv_has ls 5 [(0, .ref h), (1, .int n1), (2, .int n2), (3, .int x3_41), (4, .int x4_41)] → W p l e { frames := 1, cells := 0, slots := 0, locals := 23 } s m args below meth c H locs 0 0 Q (F0 m 41 ls []) := by
    intro x3_41 x4_41 H locs ls hP hD hS hl
    refine lv_iconst (v := 0) hx hb dX2_covers_41 (by decide) ?_
    rw [hQ]
    exact vz_zret3 hx hb hr hlk hK hP hD hS () (Or.inl rfl) rfl (Nat.le_refl 0) (Nat.le_refl 0) (by decide) dX2_covers_42
  have J5 : ∀ (fu5 n5 : Nat), 16 - n5 < fu5 → n5 ≤ 16 → ∀ (x3_5 : Int32), ∀ (H : Heap) (locs : List Loc) (ls : Array Slot), va_P D vwCl (vz_w [pgW g h pa pr pf]) H → va_D A (vz_w [pgW g h pa pr pf]) → va_S A s.heap H locs → lv_has ls 5 [(0, .ref h), (1, .int n1), (2, .int n2), (3, .int x3_5), (4, .int (nI n5))] → W p l e { frames := 1, cells := 0, slots := 0, locals := 23 } s m args below meth c H locs 0 0 Q (F0 m 5 ls []) := by
    intro fu5
    induction fu5 with
    | zero => intro n5 z; omega
    | succ fu5 ih5 =>
      intro n5 hf5 hb5 x3_5 H locs ls hP hD hS hl
      refine lv_iload hx hb dX2_covers_5 (lv_at hl 4 rfl) ?_
      refine lv_bipush (v := 16) hx hb dX2_covers_7 (by decide) ?_
      refine lv_icmp_ge (tgt := 41) hx hb dX2_covers_9 (by decide) (fun kc1 => ?_) (fun kc1 => ?_)
      · exact J41 x3_5 (nI n5) H locs ls hP hD hS (lv_sub hl [0, 1, 2, 3, 4] rfl)
      · have hn5 : n5 < 16 := vz_ltge (B := 16) (by omega) kc1
        refine lv_iload_n hx hb dX2_covers_12 rfl (lv_at hl 3 rfl) ?_
        refine lv_bipush (v := (-9)) hx hb dX2_covers_13 (by decide) ?_
        refine lv_icmp_eq (tgt := 41) hx hb dX2_covers_15 (by decide) (fun kc2 => ?_) (fun kc2 => ?_)
        · exact J41 x3_5 (nI n5) H locs ls hP hD hS (lv_sub hl [0, 1, 2, 3, 4] rfl)
        · refine lv_iload_n hx hb dX2_covers_18 rfl (lv_at hl 3 rfl) ?_
          refine lv_iload_n hx hb dX2_covers_19 rfl (lv_at hl 1 rfl) ?_
          refine lv_icmp_ne (tgt := 25) hx hb dX2_covers_20 (by decide) (fun kc3 => ?_) (fun kc3 => ?_)
          · refine lv_aload_n hx hb dX2_covers_25 rfl (lv_at hl 0 rfl) ?_
            refine va_get (D := D) (ci := 2) (v := .ref (pa 6)) (C := RX2) (T := TX2) (N := 5) hx hb hts inlX2 hown hK hP 0 rfl rfl 3 (by decide) (hts _ q89) (fun _ h => h) rfl dX2_covers_26 ?_
            refine lv_iload_n hx hb dX2_covers_29 rfl (lv_at hl 3 rfl) ?_
            refine lv_iconst (v := 0) hx hb dX2_covers_30 (by decide) ?_
            refine vz_Vi2 (ws' := fun u : Unit => vz_w [pgW g h pa pr pf]) (As := [.int x3_5, .int 0]) (rest := []) hx hb hml hown hts hK hA hP hD hS (c_T_get l D g (pa 6) (pa 7) H.size 1 16 (pr 3) 16 (pf 3) x3_5 0 ⟨rfl, by decide, by decide, by decide, by decide, hw_p 3⟩) kv_X2_43 ⟨Nat.le_of_ble_eq_true rfl, Nat.le_of_ble_eq_true rfl⟩ (q0 := 7) (ci := 6) rfl rfl rfl [7, 8] rfl (by decide) (fun _ => rfl) (fun _ => rfl) hl.1 (Nat.le_of_ble_eq_true rfl) dX2_covers_31 ⟨Nat.le_refl _, Nat.le_refl _⟩ rfl (fun v4 _ H locs he5 _ hP hD hS => ?_)
            refine lv_istore_n (lv' := [(3, .int v4), (0, .ref h), (1, .int n1), (2, .int n2), (4, .int (nI n5))]) hx hb dX2_covers_34 rfl hl (by decide) rfl (fun ls hl => ?_)
            refine lv_iinc (v := (nI (n5 + 1))) (lv' := [(4, .int (nI (n5 + 1))), (3, .int v4), (0, .ref h), (1, .int n1), (2, .int n2)]) hx hb dX2_covers_35 hl (k := 4) rfl (nI_1 n5) (by decide) rfl (fun ls hl => ?_)
            refine lv_goto (tgt := 5) hx hb dX2_covers_38 (by decide) ?_
            exact ih5 (n5 + 1) (by omega) (by omega) v4 H locs ls hP hD hS (lv_sub hl [2, 3, 4, 1, 0] rfl)
          · refine lv_iconst (v := 1) hx hb dX2_covers_23 (by decide) ?_
            rw [hQ]
            exact vz_zret3 hx hb hr hlk hK hP hD hS () (Or.inr rfl) rfl (Nat.le_refl 0) (Nat.le_refl 0) (by decide) dX2_covers_24
  refine lv_iload_n hx hb dX2_covers_0 rfl (lv_at hl 2 rfl) ?_
  refine lv_istore_n (lv' := [(3, .int n2), (0, .ref h), (1, .int n1), (2, .int n2)]) hx hb dX2_covers_1 rfl hl (by decide) rfl (fun ls hl => ?_)
  refine lv_iconst (v := 0) hx hb dX2_covers_2 (by decide) ?_
  refine lv_istore (lv' := [(4, .int 0), (3, .int n2), (0, .ref h), (1, .int n1), (2, .int n2)]) hx hb dX2_covers_3 hl (by decide) rfl (fun ls hl => ?_)
  exact J5 (17) 0 (by omega) (by omega) n2 H locs ls hP hD hS (lv_sub hl [2, 3, 4, 1, 0] rfl)
theorem q512 : Cond.methodLink RX2 47 yX2_covers ∈ wsL_law := mT_4 (List.mem_of_getElem? (i := 4) rfl) rfl
theorem q513 : Cond.instanceMethod yX2_covers ∈ wsL_law := mT_4 (List.mem_of_getElem? (i := 5) rfl) rfl
theorem q514 : Cond.selects RX2 yX2_covers yX2_covers ∈ wsL_law := mT_4 (List.mem_of_getElem? (i := 6) rfl) rfl
theorem q23 : Cond.initialized RX2 ∈ wsL_law := mT_1 (List.mem_of_getElem? (i := 5) rfl) rfl
theorem q515 : Cond.code yX2_covers cX2_covers 5 (some .boolean) ∈ wsL_law := mT_4 (List.mem_of_getElem? (i := 7) rfl) rfl
theorem kv_X2_47 : vz_cv RX2 47 yX2_covers cX2_covers 5 (some .boolean) 2 := ⟨q512, q513, q514, q23, q515, by decide +kernel⟩
theorem dX2_catchOf_0 : decode cX2_catchOf 0 = .ok (.aload_n 0, 1) := by decide +kernel
theorem dX2_catchOf_1 : decode cX2_catchOf 1 = .ok (.getfield 14, 3) := by decide +kernel
theorem dX2_catchOf_4 : decode cX2_catchOf 4 = .ok (.iload_n 1, 1) := by decide +kernel
theorem dX2_catchOf_5 : decode cX2_catchOf 5 = .ok (.bipush 11, 2) := by decide +kernel
theorem dX2_catchOf_7 : decode cX2_catchOf 7 = .ok (.invokevirtual 43, 3) := by decide +kernel
theorem dX2_catchOf_10 : decode cX2_catchOf 10 = .ok (.istore_n 3, 1) := by decide +kernel
theorem dX2_catchOf_11 : decode cX2_catchOf 11 = .ok (.iconst 0, 1) := by decide +kernel
theorem dX2_catchOf_12 : decode cX2_catchOf 12 = .ok (.istore 4, 2) := by decide +kernel
theorem dX2_catchOf_14 : decode cX2_catchOf 14 = .ok (.iload 4, 2) := by decide +kernel
theorem dX2_catchOf_16 : decode cX2_catchOf 16 = .ok (.bipush 112, 2) := by decide +kernel
theorem dX2_catchOf_18 : decode cX2_catchOf 18 = .ok (.if_icmp .ge 44, 3) := by decide +kernel
theorem dX2_catchOf_21 : decode cX2_catchOf 21 = .ok (.iload_n 3, 1) := by decide +kernel
theorem dX2_catchOf_22 : decode cX2_catchOf 22 = .ok (.bipush (-9), 2) := by decide +kernel
theorem dX2_catchOf_24 : decode cX2_catchOf 24 = .ok (.if_icmp .eq 38, 3) := by decide +kernel
theorem dX2_catchOf_27 : decode cX2_catchOf 27 = .ok (.aload_n 0, 1) := by decide +kernel
theorem dX2_catchOf_28 : decode cX2_catchOf 28 = .ok (.aload_n 0, 1) := by decide +kernel
theorem dX2_catchOf_29 : decode cX2_catchOf 29 = .ok (.getfield 23, 3) := by decide +kernel
theorem dX2_catchOf_32 : decode cX2_catchOf 32 = .ok (.iload_n 3, 1) := by decide +kernel
theorem dX2_catchOf_33 : decode cX2_catchOf 33 = .ok (.iconst 1, 1) := by decide +kernel
theorem dX2_catchOf_34 : decode cX2_catchOf 34 = .ok (.invokevirtual 43, 3) := by decide +kernel
theorem dX2_catchOf_37 : decode cX2_catchOf 37 = .ok (.iload_n 2, 1) := by decide +kernel
theorem dX2_catchOf_38 : decode cX2_catchOf 38 = .ok (.invokevirtual 47, 3) := by decide +kernel
theorem dX2_catchOf_41 : decode cX2_catchOf 41 = .ok (.ifCond .eq 5, 3) := by decide +kernel
theorem dX2_catchOf_44 : decode cX2_catchOf 44 = .ok (.iload_n 3, 1) := by decide +kernel
theorem dX2_catchOf_45 : decode cX2_catchOf 45 = .ok (.ireturn, 1) := by decide +kernel
theorem dX2_catchOf_46 : decode cX2_catchOf 46 = .ok (.aload_n 0, 1) := by decide +kernel
theorem dX2_catchOf_47 : decode cX2_catchOf 47 = .ok (.getfield 23, 3) := by decide +kernel
theorem dX2_catchOf_50 : decode cX2_catchOf 50 = .ok (.iload_n 3, 1) := by decide +kernel
theorem dX2_catchOf_51 : decode cX2_catchOf 51 = .ok (.iconst 4, 1) := by decide +kernel
theorem dX2_catchOf_52 : decode cX2_catchOf 52 = .ok (.invokevirtual 43, 3) := by decide +kernel
theorem dX2_catchOf_55 : decode cX2_catchOf 55 = .ok (.istore_n 3, 1) := by decide +kernel
theorem dX2_catchOf_56 : decode cX2_catchOf 56 = .ok (.iinc 4 1, 3) := by decide +kernel
theorem dX2_catchOf_59 : decode cX2_catchOf 59 = .ok (.goto (-45), 3) := by decide +kernel
theorem dX2_catchOf_62 : decode cX2_catchOf 62 = .ok (.bipush (-9), 2) := by decide +kernel
theorem dX2_catchOf_64 : decode cX2_catchOf 64 = .ok (.ireturn, 1) := by decide +kernel
set_option maxHeartbeats 8000000 in
set_option maxRecDepth 100000 in
theorem a_P_catchOf (l : Launch) (D : va_G) (g : Nat → ClassId)   (sz : Nat) (h : Nat) (pa : Nat → Nat) (pr : Nat → Nat) (pf : Nat → Nat → Int32) (n1 : Int32) (n2 : Int32) (hw_p : ∀ k, pr k ≤ pgW_lim k) : vz_Mi l D (tyG g) yX2_catchOf cX2_catchOf 5 2 47 0 0 .int [.ref h, .int n1, .int n2] sz (vz_w [pgW g h pa pr pf]) (fun r (u : Unit) => True) (fun u => vz_w [pgW g h pa pr pf]) := by
  refine vz_siQ (by decide) (Nat.le_of_ble_eq_true rfl) (fun p e s m args below meth c hx hb hr hml hts hown hlk hin hK hsz A hA H locs hP hD hS ls hl Q hQ => ?_)
  have hl : lv_has ls 5 [(0, .ref h), (1, .int n1), (2, .int n2)] := hl
  have J62 : ∀ (x3_62 : Int32), ∀ (x4_62 : Int32), ∀ (H : Heap) (locs : List Loc) (ls : Array Slot), va_P D vwCl (vz_w [pgW g h pa pr pf]) H → va_D A (vz_w [pgW g h pa pr pf]) → va_S A s.heap H locs → lv_has ls 5 [(0, .ref h), (1, .int n1), (2, .int n2), (3, .int x3_62), (4, .int x4_62)] → W p l e { frames := 2, cells := 0, slots := 0, locals := 47 } s m args below meth c H locs 0 0 Q (F0 m 62 ls []) := by
    intro x3_62 x4_62 H locs ls hP hD hS hl
    refine lv_bipush (v := (-9)) hx hb dX2_catchOf_62 (by decide) ?_
    rw [hQ]
    exact vz_iret3 hx hb hr hlk hK hP hD hS () trivial rfl (Nat.le_refl 0) (Nat.le_refl 0) dX2_catchOf_64
  have J14 : ∀ (fu14 n14 : Nat), 112 - n14 < fu14 → n14 ≤ 112 → ∀ (x3_14 : Int32), ∀ (H : Heap) (locs : List Loc) (ls : Array Slot), va_P D vwCl (vz_w [pgW g h pa pr pf]) H → va_D A (vz_w [pgW g h pa pr pf]) → va_S A s.heap H locs → lv_has ls 5 [(0, .ref h), (1, .int n1), (2, .int n2), (3, .int x3_14), (4, .int (nI n14))] → W p l e { frames := 2, cells := 0, slots := 0, locals := 47 } s m args below meth c H locs 0 0 Q (F0 m 14 ls []) := by
    intro fu14
    induction fu14 with
    | zero => intro n14 z; omega
    | succ fu14 ih14 =>
      intro n14 hf14 hb14 x3_14 H locs ls hP hD hS hl
      refine lv_iload hx hb dX2_catchOf_14 (lv_at hl 4 rfl) ?_
      refine lv_bipush (v := 112) hx hb dX2_catchOf_16 (by decide) ?_
      refine lv_icmp_ge (tgt := 62) hx hb dX2_catchOf_18 (by decide) (fun kc1 => ?_) (fun kc1 => ?_)
      · exact J62 x3_14 (nI n14) H locs ls hP hD hS (lv_sub hl [0, 1, 2, 3, 4] rfl)
      · have hn14 : n14 < 112 := vz_ltge (B := 112) (by omega) kc1
        refine lv_iload_n hx hb dX2_catchOf_21 rfl (lv_at hl 3 rfl) ?_
        refine lv_bipush (v := (-9)) hx hb dX2_catchOf_22 (by decide) ?_
        refine lv_icmp_eq (tgt := 62) hx hb dX2_catchOf_24 (by decide) (fun kc2 => ?_) (fun kc2 => ?_)
        · exact J62 x3_14 (nI n14) H locs ls hP hD hS (lv_sub hl [0, 1, 2, 3, 4] rfl)
        · refine lv_aload_n hx hb dX2_catchOf_27 rfl (lv_at hl 0 rfl) ?_
          refine lv_aload_n hx hb dX2_catchOf_28 rfl (lv_at hl 0 rfl) ?_
          refine va_get (D := D) (ci := 2) (v := .ref (pa 4)) (C := RX2) (T := TX2) (N := 5) hx hb hts inlX2 hown hK hP 0 rfl rfl 2 (by decide) (hts _ q88) (fun _ h => h) rfl dX2_catchOf_29 ?_
          refine lv_iload_n hx hb dX2_catchOf_32 rfl (lv_at hl 3 rfl) ?_
          refine lv_iconst (v := 1) hx hb dX2_catchOf_33 (by decide) ?_
          refine vz_Vi2 (ws' := fun u : Unit => vz_w [pgW g h pa pr pf]) (As := [.int x3_14, .int 1]) (rest := [.ref h]) hx hb hml hown hts hK hA hP hD hS (c_T_get l D g (pa 4) (pa 5) H.size 5 112 (pr 2) 560 (pf 2) x3_14 1 ⟨rfl, by decide, by decide, by decide, by decide, hw_p 2⟩) kv_X2_43 ⟨Nat.le_of_ble_eq_true rfl, Nat.le_of_ble_eq_true rfl⟩ (q0 := 5) (ci := 6) rfl rfl rfl [5, 6] rfl (by decide) (fun _ => rfl) (fun _ => rfl) hl.1 (Nat.le_of_ble_eq_true rfl) dX2_catchOf_34 ⟨Nat.le_refl _, Nat.le_refl _⟩ rfl (fun v3 _ H locs he4 _ hP hD hS => ?_)
          refine lv_iload_n hx hb dX2_catchOf_37 rfl (lv_at hl 2 rfl) ?_
          refine vz_Vi3 (As := [.int v3, .int n2]) (rest := []) hx hb hml hown hts hK hA hP hD hS (a_P_covers l D g H.size h pa pr pf v3 n2 hw_p) kv_X2_47 ⟨Nat.le_of_ble_eq_true rfl, Nat.le_of_ble_eq_true rfl⟩ (q0 := 0) (ci := 2) rfl rfl rfl  hl.1 (Nat.le_of_ble_eq_true rfl) dX2_catchOf_38 ⟨Nat.le_refl _, Nat.le_refl _⟩ rfl (fun v5 _ H locs hz6 _ hP hD hS => ?_)
          refine lv_if_eq (tgt := 46) hx hb dX2_catchOf_41 (by decide) (fun kc7 => ?_) (fun kc7 => ?_)
          · refine lv_aload_n hx hb dX2_catchOf_46 rfl (lv_at hl 0 rfl) ?_
            refine va_get (D := D) (ci := 2) (v := .ref (pa 4)) (C := RX2) (T := TX2) (N := 5) hx hb hts inlX2 hown hK hP 0 rfl rfl 2 (by decide) (hts _ q88) (fun _ h => h) rfl dX2_catchOf_47 ?_
            refine lv_iload_n hx hb dX2_catchOf_50 rfl (lv_at hl 3 rfl) ?_
            refine lv_iconst (v := 4) hx hb dX2_catchOf_51 (by decide) ?_
            refine vz_Vi2 (ws' := fun u : Unit => vz_w [pgW g h pa pr pf]) (As := [.int x3_14, .int 4]) (rest := []) hx hb hml hown hts hK hA hP hD hS (c_T_get l D g (pa 4) (pa 5) H.size 5 112 (pr 2) 560 (pf 2) x3_14 4 ⟨rfl, by decide, by decide, by decide, by decide, hw_p 2⟩) kv_X2_43 ⟨Nat.le_of_ble_eq_true rfl, Nat.le_of_ble_eq_true rfl⟩ (q0 := 5) (ci := 6) rfl rfl rfl [5, 6] rfl (by decide) (fun _ => rfl) (fun _ => rfl) hl.1 (Nat.le_of_ble_eq_true rfl) dX2_catchOf_52 ⟨Nat.le_refl _, Nat.le_refl _⟩ rfl (fun v8 _ H locs he9 _ hP hD hS => ?_)
            refine lv_istore_n (lv' := [(3, .int v8), (0, .ref h), (1, .int n1), (2, .int n2), (4, .int (nI n14))]) hx hb dX2_catchOf_55 rfl hl (by decide) rfl (fun ls hl => ?_)
            refine lv_iinc (v := (nI (n14 + 1))) (lv' := [(4, .int (nI (n14 + 1))), (3, .int v8), (0, .ref h), (1, .int n1), (2, .int n2)]) hx hb dX2_catchOf_56 hl (k := 4) rfl (nI_1 n14) (by decide) rfl (fun ls hl => ?_)
            refine lv_goto (tgt := 14) hx hb dX2_catchOf_59 (by decide) ?_
            exact ih14 (n14 + 1) (by omega) (by omega) v8 H locs ls hP hD hS (lv_sub hl [2, 3, 4, 1, 0] rfl)
          · refine lv_iload_n hx hb dX2_catchOf_44 rfl (lv_at hl 3 rfl) ?_
            rw [hQ]
            exact vz_iret3 hx hb hr hlk hK hP hD hS () trivial rfl (Nat.le_refl 0) (Nat.le_refl 0) dX2_catchOf_45
  refine lv_aload_n hx hb dX2_catchOf_0 rfl (lv_at hl 0 rfl) ?_
  refine va_get (D := D) (ci := 2) (v := .ref (pa 0)) (C := RX2) (T := TX2) (N := 5) hx hb hts inlX2 hown hK hP 0 rfl rfl 0 (by decide) (hts _ q86) (fun _ h => h) rfl dX2_catchOf_1 ?_
  refine lv_iload_n hx hb dX2_catchOf_4 rfl (lv_at hl 1 rfl) ?_
  refine lv_bipush (v := 11) hx hb dX2_catchOf_5 (by decide) ?_
  refine vz_Vi2 (ws' := fun u : Unit => vz_w [pgW g h pa pr pf]) (As := [.int n1, .int 11]) (rest := []) hx hb hml hown hts hK hA hP hD hS (c_T_get l D g (pa 0) (pa 1) H.size 12 80 (pr 0) 960 (pf 0) n1 11 ⟨rfl, by decide, by decide, by decide, by decide, hw_p 0⟩) kv_X2_43 ⟨Nat.le_of_ble_eq_true rfl, Nat.le_of_ble_eq_true rfl⟩ (q0 := 1) (ci := 6) rfl rfl rfl [1, 2] rfl (by decide) (fun _ => rfl) (fun _ => rfl) hl.1 (Nat.le_of_ble_eq_true rfl) dX2_catchOf_7 ⟨Nat.le_refl _, Nat.le_refl _⟩ rfl (fun v1 _ H locs he2 _ hP hD hS => ?_)
  refine lv_istore_n (lv' := [(3, .int v1), (0, .ref h), (1, .int n1), (2, .int n2)]) hx hb dX2_catchOf_10 rfl hl (by decide) rfl (fun ls hl => ?_)
  refine lv_iconst (v := 0) hx hb dX2_catchOf_11 (by decide) ?_
  refine lv_istore (lv' := [(4, .int 0), (3, .int v1), (0, .ref h), (1, .int n1), (2, .int n2)]) hx hb dX2_catchOf_12 hl (by decide) rfl (fun ls hl => ?_)
  exact J14 (113) 0 (by omega) (by omega) v1 H locs ls hP hD hS (lv_sub hl [2, 3, 4, 1, 0] rfl)
theorem dX2_hasPart_0 : decode cX2_hasPart 0 = .ok (.aload_n 0, 1) := by decide +kernel
theorem dX2_hasPart_1 : decode cX2_hasPart 1 = .ok (.getfield 14, 3) := by decide +kernel
theorem dX2_hasPart_4 : decode cX2_hasPart 4 = .ok (.iload_n 1, 1) := by decide +kernel
theorem dX2_hasPart_5 : decode cX2_hasPart 5 = .ok (.iconst 0, 1) := by decide +kernel
theorem dX2_hasPart_6 : decode cX2_hasPart 6 = .ok (.invokevirtual 43, 3) := by decide +kernel
theorem dX2_hasPart_9 : decode cX2_hasPart 9 = .ok (.istore_n 3, 1) := by decide +kernel
theorem dX2_hasPart_10 : decode cX2_hasPart 10 = .ok (.iload_n 2, 1) := by decide +kernel
theorem dX2_hasPart_11 : decode cX2_hasPart 11 = .ok (.ifCond .ne 13, 3) := by decide +kernel
theorem dX2_hasPart_14 : decode cX2_hasPart 14 = .ok (.iload_n 3, 1) := by decide +kernel
theorem dX2_hasPart_15 : decode cX2_hasPart 15 = .ok (.ifCond .ne 7, 3) := by decide +kernel
theorem dX2_hasPart_18 : decode cX2_hasPart 18 = .ok (.iconst 1, 1) := by decide +kernel
theorem dX2_hasPart_19 : decode cX2_hasPart 19 = .ok (.goto 4, 3) := by decide +kernel
theorem dX2_hasPart_22 : decode cX2_hasPart 22 = .ok (.iconst 0, 1) := by decide +kernel
theorem dX2_hasPart_23 : decode cX2_hasPart 23 = .ok (.ireturn, 1) := by decide +kernel
theorem dX2_hasPart_24 : decode cX2_hasPart 24 = .ok (.iload_n 2, 1) := by decide +kernel
theorem dX2_hasPart_25 : decode cX2_hasPart 25 = .ok (.iconst 3, 1) := by decide +kernel
theorem dX2_hasPart_26 : decode cX2_hasPart 26 = .ok (.if_icmp .le 9, 3) := by decide +kernel
theorem dX2_hasPart_29 : decode cX2_hasPart 29 = .ok (.iload_n 2, 1) := by decide +kernel
theorem dX2_hasPart_30 : decode cX2_hasPart 30 = .ok (.iconst 3, 1) := by decide +kernel
theorem dX2_hasPart_31 : decode cX2_hasPart 31 = .ok (.isub, 1) := by decide +kernel
theorem dX2_hasPart_32 : decode cX2_hasPart 32 = .ok (.goto 4, 3) := by decide +kernel
theorem dX2_hasPart_35 : decode cX2_hasPart 35 = .ok (.iload_n 2, 1) := by decide +kernel
theorem dX2_hasPart_36 : decode cX2_hasPart 36 = .ok (.istore 4, 2) := by decide +kernel
theorem dX2_hasPart_38 : decode cX2_hasPart 38 = .ok (.iload_n 3, 1) := by decide +kernel
theorem dX2_hasPart_39 : decode cX2_hasPart 39 = .ok (.bipush 15, 2) := by decide +kernel
theorem dX2_hasPart_41 : decode cX2_hasPart 41 = .ok (.if_icmp .ne 27, 3) := by decide +kernel
theorem dX2_hasPart_44 : decode cX2_hasPart 44 = .ok (.iload 4, 2) := by decide +kernel
theorem dX2_hasPart_46 : decode cX2_hasPart 46 = .ok (.iconst 1, 1) := by decide +kernel
theorem dX2_hasPart_47 : decode cX2_hasPart 47 = .ok (.if_icmp .lt 21, 3) := by decide +kernel
theorem dX2_hasPart_50 : decode cX2_hasPart 50 = .ok (.iload 4, 2) := by decide +kernel
theorem dX2_hasPart_52 : decode cX2_hasPart 52 = .ok (.aload_n 0, 1) := by decide +kernel
theorem dX2_hasPart_53 : decode cX2_hasPart 53 = .ok (.getfield 14, 3) := by decide +kernel
theorem dX2_hasPart_56 : decode cX2_hasPart 56 = .ok (.iload_n 1, 1) := by decide +kernel
theorem dX2_hasPart_57 : decode cX2_hasPart 57 = .ok (.iconst 1, 1) := by decide +kernel
theorem dX2_hasPart_58 : decode cX2_hasPart 58 = .ok (.invokevirtual 43, 3) := by decide +kernel
theorem dX2_hasPart_61 : decode cX2_hasPart 61 = .ok (.if_icmp .gt 7, 3) := by decide +kernel
theorem dX2_hasPart_64 : decode cX2_hasPart 64 = .ok (.iconst 1, 1) := by decide +kernel
theorem dX2_hasPart_65 : decode cX2_hasPart 65 = .ok (.goto 4, 3) := by decide +kernel
theorem dX2_hasPart_68 : decode cX2_hasPart 68 = .ok (.iconst 0, 1) := by decide +kernel
theorem dX2_hasPart_69 : decode cX2_hasPart 69 = .ok (.ireturn, 1) := by decide +kernel
set_option maxHeartbeats 8000000 in
set_option maxRecDepth 100000 in
theorem a_P_hasPart (l : Launch) (D : va_G) (g : Nat → ClassId)   (sz : Nat) (h : Nat) (pa : Nat → Nat) (pr : Nat → Nat) (pf : Nat → Nat → Int32) (n1 : Int32) (n2 : Int32) (hw_p : ∀ k, pr k ≤ pgW_lim k) : vz_Mi l D (tyG g) yX2_hasPart cX2_hasPart 5 1 23 0 0 .boolean [.ref h, .int n1, .int n2] sz (vz_w [pgW g h pa pr pf]) (fun r (u : Unit) => (r = 0 ∨ r = 1)) (fun u => vz_w [pgW g h pa pr pf]) := by
  refine vz_siQ (by decide) (Nat.le_of_ble_eq_true rfl) (fun p e s m args below meth c hx hb hr hml hts hown hlk hin hK hsz A hA H locs hP hD hS ls hl Q hQ => ?_)
  have hl : lv_has ls 5 [(0, .ref h), (1, .int n1), (2, .int n2)] := hl
  have J69 : ∀ (x3_69 : Int32), ∀ (x4_69 : Int32), ∀ (y0_69 : Int32), (y0_69 = 0 ∨ y0_69 = 1) → ∀ (H : Heap) (locs : List Loc) (ls : Array Slot), va_P D vwCl (vz_w [pgW g h pa pr pf]) H → va_D A (vz_w [pgW g h pa pr pf]) → va_S A s.heap H locs → lv_has ls 5 [(0, .ref h), (1, .int n1), (2, .int n2), (3, .int x3_69), (4, .int x4_69)] → W p l e { frames := 1, cells := 0, slots := 0, locals := 23 } s m args below meth c H locs 0 0 Q (F0 m 69 ls [.int y0_69]) := by
    intro x3_69 x4_69 y0_69 hz_y0_69 H locs ls hP hD hS hl
    rw [hQ]
    exact vz_zret3 hx hb hr hlk hK hP hD hS () hz_y0_69 rfl (Nat.le_refl 0) (Nat.le_refl 0) (vz_nb hz_y0_69) dX2_hasPart_69
  have J68 : ∀ (x3_68 : Int32), ∀ (x4_68 : Int32), ∀ (H : Heap) (locs : List Loc) (ls : Array Slot), va_P D vwCl (vz_w [pgW g h pa pr pf]) H → va_D A (vz_w [pgW g h pa pr pf]) → va_S A s.heap H locs → lv_has ls 5 [(0, .ref h), (1, .int n1), (2, .int n2), (3, .int x3_68), (4, .int x4_68)] → W p l e { frames := 1, cells := 0, slots := 0, locals := 23 } s m args below meth c H locs 0 0 Q (F0 m 68 ls []) := by
    intro x3_68 x4_68 H locs ls hP hD hS hl
    refine lv_iconst (v := 0) hx hb dX2_hasPart_68 (by decide) ?_
    exact J69 x3_68 x4_68 0 (Or.inl rfl) H locs ls hP hD hS (lv_sub hl [0, 1, 2, 3, 4] rfl)
  have J36 : ∀ (x3_36 : Int32), ∀ (y0_36 : Int32), ∀ (H : Heap) (locs : List Loc) (ls : Array Slot), va_P D vwCl (vz_w [pgW g h pa pr pf]) H → va_D A (vz_w [pgW g h pa pr pf]) → va_S A s.heap H locs → lv_has ls 5 [(0, .ref h), (1, .int n1), (2, .int n2), (3, .int x3_36)] → W p l e { frames := 1, cells := 0, slots := 0, locals := 23 } s m args below meth c H locs 0 0 Q (F0 m 36 ls [.int y0_36]) := by
    intro x3_36 y0_36 H locs ls hP hD hS hl
    refine lv_istore (lv' := [(4, .int y0_36), (0, .ref h), (1, .int n1), (2, .int n2), (3, .int x3_36)]) hx hb dX2_hasPart_36 hl (by decide) rfl (fun ls hl => ?_)
    refine lv_iload_n hx hb dX2_hasPart_38 rfl (lv_at hl 4 rfl) ?_
    refine lv_bipush (v := 15) hx hb dX2_hasPart_39 (by decide) ?_
    refine lv_icmp_ne (tgt := 68) hx hb dX2_hasPart_41 (by decide) (fun kc1 => ?_) (fun kc1 => ?_)
    · exact J68 x3_36 y0_36 H locs ls hP hD hS (lv_sub hl [1, 2, 3, 4, 0] rfl)
    · refine lv_iload hx hb dX2_hasPart_44 (lv_at hl 0 rfl) ?_
      refine lv_iconst (v := 1) hx hb dX2_hasPart_46 (by decide) ?_
      refine lv_icmp_lt (tgt := 68) hx hb dX2_hasPart_47 (by decide) (fun kc2 => ?_) (fun kc2 => ?_)
      · exact J68 x3_36 y0_36 H locs ls hP hD hS (lv_sub hl [1, 2, 3, 4, 0] rfl)
      · refine lv_iload hx hb dX2_hasPart_50 (lv_at hl 0 rfl) ?_
        refine lv_aload_n hx hb dX2_hasPart_52 rfl (lv_at hl 1 rfl) ?_
        refine va_get (D := D) (ci := 2) (v := .ref (pa 0)) (C := RX2) (T := TX2) (N := 5) hx hb hts inlX2 hown hK hP 0 rfl rfl 0 (by decide) (hts _ q86) (fun _ h => h) rfl dX2_hasPart_53 ?_
        refine lv_iload_n hx hb dX2_hasPart_56 rfl (lv_at hl 2 rfl) ?_
        refine lv_iconst (v := 1) hx hb dX2_hasPart_57 (by decide) ?_
        refine vz_Vi2 (ws' := fun u : Unit => vz_w [pgW g h pa pr pf]) (As := [.int n1, .int 1]) (rest := [.int y0_36]) hx hb hml hown hts hK hA hP hD hS (c_T_get l D g (pa 0) (pa 1) H.size 12 80 (pr 0) 960 (pf 0) n1 1 ⟨rfl, by decide, by decide, by decide, by decide, hw_p 0⟩) kv_X2_43 ⟨Nat.le_of_ble_eq_true rfl, Nat.le_of_ble_eq_true rfl⟩ (q0 := 1) (ci := 6) rfl rfl rfl [1, 2] rfl (by decide) (fun _ => rfl) (fun _ => rfl) hl.1 (Nat.le_of_ble_eq_true rfl) dX2_hasPart_58 ⟨Nat.le_refl _, Nat.le_refl _⟩ rfl (fun v3 _ H locs he4 _ hP hD hS => ?_)
        refine lv_icmp_gt (tgt := 68) hx hb dX2_hasPart_61 (by decide) (fun kc5 => ?_) (fun kc5 => ?_)
        · exact J68 x3_36 y0_36 H locs ls hP hD hS (lv_sub hl [1, 2, 3, 4, 0] rfl)
        · refine lv_iconst (v := 1) hx hb dX2_hasPart_64 (by decide) ?_
          refine lv_goto (tgt := 69) hx hb dX2_hasPart_65 (by decide) ?_
          exact J69 x3_36 y0_36 1 (Or.inr rfl) H locs ls hP hD hS (lv_sub hl [1, 2, 3, 4, 0] rfl)
  have J23 : ∀ (x3_23 : Int32), ∀ (y0_23 : Int32), (y0_23 = 0 ∨ y0_23 = 1) → ∀ (H : Heap) (locs : List Loc) (ls : Array Slot), va_P D vwCl (vz_w [pgW g h pa pr pf]) H → va_D A (vz_w [pgW g h pa pr pf]) → va_S A s.heap H locs → lv_has ls 5 [(0, .ref h), (1, .int n1), (2, .int n2), (3, .int x3_23)] → W p l e { frames := 1, cells := 0, slots := 0, locals := 23 } s m args below meth c H locs 0 0 Q (F0 m 23 ls [.int y0_23]) := by
    intro x3_23 y0_23 hz_y0_23 H locs ls hP hD hS hl
    rw [hQ]
    exact vz_zret3 hx hb hr hlk hK hP hD hS () hz_y0_23 rfl (Nat.le_refl 0) (Nat.le_refl 0) (vz_nb hz_y0_23) dX2_hasPart_23
  refine lv_aload_n hx hb dX2_hasPart_0 rfl (lv_at hl 0 rfl) ?_
  refine va_get (D := D) (ci := 2) (v := .ref (pa 0)) (C := RX2) (T := TX2) (N := 5) hx hb hts inlX2 hown hK hP 0 rfl rfl 0 (by decide) (hts _ q86) (fun _ h => h) rfl dX2_hasPart_1 ?_
  refine lv_iload_n hx hb dX2_hasPart_4 rfl (lv_at hl 1 rfl) ?_
  refine lv_iconst (v := 0) hx hb dX2_hasPart_5 (by decide) ?_
  refine vz_Vi2 (ws' := fun u : Unit => vz_w [pgW g h pa pr pf]) (As := [.int n1, .int 0]) (rest := []) hx hb hml hown hts hK hA hP hD hS (c_T_get l D g (pa 0) (pa 1) H.size 12 80 (pr 0) 960 (pf 0) n1 0 ⟨rfl, by decide, by decide, by decide, by decide, hw_p 0⟩) kv_X2_43 ⟨Nat.le_of_ble_eq_true rfl, Nat.le_of_ble_eq_true rfl⟩ (q0 := 1) (ci := 6) rfl rfl rfl [1, 2] rfl (by decide) (fun _ => rfl) (fun _ => rfl) hl.1 (Nat.le_of_ble_eq_true rfl) dX2_hasPart_6 ⟨Nat.le_refl _, Nat.le_refl _⟩ rfl (fun v1 _ H locs he2 _ hP hD hS => ?_)
  refine lv_istore_n (lv' := [(3, .int v1), (0, .ref h), (1, .int n1), (2, .int n2)]) hx hb dX2_hasPart_9 rfl hl (by decide) rfl (fun ls hl => ?_)
  refine lv_iload_n hx hb dX2_hasPart_10 rfl (lv_at hl 3 rfl) ?_
  refine lv_if_ne (tgt := 24) hx hb dX2_hasPart_11 (by decide) (fun kc3 => ?_) (fun kc3 => ?_)
  · refine lv_iload_n hx hb dX2_hasPart_24 rfl (lv_at hl 3 rfl) ?_
    refine lv_iconst (v := 3) hx hb dX2_hasPart_25 (by decide) ?_
    refine lv_icmp_le (tgt := 35) hx hb dX2_hasPart_26 (by decide) (fun kc4 => ?_) (fun kc4 => ?_)
    · refine lv_iload_n hx hb dX2_hasPart_35 rfl (lv_at hl 3 rfl) ?_
      exact J36 v1 n2 H locs ls hP hD hS (lv_sub hl [1, 2, 3, 0] rfl)
    · refine lv_iload_n hx hb dX2_hasPart_29 rfl (lv_at hl 3 rfl) ?_
      refine lv_iconst (v := 3) hx hb dX2_hasPart_30 (by decide) ?_
      refine lv_isub hx hb dX2_hasPart_31 ?_
      refine lv_goto (tgt := 36) hx hb dX2_hasPart_32 (by decide) ?_
      exact J36 v1 (n2 - 3) H locs ls hP hD hS (lv_sub hl [1, 2, 3, 0] rfl)
  · refine lv_iload_n hx hb dX2_hasPart_14 rfl (lv_at hl 0 rfl) ?_
    refine lv_if_ne (tgt := 22) hx hb dX2_hasPart_15 (by decide) (fun kc5 => ?_) (fun kc5 => ?_)
    · refine lv_iconst (v := 0) hx hb dX2_hasPart_22 (by decide) ?_
      exact J23 v1 0 (Or.inl rfl) H locs ls hP hD hS (lv_sub hl [1, 2, 3, 0] rfl)
    · refine lv_iconst (v := 1) hx hb dX2_hasPart_18 (by decide) ?_
      refine lv_goto (tgt := 23) hx hb dX2_hasPart_19 (by decide) ?_
      exact J23 v1 1 (Or.inr rfl) H locs ls hP hD hS (lv_sub hl [1, 2, 3, 0] rfl)
