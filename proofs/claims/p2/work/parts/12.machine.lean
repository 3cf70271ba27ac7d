theorem q163 : Cond.fieldLink RX1 27 "WaysAtlas$Machine" "stack" "LWaysAtlas$Table;" ∈ wsL_law := mT_2 (List.mem_of_getElem? (i := 119) rfl) rfl
theorem q1282 : Cond.methodLink RX1 85 yX6_add ∈ wsL_law := mT_5 (List.mem_of_getElem? (i := 183) rfl) rfl
theorem kv_X1_85 : vz_cv RX1 85 yX6_add cX6_add 2 (some .int) 0 := ⟨q1282, q261, q262, q15, q263, by decide +kernel⟩
theorem q1283 : Cond.methodLink RX1 89 yX6_set ∈ wsL_law := mT_5 (List.mem_of_getElem? (i := 184) rfl) rfl
theorem kv_X1_89 : vz_cv RX1 89 yX6_set cX6_set 5 none 3 := ⟨q1283, q265, q266, q15, q267, by decide +kernel⟩
theorem dX1_push_0 : decode cX1_push 0 = .ok (.aload_n 0, 1) := by decide +kernel
theorem dX1_push_1 : decode cX1_push 1 = .ok (.getfield 27, 3) := by decide +kernel
theorem dX1_push_4 : decode cX1_push 4 = .ok (.aload_n 0, 1) := by decide +kernel
theorem dX1_push_5 : decode cX1_push 5 = .ok (.getfield 27, 3) := by decide +kernel
theorem dX1_push_8 : decode cX1_push 8 = .ok (.invokevirtual 85, 3) := by decide +kernel
theorem dX1_push_11 : decode cX1_push 11 = .ok (.iconst 0, 1) := by decide +kernel
theorem dX1_push_12 : decode cX1_push 12 = .ok (.iload_n 1, 1) := by decide +kernel
theorem dX1_push_13 : decode cX1_push 13 = .ok (.invokevirtual 89, 3) := by decide +kernel
theorem dX1_push_16 : decode cX1_push 16 = .ok (.return_, 1) := by decide +kernel
set_option maxHeartbeats 8000000 in
set_option maxRecDepth 100000 in
theorem a_M_push (l : Launch) (D : va_G) (g : Nat → ClassId)   (sz : Nat) (h : Nat) (ma : Nat → Nat) (mi : Nat → Int32) (mr : Nat → Nat) (mf : Nat → Nat → Int32) (wh : Nat) (da : Nat → Nat) (dr : Nat → Nat) (df : Nat → Nat → Int32) (wa : Nat → Nat) (wi : Nat → Int32) (wr : Nat → Nat) (wf : Nat → Nat → Int32) (ph : Nat) (rh : Nat) (la : Nat → Nat) (pa : Nat → Nat) (pr : Nat → Nat) (pf : Nat → Nat → Int32) (ca : Nat → Nat) (ci : Nat → Int32) (cr : Nat → Nat) (cf : Nat → Nat → Int32) (lr : Nat → Nat) (lf : Nat → Nat → Int32) (lmx : Nat) (n1 : Int32) (hw_m : ∀ k, mr k ≤ mcW_lim k) (hw_d : ∀ k, dr k ≤ cdW_lim k) (hw_w : ∀ k, wr k ≤ woW_lim k) (hw_p : ∀ k, pr k ≤ pgW_lim k) (hw_c : ∀ k, cr k ≤ rcW_lim k) (hw_l : ∀ k, lr k ≤ (plW_lim lmx) k) (hmx_l : lmx ≤ 30) : vz_Mv l D (tyG g) yX1_push cX1_push 2 1 24 0 0 [.ref h, .int n1] sz (vz_w [mcW g h ma mi mr mf wh (da 0) (da 2), cdW g da dr df, woW g wh wa wi wr wf ph rh (la 0), pgW g ph pa pr pf, rcW g rh ca ci cr cf, plW g la lr lf lmx]) (fun u : (Nat → Nat) × (Nat → Nat → Int32) => (∀ k, u.1 k ≤ mcW_lim k)) (fun u => vz_w [mcW g h ma mi u.1 u.2 wh (da 0) (da 2), cdW g da dr df, woW g wh wa wi wr wf ph rh (la 0), pgW g ph pa pr pf, rcW g rh ca ci cr cf, plW g la lr lf lmx]) := by
  refine vz_svQ (by decide) (Nat.le_of_ble_eq_true rfl) (fun p e s m args below meth c hx hb hr hml hts hown hlk hin hK hsz A hA H locs hP hD hS ls hl Q hQ => ?_)
  have hl : lv_has ls 2 [(0, .ref h), (1, .int n1)] := hl
  refine lv_aload_n hx hb dX1_push_0 rfl (lv_at hl 0 rfl) ?_
  refine va_get (D := D) (ci := 1) (v := .ref (ma 0)) (C := RX1) (T := TX1) (N := 7) hx hb hts inlX1 hown hK hP 0 rfl rfl 3 (by decide) (hts _ q163) (fun _ h => h) rfl dX1_push_1 ?_
  refine lv_aload_n hx hb dX1_push_4 rfl (lv_at hl 0 rfl) ?_
  refine va_get (D := D) (ci := 1) (v := .ref (ma 0)) (C := RX1) (T := TX1) (N := 7) hx hb hts inlX1 hown hK hP 0 rfl rfl 3 (by decide) (hts _ q163) (fun _ h => h) rfl dX1_push_5 ?_
  refine vz_Vi2 (ws' := fun u : (Nat × (Nat → Int32)) => vz_w [mcW g h ma mi (vz_un mr 0 u.1) (vz_uf mf 0 u.2) wh (da 0) (da 2), cdW g da dr df, woW g wh wa wi wr wf ph rh (la 0), pgW g ph pa pr pf, rcW g rh ca ci cr cf, plW g la lr lf lmx]) (As := []) (rest := [.ref (ma 0)]) hx hb hml hown hts hK hA hP hD hS (c_T_add l D g (ma 0) (ma 1) H.size 1 64 (mr 0) 64 (mf 0) ⟨rfl, by decide, by decide, by decide, by decide, hw_m 0⟩) kv_X1_85 ⟨Nat.le_of_ble_eq_true rfl, Nat.le_of_ble_eq_true rfl⟩ (q0 := 1) (ci := 6) rfl rfl rfl [1, 2] rfl (by decide) (fun _ => rfl) (fun _ => rfl) hl.1 (Nat.le_of_ble_eq_true rfl) dX1_push_8 ⟨Nat.le_refl _, Nat.le_refl _⟩ rfl (fun v3 ⟨u1R, u1f⟩ H locs ha2 _ hP hD hS => ?_)
  have hq : (mr 0) ≤ 64 := hw_m 0
  replace ha2 : u1R ≤ 64 := by rcases ha2 with ⟨z1, -, z2, -⟩ | ⟨z1, -, z2, -⟩ <;> (dsimp only at z2; omega)
  obtain ⟨mr_4, hw_mr_4, mf_5, hP, hD⟩ : ∃ mr_4 : Nat → Nat, (∀ k, mr_4 k ≤ mcW_lim k) ∧ ∃ mf_5 : Nat → Nat → Int32, va_P D vwCl (vz_w [mcW g h ma mi mr_4 mf_5 wh (da 0) (da 2), cdW g da dr df, woW g wh wa wi wr wf ph rh (la 0), pgW g ph pa pr pf, rcW g rh ca ci cr cf, plW g la lr lf lmx]) H ∧ va_D A (vz_w [mcW g h ma mi mr_4 mf_5 wh (da 0) (da 2), cdW g da dr df, woW g wh wa wi wr wf ph rh (la 0), pgW g ph pa pr pf, rcW g rh ca ci cr cf, plW g la lr lf lmx]) := ⟨(vz_un mr 0 u1R), (vz_wf hw_m (t := 0) (v := u1R) (ha2)), (vz_uf mf 0 u1f), hP, hD⟩
  refine lv_iconst (v := 0) hx hb dX1_push_11 (by decide) ?_
  refine lv_iload_n hx hb dX1_push_12 rfl (lv_at hl 1 rfl) ?_
  refine vz_Vv2 (ws' := fun u : (Nat → Int32) => vz_w [mcW g h ma mi mr_4 (vz_uf mf_5 0 u) wh (da 0) (da 2), cdW g da dr df, woW g wh wa wi wr wf ph rh (la 0), pgW g ph pa pr pf, rcW g rh ca ci cr cf, plW g la lr lf lmx]) (As := [.int v3, .int 0, .int n1]) (rest := []) hx hb hml hown hts hK hA hP hD hS (c_T_set l D g (ma 0) (ma 1) H.size 1 64 (mr_4 0) 64 (mf_5 0) v3 0 n1 ⟨rfl, by decide, by decide, by decide, by decide, hw_mr_4 0⟩) kv_X1_89 ⟨Nat.le_of_ble_eq_true rfl, Nat.le_of_ble_eq_true rfl⟩ (q0 := 1) (ci := 6) rfl rfl rfl [1, 2] rfl (by decide) (fun _ => rfl) (fun _ => rfl) hl.1 (Nat.le_of_ble_eq_true rfl) dX1_push_13 ⟨Nat.le_refl _, Nat.le_refl _⟩ rfl (fun nf6 H locs _ _ hP hD hS => ?_)
  obtain ⟨mf_7, hP, hD⟩ : ∃ mf_7 : Nat → Nat → Int32, va_P D vwCl (vz_w [mcW g h ma mi mr_4 mf_7 wh (da 0) (da 2), cdW g da dr df, woW g wh wa wi wr wf ph rh (la 0), pgW g ph pa pr pf, rcW g rh ca ci cr cf, plW g la lr lf lmx]) H ∧ va_D A (vz_w [mcW g h ma mi mr_4 mf_7 wh (da 0) (da 2), cdW g da dr df, woW g wh wa wi wr wf ph rh (la 0), pgW g ph pa pr pf, rcW g rh ca ci cr cf, plW g la lr lf lmx]) := ⟨(vz_uf mf_5 0 nf6), hP, hD⟩
  rw [hQ]
  exact vz_vret3 hx hb hr hlk hK hP hD hS (mr_4, mf_7) hw_mr_4 rfl (Nat.le_refl 0) (Nat.le_refl 0) dX1_push_16
theorem q1289 : Cond.fieldLink RX1 92 "WaysAtlas$Table" "rows" "I" ∈ wsL_law := mT_1 (List.mem_of_getElem? (i := 44) rfl) rfl
theorem q1272 : Cond.methodLink RX1 52 yX6_get ∈ wsL_law := mT_5 (List.mem_of_getElem? (i := 172) rfl) rfl
theorem kv_X1_52 : vz_cv RX1 52 yX6_get cX6_get 4 (some .int) 2 := ⟨q1272, q294, q295, q15, q296, by decide +kernel⟩
theorem q1290 : Cond.methodLink RX1 95 yX6_drop ∈ wsL_law := mT_5 (List.mem_of_getElem? (i := 190) rfl) rfl
theorem kv_X1_95 : vz_cv RX1 95 yX6_drop cX6_drop 1 none 0 := ⟨q1290, q520, q521, q15, q522, by decide +kernel⟩
theorem dX1_pop_0 : decode cX1_pop 0 = .ok (.aload_n 0, 1) := by decide +kernel
theorem dX1_pop_1 : decode cX1_pop 1 = .ok (.getfield 27, 3) := by decide +kernel
theorem dX1_pop_4 : decode cX1_pop 4 = .ok (.aload_n 0, 1) := by decide +kernel
theorem dX1_pop_5 : decode cX1_pop 5 = .ok (.getfield 27, 3) := by decide +kernel
theorem dX1_pop_8 : decode cX1_pop 8 = .ok (.getfield 92, 3) := by decide +kernel
theorem dX1_pop_11 : decode cX1_pop 11 = .ok (.iconst 1, 1) := by decide +kernel
theorem dX1_pop_12 : decode cX1_pop 12 = .ok (.isub, 1) := by decide +kernel
theorem dX1_pop_13 : decode cX1_pop 13 = .ok (.iconst 0, 1) := by decide +kernel
theorem dX1_pop_14 : decode cX1_pop 14 = .ok (.invokevirtual 52, 3) := by decide +kernel
theorem dX1_pop_17 : decode cX1_pop 17 = .ok (.istore_n 1, 1) := by decide +kernel
theorem dX1_pop_18 : decode cX1_pop 18 = .ok (.aload_n 0, 1) := by decide +kernel
theorem dX1_pop_19 : decode cX1_pop 19 = .ok (.getfield 27, 3) := by decide +kernel
theorem dX1_pop_22 : decode cX1_pop 22 = .ok (.invokevirtual 95, 3) := by decide +kernel
theorem dX1_pop_25 : decode cX1_pop 25 = .ok (.iload_n 1, 1) := by decide +kernel
theorem dX1_pop_26 : decode cX1_pop 26 = .ok (.ireturn, 1) := by decide +kernel
set_option maxHeartbeats 8000000 in
set_option maxRecDepth 100000 in
theorem a_M_pop (l : Launch) (D : va_G) (g : Nat → ClassId)   (sz : Nat) (h : Nat) (ma : Nat → Nat) (mi : Nat → Int32) (mr : Nat → Nat) (mf : Nat → Nat → Int32) (wh : Nat) (da : Nat → Nat) (dr : Nat → Nat) (df : Nat → Nat → Int32) (wa : Nat → Nat) (wi : Nat → Int32) (wr : Nat → Nat) (wf : Nat → Nat → Int32) (ph : Nat) (rh : Nat) (la : Nat → Nat) (pa : Nat → Nat) (pr : Nat → Nat) (pf : Nat → Nat → Int32) (ca : Nat → Nat) (ci : Nat → Int32) (cr : Nat → Nat) (cf : Nat → Nat → Int32) (lr : Nat → Nat) (lf : Nat → Nat → Int32) (lmx : Nat) (hw_m : ∀ k, mr k ≤ mcW_lim k) (hw_d : ∀ k, dr k ≤ cdW_lim k) (hw_w : ∀ k, wr k ≤ woW_lim k) (hw_p : ∀ k, pr k ≤ pgW_lim k) (hw_c : ∀ k, cr k ≤ rcW_lim k) (hw_l : ∀ k, lr k ≤ (plW_lim lmx) k) (hmx_l : lmx ≤ 30) : vz_Mi l D (tyG g) yX1_pop cX1_pop 2 1 23 0 0 .int [.ref h] sz (vz_w [mcW g h ma mi mr mf wh (da 0) (da 2), cdW g da dr df, woW g wh wa wi wr wf ph rh (la 0), pgW g ph pa pr pf, rcW g rh ca ci cr cf, plW g la lr lf lmx]) (fun r (u : (Nat → Nat)) => (∀ k, u k ≤ mcW_lim k)) (fun u => vz_w [mcW g h ma mi u mf wh (da 0) (da 2), cdW g da dr df, woW g wh wa wi wr wf ph rh (la 0), pgW g ph pa pr pf, rcW g rh ca ci cr cf, plW g la lr lf lmx]) := by
  refine vz_siQ (by decide) (Nat.le_of_ble_eq_true rfl) (fun p e s m args below meth c hx hb hr hml hts hown hlk hin hK hsz A hA H locs hP hD hS ls hl Q hQ => ?_)
  have hl : lv_has ls 2 [(0, .ref h)] := hl
  refine lv_aload_n hx hb dX1_pop_0 rfl (lv_at hl 0 rfl) ?_
  refine va_get (D := D) (ci := 1) (v := .ref (ma 0)) (C := RX1) (T := TX1) (N := 7) hx hb hts inlX1 hown hK hP 0 rfl rfl 3 (by decide) (hts _ q163) (fun _ h => h) rfl dX1_pop_1 ?_
  refine lv_aload_n hx hb dX1_pop_4 rfl (lv_at hl 0 rfl) ?_
  refine va_get (D := D) (ci := 1) (v := .ref (ma 0)) (C := RX1) (T := TX1) (N := 7) hx hb hts inlX1 hown hK hP 0 rfl rfl 3 (by decide) (hts _ q163) (fun _ h => h) rfl dX1_pop_5 ?_
  refine va_get (D := D) (ci := 6) (v := .int (nI (mr 0))) (C := RX6) (T := TX6) (N := 4) hx hb hts inlX6 hown hK hP 1 rfl rfl 3 (by decide) (hts _ q1289) (fun _ h => h) rfl dX1_pop_8 ?_
  refine lv_iconst (v := 1) hx hb dX1_pop_11 (by decide) ?_
  refine lv_isub hx hb dX1_pop_12 ?_
  refine lv_iconst (v := 0) hx hb dX1_pop_13 (by decide) ?_
  refine vz_Vi2 (ws' := fun u : Unit => vz_w [mcW g h ma mi mr mf wh (da 0) (da 2), cdW g da dr df, woW g wh wa wi wr wf ph rh (la 0), pgW g ph pa pr pf, rcW g rh ca ci cr cf, plW g la lr lf lmx]) (As := [.int ((nI (mr 0)) - 1), .int 0]) (rest := []) hx hb hml hown hts hK hA hP hD hS (c_T_get l D g (ma 0) (ma 1) H.size 1 64 (mr 0) 64 (mf 0) ((nI (mr 0)) - 1) 0 ⟨rfl, by decide, by decide, by decide, by decide, hw_m 0⟩) kv_X1_52 ⟨Nat.le_of_ble_eq_true rfl, Nat.le_of_ble_eq_true rfl⟩ (q0 := 1) (ci := 6) rfl rfl rfl [1, 2] rfl (by decide) (fun _ => rfl) (fun _ => rfl) hl.1 (Nat.le_of_ble_eq_true rfl) dX1_pop_14 ⟨Nat.le_refl _, Nat.le_refl _⟩ rfl (fun v1 _ H locs he2 _ hP hD hS => ?_)
  refine lv_istore_n (lv' := [(1, .int v1), (0, .ref h)]) hx hb dX1_pop_17 rfl hl (by decide) rfl (fun ls hl => ?_)
  refine lv_aload_n hx hb dX1_pop_18 rfl (lv_at hl 1 rfl) ?_
  refine va_get (D := D) (ci := 1) (v := .ref (ma 0)) (C := RX1) (T := TX1) (N := 7) hx hb hts inlX1 hown hK hP 0 rfl rfl 3 (by decide) (hts _ q163) (fun _ h => h) rfl dX1_pop_19 ?_
  refine vz_Vv2 (ws' := fun u : Nat => vz_w [mcW g h ma mi (vz_un mr 0 u) mf wh (da 0) (da 2), cdW g da dr df, woW g wh wa wi wr wf ph rh (la 0), pgW g ph pa pr pf, rcW g rh ca ci cr cf, plW g la lr lf lmx]) (As := []) (rest := []) hx hb hml hown hts hK hA hP hD hS (c_T_drop l D g (ma 0) (ma 1) H.size (nI 1) (nI 64) (mr 0) (Nat.lt_of_le_of_lt (hw_m 0) (by decide))) kv_X1_95 ⟨Nat.le_of_ble_eq_true rfl, Nat.le_of_ble_eq_true rfl⟩ (q0 := 1) (ci := 6) rfl rfl rfl [1] rfl (by decide) (fun _ => rfl) (fun _ => rfl) hl.1 (Nat.le_of_ble_eq_true rfl) dX1_pop_22 ⟨Nat.le_refl _, Nat.le_refl _⟩ rfl (fun u3 H locs ha4 _ hP hD hS => ?_)
  obtain ⟨mr_5, hw_mr_5, hP, hD⟩ : ∃ mr_5 : Nat → Nat, (∀ k, mr_5 k ≤ mcW_lim k) ∧ va_P D vwCl (vz_w [mcW g h ma mi mr_5 mf wh (da 0) (da 2), cdW g da dr df, woW g wh wa wi wr wf ph rh (la 0), pgW g ph pa pr pf, rcW g rh ca ci cr cf, plW g la lr lf lmx]) H ∧ va_D A (vz_w [mcW g h ma mi mr_5 mf wh (da 0) (da 2), cdW g da dr df, woW g wh wa wi wr wf ph rh (la 0), pgW g ph pa pr pf, rcW g rh ca ci cr cf, plW g la lr lf lmx]) := ⟨(vz_un mr 0 u3), (vz_wf hw_m (t := 0) (v := u3) (Nat.le_trans ha4 (hw_m 0))), hP, hD⟩
  refine lv_iload_n hx hb dX1_pop_25 rfl (lv_at hl 0 rfl) ?_
  rw [hQ]
  exact vz_iret3 hx hb hr hlk hK hP hD hS mr_5 hw_mr_5 rfl (Nat.le_refl 0) (Nat.le_refl 0) dX1_pop_26
theorem q159 : Cond.fieldLink RX1 9 "WaysAtlas$Machine" "world" "LWaysAtlas$World;" ∈ wsL_law := mT_2 (List.mem_of_getElem? (i := 116) rfl) rfl
theorem q1264 : Cond.fieldLink RX1 43 "WaysAtlas$World" "program" "LWaysAtlas$Program;" ∈ wsL_law := mT_2 (List.mem_of_getElem? (i := 45) rfl) rfl
theorem q161 : Cond.fieldLink RX1 19 "WaysAtlas$Machine" "handlers" "LWaysAtlas$Table;" ∈ wsL_law := mT_2 (List.mem_of_getElem? (i := 118) rfl) rfl
theorem q1354 : Cond.methodLink RX1 117 yX2_covers ∈ wsL_law := mT_6 (List.mem_of_getElem? (i := 11) rfl) rfl
theorem kv_X1_117 : vz_cv RX1 117 yX2_covers cX2_covers 5 (some .boolean) 2 := ⟨q1354, q513, q514, q23, q515, by decide +kernel⟩
theorem dX1_handlerOf_0 : decode cX1_handlerOf 0 = .ok (.iload_n 1, 1) := by decide +kernel
theorem dX1_handlerOf_1 : decode cX1_handlerOf 1 = .ok (.istore_n 3, 1) := by decide +kernel
theorem dX1_handlerOf_2 : decode cX1_handlerOf 2 = .ok (.iconst 0, 1) := by decide +kernel
theorem dX1_handlerOf_3 : decode cX1_handlerOf 3 = .ok (.istore 4, 2) := by decide +kernel
theorem dX1_handlerOf_5 : decode cX1_handlerOf 5 = .ok (.iload 4, 2) := by decide +kernel
theorem dX1_handlerOf_7 : decode cX1_handlerOf 7 = .ok (.sipush 500, 3) := by decide +kernel
theorem dX1_handlerOf_10 : decode cX1_handlerOf 10 = .ok (.if_icmp .ge 50, 3) := by decide +kernel
theorem dX1_handlerOf_13 : decode cX1_handlerOf 13 = .ok (.iload_n 3, 1) := by decide +kernel
theorem dX1_handlerOf_14 : decode cX1_handlerOf 14 = .ok (.bipush (-9), 2) := by decide +kernel
theorem dX1_handlerOf_16 : decode cX1_handlerOf 16 = .ok (.if_icmp .eq 44, 3) := by decide +kernel
theorem dX1_handlerOf_19 : decode cX1_handlerOf 19 = .ok (.aload_n 0, 1) := by decide +kernel
theorem dX1_handlerOf_20 : decode cX1_handlerOf 20 = .ok (.getfield 9, 3) := by decide +kernel
theorem dX1_handlerOf_23 : decode cX1_handlerOf 23 = .ok (.getfield 43, 3) := by decide +kernel
theorem dX1_handlerOf_26 : decode cX1_handlerOf 26 = .ok (.aload_n 0, 1) := by decide +kernel
theorem dX1_handlerOf_27 : decode cX1_handlerOf 27 = .ok (.getfield 19, 3) := by decide +kernel
theorem dX1_handlerOf_30 : decode cX1_handlerOf 30 = .ok (.iload_n 3, 1) := by decide +kernel
theorem dX1_handlerOf_31 : decode cX1_handlerOf 31 = .ok (.iconst 0, 1) := by decide +kernel
theorem dX1_handlerOf_32 : decode cX1_handlerOf 32 = .ok (.invokevirtual 52, 3) := by decide +kernel
theorem dX1_handlerOf_35 : decode cX1_handlerOf 35 = .ok (.iload_n 2, 1) := by decide +kernel
theorem dX1_handlerOf_36 : decode cX1_handlerOf 36 = .ok (.invokevirtual 117, 3) := by decide +kernel
theorem dX1_handlerOf_39 : decode cX1_handlerOf 39 = .ok (.ifCond .eq 5, 3) := by decide +kernel
theorem dX1_handlerOf_42 : decode cX1_handlerOf 42 = .ok (.iload_n 3, 1) := by decide +kernel
theorem dX1_handlerOf_43 : decode cX1_handlerOf 43 = .ok (.ireturn, 1) := by decide +kernel
theorem dX1_handlerOf_44 : decode cX1_handlerOf 44 = .ok (.aload_n 0, 1) := by decide +kernel
theorem dX1_handlerOf_45 : decode cX1_handlerOf 45 = .ok (.getfield 19, 3) := by decide +kernel
theorem dX1_handlerOf_48 : decode cX1_handlerOf 48 = .ok (.iload_n 3, 1) := by decide +kernel
theorem dX1_handlerOf_49 : decode cX1_handlerOf 49 = .ok (.iconst 2, 1) := by decide +kernel
theorem dX1_handlerOf_50 : decode cX1_handlerOf 50 = .ok (.invokevirtual 52, 3) := by decide +kernel
theorem dX1_handlerOf_53 : decode cX1_handlerOf 53 = .ok (.istore_n 3, 1) := by decide +kernel
theorem dX1_handlerOf_54 : decode cX1_handlerOf 54 = .ok (.iinc 4 1, 3) := by decide +kernel
theorem dX1_handlerOf_57 : decode cX1_handlerOf 57 = .ok (.goto (-52), 3) := by decide +kernel
theorem dX1_handlerOf_60 : decode cX1_handlerOf 60 = .ok (.bipush (-9), 2) := by decide +kernel
theorem dX1_handlerOf_62 : decode cX1_handlerOf 62 = .ok (.ireturn, 1) := by decide +kernel
set_option maxHeartbeats 8000000 in
set_option maxRecDepth 100000 in
theorem a_M_handlerOf (l : Launch) (D : va_G) (g : Nat → ClassId)   (sz : Nat) (h : Nat) (ma : Nat → Nat) (mi : Nat → Int32) (mr : Nat → Nat) (mf : Nat → Nat → Int32) (wh : Nat) (da : Nat → Nat) (dr : Nat → Nat) (df : Nat → Nat → Int32) (wa : Nat → Nat) (wi : Nat → Int32) (wr : Nat → Nat) (wf : Nat → Nat → Int32) (ph : Nat) (rh : Nat) (la : Nat → Nat) (pa : Nat → Nat) (pr : Nat → Nat) (pf : Nat → Nat → Int32) (ca : Nat → Nat) (ci : Nat → Int32) (cr : Nat → Nat) (cf : Nat → Nat → Int32) (lr : Nat → Nat) (lf : Nat → Nat → Int32) (lmx : Nat) (n1 : Int32) (n2 : Int32) (hw_m : ∀ k, mr k ≤ mcW_lim k) (hw_d : ∀ k, dr k ≤ cdW_lim k) (hw_w : ∀ k, wr k ≤ woW_lim k) (hw_p : ∀ k, pr k ≤ pgW_lim k) (hw_c : ∀ k, cr k ≤ rcW_lim k) (hw_l : ∀ k, lr k ≤ (plW_lim lmx) k) (hmx_l : lmx ≤ 30) : vz_Mi l D (tyG g) yX1_handlerOf cX1_handlerOf 5 2 47 0 0 .int [.ref h, .int n1, .int n2] sz (vz_w [mcW g h ma mi mr mf wh (da 0) (da 2), cdW g da dr df, woW g wh wa wi wr wf ph rh (la 0), pgW g ph pa pr pf, rcW g rh ca ci cr cf, plW g la lr lf lmx]) (fun r (u : Unit) => True) (fun u => vz_w [mcW g h ma mi mr mf wh (da 0) (da 2), cdW g da dr df, woW g wh wa wi wr wf ph rh (la 0), pgW g ph pa pr pf, rcW g rh ca ci cr cf, plW g la lr lf lmx]) := by
  refine vz_siQ (by decide) (Nat.le_of_ble_eq_true rfl) (fun p e s m args below meth c hx hb hr hml hts hown hlk hin hK hsz A hA H locs hP hD hS ls hl Q hQ => ?_)
  have hl : lv_has ls 5 [(0, .ref h), (1, .int n1), (2, .int n2)] := hl
  have J60 : ∀ (x3_60 : Int32), ∀ (x4_60 : Int32), ∀ (H : Heap) (locs : List Loc) (ls : Array Slot), va_P D vwCl (vz_w [mcW g h ma mi mr mf wh (da 0) (da 2), cdW g da dr df, woW g wh wa wi wr wf ph rh (la 0), pgW g ph pa pr pf, rcW g rh ca ci cr cf, plW g la lr lf lmx]) H → va_D A (vz_w [mcW g h ma mi mr mf wh (da 0) (da 2), cdW g da dr df, woW g wh wa wi wr wf ph rh (la 0), pgW g ph pa pr pf, rcW g rh ca ci cr cf, plW g la lr lf lmx]) → va_S A s.heap H locs → lv_has ls 5 [(0, .ref h), (1, .int n1), (2, .int n2), (3, .int x3_60), (4, .int x4_60)] → W p l e { frames := 2, cells := 0, slots := 0, locals := 47 } s m args below meth c H locs 0 0 Q (F0 m 60 ls []) := by
    intro x3_60 x4_60 H locs ls hP hD hS hl
    refine lv_bipush (v := (-9)) hx hb dX1_handlerOf_60 (by decide) ?_
    rw [hQ]
    exact vz_iret3 hx hb hr hlk hK hP hD hS () trivial rfl (Nat.le_refl 0) (Nat.le_refl 0) dX1_handlerOf_62
  have J5 : ∀ (fu5 n5 : Nat), 500 - n5 < fu5 → n5 ≤ 500 → ∀ (x3_5 : Int32), ∀ (H : Heap) (locs : List Loc) (ls : Array Slot), va_P D vwCl (vz_w [mcW g h ma mi mr mf wh (da 0) (da 2), cdW g da dr df, woW g wh wa wi wr wf ph rh (la 0), pgW g ph pa pr pf, rcW g rh ca ci cr cf, plW g la lr lf lmx]) H → va_D A (vz_w [mcW g h ma mi mr mf wh (da 0) (da 2), cdW g da dr df, woW g wh wa wi wr wf ph rh (la 0), pgW g ph pa pr pf, rcW g rh ca ci cr cf, plW g la lr lf lmx]) → va_S A s.heap H locs → lv_has ls 5 [(0, .ref h), (1, .int n1), (2, .int n2), (3, .int x3_5), (4, .int (nI n5))] → W p l e { frames := 2, cells := 0, slots := 0, locals := 47 } s m args below meth c H locs 0 0 Q (F0 m 5 ls []) := by
    intro fu5
    induction fu5 with
    | zero => intro n5 z; omega
    | succ fu5 ih5 =>
      intro n5 hf5 hb5 x3_5 H locs ls hP hD hS hl
      refine lv_iload hx hb dX1_handlerOf_5 (lv_at hl 4 rfl) ?_
      refine lv_sipush (v := 500) hx hb dX1_handlerOf_7 (by decide) ?_
      refine lv_icmp_ge (tgt := 60) hx hb dX1_handlerOf_10 (by decide) (fun kc1 => ?_) (fun kc1 => ?_)
      · exact J60 x3_5 (nI n5) H locs ls hP hD hS (lv_sub hl [0, 1, 2, 3, 4] rfl)
      · have hn5 : n5 < 500 := vz_ltge (B := 500) (by omega) kc1
        refine lv_iload_n hx hb dX1_handlerOf_13 rfl (lv_at hl 3 rfl) ?_
        refine lv_bipush (v := (-9)) hx hb dX1_handlerOf_14 (by decide) ?_
        refine lv_icmp_eq (tgt := 60) hx hb dX1_handlerOf_16 (by decide) (fun kc2 => ?_) (fun kc2 => ?_)
        · exact J60 x3_5 (nI n5) H locs ls hP hD hS (lv_sub hl [0, 1, 2, 3, 4] rfl)
        · refine lv_aload_n hx hb dX1_handlerOf_19 rfl (lv_at hl 0 rfl) ?_
          refine va_get (D := D) (ci := 1) (v := .ref wh) (C := RX1) (T := TX1) (N := 7) hx hb hts inlX1 hown hK hP 0 rfl rfl 0 (by decide) (hts _ q159) (fun _ h => h) rfl dX1_handlerOf_20 ?_
          refine va_get (D := D) (ci := 8) (v := .ref ph) (C := RX8) (T := TX8) (N := 11) hx hb hts inlX8 hown hK hP 7 rfl rfl 5 (by decide) (hts _ q1264) (fun _ h => h) rfl dX1_handlerOf_23 ?_
          refine lv_aload_n hx hb dX1_handlerOf_26 rfl (lv_at hl 0 rfl) ?_
          refine va_get (D := D) (ci := 1) (v := .ref (da 2)) (C := RX1) (T := TX1) (N := 7) hx hb hts inlX1 hown hK hP 0 rfl rfl 2 (by decide) (hts _ q161) (fun _ h => h) rfl dX1_handlerOf_27 ?_
          refine lv_iload_n hx hb dX1_handlerOf_30 rfl (lv_at hl 3 rfl) ?_
          refine lv_iconst (v := 0) hx hb dX1_handlerOf_31 (by decide) ?_
          refine vz_Vi2 (ws' := fun u : Unit => vz_w [mcW g h ma mi mr mf wh (da 0) (da 2), cdW g da dr df, woW g wh wa wi wr wf ph rh (la 0), pgW g ph pa pr pf, rcW g rh ca ci cr cf, plW g la lr lf lmx]) (As := [.int x3_5, .int 0]) (rest := [.ref ph]) hx hb hml hown hts hK hA hP hD hS (c_T_get l D g (da 2) (da 3) H.size 3 500 (dr 1) 1500 (df 1) x3_5 0 ⟨rfl, by decide, by decide, by decide, by decide, hw_d 1⟩) kv_X1_52 ⟨Nat.le_of_ble_eq_true rfl, Nat.le_of_ble_eq_true rfl⟩ (q0 := 5) (ci := 6) rfl rfl rfl [5, 6] rfl (by decide) (fun _ => rfl) (fun _ => rfl) hl.1 (Nat.le_of_ble_eq_true rfl) dX1_handlerOf_32 ⟨Nat.le_refl _, Nat.le_refl _⟩ rfl (fun v3 _ H locs he4 _ hP hD hS => ?_)
          refine lv_iload_n hx hb dX1_handlerOf_35 rfl (lv_at hl 2 rfl) ?_
          refine vz_Vi4 (n9 := 6) (bs2 := fun u : Unit => [mcW g h ma mi mr mf wh (da 0) (da 2), cdW g da dr df, woW g wh wa wi wr wf ph rh (la 0), pgW g ph pa pr pf, rcW g rh ca ci cr cf, plW g la lr lf lmx]) (br := [mcW g h ma mi mr mf wh (da 0) (da 2), cdW g da dr df, woW g wh wa wi wr wf ph rh (la 0), rcW g rh ca ci cr cf, plW g la lr lf lmx]) (As := [.int v3, .int n2]) (rest := []) hx hb hml hown hts hK hA hP hD hS (a_P_covers l D g H.size ph pa pr pf v3 n2 hw_p) kv_X1_117 ⟨Nat.le_of_ble_eq_true rfl, Nat.le_of_ble_eq_true rfl⟩ (q0 := 18) (ci := 2) rfl rfl rfl [3] [0, 1, 2, 4, 5] rfl (by decide) rfl (fun _ => rfl) (fun _ => rfl) hl.1 (Nat.le_of_ble_eq_true rfl) dX1_handlerOf_36 ⟨Nat.le_refl _, Nat.le_refl _⟩ rfl (fun v5 _ H locs hz6 _ hP hD hS => ?_)
          refine lv_if_eq (tgt := 44) hx hb dX1_handlerOf_39 (by decide) (fun kc7 => ?_) (fun kc7 => ?_)
          · refine lv_aload_n hx hb dX1_handlerOf_44 rfl (lv_at hl 0 rfl) ?_
            refine va_get (D := D) (ci := 1) (v := .ref (da 2)) (C := RX1) (T := TX1) (N := 7) hx hb hts inlX1 hown hK hP 0 rfl rfl 2 (by decide) (hts _ q161) (fun _ h => h) rfl dX1_handlerOf_45 ?_
            refine lv_iload_n hx hb dX1_handlerOf_48 rfl (lv_at hl 3 rfl) ?_
            refine lv_iconst (v := 2) hx hb dX1_handlerOf_49 (by decide) ?_
            refine vz_Vi2 (ws' := fun u : Unit => vz_w [mcW g h ma mi mr mf wh (da 0) (da 2), cdW g da dr df, woW g wh wa wi wr wf ph rh (la 0), pgW g ph pa pr pf, rcW g rh ca ci cr cf, plW g la lr lf lmx]) (As := [.int x3_5, .int 2]) (rest := []) hx hb hml hown hts hK hA hP hD hS (c_T_get l D g (da 2) (da 3) H.size 3 500 (dr 1) 1500 (df 1) x3_5 2 ⟨rfl, by decide, by decide, by decide, by decide, hw_d 1⟩) kv_X1_52 ⟨Nat.le_of_ble_eq_true rfl, Nat.le_of_ble_eq_true rfl⟩ (q0 := 5) (ci := 6) rfl rfl rfl [5, 6] rfl (by decide) (fun _ => rfl) (fun _ => rfl) hl.1 (Nat.le_of_ble_eq_true rfl) dX1_handlerOf_50 ⟨Nat.le_refl _, Nat.le_refl _⟩ rfl (fun v8 _ H locs he9 _ hP hD hS => ?_)
            refine lv_istore_n (lv' := [(3, .int v8), (0, .ref h), (1, .int n1), (2, .int n2), (4, .int (nI n5))]) hx hb dX1_handlerOf_53 rfl hl (by decide) rfl (fun ls hl => ?_)
            refine lv_iinc (v := (nI (n5 + 1))) (lv' := [(4, .int (nI (n5 + 1))), (3, .int v8), (0, .ref h), (1, .int n1), (2, .int n2)]) hx hb dX1_handlerOf_54 hl (k := 4) rfl (nI_1 n5) (by decide) rfl (fun ls hl => ?_)
            refine lv_goto (tgt := 5) hx hb dX1_handlerOf_57 (by decide) ?_
            exact ih5 (n5 + 1) (by omega) (by omega) v8 H locs ls hP hD hS (lv_sub hl [2, 3, 4, 1, 0] rfl)
          · refine lv_iload_n hx hb dX1_handlerOf_42 rfl (lv_at hl 3 rfl) ?_
            rw [hQ]
            exact vz_iret3 hx hb hr hlk hK hP hD hS () trivial rfl (Nat.le_refl 0) (Nat.le_refl 0) dX1_handlerOf_43
  refine lv_iload_n hx hb dX1_handlerOf_0 rfl (lv_at hl 1 rfl) ?_
  refine lv_istore_n (lv' := [(3, .int n1), (0, .ref h), (1, .int n1), (2, .int n2)]) hx hb dX1_handlerOf_1 rfl hl (by decide) rfl (fun ls hl => ?_)
  refine lv_iconst (v := 0) hx hb dX1_handlerOf_2 (by decide) ?_
  refine lv_istore (lv' := [(4, .int 0), (3, .int n1), (0, .ref h), (1, .int n1), (2, .int n2)]) hx hb dX1_handlerOf_3 hl (by decide) rfl (fun ls hl => ?_)
  exact J5 (501) 0 (by omega) (by omega) n1 H locs ls hP hD hS (lv_sub hl [2, 3, 4, 1, 0] rfl)
theorem q1313 : Cond.methodLink RX1 169 yX8_slot ∈ wsL_law := mT_5 (List.mem_of_getElem? (i := 213) rfl) rfl
theorem kv_X1_169 : vz_cv RX1 169 yX8_slot cX8_slot 3 (some .int) 2 := ⟨q1313, q1177, q1178, q47, q1179, by decide +kernel⟩
theorem q1266 : Cond.fieldLink RX1 56 "WaysAtlas$Machine" "next" "I" ∈ wsL_law := mT_2 (List.mem_of_getElem? (i := 121) rfl) rfl
theorem q1298 : Cond.methodLink RX1 138 yX8_takeStep ∈ wsL_law := mT_5 (List.mem_of_getElem? (i := 198) rfl) rfl
theorem kv_X1_138 : vz_cv RX1 138 yX8_takeStep cX8_takeStep 1 (some .boolean) 0 := ⟨q1298, q1079, q1080, q47, q1081, by decide +kernel⟩
theorem q1308 : Cond.methodLink RX1 157 yX8_setSlot ∈ wsL_law := mT_5 (List.mem_of_getElem? (i := 208) rfl) rfl
theorem kv_X1_157 : vz_cv RX1 157 yX8_setSlot cX8_setSlot 4 none 3 := ⟨q1308, q1165, q1166, q47, q1167, by decide +kernel⟩
theorem dX1_turn_0 : decode cX1_turn 0 = .ok (.aload_n 0, 1) := by decide +kernel
theorem dX1_turn_1 : decode cX1_turn 1 = .ok (.getfield 9, 3) := by decide +kernel
theorem dX1_turn_4 : decode cX1_turn 4 = .ok (.iload_n 2, 1) := by decide +kernel
theorem dX1_turn_5 : decode cX1_turn 5 = .ok (.iconst 0, 1) := by decide +kernel
theorem dX1_turn_6 : decode cX1_turn 6 = .ok (.invokevirtual 169, 3) := by decide +kernel
theorem dX1_turn_9 : decode cX1_turn 9 = .ok (.istore_n 3, 1) := by decide +kernel
theorem dX1_turn_10 : decode cX1_turn 10 = .ok (.iload_n 3, 1) := by decide +kernel
theorem dX1_turn_11 : decode cX1_turn 11 = .ok (.iconst 1, 1) := by decide +kernel
theorem dX1_turn_12 : decode cX1_turn 12 = .ok (.if_icmp .ge 11, 3) := by decide +kernel
theorem dX1_turn_15 : decode cX1_turn 15 = .ok (.aload_n 0, 1) := by decide +kernel
theorem dX1_turn_16 : decode cX1_turn 16 = .ok (.iload_n 1, 1) := by decide +kernel
theorem dX1_turn_17 : decode cX1_turn 17 = .ok (.putfield 56, 3) := by decide +kernel
theorem dX1_turn_20 : decode cX1_turn 20 = .ok (.goto 25, 3) := by decide +kernel
theorem dX1_turn_23 : decode cX1_turn 23 = .ok (.aload_n 0, 1) := by decide +kernel
theorem dX1_turn_24 : decode cX1_turn 24 = .ok (.getfield 9, 3) := by decide +kernel
theorem dX1_turn_27 : decode cX1_turn 27 = .ok (.invokevirtual 138, 3) := by decide +kernel
theorem dX1_turn_30 : decode cX1_turn 30 = .ok (.ifCond .eq 15, 3) := by decide +kernel
theorem dX1_turn_33 : decode cX1_turn 33 = .ok (.aload_n 0, 1) := by decide +kernel
theorem dX1_turn_34 : decode cX1_turn 34 = .ok (.getfield 9, 3) := by decide +kernel
theorem dX1_turn_37 : decode cX1_turn 37 = .ok (.iload_n 2, 1) := by decide +kernel
theorem dX1_turn_38 : decode cX1_turn 38 = .ok (.iconst 0, 1) := by decide +kernel
theorem dX1_turn_39 : decode cX1_turn 39 = .ok (.iload_n 3, 1) := by decide +kernel
theorem dX1_turn_40 : decode cX1_turn 40 = .ok (.iconst 1, 1) := by decide +kernel
theorem dX1_turn_41 : decode cX1_turn 41 = .ok (.isub, 1) := by decide +kernel
theorem dX1_turn_42 : decode cX1_turn 42 = .ok (.invokevirtual 157, 3) := by decide +kernel
theorem dX1_turn_45 : decode cX1_turn 45 = .ok (.return_, 1) := by decide +kernel
set_option maxHeartbeats 8000000 in
set_option maxRecDepth 100000 in
theorem a_M_turn (l : Launch) (D : va_G) (g : Nat → ClassId)   (sz : Nat) (h : Nat) (ma : Nat → Nat) (mi : Nat → Int32) (mr : Nat → Nat) (mf : Nat → Nat → Int32) (wh : Nat) (da : Nat → Nat) (dr : Nat → Nat) (df : Nat → Nat → Int32) (wa : Nat → Nat) (wi : Nat → Int32) (wr : Nat → Nat) (wf : Nat → Nat → Int32) (ph : Nat) (rh : Nat) (la : Nat → Nat) (pa : Nat → Nat) (pr : Nat → Nat) (pf : Nat → Nat → Int32) (ca : Nat → Nat) (ci : Nat → Int32) (cr : Nat → Nat) (cf : Nat → Nat → Int32) (lr : Nat → Nat) (lf : Nat → Nat → Int32) (lmx : Nat) (n1 : Int32) (n2 : Int32) (hw_m : ∀ k, mr k ≤ mcW_lim k) (hw_d : ∀ k, dr k ≤ cdW_lim k) (hw_w : ∀ k, wr k ≤ woW_lim k) (hw_p : ∀ k, pr k ≤ pgW_lim k) (hw_c : ∀ k, cr k ≤ rcW_lim k) (hw_l : ∀ k, lr k ≤ (plW_lim lmx) k) (hmx_l : lmx ≤ 30) : vz_Mv l D (tyG g) yX1_turn cX1_turn 4 2 47 0 0 [.ref h, .int n1, .int n2] sz (vz_w [mcW g h ma mi mr mf wh (da 0) (da 2), cdW g da dr df, woW g wh wa wi wr wf ph rh (la 0), pgW g ph pa pr pf, rcW g rh ca ci cr cf, plW g la lr lf lmx]) (fun u : (Nat → Int32) × (Nat → Nat → Int32) × (Nat → Int32) => True) (fun u => vz_w [mcW g h ma u.1 mr mf wh (da 0) (da 2), cdW g da dr df, woW g wh wa wi wr u.2.1 ph rh (la 0), pgW g ph pa pr pf, rcW g rh ca u.2.2 cr cf, plW g la lr lf lmx]) := by
  refine vz_svQ (by decide) (Nat.le_of_ble_eq_true rfl) (fun p e s m args below meth c hx hb hr hml hts hown hlk hin hK hsz A hA H locs hP hD hS ls hl Q hQ => ?_)
  have hl : lv_has ls 4 [(0, .ref h), (1, .int n1), (2, .int n2)] := hl
  have J45 : ∀ (x3_45 : Int32), ∀ (mi_45 : Nat → Int32), ∀ (wf_45 : Nat → Nat → Int32), ∀ (ci_45 : Nat → Int32), ∀ (H : Heap) (locs : List Loc) (ls : Array Slot), va_P D vwCl (vz_w [mcW g h ma mi_45 mr mf wh (da 0) (da 2), cdW g da dr df, woW g wh wa wi wr wf_45 ph rh (la 0), pgW g ph pa pr pf, rcW g rh ca ci_45 cr cf, plW g la lr lf lmx]) H → va_D A (vz_w [mcW g h ma mi_45 mr mf wh (da 0) (da 2), cdW g da dr df, woW g wh wa wi wr wf_45 ph rh (la 0), pgW g ph pa pr pf, rcW g rh ca ci_45 cr cf, plW g la lr lf lmx]) → va_S A s.heap H locs → lv_has ls 4 [(0, .ref h), (1, .int n1), (2, .int n2), (3, .int x3_45)] → W p l e { frames := 2, cells := 0, slots := 0, locals := 47 } s m args below meth c H locs 0 0 Q (F0 m 45 ls []) := by
    intro x3_45 mi_45 wf_45 ci_45 H locs ls hP hD hS hl
    rw [hQ]
    exact vz_vret3 hx hb hr hlk hK hP hD hS (mi_45, wf_45, ci_45) trivial rfl (Nat.le_refl 0) (Nat.le_refl 0) dX1_turn_45
  refine lv_aload_n hx hb dX1_turn_0 rfl (lv_at hl 0 rfl) ?_
  refine va_get (D := D) (ci := 1) (v := .ref wh) (C := RX1) (T := TX1) (N := 7) hx hb hts inlX1 hown hK hP 0 rfl rfl 0 (by decide) (hts _ q159) (fun _ h => h) rfl dX1_turn_1 ?_
  refine lv_iload_n hx hb dX1_turn_4 rfl (lv_at hl 2 rfl) ?_
  refine lv_iconst (v := 0) hx hb dX1_turn_5 (by decide) ?_
  refine vz_Vi4 (n9 := 6) (bs2 := fun u : Unit => [mcW g h ma mi mr mf wh (da 0) (da 2), cdW g da dr df, woW g wh wa wi wr wf ph rh (la 0), pgW g ph pa pr pf, rcW g rh ca ci cr cf, plW g la lr lf lmx]) (br := [mcW g h ma mi mr mf wh (da 0) (da 2), cdW g da dr df]) (As := [.int n2, .int 0]) (rest := []) hx hb hml hown hts hK hA hP hD hS (a_W_slot l D g H.size wh wa wi wr wf ph rh la pa pr pf ca ci cr cf lr lf lmx n2 0 hw_w hw_p hw_c hw_l hmx_l) kv_X1_169 ⟨Nat.le_of_ble_eq_true rfl, Nat.le_of_ble_eq_true rfl⟩ (q0 := 7) (ci := 8) rfl rfl rfl [2, 3, 4, 5] [0, 1] rfl (by decide) rfl (fun _ => rfl) (fun _ => rfl) hl.1 (Nat.le_of_ble_eq_true rfl) dX1_turn_6 ⟨Nat.le_refl _, Nat.le_refl _⟩ rfl (fun v1 _ H locs _ _ hP hD hS => ?_)
  refine lv_istore_n (lv' := [(3, .int v1), (0, .ref h), (1, .int n1), (2, .int n2)]) hx hb dX1_turn_9 rfl hl (by decide) rfl (fun ls hl => ?_)
  refine lv_iload_n hx hb dX1_turn_10 rfl (lv_at hl 0 rfl) ?_
  refine lv_iconst (v := 1) hx hb dX1_turn_11 (by decide) ?_
  refine lv_icmp_ge (tgt := 23) hx hb dX1_turn_12 (by decide) (fun kc2 => ?_) (fun kc2 => ?_)
  · refine lv_aload_n hx hb dX1_turn_23 rfl (lv_at hl 1 rfl) ?_
    refine va_get (D := D) (ci := 1) (v := .ref wh) (C := RX1) (T := TX1) (N := 7) hx hb hts inlX1 hown hK hP 0 rfl rfl 0 (by decide) (hts _ q159) (fun _ h => h) rfl dX1_turn_24 ?_
    refine vz_Vi4 (n9 := 6) (bs2 := fun u : (Nat → Int32) => [mcW g h ma mi mr mf wh (da 0) (da 2), cdW g da dr df, woW g wh wa wi wr wf ph rh (la 0), pgW g ph pa pr pf, rcW g rh ca u cr cf, plW g la lr lf lmx]) (br := [mcW g h ma mi mr mf wh (da 0) (da 2), cdW g da dr df]) (As := []) (rest := []) hx hb hml hown hts hK hA hP hD hS (a_W_takeStep l D g H.size wh wa wi wr wf ph rh la pa pr pf ca ci cr cf lr lf lmx hw_w hw_p hw_c hw_l hmx_l) kv_X1_138 ⟨Nat.le_of_ble_eq_true rfl, Nat.le_of_ble_eq_true rfl⟩ (q0 := 7) (ci := 8) rfl rfl rfl [2, 3, 4, 5] [0, 1] rfl (by decide) rfl (fun _ => rfl) (fun _ => rfl) hl.1 (Nat.le_of_ble_eq_true rfl) dX1_turn_27 ⟨Nat.le_refl _, Nat.le_refl _⟩ rfl (fun v4 ci_3 H locs hz5 _ hP hD hS => ?_)
    replace hP : va_P D vwCl (vz_w [mcW g h ma mi mr mf wh (da 0) (da 2), cdW g da dr df, woW g wh wa wi wr wf ph rh (la 0), pgW g ph pa pr pf, rcW g rh ca ci_3 cr cf, plW g la lr lf lmx]) H := hP
    replace hD : va_D A (vz_w [mcW g h ma mi mr mf wh (da 0) (da 2), cdW g da dr df, woW g wh wa wi wr wf ph rh (la 0), pgW g ph pa pr pf, rcW g rh ca ci_3 cr cf, plW g la lr lf lmx]) := hD
    refine lv_if_eq (tgt := 45) hx hb dX1_turn_30 (by decide) (fun kc6 => ?_) (fun kc6 => ?_)
    · exact J45 v1 mi wf ci_3 H locs ls hP hD hS (lv_sub hl [1, 2, 3, 0] rfl)
    · refine lv_aload_n hx hb dX1_turn_33 rfl (lv_at hl 1 rfl) ?_
      refine va_get (D := D) (ci := 1) (v := .ref wh) (C := RX1) (T := TX1) (N := 7) hx hb hts inlX1 hown hK hP 0 rfl rfl 0 (by decide) (hts _ q159) (fun _ h => h) rfl dX1_turn_34 ?_
      refine lv_iload_n hx hb dX1_turn_37 rfl (lv_at hl 3 rfl) ?_
      refine lv_iconst (v := 0) hx hb dX1_turn_38 (by decide) ?_
      refine lv_iload_n hx hb dX1_turn_39 rfl (lv_at hl 0 rfl) ?_
      refine lv_iconst (v := 1) hx hb dX1_turn_40 (by decide) ?_
      refine lv_isub hx hb dX1_turn_41 ?_
      refine vz_Vv4 (n9 := 6) (bs2 := fun u : (Nat → Nat → Int32) => [mcW g h ma mi mr mf wh (da 0) (da 2), cdW g da dr df, woW g wh wa wi wr u ph rh (la 0), pgW g ph pa pr pf, rcW g rh ca ci_3 cr cf, plW g la lr lf lmx]) (br := [mcW g h ma mi mr mf wh (da 0) (da 2), cdW g da dr df]) (As := [.int n2, .int 0, .int (v1 - 1)]) (rest := []) hx hb hml hown hts hK hA hP hD hS (a_W_setSlot l D g H.size wh wa wi wr wf ph rh la pa pr pf ca ci_3 cr cf lr lf lmx n2 0 (v1 - 1) hw_w hw_p hw_c hw_l hmx_l) kv_X1_157 ⟨Nat.le_of_ble_eq_true rfl, Nat.le_of_ble_eq_true rfl⟩ (q0 := 7) (ci := 8) rfl rfl rfl [2, 3, 4, 5] [0, 1] rfl (by decide) rfl (fun _ => rfl) (fun _ => rfl) hl.1 (Nat.le_of_ble_eq_true rfl) dX1_turn_42 ⟨Nat.le_refl _, Nat.le_refl _⟩ rfl (fun wf_7 H locs _ _ hP hD hS => ?_)
      replace hP : va_P D vwCl (vz_w [mcW g h ma mi mr mf wh (da 0) (da 2), cdW g da dr df, woW g wh wa wi wr wf_7 ph rh (la 0), pgW g ph pa pr pf, rcW g rh ca ci_3 cr cf, plW g la lr lf lmx]) H := hP
      replace hD : va_D A (vz_w [mcW g h ma mi mr mf wh (da 0) (da 2), cdW g da dr df, woW g wh wa wi wr wf_7 ph rh (la 0), pgW g ph pa pr pf, rcW g rh ca ci_3 cr cf, plW g la lr lf lmx]) := hD
      exact J45 v1 mi wf_7 ci_3 H locs ls hP hD hS (lv_sub hl [1, 2, 3, 0] rfl)
  · refine lv_aload_n hx hb dX1_turn_15 rfl (lv_at hl 1 rfl) ?_
    refine lv_iload_n hx hb dX1_turn_16 rfl (lv_at hl 2 rfl) ?_
    refine va_put (D := D) (ci := 1) (v := .int n1) (ty := .int) (C := RX1) (T := TX1) (N := 7) hx hb hts inlX1 tyX1 tyX1_ok nmX1 hown hK hP hD hS 0 rfl rfl 5 (by decide) (hts _ q1266) (fun _ h => h) rfl (by decide +kernel) rfl rfl (Nat.le_of_ble_eq_true rfl) dX1_turn_17 (fun H locs hP hD hS => ?_)
    obtain ⟨mi_8, hmi_8, hP, hD⟩ : ∃ mi_8 : Nat → Int32, (mi_8 = (upd mi 1 n1)) ∧ va_P D vwCl (vz_w [mcW g h ma mi_8 mr mf wh (da 0) (da 2), cdW g da dr df, woW g wh wa wi wr wf ph rh (la 0), pgW g ph pa pr pf, rcW g rh ca ci cr cf, plW g la lr lf lmx]) H ∧ va_D A (vz_w [mcW g h ma mi_8 mr mf wh (da 0) (da 2), cdW g da dr df, woW g wh wa wi wr wf ph rh (la 0), pgW g ph pa pr pf, rcW g rh ca ci cr cf, plW g la lr lf lmx]) := ⟨(upd mi 1 n1), rfl, hP, hD⟩
    refine lv_goto (tgt := 45) hx hb dX1_turn_20 (by decide) ?_
    exact J45 v1 mi_8 wf ci H locs ls hP hD hS (lv_sub hl [1, 2, 3, 0] rfl)
theorem q1285 : Cond.methodLink RX1 125 yX1_pop ∈ wsL_law := mT_5 (List.mem_of_getElem? (i := 186) rfl) rfl
theorem q1286 : Cond.instanceMethod yX1_pop ∈ wsL_law := mT_5 (List.mem_of_getElem? (i := 188) rfl) rfl
theorem q1287 : Cond.selects RX1 yX1_pop yX1_pop ∈ wsL_law := mS_6 (q := (yX1_pop, 7)) (List.mem_of_getElem? (i := 10) rfl) rfl
theorem q55 : Cond.initialized RX1 ∈ wsL_law := mT_1 (List.mem_of_getElem? (i := 11) rfl) rfl
theorem q1288 : Cond.code yX1_pop cX1_pop 2 (some .int) ∈ wsL_law := mT_5 (List.mem_of_getElem? (i := 189) rfl) rfl
theorem kv_X1_125 : vz_cv RX1 125 yX1_pop cX1_pop 2 (some .int) 0 := ⟨q1285, q1286, q1287, q55, q1288, by decide +kernel⟩
theorem q1318 : Cond.methodLink RX1 108 yX8_active ∈ wsL_law := mT_5 (List.mem_of_getElem? (i := 218) rfl) rfl
theorem kv_X1_108 : vz_cv RX1 108 yX8_active cX8_active 1 (some .int) 0 := ⟨q1318, q1135, q1136, q47, q1137, by decide +kernel⟩
theorem q1319 : Cond.methodLink RX1 172 yX8_raise ∈ wsL_law := mT_5 (List.mem_of_getElem? (i := 219) rfl) rfl
theorem kv_X1_172 : vz_cv RX1 172 yX8_raise cX8_raise 5 none 2 := ⟨q1319, q1100, q1101, q47, q1102, by decide +kernel⟩
theorem q1268 : Cond.fieldLink RX1 64 "WaysAtlas$Machine" "present" "I" ∈ wsL_law := mT_2 (List.mem_of_getElem? (i := 120) rfl) rfl
theorem q1299 : Cond.methodLink RX1 141 yX8_setNow ∈ wsL_law := mT_5 (List.mem_of_getElem? (i := 199) rfl) rfl
theorem kv_X1_141 : vz_cv RX1 141 yX8_setNow cX8_setNow 3 none 2 := ⟨q1299, q1063, q1064, q47, q1065, by decide +kernel⟩
theorem q1271 : Cond.methodLink RX1 37 yX8_enter ∈ wsL_law := mT_5 (List.mem_of_getElem? (i := 171) rfl) rfl
theorem kv_X1_37 : vz_cv RX1 37 yX8_enter cX8_enter 6 none 3 := ⟨q1271, q1049, q1050, q47, q1051, by decide +kernel⟩
theorem q1265 : Cond.fieldLink RX1 47 "WaysAtlas$Program" "methods" "LWaysAtlas$Table;" ∈ wsL_law := mT_1 (List.mem_of_getElem? (i := 100) rfl) rfl
theorem dX1_call_0 : decode cX1_call 0 = .ok (.aload_n 0, 1) := by decide +kernel
theorem dX1_call_1 : decode cX1_call 1 = .ok (.invokevirtual 125, 3) := by decide +kernel
theorem dX1_call_4 : decode cX1_call 4 = .ok (.istore_n 2, 1) := by decide +kernel
theorem dX1_call_5 : decode cX1_call 5 = .ok (.aload_n 0, 1) := by decide +kernel
theorem dX1_call_6 : decode cX1_call 6 = .ok (.invokevirtual 125, 3) := by decide +kernel
theorem dX1_call_9 : decode cX1_call 9 = .ok (.istore_n 3, 1) := by decide +kernel
theorem dX1_call_10 : decode cX1_call 10 = .ok (.aload_n 0, 1) := by decide +kernel
theorem dX1_call_11 : decode cX1_call 11 = .ok (.getfield 9, 3) := by decide +kernel
theorem dX1_call_14 : decode cX1_call 14 = .ok (.invokevirtual 108, 3) := by decide +kernel
theorem dX1_call_17 : decode cX1_call 17 = .ok (.bipush 12, 2) := by decide +kernel
theorem dX1_call_19 : decode cX1_call 19 = .ok (.if_icmp .lt 17, 3) := by decide +kernel
theorem dX1_call_22 : decode cX1_call 22 = .ok (.aload_n 0, 1) := by decide +kernel
theorem dX1_call_23 : decode cX1_call 23 = .ok (.getfield 9, 3) := by decide +kernel
theorem dX1_call_26 : decode cX1_call 26 = .ok (.bipush 6, 2) := by decide +kernel
theorem dX1_call_28 : decode cX1_call 28 = .ok (.bipush (-9), 2) := by decide +kernel
theorem dX1_call_30 : decode cX1_call 30 = .ok (.invokevirtual 172, 3) := by decide +kernel
theorem dX1_call_33 : decode cX1_call 33 = .ok (.goto 44, 3) := by decide +kernel
theorem dX1_call_36 : decode cX1_call 36 = .ok (.aload_n 0, 1) := by decide +kernel
theorem dX1_call_37 : decode cX1_call 37 = .ok (.getfield 9, 3) := by decide +kernel
theorem dX1_call_40 : decode cX1_call 40 = .ok (.iconst 2, 1) := by decide +kernel
theorem dX1_call_41 : decode cX1_call 41 = .ok (.aload_n 0, 1) := by decide +kernel
theorem dX1_call_42 : decode cX1_call 42 = .ok (.getfield 64, 3) := by decide +kernel
theorem dX1_call_45 : decode cX1_call 45 = .ok (.invokevirtual 141, 3) := by decide +kernel
theorem dX1_call_48 : decode cX1_call 48 = .ok (.aload_n 0, 1) := by decide +kernel
theorem dX1_call_49 : decode cX1_call 49 = .ok (.getfield 9, 3) := by decide +kernel
theorem dX1_call_52 : decode cX1_call 52 = .ok (.iload_n 1, 1) := by decide +kernel
theorem dX1_call_53 : decode cX1_call 53 = .ok (.iload_n 3, 1) := by decide +kernel
theorem dX1_call_54 : decode cX1_call 54 = .ok (.iload_n 2, 1) := by decide +kernel
theorem dX1_call_55 : decode cX1_call 55 = .ok (.invokevirtual 37, 3) := by decide +kernel
theorem dX1_call_58 : decode cX1_call 58 = .ok (.aload_n 0, 1) := by decide +kernel
theorem dX1_call_59 : decode cX1_call 59 = .ok (.aload_n 0, 1) := by decide +kernel
theorem dX1_call_60 : decode cX1_call 60 = .ok (.getfield 9, 3) := by decide +kernel
theorem dX1_call_63 : decode cX1_call 63 = .ok (.getfield 43, 3) := by decide +kernel
theorem dX1_call_66 : decode cX1_call 66 = .ok (.getfield 47, 3) := by decide +kernel
theorem dX1_call_69 : decode cX1_call 69 = .ok (.iload_n 1, 1) := by decide +kernel
theorem dX1_call_70 : decode cX1_call 70 = .ok (.iconst 1, 1) := by decide +kernel
theorem dX1_call_71 : decode cX1_call 71 = .ok (.invokevirtual 52, 3) := by decide +kernel
theorem dX1_call_74 : decode cX1_call 74 = .ok (.putfield 56, 3) := by decide +kernel
theorem dX1_call_77 : decode cX1_call 77 = .ok (.return_, 1) := by decide +kernel
set_option maxHeartbeats 8000000 in
set_option maxRecDepth 100000 in
theorem a_M_call (l : Launch) (D : va_G) (g : Nat → ClassId)   (sz : Nat) (h : Nat) (ma : Nat → Nat) (mi : Nat → Int32) (mr : Nat → Nat) (mf : Nat → Nat → Int32) (wh : Nat) (da : Nat → Nat) (dr : Nat → Nat) (df : Nat → Nat → Int32) (wa : Nat → Nat) (wi : Nat → Int32) (wr : Nat → Nat) (wf : Nat → Nat → Int32) (ph : Nat) (rh : Nat) (la : Nat → Nat) (pa : Nat → Nat) (pr : Nat → Nat) (pf : Nat → Nat → Int32) (ca : Nat → Nat) (ci : Nat → Int32) (cr : Nat → Nat) (cf : Nat → Nat → Int32) (lr : Nat → Nat) (lf : Nat → Nat → Int32) (lmx : Nat) (n1 : Int32) (hw_m : ∀ k, mr k ≤ mcW_lim k) (hw_d : ∀ k, dr k ≤ cdW_lim k) (hw_w : ∀ k, wr k ≤ woW_lim k) (hw_p : ∀ k, pr k ≤ pgW_lim k) (hw_c : ∀ k, cr k ≤ rcW_lim k) (hw_l : ∀ k, lr k ≤ (plW_lim lmx) k) (hmx_l : lmx ≤ 30) : vz_Mv l D (tyG g) yX1_call cX1_call 4 3 71 0 0 [.ref h, .int n1] sz (vz_w [mcW g h ma mi mr mf wh (da 0) (da 2), cdW g da dr df, woW g wh wa wi wr wf ph rh (la 0), pgW g ph pa pr pf, rcW g rh ca ci cr cf, plW g la lr lf lmx]) (fun u : (Nat → Int32) × (Nat → Nat) × (Nat → Int32) × (Nat → Nat) × (Nat → Nat → Int32) × (Nat → Int32) × (Nat → Nat) × (Nat → Nat → Int32) => (∀ k, u.2.1 k ≤ mcW_lim k) ∧ (∀ k, u.2.2.2.1 k ≤ woW_lim k) ∧ (∀ k, u.2.2.2.2.2.2.1 k ≤ rcW_lim k)) (fun u => vz_w [mcW g h ma u.1 u.2.1 mf wh (da 0) (da 2), cdW g da dr df, woW g wh wa u.2.2.1 u.2.2.2.1 u.2.2.2.2.1 ph rh (la 0), pgW g ph pa pr pf, rcW g rh ca u.2.2.2.2.2.1 u.2.2.2.2.2.2.1 u.2.2.2.2.2.2.2, plW g la lr lf lmx]) := by
  refine vz_svQ (by decide) (Nat.le_of_ble_eq_true rfl) (fun p e s m args below meth c hx hb hr hml hts hown hlk hin hK hsz A hA H locs hP hD hS ls hl Q hQ => ?_)
  have hl : lv_has ls 4 [(0, .ref h), (1, .int n1)] := hl
  have J77 : ∀ (x2_77 : Int32), ∀ (x3_77 : Int32), ∀ (mi_77 : Nat → Int32), ∀ (mr_77 : Nat → Nat), ∀ (wi_77 : Nat → Int32), ∀ (wr_77 : Nat → Nat), ∀ (wf_77 : Nat → Nat → Int32), ∀ (ci_77 : Nat → Int32), ∀ (cr_77 : Nat → Nat), ∀ (cf_77 : Nat → Nat → Int32), (∀ k, mr_77 k ≤ mcW_lim k) → (∀ k, wr_77 k ≤ woW_lim k) → (∀ k, cr_77 k ≤ rcW_lim k) → ∀ (H : Heap) (locs : List Loc) (ls : Array Slot), va_P D vwCl (vz_w [mcW g h ma mi_77 mr_77 mf wh (da 0) (da 2), cdW g da dr df, woW g wh wa wi_77 wr_77 wf_77 ph rh (la 0), pgW g ph pa pr pf, rcW g rh ca ci_77 cr_77 cf_77, plW g la lr lf lmx]) H → va_D A (vz_w [mcW g h ma mi_77 mr_77 mf wh (da 0) (da 2), cdW g da dr df, woW g wh wa wi_77 wr_77 wf_77 ph rh (la 0), pgW g ph pa pr pf, rcW g rh ca ci_77 cr_77 cf_77, plW g la lr lf lmx]) → va_S A s.heap H locs → lv_has ls 4 [(0, .ref h), (1, .int n1), (2, .int x2_77), (3, .int x3_77)] → W p l e { frames := 3, cells := 0, slots := 0, locals := 71 } s m args below meth c H locs 0 0 Q (F0 m 77 ls []) := by
    intro x2_77 x3_77 mi_77 mr_77 wi_77 wr_77 wf_77 ci_77 cr_77 cf_77 hw_m_77 hw_w_77 hw_c_77 H locs ls hP hD hS hl
    rw [hQ]
    exact vz_vret3 hx hb hr hlk hK hP hD hS (mi_77, mr_77, wi_77, wr_77, wf_77, ci_77, cr_77, cf_77) (⟨hw_m_77, hw_w_77, hw_c_77⟩) rfl (Nat.le_refl 0) (Nat.le_refl 0) dX1_call_77
  refine lv_aload_n hx hb dX1_call_0 rfl (lv_at hl 0 rfl) ?_
  refine vz_Vi3 (As := []) (rest := []) hx hb hml hown hts hK hA hP hD hS (a_M_pop l D g H.size h ma mi mr mf wh da dr df wa wi wr wf ph rh la pa pr pf ca ci cr cf lr lf lmx hw_m hw_d hw_w hw_p hw_c hw_l hmx_l) kv_X1_125 ⟨Nat.le_of_ble_eq_true rfl, Nat.le_of_ble_eq_true rfl⟩ (q0 := 0) (ci := 1) rfl rfl rfl  hl.1 (Nat.le_of_ble_eq_true rfl) dX1_call_1 ⟨Nat.le_refl _, Nat.le_refl _⟩ rfl (fun v3 mr_1 H locs hw_2 _ hP hD hS => ?_)
  try dsimp only at hw_2
  replace hP : va_P D vwCl (vz_w [mcW g h ma mi mr_1 mf wh (da 0) (da 2), cdW g da dr df, woW g wh wa wi wr wf ph rh (la 0), pgW g ph pa pr pf, rcW g rh ca ci cr cf, plW g la lr lf lmx]) H := hP
  replace hD : va_D A (vz_w [mcW g h ma mi mr_1 mf wh (da 0) (da 2), cdW g da dr df, woW g wh wa wi wr wf ph rh (la 0), pgW g ph pa pr pf, rcW g rh ca ci cr cf, plW g la lr lf lmx]) := hD
  refine lv_istore_n (lv' := [(2, .int v3), (0, .ref h), (1, .int n1)]) hx hb dX1_call_4 rfl hl (by decide) rfl (fun ls hl => ?_)
  refine lv_aload_n hx hb dX1_call_5 rfl (lv_at hl 1 rfl) ?_
  refine vz_Vi3 (As := []) (rest := []) hx hb hml hown hts hK hA hP hD hS (a_M_pop l D g H.size h ma mi mr_1 mf wh da dr df wa wi wr wf ph rh la pa pr pf ca ci cr cf lr lf lmx hw_2 hw_d hw_w hw_p hw_c hw_l hmx_l) kv_X1_125 ⟨Nat.le_of_ble_eq_true rfl, Nat.le_of_ble_eq_true rfl⟩ (q0 := 0) (ci := 1) rfl rfl rfl  hl.1 (Nat.le_of_ble_eq_true rfl) dX1_call_6 ⟨Nat.le_refl _, Nat.le_refl _⟩ rfl (fun v6 mr_4 H locs hw_5 _ hP hD hS => ?_)
  try dsimp only at hw_5
  replace hP : va_P D vwCl (vz_w [mcW g h ma mi mr_4 mf wh (da 0) (da 2), cdW g da dr df, woW g wh wa wi wr wf ph rh (la 0), pgW g ph pa pr pf, rcW g rh ca ci cr cf, plW g la lr lf lmx]) H := hP
  replace hD : va_D A (vz_w [mcW g h ma mi mr_4 mf wh (da 0) (da 2), cdW g da dr df, woW g wh wa wi wr wf ph rh (la 0), pgW g ph pa pr pf, rcW g rh ca ci cr cf, plW g la lr lf lmx]) := hD
  refine lv_istore_n (lv' := [(3, .int v6), (2, .int v3), (0, .ref h), (1, .int n1)]) hx hb dX1_call_9 rfl hl (by decide) rfl (fun ls hl => ?_)
  refine lv_aload_n hx hb dX1_call_10 rfl (lv_at hl 2 rfl) ?_
  refine va_get (D := D) (ci := 1) (v := .ref wh) (C := RX1) (T := TX1) (N := 7) hx hb hts inlX1 hown hK hP 0 rfl rfl 0 (by decide) (hts _ q159) (fun _ h => h) rfl dX1_call_11 ?_
  refine vz_Vi4 (n9 := 6) (bs2 := fun u : Unit => [mcW g h ma mi mr_4 mf wh (da 0) (da 2), cdW g da dr df, woW g wh wa wi wr wf ph rh (la 0), pgW g ph pa pr pf, rcW g rh ca ci cr cf, plW g la lr lf lmx]) (br := [mcW g h ma mi mr_4 mf wh (da 0) (da 2), cdW g da dr df]) (As := []) (rest := []) hx hb hml hown hts hK hA hP hD hS (a_W_active l D g H.size wh wa wi wr wf ph rh la pa pr pf ca ci cr cf lr lf lmx hw_w hw_p hw_c hw_l hmx_l) kv_X1_108 ⟨Nat.le_of_ble_eq_true rfl, Nat.le_of_ble_eq_true rfl⟩ (q0 := 7) (ci := 8) rfl rfl rfl [2, 3, 4, 5] [0, 1] rfl (by decide) rfl (fun _ => rfl) (fun _ => rfl) hl.1 (Nat.le_of_ble_eq_true rfl) dX1_call_14 ⟨Nat.le_refl _, Nat.le_refl _⟩ rfl (fun v7 _ H locs _ _ hP hD hS => ?_)
  refine lv_bipush (v := 12) hx hb dX1_call_17 (by decide) ?_
  refine lv_icmp_lt (tgt := 36) hx hb dX1_call_19 (by decide) (fun kc8 => ?_) (fun kc8 => ?_)
  · refine lv_aload_n hx hb dX1_call_36 rfl (lv_at hl 2 rfl) ?_
    refine va_get (D := D) (ci := 1) (v := .ref wh) (C := RX1) (T := TX1) (N := 7) hx hb hts inlX1 hown hK hP 0 rfl rfl 0 (by decide) (hts _ q159) (fun _ h => h) rfl dX1_call_37 ?_
    refine lv_iconst (v := 2) hx hb dX1_call_40 (by decide) ?_
    refine lv_aload_n hx hb dX1_call_41 rfl (lv_at hl 2 rfl) ?_
    refine va_get (D := D) (ci := 1) (v := .int (mi 0)) (C := RX1) (T := TX1) (N := 7) hx hb hts inlX1 hown hK hP 0 rfl rfl 4 (by decide) (hts _ q1268) (fun _ h => h) rfl dX1_call_42 ?_
    refine vz_Vv4 (n9 := 6) (bs2 := fun u : (Nat → Nat → Int32) => [mcW g h ma mi mr_4 mf wh (da 0) (da 2), cdW g da dr df, woW g wh wa wi wr u ph rh (la 0), pgW g ph pa pr pf, rcW g rh ca ci cr cf, plW g la lr lf lmx]) (br := [mcW g h ma mi mr_4 mf wh (da 0) (da 2), cdW g da dr df]) (As := [.int 2, .int (mi 0)]) (rest := []) hx hb hml hown hts hK hA hP hD hS (a_W_setNow l D g H.size wh wa wi wr wf ph rh la pa pr pf ca ci cr cf lr lf lmx 2 (mi 0) hw_w hw_p hw_c hw_l hmx_l) kv_X1_141 ⟨Nat.le_of_ble_eq_true rfl, Nat.le_of_ble_eq_true rfl⟩ (q0 := 7) (ci := 8) rfl rfl rfl [2, 3, 4, 5] [0, 1] rfl (by decide) rfl (fun _ => rfl) (fun _ => rfl) hl.1 (Nat.le_of_ble_eq_true rfl) dX1_call_45 ⟨Nat.le_refl _, Nat.le_refl _⟩ rfl (fun wf_9 H locs _ _ hP hD hS => ?_)
    replace hP : va_P D vwCl (vz_w [mcW g h ma mi mr_4 mf wh (da 0) (da 2), cdW g da dr df, woW g wh wa wi wr wf_9 ph rh (la 0), pgW g ph pa pr pf, rcW g rh ca ci cr cf, plW g la lr lf lmx]) H := hP
    replace hD : va_D A (vz_w [mcW g h ma mi mr_4 mf wh (da 0) (da 2), cdW g da dr df, woW g wh wa wi wr wf_9 ph rh (la 0), pgW g ph pa pr pf, rcW g rh ca ci cr cf, plW g la lr lf lmx]) := hD
    refine lv_aload_n hx hb dX1_call_48 rfl (lv_at hl 2 rfl) ?_
    refine va_get (D := D) (ci := 1) (v := .ref wh) (C := RX1) (T := TX1) (N := 7) hx hb hts inlX1 hown hK hP 0 rfl rfl 0 (by decide) (hts _ q159) (fun _ h => h) rfl dX1_call_49 ?_
    refine lv_iload_n hx hb dX1_call_52 rfl (lv_at hl 3 rfl) ?_
    refine lv_iload_n hx hb dX1_call_53 rfl (lv_at hl 0 rfl) ?_
    refine lv_iload_n hx hb dX1_call_54 rfl (lv_at hl 1 rfl) ?_
    refine vz_Vv4 (n9 := 6) (bs2 := fun u : (Nat → Nat) × (Nat → Nat → Int32) × (Nat → Int32) × (Nat → Nat) × (Nat → Nat → Int32) => [mcW g h ma mi mr_4 mf wh (da 0) (da 2), cdW g da dr df, woW g wh wa wi u.1 u.2.1 ph rh (la 0), pgW g ph pa pr pf, rcW g rh ca u.2.2.1 u.2.2.2.1 u.2.2.2.2, plW g la lr lf lmx]) (br := [mcW g h ma mi mr_4 mf wh (da 0) (da 2), cdW g da dr df]) (As := [.int n1, .int v6, .int v3]) (rest := []) hx hb hml hown hts hK hA hP hD hS (a_W_enter l D g H.size wh wa wi wr wf_9 ph rh la pa pr pf ca ci cr cf lr lf lmx n1 v6 v3 hw_w hw_p hw_c hw_l hmx_l) kv_X1_37 ⟨Nat.le_of_ble_eq_true rfl, Nat.le_of_ble_eq_true rfl⟩ (q0 := 7) (ci := 8) rfl rfl rfl [2, 3, 4, 5] [0, 1] rfl (by decide) rfl (fun _ => rfl) (fun _ => rfl) hl.1 (Nat.le_of_ble_eq_true rfl) dX1_call_55 ⟨Nat.le_refl _, Nat.le_refl _⟩ rfl (fun ⟨wr_10, wf_11, ci_12, cr_13, cf_14⟩ H locs ⟨hw_15, hw_16⟩ _ hP hD hS => ?_)
    try dsimp only at hw_15 hw_16
    replace hP : va_P D vwCl (vz_w [mcW g h ma mi mr_4 mf wh (da 0) (da 2), cdW g da dr df, woW g wh wa wi wr_10 wf_11 ph rh (la 0), pgW g ph pa pr pf, rcW g rh ca ci_12 cr_13 cf_14, plW g la lr lf lmx]) H := hP
    replace hD : va_D A (vz_w [mcW g h ma mi mr_4 mf wh (da 0) (da 2), cdW g da dr df, woW g wh wa wi wr_10 wf_11 ph rh (la 0), pgW g ph pa pr pf, rcW g rh ca ci_12 cr_13 cf_14, plW g la lr lf lmx]) := hD
    refine lv_aload_n hx hb dX1_call_58 rfl (lv_at hl 2 rfl) ?_
    refine lv_aload_n hx hb dX1_call_59 rfl (lv_at hl 2 rfl) ?_
    refine va_get (D := D) (ci := 1) (v := .ref wh) (C := RX1) (T := TX1) (N := 7) hx hb hts inlX1 hown hK hP 0 rfl rfl 0 (by decide) (hts _ q159) (fun _ h => h) rfl dX1_call_60 ?_
    refine va_get (D := D) (ci := 8) (v := .ref ph) (C := RX8) (T := TX8) (N := 11) hx hb hts inlX8 hown hK hP 7 rfl rfl 5 (by decide) (hts _ q1264) (fun _ h => h) rfl dX1_call_63 ?_
    refine va_get (D := D) (ci := 2) (v := .ref (pa 8)) (C := RX2) (T := TX2) (N := 5) hx hb hts inlX2 hown hK hP 18 rfl rfl 4 (by decide) (hts _ q1265) (fun _ h => h) rfl dX1_call_66 ?_
    refine lv_iload_n hx hb dX1_call_69 rfl (lv_at hl 3 rfl) ?_
    refine lv_iconst (v := 1) hx hb dX1_call_70 (by decide) ?_
    refine vz_Vi2 (ws' := fun u : Unit => vz_w [mcW g h ma mi mr_4 mf wh (da 0) (da 2), cdW g da dr df, woW g wh wa wi wr_10 wf_11 ph rh (la 0), pgW g ph pa pr pf, rcW g rh ca ci_12 cr_13 cf_14, plW g la lr lf lmx]) (As := [.int n1, .int 1]) (rest := [.ref h]) hx hb hml hown hts hK hA hP hD hS (c_T_get l D g (pa 8) (pa 9) H.size 2 8 (pr 4) 16 (pf 4) n1 1 ⟨rfl, by decide, by decide, by decide, by decide, hw_p 4⟩) kv_X1_52 ⟨Nat.le_of_ble_eq_true rfl, Nat.le_of_ble_eq_true rfl⟩ (q0 := 27) (ci := 6) rfl rfl rfl [27, 28] rfl (by decide) (fun _ => rfl) (fun _ => rfl) hl.1 (Nat.le_of_ble_eq_true rfl) dX1_call_71 ⟨Nat.le_refl _, Nat.le_refl _⟩ rfl (fun v17 _ H locs he18 _ hP hD hS => ?_)
    refine va_put (D := D) (ci := 1) (v := .int v17) (ty := .int) (C := RX1) (T := TX1) (N := 7) hx hb hts inlX1 tyX1 tyX1_ok nmX1 hown hK hP hD hS 0 rfl rfl 5 (by decide) (hts _ q1266) (fun _ h => h) rfl (by decide +kernel) rfl rfl (Nat.le_of_ble_eq_true rfl) dX1_call_74 (fun H locs hP hD hS => ?_)
    obtain ⟨mi_19, hmi_19, hP, hD⟩ : ∃ mi_19 : Nat → Int32, (mi_19 = (upd mi 1 v17)) ∧ va_P D vwCl (vz_w [mcW g h ma mi_19 mr_4 mf wh (da 0) (da 2), cdW g da dr df, woW g wh wa wi wr_10 wf_11 ph rh (la 0), pgW g ph pa pr pf, rcW g rh ca ci_12 cr_13 cf_14, plW g la lr lf lmx]) H ∧ va_D A (vz_w [mcW g h ma mi_19 mr_4 mf wh (da 0) (da 2), cdW g da dr df, woW g wh wa wi wr_10 wf_11 ph rh (la 0), pgW g ph pa pr pf, rcW g rh ca ci_12 cr_13 cf_14, plW g la lr lf lmx]) := ⟨(upd mi 1 v17), rfl, hP, hD⟩
    exact J77 v3 v6 mi_19 mr_4 wi wr_10 wf_11 ci_12 cr_13 cf_14 hw_5 hw_15 hw_16 H locs ls hP hD hS (lv_sub hl [2, 3, 1, 0] rfl)
  · refine lv_aload_n hx hb dX1_call_22 rfl (lv_at hl 2 rfl) ?_
    refine va_get (D := D) (ci := 1) (v := .ref wh) (C := RX1) (T := TX1) (N := 7) hx hb hts inlX1 hown hK hP 0 rfl rfl 0 (by decide) (hts _ q159) (fun _ h => h) rfl dX1_call_23 ?_
    refine lv_bipush (v := 6) hx hb dX1_call_26 (by decide) ?_
    refine lv_bipush (v := (-9)) hx hb dX1_call_28 (by decide) ?_
    refine vz_Vv4 (n9 := 6) (bs2 := fun u : (Nat → Int32) × (Nat → Nat) × (Nat → Nat → Int32) => [mcW g h ma mi mr_4 mf wh (da 0) (da 2), cdW g da dr df, woW g wh wa u.1 wr wf ph rh (la 0), pgW g ph pa pr pf, rcW g rh ca ci u.2.1 u.2.2, plW g la lr lf lmx]) (br := [mcW g h ma mi mr_4 mf wh (da 0) (da 2), cdW g da dr df]) (As := [.int 6, .int (-9)]) (rest := []) hx hb hml hown hts hK hA hP hD hS (a_W_raise l D g H.size wh wa wi wr wf ph rh la pa pr pf ca ci cr cf lr lf lmx 6 (-9) hw_w hw_p hw_c hw_l hmx_l) kv_X1_172 ⟨Nat.le_of_ble_eq_true rfl, Nat.le_of_ble_eq_true rfl⟩ (q0 := 7) (ci := 8) rfl rfl rfl [2, 3, 4, 5] [0, 1] rfl (by decide) rfl (fun _ => rfl) (fun _ => rfl) hl.1 (Nat.le_of_ble_eq_true rfl) dX1_call_30 ⟨Nat.le_refl _, Nat.le_refl _⟩ rfl (fun ⟨wi_20, cr_21, cf_22⟩ H locs hw_23 _ hP hD hS => ?_)
    try dsimp only at hw_23
    replace hP : va_P D vwCl (vz_w [mcW g h ma mi mr_4 mf wh (da 0) (da 2), cdW g da dr df, woW g wh wa wi_20 wr wf ph rh (la 0), pgW g ph pa pr pf, rcW g rh ca ci cr_21 cf_22, plW g la lr lf lmx]) H := hP
    replace hD : va_D A (vz_w [mcW g h ma mi mr_4 mf wh (da 0) (da 2), cdW g da dr df, woW g wh wa wi_20 wr wf ph rh (la 0), pgW g ph pa pr pf, rcW g rh ca ci cr_21 cf_22, plW g la lr lf lmx]) := hD
    refine lv_goto (tgt := 77) hx hb dX1_call_33 (by decide) ?_
    exact J77 v3 v6 mi mr_4 wi_20 wr wf ci cr_21 cf_22 hw_5 hw_w hw_23 H locs ls hP hD hS (lv_sub hl [2, 3, 1, 0] rfl)
theorem q1324 : Cond.methodLink RX1 105 yX8_leave ∈ wsL_law := mT_5 (List.mem_of_getElem? (i := 224) rfl) rfl
theorem kv_X1_105 : vz_cv RX1 105 yX8_leave cX8_leave 1 none 0 := ⟨q1324, q1193, q1194, q47, q1195, by decide +kernel⟩
theorem q1325 : Cond.methodLink RX1 111 yX8_end ∈ wsL_law := mT_5 (List.mem_of_getElem? (i := 225) rfl) rfl
theorem kv_X1_111 : vz_cv RX1 111 yX8_end cX8_end 3 none 2 := ⟨q1325, q1198, q1199, q47, q1200, by decide +kernel⟩
theorem q1284 : Cond.methodLink RX1 114 yX8_now ∈ wsL_law := mT_5 (List.mem_of_getElem? (i := 185) rfl) rfl
theorem kv_X1_114 : vz_cv RX1 114 yX8_now cX8_now 2 (some .int) 1 := ⟨q1284, q1057, q1058, q47, q1059, by decide +kernel⟩
theorem dX1_giveBack_0 : decode cX1_giveBack 0 = .ok (.aload_n 0, 1) := by decide +kernel
theorem dX1_giveBack_1 : decode cX1_giveBack 1 = .ok (.getfield 9, 3) := by decide +kernel
theorem dX1_giveBack_4 : decode cX1_giveBack 4 = .ok (.invokevirtual 105, 3) := by decide +kernel
theorem dX1_giveBack_7 : decode cX1_giveBack 7 = .ok (.aload_n 0, 1) := by decide +kernel
theorem dX1_giveBack_8 : decode cX1_giveBack 8 = .ok (.getfield 9, 3) := by decide +kernel
theorem dX1_giveBack_11 : decode cX1_giveBack 11 = .ok (.invokevirtual 108, 3) := by decide +kernel
theorem dX1_giveBack_14 : decode cX1_giveBack 14 = .ok (.ifCond .ne 18, 3) := by decide +kernel
theorem dX1_giveBack_17 : decode cX1_giveBack 17 = .ok (.aload_n 0, 1) := by decide +kernel
theorem dX1_giveBack_18 : decode cX1_giveBack 18 = .ok (.getfield 9, 3) := by decide +kernel
theorem dX1_giveBack_21 : decode cX1_giveBack 21 = .ok (.iconst 0, 1) := by decide +kernel
theorem dX1_giveBack_22 : decode cX1_giveBack 22 = .ok (.aload_n 0, 1) := by decide +kernel
theorem dX1_giveBack_23 : decode cX1_giveBack 23 = .ok (.invokevirtual 125, 3) := by decide +kernel
theorem dX1_giveBack_26 : decode cX1_giveBack 26 = .ok (.invokevirtual 111, 3) := by decide +kernel
theorem dX1_giveBack_29 : decode cX1_giveBack 29 = .ok (.goto 17, 3) := by decide +kernel
theorem dX1_giveBack_32 : decode cX1_giveBack 32 = .ok (.aload_n 0, 1) := by decide +kernel
theorem dX1_giveBack_33 : decode cX1_giveBack 33 = .ok (.aload_n 0, 1) := by decide +kernel
theorem dX1_giveBack_34 : decode cX1_giveBack 34 = .ok (.getfield 9, 3) := by decide +kernel
theorem dX1_giveBack_37 : decode cX1_giveBack 37 = .ok (.iconst 2, 1) := by decide +kernel
theorem dX1_giveBack_38 : decode cX1_giveBack 38 = .ok (.invokevirtual 114, 3) := by decide +kernel
theorem dX1_giveBack_41 : decode cX1_giveBack 41 = .ok (.iconst 1, 1) := by decide +kernel
theorem dX1_giveBack_42 : decode cX1_giveBack 42 = .ok (.iadd, 1) := by decide +kernel
theorem dX1_giveBack_43 : decode cX1_giveBack 43 = .ok (.putfield 56, 3) := by decide +kernel
theorem dX1_giveBack_46 : decode cX1_giveBack 46 = .ok (.return_, 1) := by decide +kernel
set_option maxHeartbeats 8000000 in
set_option maxRecDepth 100000 in
theorem a_M_giveBack (l : Launch) (D : va_G) (g : Nat → ClassId)   (sz : Nat) (h : Nat) (ma : Nat → Nat) (mi : Nat → Int32) (mr : Nat → Nat) (mf : Nat → Nat → Int32) (wh : Nat) (da : Nat → Nat) (dr : Nat → Nat) (df : Nat → Nat → Int32) (wa : Nat → Nat) (wi : Nat → Int32) (wr : Nat → Nat) (wf : Nat → Nat → Int32) (ph : Nat) (rh : Nat) (la : Nat → Nat) (pa : Nat → Nat) (pr : Nat → Nat) (pf : Nat → Nat → Int32) (ca : Nat → Nat) (ci : Nat → Int32) (cr : Nat → Nat) (cf : Nat → Nat → Int32) (lr : Nat → Nat) (lf : Nat → Nat → Int32) (lmx : Nat) (hw_m : ∀ k, mr k ≤ mcW_lim k) (hw_d : ∀ k, dr k ≤ cdW_lim k) (hw_w : ∀ k, wr k ≤ woW_lim k) (hw_p : ∀ k, pr k ≤ pgW_lim k) (hw_c : ∀ k, cr k ≤ rcW_lim k) (hw_l : ∀ k, lr k ≤ (plW_lim lmx) k) (hmx_l : lmx ≤ 30) : vz_Mv l D (tyG g) yX1_giveBack cX1_giveBack 1 2 44 0 0 [.ref h] sz (vz_w [mcW g h ma mi mr mf wh (da 0) (da 2), cdW g da dr df, woW g wh wa wi wr wf ph rh (la 0), pgW g ph pa pr pf, rcW g rh ca ci cr cf, plW g la lr lf lmx]) (fun u : (Nat → Int32) × (Nat → Nat) × (Nat → Nat) × (Nat → Int32) => (∀ k, u.2.1 k ≤ mcW_lim k) ∧ (∀ k, u.2.2.1 k ≤ woW_lim k)) (fun u => vz_w [mcW g h ma u.1 u.2.1 mf wh (da 0) (da 2), cdW g da dr df, woW g wh wa wi u.2.2.1 wf ph rh (la 0), pgW g ph pa pr pf, rcW g rh ca u.2.2.2 cr cf, plW g la lr lf lmx]) := by
  refine vz_svQ (by decide) (Nat.le_of_ble_eq_true rfl) (fun p e s m args below meth c hx hb hr hml hts hown hlk hin hK hsz A hA H locs hP hD hS ls hl Q hQ => ?_)
  have hl : lv_has ls 1 [(0, .ref h)] := hl
  have J46 : ∀ (mi_46 : Nat → Int32), ∀ (mr_46 : Nat → Nat), ∀ (wr_46 : Nat → Nat), ∀ (ci_46 : Nat → Int32), (∀ k, mr_46 k ≤ mcW_lim k) → (∀ k, wr_46 k ≤ woW_lim k) → ∀ (H : Heap) (locs : List Loc) (ls : Array Slot), va_P D vwCl (vz_w [mcW g h ma mi_46 mr_46 mf wh (da 0) (da 2), cdW g da dr df, woW g wh wa wi wr_46 wf ph rh (la 0), pgW g ph pa pr pf, rcW g rh ca ci_46 cr cf, plW g la lr lf lmx]) H → va_D A (vz_w [mcW g h ma mi_46 mr_46 mf wh (da 0) (da 2), cdW g da dr df, woW g wh wa wi wr_46 wf ph rh (la 0), pgW g ph pa pr pf, rcW g rh ca ci_46 cr cf, plW g la lr lf lmx]) → va_S A s.heap H locs → lv_has ls 1 [(0, .ref h)] → W p l e { frames := 2, cells := 0, slots := 0, locals := 44 } s m args below meth c H locs 0 0 Q (F0 m 46 ls []) := by
    intro mi_46 mr_46 wr_46 ci_46 hw_m_46 hw_w_46 H locs ls hP hD hS hl
    rw [hQ]
    exact vz_vret3 hx hb hr hlk hK hP hD hS (mi_46, mr_46, wr_46, ci_46) (⟨hw_m_46, hw_w_46⟩) rfl (Nat.le_refl 0) (Nat.le_refl 0) dX1_giveBack_46
  refine lv_aload_n hx hb dX1_giveBack_0 rfl (lv_at hl 0 rfl) ?_
  refine va_get (D := D) (ci := 1) (v := .ref wh) (C := RX1) (T := TX1) (N := 7) hx hb hts inlX1 hown hK hP 0 rfl rfl 0 (by decide) (hts _ q159) (fun _ h => h) rfl dX1_giveBack_1 ?_
  refine vz_Vv4 (n9 := 6) (bs2 := fun u : (Nat → Nat) => [mcW g h ma mi mr mf wh (da 0) (da 2), cdW g da dr df, woW g wh wa wi u wf ph rh (la 0), pgW g ph pa pr pf, rcW g rh ca ci cr cf, plW g la lr lf lmx]) (br := [mcW g h ma mi mr mf wh (da 0) (da 2), cdW g da dr df]) (As := []) (rest := []) hx hb hml hown hts hK hA hP hD hS (a_W_leave l D g H.size wh wa wi wr wf ph rh la pa pr pf ca ci cr cf lr lf lmx hw_w hw_p hw_c hw_l hmx_l) kv_X1_105 ⟨Nat.le_of_ble_eq_true rfl, Nat.le_of_ble_eq_true rfl⟩ (q0 := 7) (ci := 8) rfl rfl rfl [2, 3, 4, 5] [0, 1] rfl (by decide) rfl (fun _ => rfl) (fun _ => rfl) hl.1 (Nat.le_of_ble_eq_true rfl) dX1_giveBack_4 ⟨Nat.le_refl _, Nat.le_refl _⟩ rfl (fun wr_1 H locs hw_2 _ hP hD hS => ?_)
  try dsimp only at hw_2
  replace hP : va_P D vwCl (vz_w [mcW g h ma mi mr mf wh (da 0) (da 2), cdW g da dr df, woW g wh wa wi wr_1 wf ph rh (la 0), pgW g ph pa pr pf, rcW g rh ca ci cr cf, plW g la lr lf lmx]) H := hP
  replace hD : va_D A (vz_w [mcW g h ma mi mr mf wh (da 0) (da 2), cdW g da dr df, woW g wh wa wi wr_1 wf ph rh (la 0), pgW g ph pa pr pf, rcW g rh ca ci cr cf, plW g la lr lf lmx]) := hD
  refine lv_aload_n hx hb dX1_giveBack_7 rfl (lv_at hl 0 rfl) ?_
  refine va_get (D := D) (ci := 1) (v := .ref wh) (C := RX1) (T := TX1) (N := 7) hx hb hts inlX1 hown hK hP 0 rfl rfl 0 (by decide) (hts _ q159) (fun _ h => h) rfl dX1_giveBack_8 ?_
  refine vz_Vi4 (n9 := 6) (bs2 := fun u : Unit => [mcW g h ma mi mr mf wh (da 0) (da 2), cdW g da dr df, woW g wh wa wi wr_1 wf ph rh (la 0), pgW g ph pa pr pf, rcW g rh ca ci cr cf, plW g la lr lf lmx]) (br := [mcW g h ma mi mr mf wh (da 0) (da 2), cdW g da dr df]) (As := []) (rest := []) hx hb hml hown hts hK hA hP hD hS (a_W_active l D g H.size wh wa wi wr_1 wf ph rh la pa pr pf ca ci cr cf lr lf lmx hw_2 hw_p hw_c hw_l hmx_l) kv_X1_108 ⟨Nat.le_of_ble_eq_true rfl, Nat.le_of_ble_eq_true rfl⟩ (q0 := 7) (ci := 8) rfl rfl rfl [2, 3, 4, 5] [0, 1] rfl (by decide) rfl (fun _ => rfl) (fun _ => rfl) hl.1 (Nat.le_of_ble_eq_true rfl) dX1_giveBack_11 ⟨Nat.le_refl _, Nat.le_refl _⟩ rfl (fun v3 _ H locs _ _ hP hD hS => ?_)
  refine lv_if_ne (tgt := 32) hx hb dX1_giveBack_14 (by decide) (fun kc4 => ?_) (fun kc4 => ?_)
  · refine lv_aload_n hx hb dX1_giveBack_32 rfl (lv_at hl 0 rfl) ?_
    refine lv_aload_n hx hb dX1_giveBack_33 rfl (lv_at hl 0 rfl) ?_
    refine va_get (D := D) (ci := 1) (v := .ref wh) (C := RX1) (T := TX1) (N := 7) hx hb hts inlX1 hown hK hP 0 rfl rfl 0 (by decide) (hts _ q159) (fun _ h => h) rfl dX1_giveBack_34 ?_
    refine lv_iconst (v := 2) hx hb dX1_giveBack_37 (by decide) ?_
    refine vz_Vi4 (n9 := 6) (bs2 := fun u : Unit => [mcW g h ma mi mr mf wh (da 0) (da 2), cdW g da dr df, woW g wh wa wi wr_1 wf ph rh (la 0), pgW g ph pa pr pf, rcW g rh ca ci cr cf, plW g la lr lf lmx]) (br := [mcW g h ma mi mr mf wh (da 0) (da 2), cdW g da dr df]) (As := [.int 2]) (rest := [.ref h]) hx hb hml hown hts hK hA hP hD hS (a_W_now l D g H.size wh wa wi wr_1 wf ph rh la pa pr pf ca ci cr cf lr lf lmx 2 hw_2 hw_p hw_c hw_l hmx_l) kv_X1_114 ⟨Nat.le_of_ble_eq_true rfl, Nat.le_of_ble_eq_true rfl⟩ (q0 := 7) (ci := 8) rfl rfl rfl [2, 3, 4, 5] [0, 1] rfl (by decide) rfl (fun _ => rfl) (fun _ => rfl) hl.1 (Nat.le_of_ble_eq_true rfl) dX1_giveBack_38 ⟨Nat.le_refl _, Nat.le_refl _⟩ rfl (fun v5 _ H locs _ _ hP hD hS => ?_)
    refine lv_iconst (v := 1) hx hb dX1_giveBack_41 (by decide) ?_
    refine lv_iadd hx hb dX1_giveBack_42 ?_
    refine va_put (D := D) (ci := 1) (v := .int (v5 + 1)) (ty := .int) (C := RX1) (T := TX1) (N := 7) hx hb hts inlX1 tyX1 tyX1_ok nmX1 hown hK hP hD hS 0 rfl rfl 5 (by decide) (hts _ q1266) (fun _ h => h) rfl (by decide +kernel) rfl rfl (Nat.le_of_ble_eq_true rfl) dX1_giveBack_43 (fun H locs hP hD hS => ?_)
    obtain ⟨mi_6, hmi_6, hP, hD⟩ : ∃ mi_6 : Nat → Int32, (mi_6 = (upd mi 1 (v5 + 1))) ∧ va_P D vwCl (vz_w [mcW g h ma mi_6 mr mf wh (da 0) (da 2), cdW g da dr df, woW g wh wa wi wr_1 wf ph rh (la 0), pgW g ph pa pr pf, rcW g rh ca ci cr cf, plW g la lr lf lmx]) H ∧ va_D A (vz_w [mcW g h ma mi_6 mr mf wh (da 0) (da 2), cdW g da dr df, woW g wh wa wi wr_1 wf ph rh (la 0), pgW g ph pa pr pf, rcW g rh ca ci cr cf, plW g la lr lf lmx]) := ⟨(upd mi 1 (v5 + 1)), rfl, hP, hD⟩
    exact J46 mi_6 mr wr_1 ci hw_m hw_2 H locs ls hP hD hS (lv_sub hl [0] rfl)
  · refine lv_aload_n hx hb dX1_giveBack_17 rfl (lv_at hl 0 rfl) ?_
    refine va_get (D := D) (ci := 1) (v := .ref wh) (C := RX1) (T := TX1) (N := 7) hx hb hts inlX1 hown hK hP 0 rfl rfl 0 (by decide) (hts _ q159) (fun _ h => h) rfl dX1_giveBack_18 ?_
    refine lv_iconst (v := 0) hx hb dX1_giveBack_21 (by decide) ?_
    refine lv_aload_n hx hb dX1_giveBack_22 rfl (lv_at hl 0 rfl) ?_
    refine vz_Vi3 (As := []) (rest := [.int 0, .ref wh]) hx hb hml hown hts hK hA hP hD hS (a_M_pop l D g H.size h ma mi mr mf wh da dr df wa wi wr_1 wf ph rh la pa pr pf ca ci cr cf lr lf lmx hw_m hw_d hw_2 hw_p hw_c hw_l hmx_l) kv_X1_125 ⟨Nat.le_of_ble_eq_true rfl, Nat.le_of_ble_eq_true rfl⟩ (q0 := 0) (ci := 1) rfl rfl rfl  hl.1 (Nat.le_of_ble_eq_true rfl) dX1_giveBack_23 ⟨Nat.le_refl _, Nat.le_refl _⟩ rfl (fun v9 mr_7 H locs hw_8 _ hP hD hS => ?_)
    try dsimp only at hw_8
    replace hP : va_P D vwCl (vz_w [mcW g h ma mi mr_7 mf wh (da 0) (da 2), cdW g da dr df, woW g wh wa wi wr_1 wf ph rh (la 0), pgW g ph pa pr pf, rcW g rh ca ci cr cf, plW g la lr lf lmx]) H := hP
    replace hD : va_D A (vz_w [mcW g h ma mi mr_7 mf wh (da 0) (da 2), cdW g da dr df, woW g wh wa wi wr_1 wf ph rh (la 0), pgW g ph pa pr pf, rcW g rh ca ci cr cf, plW g la lr lf lmx]) := hD
    refine vz_Vv4 (n9 := 6) (bs2 := fun u : (Nat → Int32) => [mcW g h ma mi mr_7 mf wh (da 0) (da 2), cdW g da dr df, woW g wh wa wi wr_1 wf ph rh (la 0), pgW g ph pa pr pf, rcW g rh ca u cr cf, plW g la lr lf lmx]) (br := [mcW g h ma mi mr_7 mf wh (da 0) (da 2), cdW g da dr df]) (As := [.int 0, .int v9]) (rest := []) hx hb hml hown hts hK hA hP hD hS (a_W_end l D g H.size wh wa wi wr_1 wf ph rh la pa pr pf ca ci cr cf lr lf lmx 0 v9 hw_2 hw_p hw_c hw_l hmx_l) kv_X1_111 ⟨Nat.le_of_ble_eq_true rfl, Nat.le_of_ble_eq_true rfl⟩ (q0 := 7) (ci := 8) rfl rfl rfl [2, 3, 4, 5] [0, 1] rfl (by decide) rfl (fun _ => rfl) (fun _ => rfl) hl.1 (Nat.le_of_ble_eq_true rfl) dX1_giveBack_26 ⟨Nat.le_refl _, Nat.le_refl _⟩ rfl (fun ci_10 H locs _ _ hP hD hS => ?_)
    replace hP : va_P D vwCl (vz_w [mcW g h ma mi mr_7 mf wh (da 0) (da 2), cdW g da dr df, woW g wh wa wi wr_1 wf ph rh (la 0), pgW g ph pa pr pf, rcW g rh ca ci_10 cr cf, plW g la lr lf lmx]) H := hP
    replace hD : va_D A (vz_w [mcW g h ma mi mr_7 mf wh (da 0) (da 2), cdW g da dr df, woW g wh wa wi wr_1 wf ph rh (la 0), pgW g ph pa pr pf, rcW g rh ca ci_10 cr cf, plW g la lr lf lmx]) := hD
    refine lv_goto (tgt := 46) hx hb dX1_giveBack_29 (by decide) ?_
    exact J46 mi mr_7 wr_1 ci_10 hw_8 hw_2 H locs ls hP hD hS (lv_sub hl [0] rfl)
theorem q1335 : Cond.fieldLink RX1 190 "WaysAtlas$World" "record" "LWaysAtlas$RunRecord;" ∈ wsL_law := mT_2 (List.mem_of_getElem? (i := 48) rfl) rfl
theorem q1336 : Cond.fieldLink RX1 194 "WaysAtlas$RunRecord" "lost" "I" ∈ wsL_law := mT_1 (List.mem_of_getElem? (i := 232) rfl) rfl
theorem dX1_lose_0 : decode cX1_lose 0 = .ok (.aload_n 0, 1) := by decide +kernel
theorem dX1_lose_1 : decode cX1_lose 1 = .ok (.getfield 9, 3) := by decide +kernel
theorem dX1_lose_4 : decode cX1_lose 4 = .ok (.iload_n 1, 1) := by decide +kernel
theorem dX1_lose_5 : decode cX1_lose 5 = .ok (.iconst 2, 1) := by decide +kernel
theorem dX1_lose_6 : decode cX1_lose 6 = .ok (.invokevirtual 169, 3) := by decide +kernel
theorem dX1_lose_9 : decode cX1_lose 9 = .ok (.bipush (-9), 2) := by decide +kernel
theorem dX1_lose_11 : decode cX1_lose 11 = .ok (.if_icmp .eq 19, 3) := by decide +kernel
theorem dX1_lose_14 : decode cX1_lose 14 = .ok (.aload_n 0, 1) := by decide +kernel
theorem dX1_lose_15 : decode cX1_lose 15 = .ok (.getfield 9, 3) := by decide +kernel
theorem dX1_lose_18 : decode cX1_lose 18 = .ok (.getfield 190, 3) := by decide +kernel
theorem dX1_lose_21 : decode cX1_lose 21 = .ok (.dup, 1) := by decide +kernel
theorem dX1_lose_22 : decode cX1_lose 22 = .ok (.getfield 194, 3) := by decide +kernel
theorem dX1_lose_25 : decode cX1_lose 25 = .ok (.iconst 1, 1) := by decide +kernel
theorem dX1_lose_26 : decode cX1_lose 26 = .ok (.iadd, 1) := by decide +kernel
theorem dX1_lose_27 : decode cX1_lose 27 = .ok (.putfield 194, 3) := by decide +kernel
theorem dX1_lose_30 : decode cX1_lose 30 = .ok (.return_, 1) := by decide +kernel
set_option maxHeartbeats 8000000 in
set_option maxRecDepth 100000 in
theorem a_M_lose (l : Launch) (D : va_G) (g : Nat → ClassId)   (sz : Nat) (h : Nat) (ma : Nat → Nat) (mi : Nat → Int32) (mr : Nat → Nat) (mf : Nat → Nat → Int32) (wh : Nat) (da : Nat → Nat) (dr : Nat → Nat) (df : Nat → Nat → Int32) (wa : Nat → Nat) (wi : Nat → Int32) (wr : Nat → Nat) (wf : Nat → Nat → Int32) (ph : Nat) (rh : Nat) (la : Nat → Nat) (pa : Nat → Nat) (pr : Nat → Nat) (pf : Nat → Nat → Int32) (ca : Nat → Nat) (ci : Nat → Int32) (cr : Nat → Nat) (cf : Nat → Nat → Int32) (lr : Nat → Nat) (lf : Nat → Nat → Int32) (lmx : Nat) (n1 : Int32) (hw_m : ∀ k, mr k ≤ mcW_lim k) (hw_d : ∀ k, dr k ≤ cdW_lim k) (hw_w : ∀ k, wr k ≤ woW_lim k) (hw_p : ∀ k, pr k ≤ pgW_lim k) (hw_c : ∀ k, cr k ≤ rcW_lim k) (hw_l : ∀ k, lr k ≤ (plW_lim lmx) k) (hmx_l : lmx ≤ 30) : vz_Mv l D (tyG g) yX1_lose cX1_lose 2 2 45 0 0 [.ref h, .int n1] sz (vz_w [mcW g h ma mi mr mf wh (da 0) (da 2), cdW g da dr df, woW g wh wa wi wr wf ph rh (la 0), pgW g ph pa pr pf, rcW g rh ca ci cr cf, plW g la lr lf lmx]) (fun u : (Nat → Int32) => True) (fun u => vz_w [mcW g h ma mi mr mf wh (da 0) (da 2), cdW g da dr df, woW g wh wa wi wr wf ph rh (la 0), pgW g ph pa pr pf, rcW g rh ca u cr cf, plW g la lr lf lmx]) := by
  refine vz_svQ (by decide) (Nat.le_of_ble_eq_true rfl) (fun p e s m args below meth c hx hb hr hml hts hown hlk hin hK hsz A hA H locs hP hD hS ls hl Q hQ => ?_)
  have hl : lv_has ls 2 [(0, .ref h), (1, .int n1)] := hl
  have J30 : ∀ (ci_30 : Nat → Int32), ∀ (H : Heap) (locs : List Loc) (ls : Array Slot), va_P D vwCl (vz_w [mcW g h ma mi mr mf wh (da 0) (da 2), cdW g da dr df, woW g wh wa wi wr wf ph rh (la 0), pgW g ph pa pr pf, rcW g rh ca ci_30 cr cf, plW g la lr lf lmx]) H → va_D A (vz_w [mcW g h ma mi mr mf wh (da 0) (da 2), cdW g da dr df, woW g wh wa wi wr wf ph rh (la 0), pgW g ph pa pr pf, rcW g rh ca ci_30 cr cf, plW g la lr lf lmx]) → va_S A s.heap H locs → lv_has ls 2 [(0, .ref h), (1, .int n1)] → W p l e { frames := 2, cells := 0, slots := 0, locals := 45 } s m args below meth c H locs 0 0 Q (F0 m 30 ls []) := by
    intro ci_30 H locs ls hP hD hS hl
    rw [hQ]
    exact vz_vret3 hx hb hr hlk hK hP hD hS ci_30 trivial rfl (Nat.le_refl 0) (Nat.le_refl 0) dX1_lose_30
  refine lv_aload_n hx hb dX1_lose_0 rfl (lv_at hl 0 rfl) ?_
  refine va_get (D := D) (ci := 1) (v := .ref wh) (C := RX1) (T := TX1) (N := 7) hx hb hts inlX1 hown hK hP 0 rfl rfl 0 (by decide) (hts _ q159) (fun _ h => h) rfl dX1_lose_1 ?_
  refine lv_iload_n hx hb dX1_lose_4 rfl (lv_at hl 1 rfl) ?_
  refine lv_iconst (v := 2) hx hb dX1_lose_5 (by decide) ?_
  refine vz_Vi4 (n9 := 6) (bs2 := fun u : Unit => [mcW g h ma mi mr mf wh (da 0) (da 2), cdW g da dr df, woW g wh wa wi wr wf ph rh (la 0), pgW g ph pa pr pf, rcW g rh ca ci cr cf, plW g la lr lf lmx]) (br := [mcW g h ma mi mr mf wh (da 0) (da 2), cdW g da dr df]) (As := [.int n1, .int 2]) (rest := []) hx hb hml hown hts hK hA hP hD hS (a_W_slot l D g H.size wh wa wi wr wf ph rh la pa pr pf ca ci cr cf lr lf lmx n1 2 hw_w hw_p hw_c hw_l hmx_l) kv_X1_169 ⟨Nat.le_of_ble_eq_true rfl, Nat.le_of_ble_eq_true rfl⟩ (q0 := 7) (ci := 8) rfl rfl rfl [2, 3, 4, 5] [0, 1] rfl (by decide) rfl (fun _ => rfl) (fun _ => rfl) hl.1 (Nat.le_of_ble_eq_true rfl) dX1_lose_6 ⟨Nat.le_refl _, Nat.le_refl _⟩ rfl (fun v1 _ H locs _ _ hP hD hS => ?_)
  refine lv_bipush (v := (-9)) hx hb dX1_lose_9 (by decide) ?_
  refine lv_icmp_eq (tgt := 30) hx hb dX1_lose_11 (by decide) (fun kc2 => ?_) (fun kc2 => ?_)
  · exact J30 ci H locs ls hP hD hS (lv_sub hl [0, 1] rfl)
  · refine lv_aload_n hx hb dX1_lose_14 rfl (lv_at hl 0 rfl) ?_
    refine va_get (D := D) (ci := 1) (v := .ref wh) (C := RX1) (T := TX1) (N := 7) hx hb hts inlX1 hown hK hP 0 rfl rfl 0 (by decide) (hts _ q159) (fun _ h => h) rfl dX1_lose_15 ?_
    refine va_get (D := D) (ci := 8) (v := .ref rh) (C := RX8) (T := TX8) (N := 11) hx hb hts inlX8 hown hK hP 7 rfl rfl 6 (by decide) (hts _ q1335) (fun _ h => h) rfl dX1_lose_18 ?_
    refine lv_dup hx hb dX1_lose_21 rfl ?_
    refine va_get (D := D) (ci := 4) (v := .int (ci 4)) (C := RX4) (T := TX4) (N := 12) hx hb hts inlX4 hown hK hP 29 rfl rfl 9 (by decide) (hts _ q1336) (fun _ h => h) rfl dX1_lose_22 ?_
    refine lv_iconst (v := 1) hx hb dX1_lose_25 (by decide) ?_
    refine lv_iadd hx hb dX1_lose_26 ?_
    refine va_put (D := D) (ci := 4) (v := .int ((ci 4) + 1)) (ty := .int) (C := RX4) (T := TX4) (N := 12) hx hb hts inlX4 tyX4 tyX4_ok nmX4 hown hK hP hD hS 29 rfl rfl 9 (by decide) (hts _ q1336) (fun _ h => h) rfl (by decide +kernel) rfl rfl (Nat.le_of_ble_eq_true rfl) dX1_lose_27 (fun H locs hP hD hS => ?_)
    obtain ⟨ci_3, hci_3, hP, hD⟩ : ∃ ci_3 : Nat → Int32, (ci_3 = (upd ci 4 ((ci 4) + 1))) ∧ va_P D vwCl (vz_w [mcW g h ma mi mr mf wh (da 0) (da 2), cdW g da dr df, woW g wh wa wi wr wf ph rh (la 0), pgW g ph pa pr pf, rcW g rh ca ci_3 cr cf, plW g la lr lf lmx]) H ∧ va_D A (vz_w [mcW g h ma mi mr mf wh (da 0) (da 2), cdW g da dr df, woW g wh wa wi wr wf ph rh (la 0), pgW g ph pa pr pf, rcW g rh ca ci_3 cr cf, plW g la lr lf lmx]) := ⟨(upd ci 4 ((ci 4) + 1)), rfl, hP, hD⟩
    exact J30 ci_3 H locs ls hP hD hS (lv_sub hl [0, 1] rfl)
theorem q1338 : Cond.methodLink RX1 184 yX8_close ∈ wsL_law := mT_5 (List.mem_of_getElem? (i := 236) rfl) rfl
theorem kv_X1_184 : vz_cv RX1 184 yX8_close cX8_close 5 none 2 := ⟨q1338, q1222, q1223, q47, q1224, by decide +kernel⟩
theorem q1269 : Cond.fieldLink RX1 79 "WaysAtlas$World" "thrown" "I" ∈ wsL_law := mT_2 (List.mem_of_getElem? (i := 54) rfl) rfl
theorem q1343 : Cond.fieldLink RX1 199 "WaysAtlas$Program" "statements" "LWaysAtlas$Table;" ∈ wsL_law := mT_1 (List.mem_of_getElem? (i := 86) rfl) rfl
theorem q1344 : Cond.methodLink RX1 202 yX8_suppress ∈ wsL_law := mT_6 (List.mem_of_getElem? (i := 1) rfl) rfl
theorem kv_X1_202 : vz_cv RX1 202 yX8_suppress cX8_suppress 5 none 2 := ⟨q1344, q1228, q1229, q47, q1230, by decide +kernel⟩
theorem dX1_closeUnder_0 : decode cX1_closeUnder 0 = .ok (.aload_n 0, 1) := by decide +kernel
theorem dX1_closeUnder_1 : decode cX1_closeUnder 1 = .ok (.getfield 9, 3) := by decide +kernel
theorem dX1_closeUnder_4 : decode cX1_closeUnder 4 = .ok (.invokevirtual 138, 3) := by decide +kernel
theorem dX1_closeUnder_7 : decode cX1_closeUnder 7 = .ok (.ifCond .ne 4, 3) := by decide +kernel
theorem dX1_closeUnder_10 : decode cX1_closeUnder 10 = .ok (.return_, 1) := by decide +kernel
theorem dX1_closeUnder_11 : decode cX1_closeUnder 11 = .ok (.aload_n 0, 1) := by decide +kernel
theorem dX1_closeUnder_12 : decode cX1_closeUnder 12 = .ok (.getfield 9, 3) := by decide +kernel
theorem dX1_closeUnder_15 : decode cX1_closeUnder 15 = .ok (.iload_n 1, 1) := by decide +kernel
theorem dX1_closeUnder_16 : decode cX1_closeUnder 16 = .ok (.iload_n 2, 1) := by decide +kernel
theorem dX1_closeUnder_17 : decode cX1_closeUnder 17 = .ok (.invokevirtual 184, 3) := by decide +kernel
theorem dX1_closeUnder_20 : decode cX1_closeUnder 20 = .ok (.aload_n 0, 1) := by decide +kernel
theorem dX1_closeUnder_21 : decode cX1_closeUnder 21 = .ok (.getfield 9, 3) := by decide +kernel
theorem dX1_closeUnder_24 : decode cX1_closeUnder 24 = .ok (.getfield 79, 3) := by decide +kernel
theorem dX1_closeUnder_27 : decode cX1_closeUnder 27 = .ok (.bipush (-9), 2) := by decide +kernel
theorem dX1_closeUnder_29 : decode cX1_closeUnder 29 = .ok (.if_icmp .eq 52, 3) := by decide +kernel
theorem dX1_closeUnder_32 : decode cX1_closeUnder 32 = .ok (.aload_n 0, 1) := by decide +kernel
theorem dX1_closeUnder_33 : decode cX1_closeUnder 33 = .ok (.getfield 9, 3) := by decide +kernel
theorem dX1_closeUnder_36 : decode cX1_closeUnder 36 = .ok (.aload_n 0, 1) := by decide +kernel
theorem dX1_closeUnder_37 : decode cX1_closeUnder 37 = .ok (.getfield 9, 3) := by decide +kernel
theorem dX1_closeUnder_40 : decode cX1_closeUnder 40 = .ok (.getfield 43, 3) := by decide +kernel
theorem dX1_closeUnder_43 : decode cX1_closeUnder 43 = .ok (.getfield 199, 3) := by decide +kernel
theorem dX1_closeUnder_46 : decode cX1_closeUnder 46 = .ok (.iload_n 1, 1) := by decide +kernel
theorem dX1_closeUnder_47 : decode cX1_closeUnder 47 = .ok (.bipush 9, 2) := by decide +kernel
theorem dX1_closeUnder_49 : decode cX1_closeUnder 49 = .ok (.invokevirtual 52, 3) := by decide +kernel
theorem dX1_closeUnder_52 : decode cX1_closeUnder 52 = .ok (.iconst 2, 1) := by decide +kernel
theorem dX1_closeUnder_53 : decode cX1_closeUnder 53 = .ok (.invokevirtual 169, 3) := by decide +kernel
theorem dX1_closeUnder_56 : decode cX1_closeUnder 56 = .ok (.istore_n 3, 1) := by decide +kernel
theorem dX1_closeUnder_57 : decode cX1_closeUnder 57 = .ok (.aload_n 0, 1) := by decide +kernel
theorem dX1_closeUnder_58 : decode cX1_closeUnder 58 = .ok (.getfield 9, 3) := by decide +kernel
theorem dX1_closeUnder_61 : decode cX1_closeUnder 61 = .ok (.iload_n 3, 1) := by decide +kernel
theorem dX1_closeUnder_62 : decode cX1_closeUnder 62 = .ok (.aload_n 0, 1) := by decide +kernel
theorem dX1_closeUnder_63 : decode cX1_closeUnder 63 = .ok (.getfield 9, 3) := by decide +kernel
theorem dX1_closeUnder_66 : decode cX1_closeUnder 66 = .ok (.getfield 79, 3) := by decide +kernel
theorem dX1_closeUnder_69 : decode cX1_closeUnder 69 = .ok (.invokevirtual 202, 3) := by decide +kernel
theorem dX1_closeUnder_72 : decode cX1_closeUnder 72 = .ok (.aload_n 0, 1) := by decide +kernel
theorem dX1_closeUnder_73 : decode cX1_closeUnder 73 = .ok (.getfield 9, 3) := by decide +kernel
theorem dX1_closeUnder_76 : decode cX1_closeUnder 76 = .ok (.bipush (-9), 2) := by decide +kernel
theorem dX1_closeUnder_78 : decode cX1_closeUnder 78 = .ok (.putfield 79, 3) := by decide +kernel
theorem dX1_closeUnder_81 : decode cX1_closeUnder 81 = .ok (.return_, 1) := by decide +kernel
set_option maxHeartbeats 8000000 in
set_option maxRecDepth 100000 in
theorem a_M_closeUnder (l : Launch) (D : va_G) (g : Nat → ClassId)   (sz : Nat) (h : Nat) (ma : Nat → Nat) (mi : Nat → Int32) (mr : Nat → Nat) (mf : Nat → Nat → Int32) (wh : Nat) (da : Nat → Nat) (dr : Nat → Nat) (df : Nat → Nat → Int32) (wa : Nat → Nat) (wi : Nat → Int32) (wr : Nat → Nat) (wf : Nat → Nat → Int32) (ph : Nat) (rh : Nat) (la : Nat → Nat) (pa : Nat → Nat) (pr : Nat → Nat) (pf : Nat → Nat → Int32) (ca : Nat → Nat) (ci : Nat → Int32) (cr : Nat → Nat) (cf : Nat → Nat → Int32) (lr : Nat → Nat) (lf : Nat → Nat → Int32) (lmx : Nat) (n1 : Int32) (n2 : Int32) (hw_m : ∀ k, mr k ≤ mcW_lim k) (hw_d : ∀ k, dr k ≤ cdW_lim k) (hw_w : ∀ k, wr k ≤ woW_lim k) (hw_p : ∀ k, pr k ≤ pgW_lim k) (hw_c : ∀ k, cr k ≤ rcW_lim k) (hw_l : ∀ k, lr k ≤ (plW_lim lmx) k) (hmx_l : lmx ≤ 30) : vz_Mv l D (tyG g) yX1_closeUnder cX1_closeUnder 4 3 72 0 0 [.ref h, .int n1, .int n2] sz (vz_w [mcW g h ma mi mr mf wh (da 0) (da 2), cdW g da dr df, woW g wh wa wi wr wf ph rh (la 0), pgW g ph pa pr pf, rcW g rh ca ci cr cf, plW g la lr lf lmx]) (fun u : (Nat → Int32) × (Nat → Nat) × (Nat → Nat → Int32) × (Nat → Int32) × (Nat → Nat) × (Nat → Nat → Int32) => (∀ k, u.2.1 k ≤ woW_lim k) ∧ (∀ k, u.2.2.2.2.1 k ≤ rcW_lim k)) (fun u => vz_w [mcW g h ma mi mr mf wh (da 0) (da 2), cdW g da dr df, woW g wh wa u.1 u.2.1 u.2.2.1 ph rh (la 0), pgW g ph pa pr pf, rcW g rh ca u.2.2.2.1 u.2.2.2.2.1 u.2.2.2.2.2, plW g la lr lf lmx]) := by
  refine vz_svQ (by decide) (Nat.le_of_ble_eq_true rfl) (fun p e s m args below meth c hx hb hr hml hts hown hlk hin hK hsz A hA H locs hP hD hS ls hl Q hQ => ?_)
  have hl : lv_has ls 4 [(0, .ref h), (1, .int n1), (2, .int n2)] := hl
  have J81 : ∀ (wi_81 : Nat → Int32), ∀ (wr_81 : Nat → Nat), ∀ (wf_81 : Nat → Nat → Int32), ∀ (ci_81 : Nat → Int32), ∀ (cr_81 : Nat → Nat), ∀ (cf_81 : Nat → Nat → Int32), (∀ k, wr_81 k ≤ woW_lim k) → (∀ k, cr_81 k ≤ rcW_lim k) → ∀ (H : Heap) (locs : List Loc) (ls : Array Slot), va_P D vwCl (vz_w [mcW g h ma mi mr mf wh (da 0) (da 2), cdW g da dr df, woW g wh wa wi_81 wr_81 wf_81 ph rh (la 0), pgW g ph pa pr pf, rcW g rh ca ci_81 cr_81 cf_81, plW g la lr lf lmx]) H → va_D A (vz_w [mcW g h ma mi mr mf wh (da 0) (da 2), cdW g da dr df, woW g wh wa wi_81 wr_81 wf_81 ph rh (la 0), pgW g ph pa pr pf, rcW g rh ca ci_81 cr_81 cf_81, plW g la lr lf lmx]) → va_S A s.heap H locs → lv_has ls 4 [(0, .ref h), (1, .int n1), (2, .int n2)] → W p l e { frames := 3, cells := 0, slots := 0, locals := 72 } s m args below meth c H locs 0 0 Q (F0 m 81 ls []) := by
    intro wi_81 wr_81 wf_81 ci_81 cr_81 cf_81 hw_w_81 hw_c_81 H locs ls hP hD hS hl
    rw [hQ]
    exact vz_vret3 hx hb hr hlk hK hP hD hS (wi_81, wr_81, wf_81, ci_81, cr_81, cf_81) (⟨hw_w_81, hw_c_81⟩) rfl (Nat.le_refl 0) (Nat.le_refl 0) dX1_closeUnder_81
  refine lv_aload_n hx hb dX1_closeUnder_0 rfl (lv_at hl 0 rfl) ?_
  refine va_get (D := D) (ci := 1) (v := .ref wh) (C := RX1) (T := TX1) (N := 7) hx hb hts inlX1 hown hK hP 0 rfl rfl 0 (by decide) (hts _ q159) (fun _ h => h) rfl dX1_closeUnder_1 ?_
  refine vz_Vi4 (n9 := 6) (bs2 := fun u : (Nat → Int32) => [mcW g h ma mi mr mf wh (da 0) (da 2), cdW g da dr df, woW g wh wa wi wr wf ph rh (la 0), pgW g ph pa pr pf, rcW g rh ca u cr cf, plW g la lr lf lmx]) (br := [mcW g h ma mi mr mf wh (da 0) (da 2), cdW g da dr df]) (As := []) (rest := []) hx hb hml hown hts hK hA hP hD hS (a_W_takeStep l D g H.size wh wa wi wr wf ph rh la pa pr pf ca ci cr cf lr lf lmx hw_w hw_p hw_c hw_l hmx_l) kv_X1_138 ⟨Nat.le_of_ble_eq_true rfl, Nat.le_of_ble_eq_true rfl⟩ (q0 := 7) (ci := 8) rfl rfl rfl [2, 3, 4, 5] [0, 1] rfl (by decide) rfl (fun _ => rfl) (fun _ => rfl) hl.1 (Nat.le_of_ble_eq_true rfl) dX1_closeUnder_4 ⟨Nat.le_refl _, Nat.le_refl _⟩ rfl (fun v2 ci_1 H locs hz3 _ hP hD hS => ?_)
  replace hP : va_P D vwCl (vz_w [mcW g h ma mi mr mf wh (da 0) (da 2), cdW g da dr df, woW g wh wa wi wr wf ph rh (la 0), pgW g ph pa pr pf, rcW g rh ca ci_1 cr cf, plW g la lr lf lmx]) H := hP
  replace hD : va_D A (vz_w [mcW g h ma mi mr mf wh (da 0) (da 2), cdW g da dr df, woW g wh wa wi wr wf ph rh (la 0), pgW g ph pa pr pf, rcW g rh ca ci_1 cr cf, plW g la lr lf lmx]) := hD
  refine lv_if_ne (tgt := 11) hx hb dX1_closeUnder_7 (by decide) (fun kc4 => ?_) (fun kc4 => ?_)
  · refine lv_aload_n hx hb dX1_closeUnder_11 rfl (lv_at hl 0 rfl) ?_
    refine va_get (D := D) (ci := 1) (v := .ref wh) (C := RX1) (T := TX1) (N := 7) hx hb hts inlX1 hown hK hP 0 rfl rfl 0 (by decide) (hts _ q159) (fun _ h => h) rfl dX1_closeUnder_12 ?_
    refine lv_iload_n hx hb dX1_closeUnder_15 rfl (lv_at hl 1 rfl) ?_
    refine lv_iload_n hx hb dX1_closeUnder_16 rfl (lv_at hl 2 rfl) ?_
    refine vz_Vv4 (n9 := 6) (bs2 := fun u : (Nat → Int32) × (Nat → Nat) × (Nat → Nat → Int32) × (Nat → Nat) × (Nat → Nat → Int32) => [mcW g h ma mi mr mf wh (da 0) (da 2), cdW g da dr df, woW g wh wa u.1 u.2.1 u.2.2.1 ph rh (la 0), pgW g ph pa pr pf, rcW g rh ca ci_1 u.2.2.2.1 u.2.2.2.2, plW g la lr lf lmx]) (br := [mcW g h ma mi mr mf wh (da 0) (da 2), cdW g da dr df]) (As := [.int n1, .int n2]) (rest := []) hx hb hml hown hts hK hA hP hD hS (a_W_close l D g H.size wh wa wi wr wf ph rh la pa pr pf ca ci_1 cr cf lr lf lmx n1 n2 hw_w hw_p hw_c hw_l hmx_l) kv_X1_184 ⟨Nat.le_of_ble_eq_true rfl, Nat.le_of_ble_eq_true rfl⟩ (q0 := 7) (ci := 8) rfl rfl rfl [2, 3, 4, 5] [0, 1] rfl (by decide) rfl (fun _ => rfl) (fun _ => rfl) hl.1 (Nat.le_of_ble_eq_true rfl) dX1_closeUnder_17 ⟨Nat.le_refl _, Nat.le_refl _⟩ rfl (fun ⟨wi_5, wr_6, wf_7, cr_8, cf_9⟩ H locs ⟨hw_10, hw_11⟩ _ hP hD hS => ?_)
    try dsimp only at hw_10 hw_11
    replace hP : va_P D vwCl (vz_w [mcW g h ma mi mr mf wh (da 0) (da 2), cdW g da dr df, woW g wh wa wi_5 wr_6 wf_7 ph rh (la 0), pgW g ph pa pr pf, rcW g rh ca ci_1 cr_8 cf_9, plW g la lr lf lmx]) H := hP
    replace hD : va_D A (vz_w [mcW g h ma mi mr mf wh (da 0) (da 2), cdW g da dr df, woW g wh wa wi_5 wr_6 wf_7 ph rh (la 0), pgW g ph pa pr pf, rcW g rh ca ci_1 cr_8 cf_9, plW g la lr lf lmx]) := hD
    refine lv_aload_n hx hb dX1_closeUnder_20 rfl (lv_at hl 0 rfl) ?_
    refine va_get (D := D) (ci := 1) (v := .ref wh) (C := RX1) (T := TX1) (N := 7) hx hb hts inlX1 hown hK hP 0 rfl rfl 0 (by decide) (hts _ q159) (fun _ h => h) rfl dX1_closeUnder_21 ?_
    refine va_get (D := D) (ci := 8) (v := .int (wi_5 1)) (C := RX8) (T := TX8) (N := 11) hx hb hts inlX8 hown hK hP 7 rfl rfl 9 (by decide) (hts _ q1269) (fun _ h => h) rfl dX1_closeUnder_24 ?_
    refine lv_bipush (v := (-9)) hx hb dX1_closeUnder_27 (by decide) ?_
    refine lv_icmp_eq (tgt := 81) hx hb dX1_closeUnder_29 (by decide) (fun kc12 => ?_) (fun kc12 => ?_)
    · exact J81 wi_5 wr_6 wf_7 ci_1 cr_8 cf_9 hw_10 hw_11 H locs ls hP hD hS (lv_sub hl [0, 1, 2] rfl)
    · refine lv_aload_n hx hb dX1_closeUnder_32 rfl (lv_at hl 0 rfl) ?_
      refine va_get (D := D) (ci := 1) (v := .ref wh) (C := RX1) (T := TX1) (N := 7) hx hb hts inlX1 hown hK hP 0 rfl rfl 0 (by decide) (hts _ q159) (fun _ h => h) rfl dX1_closeUnder_33 ?_
      refine lv_aload_n hx hb dX1_closeUnder_36 rfl (lv_at hl 0 rfl) ?_
      refine va_get (D := D) (ci := 1) (v := .ref wh) (C := RX1) (T := TX1) (N := 7) hx hb hts inlX1 hown hK hP 0 rfl rfl 0 (by decide) (hts _ q159) (fun _ h => h) rfl dX1_closeUnder_37 ?_
      refine va_get (D := D) (ci := 8) (v := .ref ph) (C := RX8) (T := TX8) (N := 11) hx hb hts inlX8 hown hK hP 7 rfl rfl 5 (by decide) (hts _ q1264) (fun _ h => h) rfl dX1_closeUnder_40 ?_
      refine va_get (D := D) (ci := 2) (v := .ref (pa 0)) (C := RX2) (T := TX2) (N := 5) hx hb hts inlX2 hown hK hP 18 rfl rfl 0 (by decide) (hts _ q1343) (fun _ h => h) rfl dX1_closeUnder_43 ?_
      refine lv_iload_n hx hb dX1_closeUnder_46 rfl (lv_at hl 1 rfl) ?_
      refine lv_bipush (v := 9) hx hb dX1_closeUnder_47 (by decide) ?_
      refine vz_Vi2 (ws' := fun u : Unit => vz_w [mcW g h ma mi mr mf wh (da 0) (da 2), cdW g da dr df, woW g wh wa wi_5 wr_6 wf_7 ph rh (la 0), pgW g ph pa pr pf, rcW g rh ca ci_1 cr_8 cf_9, plW g la lr lf lmx]) (As := [.int n1, .int 9]) (rest := [.ref wh]) hx hb hml hown hts hK hA hP hD hS (c_T_get l D g (pa 0) (pa 1) H.size 12 80 (pr 0) 960 (pf 0) n1 9 ⟨rfl, by decide, by decide, by decide, by decide, hw_p 0⟩) kv_X1_52 ⟨Nat.le_of_ble_eq_true rfl, Nat.le_of_ble_eq_true rfl⟩ (q0 := 19) (ci := 6) rfl rfl rfl [19, 20] rfl (by decide) (fun _ => rfl) (fun _ => rfl) hl.1 (Nat.le_of_ble_eq_true rfl) dX1_closeUnder_49 ⟨Nat.le_refl _, Nat.le_refl _⟩ rfl (fun v13 _ H locs he14 _ hP hD hS => ?_)
      refine lv_iconst (v := 2) hx hb dX1_closeUnder_52 (by decide) ?_
      refine vz_Vi4 (n9 := 6) (bs2 := fun u : Unit => [mcW g h ma mi mr mf wh (da 0) (da 2), cdW g da dr df, woW g wh wa wi_5 wr_6 wf_7 ph rh (la 0), pgW g ph pa pr pf, rcW g rh ca ci_1 cr_8 cf_9, plW g la lr lf lmx]) (br := [mcW g h ma mi mr mf wh (da 0) (da 2), cdW g da dr df]) (As := [.int v13, .int 2]) (rest := []) hx hb hml hown hts hK hA hP hD hS (a_W_slot l D g H.size wh wa wi_5 wr_6 wf_7 ph rh la pa pr pf ca ci_1 cr_8 cf_9 lr lf lmx v13 2 hw_10 hw_p hw_11 hw_l hmx_l) kv_X1_169 ⟨Nat.le_of_ble_eq_true rfl, Nat.le_of_ble_eq_true rfl⟩ (q0 := 7) (ci := 8) rfl rfl rfl [2, 3, 4, 5] [0, 1] rfl (by decide) rfl (fun _ => rfl) (fun _ => rfl) hl.1 (Nat.le_of_ble_eq_true rfl) dX1_closeUnder_53 ⟨Nat.le_refl _, Nat.le_refl _⟩ rfl (fun v15 _ H locs _ _ hP hD hS => ?_)
      refine lv_istore_n (lv' := [(3, .int v15), (0, .ref h), (1, .int n1), (2, .int n2)]) hx hb dX1_closeUnder_56 rfl hl (by decide) rfl (fun ls hl => ?_)
      refine lv_aload_n hx hb dX1_closeUnder_57 rfl (lv_at hl 1 rfl) ?_
      refine va_get (D := D) (ci := 1) (v := .ref wh) (C := RX1) (T := TX1) (N := 7) hx hb hts inlX1 hown hK hP 0 rfl rfl 0 (by decide) (hts _ q159) (fun _ h => h) rfl dX1_closeUnder_58 ?_
      refine lv_iload_n hx hb dX1_closeUnder_61 rfl (lv_at hl 0 rfl) ?_
      refine lv_aload_n hx hb dX1_closeUnder_62 rfl (lv_at hl 1 rfl) ?_
      refine va_get (D := D) (ci := 1) (v := .ref wh) (C := RX1) (T := TX1) (N := 7) hx hb hts inlX1 hown hK hP 0 rfl rfl 0 (by decide) (hts _ q159) (fun _ h => h) rfl dX1_closeUnder_63 ?_
      refine va_get (D := D) (ci := 8) (v := .int (wi_5 1)) (C := RX8) (T := TX8) (N := 11) hx hb hts inlX8 hown hK hP 7 rfl rfl 9 (by decide) (hts _ q1269) (fun _ h => h) rfl dX1_closeUnder_66 ?_
      refine vz_Vv4 (n9 := 6) (bs2 := fun u : (Nat → Nat → Int32) => [mcW g h ma mi mr mf wh (da 0) (da 2), cdW g da dr df, woW g wh wa wi_5 wr_6 wf_7 ph rh (la 0), pgW g ph pa pr pf, rcW g rh ca ci_1 cr_8 u, plW g la lr lf lmx]) (br := [mcW g h ma mi mr mf wh (da 0) (da 2), cdW g da dr df]) (As := [.int v15, .int (wi_5 1)]) (rest := []) hx hb hml hown hts hK hA hP hD hS (a_W_suppress l D g H.size wh wa wi_5 wr_6 wf_7 ph rh la pa pr pf ca ci_1 cr_8 cf_9 lr lf lmx v15 (wi_5 1) hw_10 hw_p hw_11 hw_l hmx_l) kv_X1_202 ⟨Nat.le_of_ble_eq_true rfl, Nat.le_of_ble_eq_true rfl⟩ (q0 := 7) (ci := 8) rfl rfl rfl [2, 3, 4, 5] [0, 1] rfl (by decide) rfl (fun _ => rfl) (fun _ => rfl) hl.1 (Nat.le_of_ble_eq_true rfl) dX1_closeUnder_69 ⟨Nat.le_refl _, Nat.le_refl _⟩ rfl (fun cf_16 H locs _ _ hP hD hS => ?_)
      replace hP : va_P D vwCl (vz_w [mcW g h ma mi mr mf wh (da 0) (da 2), cdW g da dr df, woW g wh wa wi_5 wr_6 wf_7 ph rh (la 0), pgW g ph pa pr pf, rcW g rh ca ci_1 cr_8 cf_16, plW g la lr lf lmx]) H := hP
      replace hD : va_D A (vz_w [mcW g h ma mi mr mf wh (da 0) (da 2), cdW g da dr df, woW g wh wa wi_5 wr_6 wf_7 ph rh (la 0), pgW g ph pa pr pf, rcW g rh ca ci_1 cr_8 cf_16, plW g la lr lf lmx]) := hD
      refine lv_aload_n hx hb dX1_closeUnder_72 rfl (lv_at hl 1 rfl) ?_
      refine va_get (D := D) (ci := 1) (v := .ref wh) (C := RX1) (T := TX1) (N := 7) hx hb hts inlX1 hown hK hP 0 rfl rfl 0 (by decide) (hts _ q159) (fun _ h => h) rfl dX1_closeUnder_73 ?_
      refine lv_bipush (v := (-9)) hx hb dX1_closeUnder_76 (by decide) ?_
      refine va_put (D := D) (ci := 8) (v := .int (-9)) (ty := .int) (C := RX8) (T := TX8) (N := 11) hx hb hts inlX8 tyX8 tyX8_ok nmX8 hown hK hP hD hS 7 rfl rfl 9 (by decide) (hts _ q1269) (fun _ h => h) rfl (by decide +kernel) rfl rfl (Nat.le_of_ble_eq_true rfl) dX1_closeUnder_78 (fun H locs hP hD hS => ?_)
      obtain ⟨wi_17, hwi_17, hP, hD⟩ : ∃ wi_17 : Nat → Int32, (wi_17 = (upd wi_5 1 (-9))) ∧ va_P D vwCl (vz_w [mcW g h ma mi mr mf wh (da 0) (da 2), cdW g da dr df, woW g wh wa wi_17 wr_6 wf_7 ph rh (la 0), pgW g ph pa pr pf, rcW g rh ca ci_1 cr_8 cf_16, plW g la lr lf lmx]) H ∧ va_D A (vz_w [mcW g h ma mi mr mf wh (da 0) (da 2), cdW g da dr df, woW g wh wa wi_17 wr_6 wf_7 ph rh (la 0), pgW g ph pa pr pf, rcW g rh ca ci_1 cr_8 cf_16, plW g la lr lf lmx]) := ⟨(upd wi_5 1 (-9)), rfl, hP, hD⟩
      exact J81 wi_17 wr_6 wf_7 ci_1 cr_8 cf_16 hw_10 hw_11 H locs ls hP hD hS (lv_sub hl [1, 2, 3] rfl)
  · rw [hQ]
    exact vz_vret3 hx hb hr hlk hK hP hD hS (wi, wr, wf, ci_1, cr, cf) (⟨hw_w, hw_c⟩) rfl (Nat.le_refl 0) (Nat.le_refl 0) dX1_closeUnder_10
theorem q1293 : Cond.methodLink RX1 134 yX8_apply ∈ wsL_law := mT_5 (List.mem_of_getElem? (i := 193) rfl) rfl
theorem kv_X1_134 : vz_cv RX1 134 yX8_apply cX8_apply 4 (some .int) 3 := ⟨q1293, q1117, q1118, q47, q1119, by decide +kernel⟩
theorem q1278 : Cond.methodLink RX1 121 yX1_push ∈ wsL_law := mT_5 (List.mem_of_getElem? (i := 179) rfl) rfl
theorem q1279 : Cond.instanceMethod yX1_push ∈ wsL_law := mT_5 (List.mem_of_getElem? (i := 181) rfl) rfl
theorem q1280 : Cond.selects RX1 yX1_push yX1_push ∈ wsL_law := mS_6 (q := (yX1_push, 7)) (List.mem_of_getElem? (i := 9) rfl) rfl
theorem q1281 : Cond.code yX1_push cX1_push 2 none ∈ wsL_law := mT_5 (List.mem_of_getElem? (i := 182) rfl) rfl
theorem kv_X1_121 : vz_cv RX1 121 yX1_push cX1_push 2 none 1 := ⟨q1278, q1279, q1280, q55, q1281, by decide +kernel⟩
theorem q1292 : Cond.methodLink RX1 131 yX8_size ∈ wsL_law := mT_5 (List.mem_of_getElem? (i := 192) rfl) rfl
theorem kv_X1_131 : vz_cv RX1 131 yX8_size cX8_size 3 (some .int) 1 := ⟨q1292, q1096, q1097, q47, q1098, by decide +kernel⟩
theorem q1291 : Cond.methodLink RX1 128 yX8_element ∈ wsL_law := mT_5 (List.mem_of_getElem? (i := 191) rfl) rfl
theorem kv_X1_128 : vz_cv RX1 128 yX8_element cX8_element 5 (some .int) 2 := ⟨q1291, q1108, q1109, q47, q1110, by decide +kernel⟩
theorem dX1_evaluate_0 : decode cX1_evaluate 0 = .ok (.iload_n 1, 1) := by decide +kernel
theorem dX1_evaluate_1 : decode cX1_evaluate 1 = .ok (.tableswitch 106 0 4 #[35, 43, 60, 79, 94], 35) := by decide +kernel
theorem dX1_evaluate_36 : decode cX1_evaluate 36 = .ok (.aload_n 0, 1) := by decide +kernel
theorem dX1_evaluate_37 : decode cX1_evaluate 37 = .ok (.iload_n 2, 1) := by decide +kernel
theorem dX1_evaluate_38 : decode cX1_evaluate 38 = .ok (.invokevirtual 121, 3) := by decide +kernel
theorem dX1_evaluate_41 : decode cX1_evaluate 41 = .ok (.goto 92, 3) := by decide +kernel
theorem dX1_evaluate_44 : decode cX1_evaluate 44 = .ok (.aload_n 0, 1) := by decide +kernel
theorem dX1_evaluate_45 : decode cX1_evaluate 45 = .ok (.aload_n 0, 1) := by decide +kernel
theorem dX1_evaluate_46 : decode cX1_evaluate 46 = .ok (.getfield 9, 3) := by decide +kernel
theorem dX1_evaluate_49 : decode cX1_evaluate 49 = .ok (.iconst 3, 1) := by decide +kernel
theorem dX1_evaluate_50 : decode cX1_evaluate 50 = .ok (.iload_n 2, 1) := by decide +kernel
theorem dX1_evaluate_51 : decode cX1_evaluate 51 = .ok (.iadd, 1) := by decide +kernel
theorem dX1_evaluate_52 : decode cX1_evaluate 52 = .ok (.invokevirtual 114, 3) := by decide +kernel
theorem dX1_evaluate_55 : decode cX1_evaluate 55 = .ok (.invokevirtual 121, 3) := by decide +kernel
theorem dX1_evaluate_58 : decode cX1_evaluate 58 = .ok (.goto 75, 3) := by decide +kernel
theorem dX1_evaluate_61 : decode cX1_evaluate 61 = .ok (.aload_n 0, 1) := by decide +kernel
theorem dX1_evaluate_62 : decode cX1_evaluate 62 = .ok (.aload_n 0, 1) := by decide +kernel
theorem dX1_evaluate_63 : decode cX1_evaluate 63 = .ok (.getfield 9, 3) := by decide +kernel
theorem dX1_evaluate_66 : decode cX1_evaluate 66 = .ok (.iload_n 2, 1) := by decide +kernel
theorem dX1_evaluate_67 : decode cX1_evaluate 67 = .ok (.aload_n 0, 1) := by decide +kernel
theorem dX1_evaluate_68 : decode cX1_evaluate 68 = .ok (.invokevirtual 125, 3) := by decide +kernel
theorem dX1_evaluate_71 : decode cX1_evaluate 71 = .ok (.invokevirtual 128, 3) := by decide +kernel
theorem dX1_evaluate_74 : decode cX1_evaluate 74 = .ok (.invokevirtual 121, 3) := by decide +kernel
theorem dX1_evaluate_77 : decode cX1_evaluate 77 = .ok (.goto 56, 3) := by decide +kernel
theorem dX1_evaluate_80 : decode cX1_evaluate 80 = .ok (.aload_n 0, 1) := by decide +kernel
theorem dX1_evaluate_81 : decode cX1_evaluate 81 = .ok (.aload_n 0, 1) := by decide +kernel
theorem dX1_evaluate_82 : decode cX1_evaluate 82 = .ok (.getfield 9, 3) := by decide +kernel
theorem dX1_evaluate_85 : decode cX1_evaluate 85 = .ok (.iload_n 2, 1) := by decide +kernel
theorem dX1_evaluate_86 : decode cX1_evaluate 86 = .ok (.invokevirtual 131, 3) := by decide +kernel
theorem dX1_evaluate_89 : decode cX1_evaluate 89 = .ok (.invokevirtual 121, 3) := by decide +kernel
theorem dX1_evaluate_92 : decode cX1_evaluate 92 = .ok (.goto 41, 3) := by decide +kernel
theorem dX1_evaluate_95 : decode cX1_evaluate 95 = .ok (.aload_n 0, 1) := by decide +kernel
theorem dX1_evaluate_96 : decode cX1_evaluate 96 = .ok (.aload_n 0, 1) := by decide +kernel
theorem dX1_evaluate_97 : decode cX1_evaluate 97 = .ok (.invokevirtual 125, 3) := by decide +kernel
theorem dX1_evaluate_100 : decode cX1_evaluate 100 = .ok (.ineg, 1) := by decide +kernel
theorem dX1_evaluate_101 : decode cX1_evaluate 101 = .ok (.invokevirtual 121, 3) := by decide +kernel
theorem dX1_evaluate_104 : decode cX1_evaluate 104 = .ok (.goto 29, 3) := by decide +kernel
theorem dX1_evaluate_107 : decode cX1_evaluate 107 = .ok (.aload_n 0, 1) := by decide +kernel
theorem dX1_evaluate_108 : decode cX1_evaluate 108 = .ok (.invokevirtual 125, 3) := by decide +kernel
theorem dX1_evaluate_111 : decode cX1_evaluate 111 = .ok (.istore_n 3, 1) := by decide +kernel
theorem dX1_evaluate_112 : decode cX1_evaluate 112 = .ok (.aload_n 0, 1) := by decide +kernel
theorem dX1_evaluate_113 : decode cX1_evaluate 113 = .ok (.invokevirtual 125, 3) := by decide +kernel
theorem dX1_evaluate_116 : decode cX1_evaluate 116 = .ok (.istore 4, 2) := by decide +kernel
theorem dX1_evaluate_118 : decode cX1_evaluate 118 = .ok (.aload_n 0, 1) := by decide +kernel
theorem dX1_evaluate_119 : decode cX1_evaluate 119 = .ok (.aload_n 0, 1) := by decide +kernel
theorem dX1_evaluate_120 : decode cX1_evaluate 120 = .ok (.getfield 9, 3) := by decide +kernel
theorem dX1_evaluate_123 : decode cX1_evaluate 123 = .ok (.iload_n 2, 1) := by decide +kernel
theorem dX1_evaluate_124 : decode cX1_evaluate 124 = .ok (.iload 4, 2) := by decide +kernel
theorem dX1_evaluate_126 : decode cX1_evaluate 126 = .ok (.iload_n 3, 1) := by decide +kernel
theorem dX1_evaluate_127 : decode cX1_evaluate 127 = .ok (.invokevirtual 134, 3) := by decide +kernel
theorem dX1_evaluate_130 : decode cX1_evaluate 130 = .ok (.invokevirtual 121, 3) := by decide +kernel
theorem dX1_evaluate_133 : decode cX1_evaluate 133 = .ok (.return_, 1) := by decide +kernel
set_option maxHeartbeats 8000000 in
set_option maxRecDepth 100000 in
theorem a_M_evaluate (l : Launch) (D : va_G) (g : Nat → ClassId)   (sz : Nat) (h : Nat) (ma : Nat → Nat) (mi : Nat → Int32) (mr : Nat → Nat) (mf : Nat → Nat → Int32) (wh : Nat) (da : Nat → Nat) (dr : Nat → Nat) (df : Nat → Nat → Int32) (wa : Nat → Nat) (wi : Nat → Int32) (wr : Nat → Nat) (wf : Nat → Nat → Int32) (ph : Nat) (rh : Nat) (la : Nat → Nat) (pa : Nat → Nat) (pr : Nat → Nat) (pf : Nat → Nat → Int32) (ca : Nat → Nat) (ci : Nat → Int32) (cr : Nat → Nat) (cf : Nat → Nat → Int32) (lr : Nat → Nat) (lf : Nat → Nat → Int32) (lmx : Nat) (n1 : Int32) (n2 : Int32) (hw_m : ∀ k, mr k ≤ mcW_lim k) (hw_d : ∀ k, dr k ≤ cdW_lim k) (hw_w : ∀ k, wr k ≤ woW_lim k) (hw_p : ∀ k, pr k ≤ pgW_lim k) (hw_c : ∀ k, cr k ≤ rcW_lim k) (hw_l : ∀ k, lr k ≤ (plW_lim lmx) k) (hmx_l : lmx ≤ 30) : vz_Mv l D (tyG g) yX1_evaluate cX1_evaluate 5 3 72 0 0 [.ref h, .int n1, .int n2] sz (vz_w [mcW g h ma mi mr mf wh (da 0) (da 2), cdW g da dr df, woW g wh wa wi wr wf ph rh (la 0), pgW g ph pa pr pf, rcW g rh ca ci cr cf, plW g la lr lf lmx]) (fun u : (Nat → Nat) × (Nat → Nat → Int32) × (Nat → Int32) × (Nat → Nat) × (Nat → Nat → Int32) => (∀ k, u.1 k ≤ mcW_lim k) ∧ (∀ k, u.2.2.2.1 k ≤ rcW_lim k)) (fun u => vz_w [mcW g h ma mi u.1 u.2.1 wh (da 0) (da 2), cdW g da dr df, woW g wh wa u.2.2.1 wr wf ph rh (la 0), pgW g ph pa pr pf, rcW g rh ca ci u.2.2.2.1 u.2.2.2.2, plW g la lr lf lmx]) := by
  refine vz_svQ (by decide) (Nat.le_of_ble_eq_true rfl) (fun p e s m args below meth c hx hb hr hml hts hown hlk hin hK hsz A hA H locs hP hD hS ls hl Q hQ => ?_)
  have hl : lv_has ls 5 [(0, .ref h), (1, .int n1), (2, .int n2)] := hl
  have J133 : ∀ (mr_133 : Nat → Nat), ∀ (mf_133 : Nat → Nat → Int32), ∀ (wi_133 : Nat → Int32), ∀ (cr_133 : Nat → Nat), ∀ (cf_133 : Nat → Nat → Int32), (∀ k, mr_133 k ≤ mcW_lim k) → (∀ k, cr_133 k ≤ rcW_lim k) → ∀ (H : Heap) (locs : List Loc) (ls : Array Slot), va_P D vwCl (vz_w [mcW g h ma mi mr_133 mf_133 wh (da 0) (da 2), cdW g da dr df, woW g wh wa wi_133 wr wf ph rh (la 0), pgW g ph pa pr pf, rcW g rh ca ci cr_133 cf_133, plW g la lr lf lmx]) H → va_D A (vz_w [mcW g h ma mi mr_133 mf_133 wh (da 0) (da 2), cdW g da dr df, woW g wh wa wi_133 wr wf ph rh (la 0), pgW g ph pa pr pf, rcW g rh ca ci cr_133 cf_133, plW g la lr lf lmx]) → va_S A s.heap H locs → lv_has ls 5 [(0, .ref h), (1, .int n1), (2, .int n2)] → W p l e { frames := 3, cells := 0, slots := 0, locals := 72 } s m args below meth c H locs 0 0 Q (F0 m 133 ls []) := by
    intro mr_133 mf_133 wi_133 cr_133 cf_133 hw_m_133 hw_c_133 H locs ls hP hD hS hl
    rw [hQ]
    exact vz_vret3 hx hb hr hlk hK hP hD hS (mr_133, mf_133, wi_133, cr_133, cf_133) (⟨hw_m_133, hw_c_133⟩) rfl (Nat.le_refl 0) (Nat.le_refl 0) dX1_evaluate_133
  refine lv_iload_n hx hb dX1_evaluate_0 rfl (lv_at hl 1 rfl) ?_
  have S1_36 : W p l e { frames := 3, cells := 0, slots := 0, locals := 72 } s m args below meth c H locs 0 0 Q (F0 m 36 ls []) := by
    refine lv_aload_n hx hb dX1_evaluate_36 rfl (lv_at hl 0 rfl) ?_
    refine lv_iload_n hx hb dX1_evaluate_37 rfl (lv_at hl 2 rfl) ?_
    refine vz_Vv3 (As := [.int n2]) (rest := []) hx hb hml hown hts hK hA hP hD hS (a_M_push l D g H.size h ma mi mr mf wh da dr df wa wi wr wf ph rh la pa pr pf ca ci cr cf lr lf lmx n2 hw_m hw_d hw_w hw_p hw_c hw_l hmx_l) kv_X1_121 ⟨Nat.le_of_ble_eq_true rfl, Nat.le_of_ble_eq_true rfl⟩ (q0 := 0) (ci := 1) rfl rfl rfl  hl.1 (Nat.le_of_ble_eq_true rfl) dX1_evaluate_38 ⟨Nat.le_refl _, Nat.le_refl _⟩ rfl (fun ⟨mr_1, mf_2⟩ H locs hw_3 _ hP hD hS => ?_)
    try dsimp only at hw_3
    replace hP : va_P D vwCl (vz_w [mcW g h ma mi mr_1 mf_2 wh (da 0) (da 2), cdW g da dr df, woW g wh wa wi wr wf ph rh (la 0), pgW g ph pa pr pf, rcW g rh ca ci cr cf, plW g la lr lf lmx]) H := hP
    replace hD : va_D A (vz_w [mcW g h ma mi mr_1 mf_2 wh (da 0) (da 2), cdW g da dr df, woW g wh wa wi wr wf ph rh (la 0), pgW g ph pa pr pf, rcW g rh ca ci cr cf, plW g la lr lf lmx]) := hD
    refine lv_goto (tgt := 133) hx hb dX1_evaluate_41 (by decide) ?_
    exact J133 mr_1 mf_2 wi cr cf hw_3 hw_c H locs ls hP hD hS (lv_sub hl [0, 1, 2] rfl)
  have S1_44 : W p l e { frames := 3, cells := 0, slots := 0, locals := 72 } s m args below meth c H locs 0 0 Q (F0 m 44 ls []) := by
    refine lv_aload_n hx hb dX1_evaluate_44 rfl (lv_at hl 0 rfl) ?_
    refine lv_aload_n hx hb dX1_evaluate_45 rfl (lv_at hl 0 rfl) ?_
    refine va_get (D := D) (ci := 1) (v := .ref wh) (C := RX1) (T := TX1) (N := 7) hx hb hts inlX1 hown hK hP 0 rfl rfl 0 (by decide) (hts _ q159) (fun _ h => h) rfl dX1_evaluate_46 ?_
    refine lv_iconst (v := 3) hx hb dX1_evaluate_49 (by decide) ?_
    refine lv_iload_n hx hb dX1_evaluate_50 rfl (lv_at hl 2 rfl) ?_
    refine lv_iadd hx hb dX1_evaluate_51 ?_
    refine vz_Vi4 (n9 := 6) (bs2 := fun u : Unit => [mcW g h ma mi mr mf wh (da 0) (da 2), cdW g da dr df, woW g wh wa wi wr wf ph rh (la 0), pgW g ph pa pr pf, rcW g rh ca ci cr cf, plW g la lr lf lmx]) (br := [mcW g h ma mi mr mf wh (da 0) (da 2), cdW g da dr df]) (As := [.int (3 + n2)]) (rest := [.ref h]) hx hb hml hown hts hK hA hP hD hS (a_W_now l D g H.size wh wa wi wr wf ph rh la pa pr pf ca ci cr cf lr lf lmx (3 + n2) hw_w hw_p hw_c hw_l hmx_l) kv_X1_114 ⟨Nat.le_of_ble_eq_true rfl, Nat.le_of_ble_eq_true rfl⟩ (q0 := 7) (ci := 8) rfl rfl rfl [2, 3, 4, 5] [0, 1] rfl (by decide) rfl (fun _ => rfl) (fun _ => rfl) hl.1 (Nat.le_of_ble_eq_true rfl) dX1_evaluate_52 ⟨Nat.le_refl _, Nat.le_refl _⟩ rfl (fun v4 _ H locs _ _ hP hD hS => ?_)
    refine vz_Vv3 (As := [.int v4]) (rest := []) hx hb hml hown hts hK hA hP hD hS (a_M_push l D g H.size h ma mi mr mf wh da dr df wa wi wr wf ph rh la pa pr pf ca ci cr cf lr lf lmx v4 hw_m hw_d hw_w hw_p hw_c hw_l hmx_l) kv_X1_121 ⟨Nat.le_of_ble_eq_true rfl, Nat.le_of_ble_eq_true rfl⟩ (q0 := 0) (ci := 1) rfl rfl rfl  hl.1 (Nat.le_of_ble_eq_true rfl) dX1_evaluate_55 ⟨Nat.le_refl _, Nat.le_refl _⟩ rfl (fun ⟨mr_5, mf_6⟩ H locs hw_7 _ hP hD hS => ?_)
    try dsimp only at hw_7
    replace hP : va_P D vwCl (vz_w [mcW g h ma mi mr_5 mf_6 wh (da 0) (da 2), cdW g da dr df, woW g wh wa wi wr wf ph rh (la 0), pgW g ph pa pr pf, rcW g rh ca ci cr cf, plW g la lr lf lmx]) H := hP
    replace hD : va_D A (vz_w [mcW g h ma mi mr_5 mf_6 wh (da 0) (da 2), cdW g da dr df, woW g wh wa wi wr wf ph rh (la 0), pgW g ph pa pr pf, rcW g rh ca ci cr cf, plW g la lr lf lmx]) := hD
    refine lv_goto (tgt := 133) hx hb dX1_evaluate_58 (by decide) ?_
    exact J133 mr_5 mf_6 wi cr cf hw_7 hw_c H locs ls hP hD hS (lv_sub hl [0, 1, 2] rfl)
  have S1_61 : W p l e { frames := 3, cells := 0, slots := 0, locals := 72 } s m args below meth c H locs 0 0 Q (F0 m 61 ls []) := by
    refine lv_aload_n hx hb dX1_evaluate_61 rfl (lv_at hl 0 rfl) ?_
    refine lv_aload_n hx hb dX1_evaluate_62 rfl (lv_at hl 0 rfl) ?_
    refine va_get (D := D) (ci := 1) (v := .ref wh) (C := RX1) (T := TX1) (N := 7) hx hb hts inlX1 hown hK hP 0 rfl rfl 0 (by decide) (hts _ q159) (fun _ h => h) rfl dX1_evaluate_63 ?_
    refine lv_iload_n hx hb dX1_evaluate_66 rfl (lv_at hl 2 rfl) ?_
    refine lv_aload_n hx hb dX1_evaluate_67 rfl (lv_at hl 0 rfl) ?_
    refine vz_Vi3 (As := []) (rest := [.int n2, .ref wh, .ref h]) hx hb hml hown hts hK hA hP hD hS (a_M_pop l D g H.size h ma mi mr mf wh da dr df wa wi wr wf ph rh la pa pr pf ca ci cr cf lr lf lmx hw_m hw_d hw_w hw_p hw_c hw_l hmx_l) kv_X1_125 ⟨Nat.le_of_ble_eq_true rfl, Nat.le_of_ble_eq_true rfl⟩ (q0 := 0) (ci := 1) rfl rfl rfl  hl.1 (Nat.le_of_ble_eq_true rfl) dX1_evaluate_68 ⟨Nat.le_refl _, Nat.le_refl _⟩ rfl (fun v10 mr_8 H locs hw_9 _ hP hD hS => ?_)
    try dsimp only at hw_9
    replace hP : va_P D vwCl (vz_w [mcW g h ma mi mr_8 mf wh (da 0) (da 2), cdW g da dr df, woW g wh wa wi wr wf ph rh (la 0), pgW g ph pa pr pf, rcW g rh ca ci cr cf, plW g la lr lf lmx]) H := hP
    replace hD : va_D A (vz_w [mcW g h ma mi mr_8 mf wh (da 0) (da 2), cdW g da dr df, woW g wh wa wi wr wf ph rh (la 0), pgW g ph pa pr pf, rcW g rh ca ci cr cf, plW g la lr lf lmx]) := hD
    refine vz_Vi4 (n9 := 6) (bs2 := fun u : (Nat → Int32) × (Nat → Nat) × (Nat → Nat → Int32) => [mcW g h ma mi mr_8 mf wh (da 0) (da 2), cdW g da dr df, woW g wh wa u.1 wr wf ph rh (la 0), pgW g ph pa pr pf, rcW g rh ca ci u.2.1 u.2.2, plW g la lr lf lmx]) (br := [mcW g h ma mi mr_8 mf wh (da 0) (da 2), cdW g da dr df]) (As := [.int n2, .int v10]) (rest := [.ref h]) hx hb hml hown hts hK hA hP hD hS (a_W_element l D g H.size wh wa wi wr wf ph rh la pa pr pf ca ci cr cf lr lf lmx n2 v10 hw_w hw_p hw_c hw_l hmx_l) kv_X1_128 ⟨Nat.le_of_ble_eq_true rfl, Nat.le_of_ble_eq_true rfl⟩ (q0 := 7) (ci := 8) rfl rfl rfl [2, 3, 4, 5] [0, 1] rfl (by decide) rfl (fun _ => rfl) (fun _ => rfl) hl.1 (Nat.le_of_ble_eq_true rfl) dX1_evaluate_71 ⟨Nat.le_refl _, Nat.le_refl _⟩ rfl (fun v15 ⟨wi_11, cr_12, cf_13⟩ H locs hw_14 _ hP hD hS => ?_)
    try dsimp only at hw_14
    replace hP : va_P D vwCl (vz_w [mcW g h ma mi mr_8 mf wh (da 0) (da 2), cdW g da dr df, woW g wh wa wi_11 wr wf ph rh (la 0), pgW g ph pa pr pf, rcW g rh ca ci cr_12 cf_13, plW g la lr lf lmx]) H := hP
    replace hD : va_D A (vz_w [mcW g h ma mi mr_8 mf wh (da 0) (da 2), cdW g da dr df, woW g wh wa wi_11 wr wf ph rh (la 0), pgW g ph pa pr pf, rcW g rh ca ci cr_12 cf_13, plW g la lr lf lmx]) := hD
    refine vz_Vv3 (As := [.int v15]) (rest := []) hx hb hml hown hts hK hA hP hD hS (a_M_push l D g H.size h ma mi mr_8 mf wh da dr df wa wi_11 wr wf ph rh la pa pr pf ca ci cr_12 cf_13 lr lf lmx v15 hw_9 hw_d hw_w hw_p hw_14 hw_l hmx_l) kv_X1_121 ⟨Nat.le_of_ble_eq_true rfl, Nat.le_of_ble_eq_true rfl⟩ (q0 := 0) (ci := 1) rfl rfl rfl  hl.1 (Nat.le_of_ble_eq_true rfl) dX1_evaluate_74 ⟨Nat.le_refl _, Nat.le_refl _⟩ rfl (fun ⟨mr_16, mf_17⟩ H locs hw_18 _ hP hD hS => ?_)
    try dsimp only at hw_18
    replace hP : va_P D vwCl (vz_w [mcW g h ma mi mr_16 mf_17 wh (da 0) (da 2), cdW g da dr df, woW g wh wa wi_11 wr wf ph rh (la 0), pgW g ph pa pr pf, rcW g rh ca ci cr_12 cf_13, plW g la lr lf lmx]) H := hP
    replace hD : va_D A (vz_w [mcW g h ma mi mr_16 mf_17 wh (da 0) (da 2), cdW g da dr df, woW g wh wa wi_11 wr wf ph rh (la 0), pgW g ph pa pr pf, rcW g rh ca ci cr_12 cf_13, plW g la lr lf lmx]) := hD
    refine lv_goto (tgt := 133) hx hb dX1_evaluate_77 (by decide) ?_
    exact J133 mr_16 mf_17 wi_11 cr_12 cf_13 hw_18 hw_14 H locs ls hP hD hS (lv_sub hl [0, 1, 2] rfl)
  have S1_80 : W p l e { frames := 3, cells := 0, slots := 0, locals := 72 } s m args below meth c H locs 0 0 Q (F0 m 80 ls []) := by
    refine lv_aload_n hx hb dX1_evaluate_80 rfl (lv_at hl 0 rfl) ?_
    refine lv_aload_n hx hb dX1_evaluate_81 rfl (lv_at hl 0 rfl) ?_
    refine va_get (D := D) (ci := 1) (v := .ref wh) (C := RX1) (T := TX1) (N := 7) hx hb hts inlX1 hown hK hP 0 rfl rfl 0 (by decide) (hts _ q159) (fun _ h => h) rfl dX1_evaluate_82 ?_
    refine lv_iload_n hx hb dX1_evaluate_85 rfl (lv_at hl 2 rfl) ?_
    refine vz_Vi4 (n9 := 6) (bs2 := fun u : (Nat → Int32) × (Nat → Nat) × (Nat → Nat → Int32) => [mcW g h ma mi mr mf wh (da 0) (da 2), cdW g da dr df, woW g wh wa u.1 wr wf ph rh (la 0), pgW g ph pa pr pf, rcW g rh ca ci u.2.1 u.2.2, plW g la lr lf lmx]) (br := [mcW g h ma mi mr mf wh (da 0) (da 2), cdW g da dr df]) (As := [.int n2]) (rest := [.ref h]) hx hb hml hown hts hK hA hP hD hS (a_W_size l D g H.size wh wa wi wr wf ph rh la pa pr pf ca ci cr cf lr lf lmx n2 hw_w hw_p hw_c hw_l hmx_l) kv_X1_131 ⟨Nat.le_of_ble_eq_true rfl, Nat.le_of_ble_eq_true rfl⟩ (q0 := 7) (ci := 8) rfl rfl rfl [2, 3, 4, 5] [0, 1] rfl (by decide) rfl (fun _ => rfl) (fun _ => rfl) hl.1 (Nat.le_of_ble_eq_true rfl) dX1_evaluate_86 ⟨Nat.le_refl _, Nat.le_refl _⟩ rfl (fun v23 ⟨wi_19, cr_20, cf_21⟩ H locs hw_22 _ hP hD hS => ?_)
    try dsimp only at hw_22
    replace hP : va_P D vwCl (vz_w [mcW g h ma mi mr mf wh (da 0) (da 2), cdW g da dr df, woW g wh wa wi_19 wr wf ph rh (la 0), pgW g ph pa pr pf, rcW g rh ca ci cr_20 cf_21, plW g la lr lf lmx]) H := hP
    replace hD : va_D A (vz_w [mcW g h ma mi mr mf wh (da 0) (da 2), cdW g da dr df, woW g wh wa wi_19 wr wf ph rh (la 0), pgW g ph pa pr pf, rcW g rh ca ci cr_20 cf_21, plW g la lr lf lmx]) := hD
    refine vz_Vv3 (As := [.int v23]) (rest := []) hx hb hml hown hts hK hA hP hD hS (a_M_push l D g H.size h ma mi mr mf wh da dr df wa wi_19 wr wf ph rh la pa pr pf ca ci cr_20 cf_21 lr lf lmx v23 hw_m hw_d hw_w hw_p hw_22 hw_l hmx_l) kv_X1_121 ⟨Nat.le_of_ble_eq_true rfl, Nat.le_of_ble_eq_true rfl⟩ (q0 := 0) (ci := 1) rfl rfl rfl  hl.1 (Nat.le_of_ble_eq_true rfl) dX1_evaluate_89 ⟨Nat.le_refl _, Nat.le_refl _⟩ rfl (fun ⟨mr_24, mf_25⟩ H locs hw_26 _ hP hD hS => ?_)
    try dsimp only at hw_26
    replace hP : va_P D vwCl (vz_w [mcW g h ma mi mr_24 mf_25 wh (da 0) (da 2), cdW g da dr df, woW g wh wa wi_19 wr wf ph rh (la 0), pgW g ph pa pr pf, rcW g rh ca ci cr_20 cf_21, plW g la lr lf lmx]) H := hP
    replace hD : va_D A (vz_w [mcW g h ma mi mr_24 mf_25 wh (da 0) (da 2), cdW g da dr df, woW g wh wa wi_19 wr wf ph rh (la 0), pgW g ph pa pr pf, rcW g rh ca ci cr_20 cf_21, plW g la lr lf lmx]) := hD
    refine lv_goto (tgt := 133) hx hb dX1_evaluate_92 (by decide) ?_
    exact J133 mr_24 mf_25 wi_19 cr_20 cf_21 hw_26 hw_22 H locs ls hP hD hS (lv_sub hl [0, 1, 2] rfl)
  have S1_95 : W p l e { frames := 3, cells := 0, slots := 0, locals := 72 } s m args below meth c H locs 0 0 Q (F0 m 95 ls []) := by
    refine lv_aload_n hx hb dX1_evaluate_95 rfl (lv_at hl 0 rfl) ?_
    refine lv_aload_n hx hb dX1_evaluate_96 rfl (lv_at hl 0 rfl) ?_
    refine vz_Vi3 (As := []) (rest := [.ref h]) hx hb hml hown hts hK hA hP hD hS (a_M_pop l D g H.size h ma mi mr mf wh da dr df wa wi wr wf ph rh la pa pr pf ca ci cr cf lr lf lmx hw_m hw_d hw_w hw_p hw_c hw_l hmx_l) kv_X1_125 ⟨Nat.le_of_ble_eq_true rfl, Nat.le_of_ble_eq_true rfl⟩ (q0 := 0) (ci := 1) rfl rfl rfl  hl.1 (Nat.le_of_ble_eq_true rfl) dX1_evaluate_97 ⟨Nat.le_refl _, Nat.le_refl _⟩ rfl (fun v29 mr_27 H locs hw_28 _ hP hD hS => ?_)
    try dsimp only at hw_28
    replace hP : va_P D vwCl (vz_w [mcW g h ma mi mr_27 mf wh (da 0) (da 2), cdW g da dr df, woW g wh wa wi wr wf ph rh (la 0), pgW g ph pa pr pf, rcW g rh ca ci cr cf, plW g la lr lf lmx]) H := hP
    replace hD : va_D A (vz_w [mcW g h ma mi mr_27 mf wh (da 0) (da 2), cdW g da dr df, woW g wh wa wi wr wf ph rh (la 0), pgW g ph pa pr pf, rcW g rh ca ci cr cf, plW g la lr lf lmx]) := hD
    refine lv_ineg hx hb dX1_evaluate_100 ?_
    refine vz_Vv3 (As := [.int (-v29)]) (rest := []) hx hb hml hown hts hK hA hP hD hS (a_M_push l D g H.size h ma mi mr_27 mf wh da dr df wa wi wr wf ph rh la pa pr pf ca ci cr cf lr lf lmx (-v29) hw_28 hw_d hw_w hw_p hw_c hw_l hmx_l) kv_X1_121 ⟨Nat.le_of_ble_eq_true rfl, Nat.le_of_ble_eq_true rfl⟩ (q0 := 0) (ci := 1) rfl rfl rfl  hl.1 (Nat.le_of_ble_eq_true rfl) dX1_evaluate_101 ⟨Nat.le_refl _, Nat.le_refl _⟩ rfl (fun ⟨mr_30, mf_31⟩ H locs hw_32 _ hP hD hS => ?_)
    try dsimp only at hw_32
    replace hP : va_P D vwCl (vz_w [mcW g h ma mi mr_30 mf_31 wh (da 0) (da 2), cdW g da dr df, woW g wh wa wi wr wf ph rh (la 0), pgW g ph pa pr pf, rcW g rh ca ci cr cf, plW g la lr lf lmx]) H := hP
    replace hD : va_D A (vz_w [mcW g h ma mi mr_30 mf_31 wh (da 0) (da 2), cdW g da dr df, woW g wh wa wi wr wf ph rh (la 0), pgW g ph pa pr pf, rcW g rh ca ci cr cf, plW g la lr lf lmx]) := hD
    refine lv_goto (tgt := 133) hx hb dX1_evaluate_104 (by decide) ?_
    exact J133 mr_30 mf_31 wi cr cf hw_32 hw_c H locs ls hP hD hS (lv_sub hl [0, 1, 2] rfl)
  have S1_107 : W p l e { frames := 3, cells := 0, slots := 0, locals := 72 } s m args below meth c H locs 0 0 Q (F0 m 107 ls []) := by
    refine lv_aload_n hx hb dX1_evaluate_107 rfl (lv_at hl 0 rfl) ?_
    refine vz_Vi3 (As := []) (rest := []) hx hb hml hown hts hK hA hP hD hS (a_M_pop l D g H.size h ma mi mr mf wh da dr df wa wi wr wf ph rh la pa pr pf ca ci cr cf lr lf lmx hw_m hw_d hw_w hw_p hw_c hw_l hmx_l) kv_X1_125 ⟨Nat.le_of_ble_eq_true rfl, Nat.le_of_ble_eq_true rfl⟩ (q0 := 0) (ci := 1) rfl rfl rfl  hl.1 (Nat.le_of_ble_eq_true rfl) dX1_evaluate_108 ⟨Nat.le_refl _, Nat.le_refl _⟩ rfl (fun v35 mr_33 H locs hw_34 _ hP hD hS => ?_)
    try dsimp only at hw_34
    replace hP : va_P D vwCl (vz_w [mcW g h ma mi mr_33 mf wh (da 0) (da 2), cdW g da dr df, woW g wh wa wi wr wf ph rh (la 0), pgW g ph pa pr pf, rcW g rh ca ci cr cf, plW g la lr lf lmx]) H := hP
    replace hD : va_D A (vz_w [mcW g h ma mi mr_33 mf wh (da 0) (da 2), cdW g da dr df, woW g wh wa wi wr wf ph rh (la 0), pgW g ph pa pr pf, rcW g rh ca ci cr cf, plW g la lr lf lmx]) := hD
    refine lv_istore_n (lv' := [(3, .int v35), (0, .ref h), (1, .int n1), (2, .int n2)]) hx hb dX1_evaluate_111 rfl hl (by decide) rfl (fun ls hl => ?_)
    refine lv_aload_n hx hb dX1_evaluate_112 rfl (lv_at hl 1 rfl) ?_
    refine vz_Vi3 (As := []) (rest := []) hx hb hml hown hts hK hA hP hD hS (a_M_pop l D g H.size h ma mi mr_33 mf wh da dr df wa wi wr wf ph rh la pa pr pf ca ci cr cf lr lf lmx hw_34 hw_d hw_w hw_p hw_c hw_l hmx_l) kv_X1_125 ⟨Nat.le_of_ble_eq_true rfl, Nat.le_of_ble_eq_true rfl⟩ (q0 := 0) (ci := 1) rfl rfl rfl  hl.1 (Nat.le_of_ble_eq_true rfl) dX1_evaluate_113 ⟨Nat.le_refl _, Nat.le_refl _⟩ rfl (fun v38 mr_36 H locs hw_37 _ hP hD hS => ?_)
    try dsimp only at hw_37
    replace hP : va_P D vwCl (vz_w [mcW g h ma mi mr_36 mf wh (da 0) (da 2), cdW g da dr df, woW g wh wa wi wr wf ph rh (la 0), pgW g ph pa pr pf, rcW g rh ca ci cr cf, plW g la lr lf lmx]) H := hP
    replace hD : va_D A (vz_w [mcW g h ma mi mr_36 mf wh (da 0) (da 2), cdW g da dr df, woW g wh wa wi wr wf ph rh (la 0), pgW g ph pa pr pf, rcW g rh ca ci cr cf, plW g la lr lf lmx]) := hD
    refine lv_istore (lv' := [(4, .int v38), (3, .int v35), (0, .ref h), (1, .int n1), (2, .int n2)]) hx hb dX1_evaluate_116 hl (by decide) rfl (fun ls hl => ?_)
    refine lv_aload_n hx hb dX1_evaluate_118 rfl (lv_at hl 2 rfl) ?_
    refine lv_aload_n hx hb dX1_evaluate_119 rfl (lv_at hl 2 rfl) ?_
    refine va_get (D := D) (ci := 1) (v := .ref wh) (C := RX1) (T := TX1) (N := 7) hx hb hts inlX1 hown hK hP 0 rfl rfl 0 (by decide) (hts _ q159) (fun _ h => h) rfl dX1_evaluate_120 ?_
    refine lv_iload_n hx hb dX1_evaluate_123 rfl (lv_at hl 4 rfl) ?_
    refine lv_iload hx hb dX1_evaluate_124 (lv_at hl 0 rfl) ?_
    refine lv_iload_n hx hb dX1_evaluate_126 rfl (lv_at hl 1 rfl) ?_
    refine vz_Vi4 (n9 := 6) (bs2 := fun u : (Nat → Int32) × (Nat → Nat) × (Nat → Nat → Int32) => [mcW g h ma mi mr_36 mf wh (da 0) (da 2), cdW g da dr df, woW g wh wa u.1 wr wf ph rh (la 0), pgW g ph pa pr pf, rcW g rh ca ci u.2.1 u.2.2, plW g la lr lf lmx]) (br := [mcW g h ma mi mr_36 mf wh (da 0) (da 2), cdW g da dr df]) (As := [.int n2, .int v38, .int v35]) (rest := [.ref h]) hx hb hml hown hts hK hA hP hD hS (a_W_apply l D g H.size wh wa wi wr wf ph rh la pa pr pf ca ci cr cf lr lf lmx n2 v38 v35 hw_w hw_p hw_c hw_l hmx_l) kv_X1_134 ⟨Nat.le_of_ble_eq_true rfl, Nat.le_of_ble_eq_true rfl⟩ (q0 := 7) (ci := 8) rfl rfl rfl [2, 3, 4, 5] [0, 1] rfl (by decide) rfl (fun _ => rfl) (fun _ => rfl) hl.1 (Nat.le_of_ble_eq_true rfl) dX1_evaluate_127 ⟨Nat.le_refl _, Nat.le_refl _⟩ rfl (fun v43 ⟨wi_39, cr_40, cf_41⟩ H locs hw_42 _ hP hD hS => ?_)
    try dsimp only at hw_42
    replace hP : va_P D vwCl (vz_w [mcW g h ma mi mr_36 mf wh (da 0) (da 2), cdW g da dr df, woW g wh wa wi_39 wr wf ph rh (la 0), pgW g ph pa pr pf, rcW g rh ca ci cr_40 cf_41, plW g la lr lf lmx]) H := hP
    replace hD : va_D A (vz_w [mcW g h ma mi mr_36 mf wh (da 0) (da 2), cdW g da dr df, woW g wh wa wi_39 wr wf ph rh (la 0), pgW g ph pa pr pf, rcW g rh ca ci cr_40 cf_41, plW g la lr lf lmx]) := hD
    refine vz_Vv3 (As := [.int v43]) (rest := []) hx hb hml hown hts hK hA hP hD hS (a_M_push l D g H.size h ma mi mr_36 mf wh da dr df wa wi_39 wr wf ph rh la pa pr pf ca ci cr_40 cf_41 lr lf lmx v43 hw_37 hw_d hw_w hw_p hw_42 hw_l hmx_l) kv_X1_121 ⟨Nat.le_of_ble_eq_true rfl, Nat.le_of_ble_eq_true rfl⟩ (q0 := 0) (ci := 1) rfl rfl rfl  hl.1 (Nat.le_of_ble_eq_true rfl) dX1_evaluate_130 ⟨Nat.le_refl _, Nat.le_refl _⟩ rfl (fun ⟨mr_44, mf_45⟩ H locs hw_46 _ hP hD hS => ?_)
    try dsimp only at hw_46
    replace hP : va_P D vwCl (vz_w [mcW g h ma mi mr_44 mf_45 wh (da 0) (da 2), cdW g da dr df, woW g wh wa wi_39 wr wf ph rh (la 0), pgW g ph pa pr pf, rcW g rh ca ci cr_40 cf_41, plW g la lr lf lmx]) H := hP
    replace hD : va_D A (vz_w [mcW g h ma mi mr_44 mf_45 wh (da 0) (da 2), cdW g da dr df, woW g wh wa wi_39 wr wf ph rh (la 0), pgW g ph pa pr pf, rcW g rh ca ci cr_40 cf_41, plW g la lr lf lmx]) := hD
    exact J133 mr_44 mf_45 wi_39 cr_40 cf_41 hw_46 hw_42 H locs ls hP hD hS (lv_sub hl [2, 3, 4] rfl)
  refine vz_tsw (td := 107) hx hb dX1_evaluate_1 (by decide) [36, 44, 61, 80, 95] (by decide) (by decide) (fun hv => ?_) (fun k t hk hv => ?_)
  · exact S1_107
  · have hm := List.mem_of_getElem? hk
    simp only [List.mem_cons, List.not_mem_nil, or_false] at hm
    rcases hm with rfl | rfl | rfl | rfl | rfl
    · exact S1_36
    · exact S1_44
    · exact S1_61
    · exact S1_80
    · exact S1_95
theorem q1302 : Cond.methodLink RX1 150 yX8_store ∈ wsL_law := mT_5 (List.mem_of_getElem? (i := 202) rfl) rfl
theorem kv_X1_150 : vz_cv RX1 150 yX8_store cX8_store 6 none 3 := ⟨q1302, q1144, q1145, q47, q1146, by decide +kernel⟩
theorem q1301 : Cond.methodLink RX1 147 yX8_newRow ∈ wsL_law := mT_5 (List.mem_of_getElem? (i := 201) rfl) rfl
theorem kv_X1_147 : vz_cv RX1 147 yX8_newRow cX8_newRow 5 none 2 := ⟨q1301, q1140, q1141, q47, q1142, by decide +kernel⟩
theorem q1300 : Cond.methodLink RX1 144 yX8_append ∈ wsL_law := mT_5 (List.mem_of_getElem? (i := 200) rfl) rfl
theorem kv_X1_144 : vz_cv RX1 144 yX8_append cX8_append 4 none 2 := ⟨q1300, q1125, q1126, q47, q1127, by decide +kernel⟩
theorem dX1_change_0 : decode cX1_change 0 = .ok (.iload_n 1, 1) := by decide +kernel
theorem dX1_change_1 : decode cX1_change 1 = .ok (.tableswitch 181 6 13 #[47, 69, 81, 181, 98, 113, 129, 154], 47) := by decide +kernel
theorem dX1_change_48 : decode cX1_change 48 = .ok (.aload_n 0, 1) := by decide +kernel
theorem dX1_change_49 : decode cX1_change 49 = .ok (.getfield 9, 3) := by decide +kernel
theorem dX1_change_52 : decode cX1_change 52 = .ok (.invokevirtual 138, 3) := by decide +kernel
theorem dX1_change_55 : decode cX1_change 55 = .ok (.ifCond .eq 132, 3) := by decide +kernel
theorem dX1_change_58 : decode cX1_change 58 = .ok (.aload_n 0, 1) := by decide +kernel
theorem dX1_change_59 : decode cX1_change 59 = .ok (.getfield 9, 3) := by decide +kernel
theorem dX1_change_62 : decode cX1_change 62 = .ok (.iconst 0, 1) := by decide +kernel
theorem dX1_change_63 : decode cX1_change 63 = .ok (.iload_n 2, 1) := by decide +kernel
theorem dX1_change_64 : decode cX1_change 64 = .ok (.invokevirtual 141, 3) := by decide +kernel
theorem dX1_change_67 : decode cX1_change 67 = .ok (.goto 120, 3) := by decide +kernel
theorem dX1_change_70 : decode cX1_change 70 = .ok (.aload_n 0, 1) := by decide +kernel
theorem dX1_change_71 : decode cX1_change 71 = .ok (.getfield 9, 3) := by decide +kernel
theorem dX1_change_74 : decode cX1_change 74 = .ok (.iload_n 2, 1) := by decide +kernel
theorem dX1_change_75 : decode cX1_change 75 = .ok (.iload_n 3, 1) := by decide +kernel
theorem dX1_change_76 : decode cX1_change 76 = .ok (.invokevirtual 144, 3) := by decide +kernel
theorem dX1_change_79 : decode cX1_change 79 = .ok (.goto 108, 3) := by decide +kernel
theorem dX1_change_82 : decode cX1_change 82 = .ok (.aload_n 0, 1) := by decide +kernel
theorem dX1_change_83 : decode cX1_change 83 = .ok (.getfield 9, 3) := by decide +kernel
theorem dX1_change_86 : decode cX1_change 86 = .ok (.iconst 3, 1) := by decide +kernel
theorem dX1_change_87 : decode cX1_change 87 = .ok (.iload_n 2, 1) := by decide +kernel
theorem dX1_change_88 : decode cX1_change 88 = .ok (.iadd, 1) := by decide +kernel
theorem dX1_change_89 : decode cX1_change 89 = .ok (.aload_n 0, 1) := by decide +kernel
theorem dX1_change_90 : decode cX1_change 90 = .ok (.invokevirtual 125, 3) := by decide +kernel
theorem dX1_change_93 : decode cX1_change 93 = .ok (.invokevirtual 141, 3) := by decide +kernel
theorem dX1_change_96 : decode cX1_change 96 = .ok (.goto 91, 3) := by decide +kernel
theorem dX1_change_99 : decode cX1_change 99 = .ok (.aload_n 0, 1) := by decide +kernel
theorem dX1_change_100 : decode cX1_change 100 = .ok (.getfield 9, 3) := by decide +kernel
theorem dX1_change_103 : decode cX1_change 103 = .ok (.iload_n 2, 1) := by decide +kernel
theorem dX1_change_104 : decode cX1_change 104 = .ok (.aload_n 0, 1) := by decide +kernel
theorem dX1_change_105 : decode cX1_change 105 = .ok (.invokevirtual 125, 3) := by decide +kernel
theorem dX1_change_108 : decode cX1_change 108 = .ok (.invokevirtual 147, 3) := by decide +kernel
theorem dX1_change_111 : decode cX1_change 111 = .ok (.goto 76, 3) := by decide +kernel
theorem dX1_change_114 : decode cX1_change 114 = .ok (.aload_n 0, 1) := by decide +kernel
theorem dX1_change_115 : decode cX1_change 115 = .ok (.getfield 9, 3) := by decide +kernel
theorem dX1_change_118 : decode cX1_change 118 = .ok (.bipush 9, 2) := by decide +kernel
theorem dX1_change_120 : decode cX1_change 120 = .ok (.iload_n 2, 1) := by decide +kernel
theorem dX1_change_121 : decode cX1_change 121 = .ok (.iadd, 1) := by decide +kernel
theorem dX1_change_122 : decode cX1_change 122 = .ok (.bipush (-9), 2) := by decide +kernel
theorem dX1_change_124 : decode cX1_change 124 = .ok (.invokevirtual 141, 3) := by decide +kernel
theorem dX1_change_127 : decode cX1_change 127 = .ok (.goto 60, 3) := by decide +kernel
theorem dX1_change_130 : decode cX1_change 130 = .ok (.aload_n 0, 1) := by decide +kernel
theorem dX1_change_131 : decode cX1_change 131 = .ok (.getfield 9, 3) := by decide +kernel
theorem dX1_change_134 : decode cX1_change 134 = .ok (.bipush 9, 2) := by decide +kernel
theorem dX1_change_136 : decode cX1_change 136 = .ok (.iload_n 2, 1) := by decide +kernel
theorem dX1_change_137 : decode cX1_change 137 = .ok (.iadd, 1) := by decide +kernel
theorem dX1_change_138 : decode cX1_change 138 = .ok (.aload_n 0, 1) := by decide +kernel
theorem dX1_change_139 : decode cX1_change 139 = .ok (.getfield 9, 3) := by decide +kernel
theorem dX1_change_142 : decode cX1_change 142 = .ok (.bipush 9, 2) := by decide +kernel
theorem dX1_change_144 : decode cX1_change 144 = .ok (.iload_n 3, 1) := by decide +kernel
theorem dX1_change_145 : decode cX1_change 145 = .ok (.iadd, 1) := by decide +kernel
theorem dX1_change_146 : decode cX1_change 146 = .ok (.invokevirtual 114, 3) := by decide +kernel
theorem dX1_change_149 : decode cX1_change 149 = .ok (.invokevirtual 141, 3) := by decide +kernel
theorem dX1_change_152 : decode cX1_change 152 = .ok (.goto 35, 3) := by decide +kernel
theorem dX1_change_155 : decode cX1_change 155 = .ok (.aload_n 0, 1) := by decide +kernel
theorem dX1_change_156 : decode cX1_change 156 = .ok (.invokevirtual 125, 3) := by decide +kernel
theorem dX1_change_159 : decode cX1_change 159 = .ok (.istore 4, 2) := by decide +kernel
theorem dX1_change_161 : decode cX1_change 161 = .ok (.aload_n 0, 1) := by decide +kernel
theorem dX1_change_162 : decode cX1_change 162 = .ok (.invokevirtual 125, 3) := by decide +kernel
theorem dX1_change_165 : decode cX1_change 165 = .ok (.istore 5, 2) := by decide +kernel
theorem dX1_change_167 : decode cX1_change 167 = .ok (.aload_n 0, 1) := by decide +kernel
theorem dX1_change_168 : decode cX1_change 168 = .ok (.getfield 9, 3) := by decide +kernel
theorem dX1_change_171 : decode cX1_change 171 = .ok (.iload_n 2, 1) := by decide +kernel
theorem dX1_change_172 : decode cX1_change 172 = .ok (.iload 5, 2) := by decide +kernel
theorem dX1_change_174 : decode cX1_change 174 = .ok (.iload 4, 2) := by decide +kernel
theorem dX1_change_176 : decode cX1_change 176 = .ok (.invokevirtual 150, 3) := by decide +kernel
theorem dX1_change_179 : decode cX1_change 179 = .ok (.goto 8, 3) := by decide +kernel
theorem dX1_change_182 : decode cX1_change 182 = .ok (.aload_n 0, 1) := by decide +kernel
theorem dX1_change_183 : decode cX1_change 183 = .ok (.invokevirtual 125, 3) := by decide +kernel
theorem dX1_change_186 : decode cX1_change 186 = .ok (.pop, 1) := by decide +kernel
theorem dX1_change_187 : decode cX1_change 187 = .ok (.return_, 1) := by decide +kernel
set_option maxHeartbeats 8000000 in
set_option maxRecDepth 100000 in
theorem a_M_change (l : Launch) (D : va_G) (g : Nat → ClassId)   (sz : Nat) (h : Nat) (ma : Nat → Nat) (mi : Nat → Int32) (mr : Nat → Nat) (mf : Nat → Nat → Int32) (wh : Nat) (da : Nat → Nat) (dr : Nat → Nat) (df : Nat → Nat → Int32) (wa : Nat → Nat) (wi : Nat → Int32) (wr : Nat → Nat) (wf : Nat → Nat → Int32) (ph : Nat) (rh : Nat) (la : Nat → Nat) (pa : Nat → Nat) (pr : Nat → Nat) (pf : Nat → Nat → Int32) (ca : Nat → Nat) (ci : Nat → Int32) (cr : Nat → Nat) (cf : Nat → Nat → Int32) (lr : Nat → Nat) (lf : Nat → Nat → Int32) (lmx : Nat) (n1 : Int32) (n2 : Int32) (n3 : Int32) (hw_m : ∀ k, mr k ≤ mcW_lim k) (hw_d : ∀ k, dr k ≤ cdW_lim k) (hw_w : ∀ k, wr k ≤ woW_lim k) (hw_p : ∀ k, pr k ≤ pgW_lim k) (hw_c : ∀ k, cr k ≤ rcW_lim k) (hw_l : ∀ k, lr k ≤ (plW_lim lmx) k) (hmx_l : lmx ≤ 30) : vz_Mv l D (tyG g) yX1_change cX1_change 6 3 73 0 0 [.ref h, .int n1, .int n2, .int n3] sz (vz_w [mcW g h ma mi mr mf wh (da 0) (da 2), cdW g da dr df, woW g wh wa wi wr wf ph rh (la 0), pgW g ph pa pr pf, rcW g rh ca ci cr cf, plW g la lr lf lmx]) (fun u : (Nat → Nat) × (Nat → Int32) × (Nat → Nat) × (Nat → Nat → Int32) × (Nat → Int32) × (Nat → Nat) × (Nat → Nat → Int32) => (∀ k, u.1 k ≤ mcW_lim k) ∧ (∀ k, u.2.2.1 k ≤ woW_lim k) ∧ (∀ k, u.2.2.2.2.2.1 k ≤ rcW_lim k)) (fun u => vz_w [mcW g h ma mi u.1 mf wh (da 0) (da 2), cdW g da dr df, woW g wh wa u.2.1 u.2.2.1 u.2.2.2.1 ph rh (la 0), pgW g ph pa pr pf, rcW g rh ca u.2.2.2.2.1 u.2.2.2.2.2.1 u.2.2.2.2.2.2, plW g la lr lf lmx]) := by
  refine vz_svQ (by decide) (Nat.le_of_ble_eq_true rfl) (fun p e s m args below meth c hx hb hr hml hts hown hlk hin hK hsz A hA H locs hP hD hS ls hl Q hQ => ?_)
  have hl : lv_has ls 6 [(0, .ref h), (1, .int n1), (2, .int n2), (3, .int n3)] := hl
  have J187 : ∀ (mr_187 : Nat → Nat), ∀ (wi_187 : Nat → Int32), ∀ (wr_187 : Nat → Nat), ∀ (wf_187 : Nat → Nat → Int32), ∀ (ci_187 : Nat → Int32), ∀ (cr_187 : Nat → Nat), ∀ (cf_187 : Nat → Nat → Int32), (∀ k, mr_187 k ≤ mcW_lim k) → (∀ k, wr_187 k ≤ woW_lim k) → (∀ k, cr_187 k ≤ rcW_lim k) → ∀ (H : Heap) (locs : List Loc) (ls : Array Slot), va_P D vwCl (vz_w [mcW g h ma mi mr_187 mf wh (da 0) (da 2), cdW g da dr df, woW g wh wa wi_187 wr_187 wf_187 ph rh (la 0), pgW g ph pa pr pf, rcW g rh ca ci_187 cr_187 cf_187, plW g la lr lf lmx]) H → va_D A (vz_w [mcW g h ma mi mr_187 mf wh (da 0) (da 2), cdW g da dr df, woW g wh wa wi_187 wr_187 wf_187 ph rh (la 0), pgW g ph pa pr pf, rcW g rh ca ci_187 cr_187 cf_187, plW g la lr lf lmx]) → va_S A s.heap H locs → lv_has ls 6 [(0, .ref h), (1, .int n1), (2, .int n2), (3, .int n3)] → W p l e { frames := 3, cells := 0, slots := 0, locals := 73 } s m args below meth c H locs 0 0 Q (F0 m 187 ls []) := by
    intro mr_187 wi_187 wr_187 wf_187 ci_187 cr_187 cf_187 hw_m_187 hw_w_187 hw_c_187 H locs ls hP hD hS hl
    rw [hQ]
    exact vz_vret3 hx hb hr hlk hK hP hD hS (mr_187, wi_187, wr_187, wf_187, ci_187, cr_187, cf_187) (⟨hw_m_187, hw_w_187, hw_c_187⟩) rfl (Nat.le_refl 0) (Nat.le_refl 0) dX1_change_187
  refine lv_iload_n hx hb dX1_change_0 rfl (lv_at hl 1 rfl) ?_
  have S1_48 : W p l e { frames := 3, cells := 0, slots := 0, locals := 73 } s m args below meth c H locs 0 0 Q (F0 m 48 ls []) := by
    refine lv_aload_n hx hb dX1_change_48 rfl (lv_at hl 0 rfl) ?_
    refine va_get (D := D) (ci := 1) (v := .ref wh) (C := RX1) (T := TX1) (N := 7) hx hb hts inlX1 hown hK hP 0 rfl rfl 0 (by decide) (hts _ q159) (fun _ h => h) rfl dX1_change_49 ?_
    refine vz_Vi4 (n9 := 6) (bs2 := fun u : (Nat → Int32) => [mcW g h ma mi mr mf wh (da 0) (da 2), cdW g da dr df, woW g wh wa wi wr wf ph rh (la 0), pgW g ph pa pr pf, rcW g rh ca u cr cf, plW g la lr lf lmx]) (br := [mcW g h ma mi mr mf wh (da 0) (da 2), cdW g da dr df]) (As := []) (rest := []) hx hb hml hown hts hK hA hP hD hS (a_W_takeStep l D g H.size wh wa wi wr wf ph rh la pa pr pf ca ci cr cf lr lf lmx hw_w hw_p hw_c hw_l hmx_l) kv_X1_138 ⟨Nat.le_of_ble_eq_true rfl, Nat.le_of_ble_eq_true rfl⟩ (q0 := 7) (ci := 8) rfl rfl rfl [2, 3, 4, 5] [0, 1] rfl (by decide) rfl (fun _ => rfl) (fun _ => rfl) hl.1 (Nat.le_of_ble_eq_true rfl) dX1_change_52 ⟨Nat.le_refl _, Nat.le_refl _⟩ rfl (fun v2 ci_1 H locs hz3 _ hP hD hS => ?_)
    replace hP : va_P D vwCl (vz_w [mcW g h ma mi mr mf wh (da 0) (da 2), cdW g da dr df, woW g wh wa wi wr wf ph rh (la 0), pgW g ph pa pr pf, rcW g rh ca ci_1 cr cf, plW g la lr lf lmx]) H := hP
    replace hD : va_D A (vz_w [mcW g h ma mi mr mf wh (da 0) (da 2), cdW g da dr df, woW g wh wa wi wr wf ph rh (la 0), pgW g ph pa pr pf, rcW g rh ca ci_1 cr cf, plW g la lr lf lmx]) := hD
    refine lv_if_eq (tgt := 187) hx hb dX1_change_55 (by decide) (fun kc4 => ?_) (fun kc4 => ?_)
    · exact J187 mr wi wr wf ci_1 cr cf hw_m hw_w hw_c H locs ls hP hD hS (lv_sub hl [0, 1, 2, 3] rfl)
    · refine lv_aload_n hx hb dX1_change_58 rfl (lv_at hl 0 rfl) ?_
      refine va_get (D := D) (ci := 1) (v := .ref wh) (C := RX1) (T := TX1) (N := 7) hx hb hts inlX1 hown hK hP 0 rfl rfl 0 (by decide) (hts _ q159) (fun _ h => h) rfl dX1_change_59 ?_
      refine lv_iconst (v := 0) hx hb dX1_change_62 (by decide) ?_
      refine lv_iload_n hx hb dX1_change_63 rfl (lv_at hl 2 rfl) ?_
      refine vz_Vv4 (n9 := 6) (bs2 := fun u : (Nat → Nat → Int32) => [mcW g h ma mi mr mf wh (da 0) (da 2), cdW g da dr df, woW g wh wa wi wr u ph rh (la 0), pgW g ph pa pr pf, rcW g rh ca ci_1 cr cf, plW g la lr lf lmx]) (br := [mcW g h ma mi mr mf wh (da 0) (da 2), cdW g da dr df]) (As := [.int 0, .int n2]) (rest := []) hx hb hml hown hts hK hA hP hD hS (a_W_setNow l D g H.size wh wa wi wr wf ph rh la pa pr pf ca ci_1 cr cf lr lf lmx 0 n2 hw_w hw_p hw_c hw_l hmx_l) kv_X1_141 ⟨Nat.le_of_ble_eq_true rfl, Nat.le_of_ble_eq_true rfl⟩ (q0 := 7) (ci := 8) rfl rfl rfl [2, 3, 4, 5] [0, 1] rfl (by decide) rfl (fun _ => rfl) (fun _ => rfl) hl.1 (Nat.le_of_ble_eq_true rfl) dX1_change_64 ⟨Nat.le_refl _, Nat.le_refl _⟩ rfl (fun wf_5 H locs _ _ hP hD hS => ?_)
      replace hP : va_P D vwCl (vz_w [mcW g h ma mi mr mf wh (da 0) (da 2), cdW g da dr df, woW g wh wa wi wr wf_5 ph rh (la 0), pgW g ph pa pr pf, rcW g rh ca ci_1 cr cf, plW g la lr lf lmx]) H := hP
      replace hD : va_D A (vz_w [mcW g h ma mi mr mf wh (da 0) (da 2), cdW g da dr df, woW g wh wa wi wr wf_5 ph rh (la 0), pgW g ph pa pr pf, rcW g rh ca ci_1 cr cf, plW g la lr lf lmx]) := hD
      refine lv_goto (tgt := 187) hx hb dX1_change_67 (by decide) ?_
      exact J187 mr wi wr wf_5 ci_1 cr cf hw_m hw_w hw_c H locs ls hP hD hS (lv_sub hl [0, 1, 2, 3] rfl)
  have S1_70 : W p l e { frames := 3, cells := 0, slots := 0, locals := 73 } s m args below meth c H locs 0 0 Q (F0 m 70 ls []) := by
    refine lv_aload_n hx hb dX1_change_70 rfl (lv_at hl 0 rfl) ?_
    refine va_get (D := D) (ci := 1) (v := .ref wh) (C := RX1) (T := TX1) (N := 7) hx hb hts inlX1 hown hK hP 0 rfl rfl 0 (by decide) (hts _ q159) (fun _ h => h) rfl dX1_change_71 ?_
    refine lv_iload_n hx hb dX1_change_74 rfl (lv_at hl 2 rfl) ?_
    refine lv_iload_n hx hb dX1_change_75 rfl (lv_at hl 3 rfl) ?_
    refine vz_Vv4 (n9 := 6) (bs2 := fun u : (Nat → Int32) × (Nat → Nat) × (Nat → Nat → Int32) × (Nat → Nat) × (Nat → Nat → Int32) => [mcW g h ma mi mr mf wh (da 0) (da 2), cdW g da dr df, woW g wh wa u.1 u.2.1 u.2.2.1 ph rh (la 0), pgW g ph pa pr pf, rcW g rh ca ci u.2.2.2.1 u.2.2.2.2, plW g la lr lf lmx]) (br := [mcW g h ma mi mr mf wh (da 0) (da 2), cdW g da dr df]) (As := [.int n2, .int n3]) (rest := []) hx hb hml hown hts hK hA hP hD hS (a_W_append l D g H.size wh wa wi wr wf ph rh la pa pr pf ca ci cr cf lr lf lmx n2 n3 hw_w hw_p hw_c hw_l hmx_l) kv_X1_144 ⟨Nat.le_of_ble_eq_true rfl, Nat.le_of_ble_eq_true rfl⟩ (q0 := 7) (ci := 8) rfl rfl rfl [2, 3, 4, 5] [0, 1] rfl (by decide) rfl (fun _ => rfl) (fun _ => rfl) hl.1 (Nat.le_of_ble_eq_true rfl) dX1_change_76 ⟨Nat.le_refl _, Nat.le_refl _⟩ rfl (fun ⟨wi_6, wr_7, wf_8, cr_9, cf_10⟩ H locs ⟨hw_11, hw_12⟩ _ hP hD hS => ?_)
    try dsimp only at hw_11 hw_12
    replace hP : va_P D vwCl (vz_w [mcW g h ma mi mr mf wh (da 0) (da 2), cdW g da dr df, woW g wh wa wi_6 wr_7 wf_8 ph rh (la 0), pgW g ph pa pr pf, rcW g rh ca ci cr_9 cf_10, plW g la lr lf lmx]) H := hP
    replace hD : va_D A (vz_w [mcW g h ma mi mr mf wh (da 0) (da 2), cdW g da dr df, woW g wh wa wi_6 wr_7 wf_8 ph rh (la 0), pgW g ph pa pr pf, rcW g rh ca ci cr_9 cf_10, plW g la lr lf lmx]) := hD
    refine lv_goto (tgt := 187) hx hb dX1_change_79 (by decide) ?_
    exact J187 mr wi_6 wr_7 wf_8 ci cr_9 cf_10 hw_m hw_11 hw_12 H locs ls hP hD hS (lv_sub hl [0, 1, 2, 3] rfl)
  have S1_82 : W p l e { frames := 3, cells := 0, slots := 0, locals := 73 } s m args below meth c H locs 0 0 Q (F0 m 82 ls []) := by
    refine lv_aload_n hx hb dX1_change_82 rfl (lv_at hl 0 rfl) ?_
    refine va_get (D := D) (ci := 1) (v := .ref wh) (C := RX1) (T := TX1) (N := 7) hx hb hts inlX1 hown hK hP 0 rfl rfl 0 (by decide) (hts _ q159) (fun _ h => h) rfl dX1_change_83 ?_
    refine lv_iconst (v := 3) hx hb dX1_change_86 (by decide) ?_
    refine lv_iload_n hx hb dX1_change_87 rfl (lv_at hl 2 rfl) ?_
    refine lv_iadd hx hb dX1_change_88 ?_
    refine lv_aload_n hx hb dX1_change_89 rfl (lv_at hl 0 rfl) ?_
    refine vz_Vi3 (As := []) (rest := [.int (3 + n2), .ref wh]) hx hb hml hown hts hK hA hP hD hS (a_M_pop l D g H.size h ma mi mr mf wh da dr df wa wi wr wf ph rh la pa pr pf ca ci cr cf lr lf lmx hw_m hw_d hw_w hw_p hw_c hw_l hmx_l) kv_X1_125 ⟨Nat.le_of_ble_eq_true rfl, Nat.le_of_ble_eq_true rfl⟩ (q0 := 0) (ci := 1) rfl rfl rfl  hl.1 (Nat.le_of_ble_eq_true rfl) dX1_change_90 ⟨Nat.le_refl _, Nat.le_refl _⟩ rfl (fun v15 mr_13 H locs hw_14 _ hP hD hS => ?_)
    try dsimp only at hw_14
    replace hP : va_P D vwCl (vz_w [mcW g h ma mi mr_13 mf wh (da 0) (da 2), cdW g da dr df, woW g wh wa wi wr wf ph rh (la 0), pgW g ph pa pr pf, rcW g rh ca ci cr cf, plW g la lr lf lmx]) H := hP
    replace hD : va_D A (vz_w [mcW g h ma mi mr_13 mf wh (da 0) (da 2), cdW g da dr df, woW g wh wa wi wr wf ph rh (la 0), pgW g ph pa pr pf, rcW g rh ca ci cr cf, plW g la lr lf lmx]) := hD
    refine vz_Vv4 (n9 := 6) (bs2 := fun u : (Nat → Nat → Int32) => [mcW g h ma mi mr_13 mf wh (da 0) (da 2), cdW g da dr df, woW g wh wa wi wr u ph rh (la 0), pgW g ph pa pr pf, rcW g rh ca ci cr cf, plW g la lr lf lmx]) (br := [mcW g h ma mi mr_13 mf wh (da 0) (da 2), cdW g da dr df]) (As := [.int (3 + n2), .int v15]) (rest := []) hx hb hml hown hts hK hA hP hD hS (a_W_setNow l D g H.size wh wa wi wr wf ph rh la pa pr pf ca ci cr cf lr lf lmx (3 + n2) v15 hw_w hw_p hw_c hw_l hmx_l) kv_X1_141 ⟨Nat.le_of_ble_eq_true rfl, Nat.le_of_ble_eq_true rfl⟩ (q0 := 7) (ci := 8) rfl rfl rfl [2, 3, 4, 5] [0, 1] rfl (by decide) rfl (fun _ => rfl) (fun _ => rfl) hl.1 (Nat.le_of_ble_eq_true rfl) dX1_change_93 ⟨Nat.le_refl _, Nat.le_refl _⟩ rfl (fun wf_16 H locs _ _ hP hD hS => ?_)
    replace hP : va_P D vwCl (vz_w [mcW g h ma mi mr_13 mf wh (da 0) (da 2), cdW g da dr df, woW g wh wa wi wr wf_16 ph rh (la 0), pgW g ph pa pr pf, rcW g rh ca ci cr cf, plW g la lr lf lmx]) H := hP
    replace hD : va_D A (vz_w [mcW g h ma mi mr_13 mf wh (da 0) (da 2), cdW g da dr df, woW g wh wa wi wr wf_16 ph rh (la 0), pgW g ph pa pr pf, rcW g rh ca ci cr cf, plW g la lr lf lmx]) := hD
    refine lv_goto (tgt := 187) hx hb dX1_change_96 (by decide) ?_
    exact J187 mr_13 wi wr wf_16 ci cr cf hw_14 hw_w hw_c H locs ls hP hD hS (lv_sub hl [0, 1, 2, 3] rfl)
  have S1_99 : W p l e { frames := 3, cells := 0, slots := 0, locals := 73 } s m args below meth c H locs 0 0 Q (F0 m 99 ls []) := by
    refine lv_aload_n hx hb dX1_change_99 rfl (lv_at hl 0 rfl) ?_
    refine va_get (D := D) (ci := 1) (v := .ref wh) (C := RX1) (T := TX1) (N := 7) hx hb hts inlX1 hown hK hP 0 rfl rfl 0 (by decide) (hts _ q159) (fun _ h => h) rfl dX1_change_100 ?_
    refine lv_iload_n hx hb dX1_change_103 rfl (lv_at hl 2 rfl) ?_
    refine lv_aload_n hx hb dX1_change_104 rfl (lv_at hl 0 rfl) ?_
    refine vz_Vi3 (As := []) (rest := [.int n2, .ref wh]) hx hb hml hown hts hK hA hP hD hS (a_M_pop l D g H.size h ma mi mr mf wh da dr df wa wi wr wf ph rh la pa pr pf ca ci cr cf lr lf lmx hw_m hw_d hw_w hw_p hw_c hw_l hmx_l) kv_X1_125 ⟨Nat.le_of_ble_eq_true rfl, Nat.le_of_ble_eq_true rfl⟩ (q0 := 0) (ci := 1) rfl rfl rfl  hl.1 (Nat.le_of_ble_eq_true rfl) dX1_change_105 ⟨Nat.le_refl _, Nat.le_refl _⟩ rfl (fun v19 mr_17 H locs hw_18 _ hP hD hS => ?_)
    try dsimp only at hw_18
    replace hP : va_P D vwCl (vz_w [mcW g h ma mi mr_17 mf wh (da 0) (da 2), cdW g da dr df, woW g wh wa wi wr wf ph rh (la 0), pgW g ph pa pr pf, rcW g rh ca ci cr cf, plW g la lr lf lmx]) H := hP
    replace hD : va_D A (vz_w [mcW g h ma mi mr_17 mf wh (da 0) (da 2), cdW g da dr df, woW g wh wa wi wr wf ph rh (la 0), pgW g ph pa pr pf, rcW g rh ca ci cr cf, plW g la lr lf lmx]) := hD
    refine vz_Vv4 (n9 := 6) (bs2 := fun u : (Nat → Int32) × (Nat → Nat) × (Nat → Nat → Int32) × (Nat → Nat) × (Nat → Nat → Int32) => [mcW g h ma mi mr_17 mf wh (da 0) (da 2), cdW g da dr df, woW g wh wa u.1 u.2.1 u.2.2.1 ph rh (la 0), pgW g ph pa pr pf, rcW g rh ca ci u.2.2.2.1 u.2.2.2.2, plW g la lr lf lmx]) (br := [mcW g h ma mi mr_17 mf wh (da 0) (da 2), cdW g da dr df]) (As := [.int n2, .int v19]) (rest := []) hx hb hml hown hts hK hA hP hD hS (a_W_newRow l D g H.size wh wa wi wr wf ph rh la pa pr pf ca ci cr cf lr lf lmx n2 v19 hw_w hw_p hw_c hw_l hmx_l) kv_X1_147 ⟨Nat.le_of_ble_eq_true rfl, Nat.le_of_ble_eq_true rfl⟩ (q0 := 7) (ci := 8) rfl rfl rfl [2, 3, 4, 5] [0, 1] rfl (by decide) rfl (fun _ => rfl) (fun _ => rfl) hl.1 (Nat.le_of_ble_eq_true rfl) dX1_change_108 ⟨Nat.le_refl _, Nat.le_refl _⟩ rfl (fun ⟨wi_20, wr_21, wf_22, cr_23, cf_24⟩ H locs ⟨hw_25, hw_26⟩ _ hP hD hS => ?_)
    try dsimp only at hw_25 hw_26
    replace hP : va_P D vwCl (vz_w [mcW g h ma mi mr_17 mf wh (da 0) (da 2), cdW g da dr df, woW g wh wa wi_20 wr_21 wf_22 ph rh (la 0), pgW g ph pa pr pf, rcW g rh ca ci cr_23 cf_24, plW g la lr lf lmx]) H := hP
    replace hD : va_D A (vz_w [mcW g h ma mi mr_17 mf wh (da 0) (da 2), cdW g da dr df, woW g wh wa wi_20 wr_21 wf_22 ph rh (la 0), pgW g ph pa pr pf, rcW g rh ca ci cr_23 cf_24, plW g la lr lf lmx]) := hD
    refine lv_goto (tgt := 187) hx hb dX1_change_111 (by decide) ?_
    exact J187 mr_17 wi_20 wr_21 wf_22 ci cr_23 cf_24 hw_18 hw_25 hw_26 H locs ls hP hD hS (lv_sub hl [0, 1, 2, 3] rfl)
  have S1_114 : W p l e { frames := 3, cells := 0, slots := 0, locals := 73 } s m args below meth c H locs 0 0 Q (F0 m 114 ls []) := by
    refine lv_aload_n hx hb dX1_change_114 rfl (lv_at hl 0 rfl) ?_
    refine va_get (D := D) (ci := 1) (v := .ref wh) (C := RX1) (T := TX1) (N := 7) hx hb hts inlX1 hown hK hP 0 rfl rfl 0 (by decide) (hts _ q159) (fun _ h => h) rfl dX1_change_115 ?_
    refine lv_bipush (v := 9) hx hb dX1_change_118 (by decide) ?_
    refine lv_iload_n hx hb dX1_change_120 rfl (lv_at hl 2 rfl) ?_
    refine lv_iadd hx hb dX1_change_121 ?_
    refine lv_bipush (v := (-9)) hx hb dX1_change_122 (by decide) ?_
    refine vz_Vv4 (n9 := 6) (bs2 := fun u : (Nat → Nat → Int32) => [mcW g h ma mi mr mf wh (da 0) (da 2), cdW g da dr df, woW g wh wa wi wr u ph rh (la 0), pgW g ph pa pr pf, rcW g rh ca ci cr cf, plW g la lr lf lmx]) (br := [mcW g h ma mi mr mf wh (da 0) (da 2), cdW g da dr df]) (As := [.int (9 + n2), .int (-9)]) (rest := []) hx hb hml hown hts hK hA hP hD hS (a_W_setNow l D g H.size wh wa wi wr wf ph rh la pa pr pf ca ci cr cf lr lf lmx (9 + n2) (-9) hw_w hw_p hw_c hw_l hmx_l) kv_X1_141 ⟨Nat.le_of_ble_eq_true rfl, Nat.le_of_ble_eq_true rfl⟩ (q0 := 7) (ci := 8) rfl rfl rfl [2, 3, 4, 5] [0, 1] rfl (by decide) rfl (fun _ => rfl) (fun _ => rfl) hl.1 (Nat.le_of_ble_eq_true rfl) dX1_change_124 ⟨Nat.le_refl _, Nat.le_refl _⟩ rfl (fun wf_27 H locs _ _ hP hD hS => ?_)
    replace hP : va_P D vwCl (vz_w [mcW g h ma mi mr mf wh (da 0) (da 2), cdW g da dr df, woW g wh wa wi wr wf_27 ph rh (la 0), pgW g ph pa pr pf, rcW g rh ca ci cr cf, plW g la lr lf lmx]) H := hP
    replace hD : va_D A (vz_w [mcW g h ma mi mr mf wh (da 0) (da 2), cdW g da dr df, woW g wh wa wi wr wf_27 ph rh (la 0), pgW g ph pa pr pf, rcW g rh ca ci cr cf, plW g la lr lf lmx]) := hD
    refine lv_goto (tgt := 187) hx hb dX1_change_127 (by decide) ?_
    exact J187 mr wi wr wf_27 ci cr cf hw_m hw_w hw_c H locs ls hP hD hS (lv_sub hl [0, 1, 2, 3] rfl)
  have S1_130 : W p l e { frames := 3, cells := 0, slots := 0, locals := 73 } s m args below meth c H locs 0 0 Q (F0 m 130 ls []) := by
    refine lv_aload_n hx hb dX1_change_130 rfl (lv_at hl 0 rfl) ?_
    refine va_get (D := D) (ci := 1) (v := .ref wh) (C := RX1) (T := TX1) (N := 7) hx hb hts inlX1 hown hK hP 0 rfl rfl 0 (by decide) (hts _ q159) (fun _ h => h) rfl dX1_change_131 ?_
    refine lv_bipush (v := 9) hx hb dX1_change_134 (by decide) ?_
    refine lv_iload_n hx hb dX1_change_136 rfl (lv_at hl 2 rfl) ?_
    refine lv_iadd hx hb dX1_change_137 ?_
    refine lv_aload_n hx hb dX1_change_138 rfl (lv_at hl 0 rfl) ?_
    refine va_get (D := D) (ci := 1) (v := .ref wh) (C := RX1) (T := TX1) (N := 7) hx hb hts inlX1 hown hK hP 0 rfl rfl 0 (by decide) (hts _ q159) (fun _ h => h) rfl dX1_change_139 ?_
    refine lv_bipush (v := 9) hx hb dX1_change_142 (by decide) ?_
    refine lv_iload_n hx hb dX1_change_144 rfl (lv_at hl 3 rfl) ?_
    refine lv_iadd hx hb dX1_change_145 ?_
    refine vz_Vi4 (n9 := 6) (bs2 := fun u : Unit => [mcW g h ma mi mr mf wh (da 0) (da 2), cdW g da dr df, woW g wh wa wi wr wf ph rh (la 0), pgW g ph pa pr pf, rcW g rh ca ci cr cf, plW g la lr lf lmx]) (br := [mcW g h ma mi mr mf wh (da 0) (da 2), cdW g da dr df]) (As := [.int (9 + n3)]) (rest := [.int (9 + n2), .ref wh]) hx hb hml hown hts hK hA hP hD hS (a_W_now l D g H.size wh wa wi wr wf ph rh la pa pr pf ca ci cr cf lr lf lmx (9 + n3) hw_w hw_p hw_c hw_l hmx_l) kv_X1_114 ⟨Nat.le_of_ble_eq_true rfl, Nat.le_of_ble_eq_true rfl⟩ (q0 := 7) (ci := 8) rfl rfl rfl [2, 3, 4, 5] [0, 1] rfl (by decide) rfl (fun _ => rfl) (fun _ => rfl) hl.1 (Nat.le_of_ble_eq_true rfl) dX1_change_146 ⟨Nat.le_refl _, Nat.le_refl _⟩ rfl (fun v28 _ H locs _ _ hP hD hS => ?_)
    refine vz_Vv4 (n9 := 6) (bs2 := fun u : (Nat → Nat → Int32) => [mcW g h ma mi mr mf wh (da 0) (da 2), cdW g da dr df, woW g wh wa wi wr u ph rh (la 0), pgW g ph pa pr pf, rcW g rh ca ci cr cf, plW g la lr lf lmx]) (br := [mcW g h ma mi mr mf wh (da 0) (da 2), cdW g da dr df]) (As := [.int (9 + n2), .int v28]) (rest := []) hx hb hml hown hts hK hA hP hD hS (a_W_setNow l D g H.size wh wa wi wr wf ph rh la pa pr pf ca ci cr cf lr lf lmx (9 + n2) v28 hw_w hw_p hw_c hw_l hmx_l) kv_X1_141 ⟨Nat.le_of_ble_eq_true rfl, Nat.le_of_ble_eq_true rfl⟩ (q0 := 7) (ci := 8) rfl rfl rfl [2, 3, 4, 5] [0, 1] rfl (by decide) rfl (fun _ => rfl) (fun _ => rfl) hl.1 (Nat.le_of_ble_eq_true rfl) dX1_change_149 ⟨Nat.le_refl _, Nat.le_refl _⟩ rfl (fun wf_29 H locs _ _ hP hD hS => ?_)
    replace hP : va_P D vwCl (vz_w [mcW g h ma mi mr mf wh (da 0) (da 2), cdW g da dr df, woW g wh wa wi wr wf_29 ph rh (la 0), pgW g ph pa pr pf, rcW g rh ca ci cr cf, plW g la lr lf lmx]) H := hP
    replace hD : va_D A (vz_w [mcW g h ma mi mr mf wh (da 0) (da 2), cdW g da dr df, woW g wh wa wi wr wf_29 ph rh (la 0), pgW g ph pa pr pf, rcW g rh ca ci cr cf, plW g la lr lf lmx]) := hD
    refine lv_goto (tgt := 187) hx hb dX1_change_152 (by decide) ?_
    exact J187 mr wi wr wf_29 ci cr cf hw_m hw_w hw_c H locs ls hP hD hS (lv_sub hl [0, 1, 2, 3] rfl)
  have S1_155 : W p l e { frames := 3, cells := 0, slots := 0, locals := 73 } s m args below meth c H locs 0 0 Q (F0 m 155 ls []) := by
    refine lv_aload_n hx hb dX1_change_155 rfl (lv_at hl 0 rfl) ?_
    refine vz_Vi3 (As := []) (rest := []) hx hb hml hown hts hK hA hP hD hS (a_M_pop l D g H.size h ma mi mr mf wh da dr df wa wi wr wf ph rh la pa pr pf ca ci cr cf lr lf lmx hw_m hw_d hw_w hw_p hw_c hw_l hmx_l) kv_X1_125 ⟨Nat.le_of_ble_eq_true rfl, Nat.le_of_ble_eq_true rfl⟩ (q0 := 0) (ci := 1) rfl rfl rfl  hl.1 (Nat.le_of_ble_eq_true rfl) dX1_change_156 ⟨Nat.le_refl _, Nat.le_refl _⟩ rfl (fun v32 mr_30 H locs hw_31 _ hP hD hS => ?_)
    try dsimp only at hw_31
    replace hP : va_P D vwCl (vz_w [mcW g h ma mi mr_30 mf wh (da 0) (da 2), cdW g da dr df, woW g wh wa wi wr wf ph rh (la 0), pgW g ph pa pr pf, rcW g rh ca ci cr cf, plW g la lr lf lmx]) H := hP
    replace hD : va_D A (vz_w [mcW g h ma mi mr_30 mf wh (da 0) (da 2), cdW g da dr df, woW g wh wa wi wr wf ph rh (la 0), pgW g ph pa pr pf, rcW g rh ca ci cr cf, plW g la lr lf lmx]) := hD
    refine lv_istore (lv' := [(4, .int v32), (0, .ref h), (1, .int n1), (2, .int n2), (3, .int n3)]) hx hb dX1_change_159 hl (by decide) rfl (fun ls hl => ?_)
    refine lv_aload_n hx hb dX1_change_161 rfl (lv_at hl 1 rfl) ?_
    refine vz_Vi3 (As := []) (rest := []) hx hb hml hown hts hK hA hP hD hS (a_M_pop l D g H.size h ma mi mr_30 mf wh da dr df wa wi wr wf ph rh la pa pr pf ca ci cr cf lr lf lmx hw_31 hw_d hw_w hw_p hw_c hw_l hmx_l) kv_X1_125 ⟨Nat.le_of_ble_eq_true rfl, Nat.le_of_ble_eq_true rfl⟩ (q0 := 0) (ci := 1) rfl rfl rfl  hl.1 (Nat.le_of_ble_eq_true rfl) dX1_change_162 ⟨Nat.le_refl _, Nat.le_refl _⟩ rfl (fun v35 mr_33 H locs hw_34 _ hP hD hS => ?_)
    try dsimp only at hw_34
    replace hP : va_P D vwCl (vz_w [mcW g h ma mi mr_33 mf wh (da 0) (da 2), cdW g da dr df, woW g wh wa wi wr wf ph rh (la 0), pgW g ph pa pr pf, rcW g rh ca ci cr cf, plW g la lr lf lmx]) H := hP
    replace hD : va_D A (vz_w [mcW g h ma mi mr_33 mf wh (da 0) (da 2), cdW g da dr df, woW g wh wa wi wr wf ph rh (la 0), pgW g ph pa pr pf, rcW g rh ca ci cr cf, plW g la lr lf lmx]) := hD
    refine lv_istore (lv' := [(5, .int v35), (4, .int v32), (0, .ref h), (1, .int n1), (2, .int n2), (3, .int n3)]) hx hb dX1_change_165 hl (by decide) rfl (fun ls hl => ?_)
    refine lv_aload_n hx hb dX1_change_167 rfl (lv_at hl 2 rfl) ?_
    refine va_get (D := D) (ci := 1) (v := .ref wh) (C := RX1) (T := TX1) (N := 7) hx hb hts inlX1 hown hK hP 0 rfl rfl 0 (by decide) (hts _ q159) (fun _ h => h) rfl dX1_change_168 ?_
    refine lv_iload_n hx hb dX1_change_171 rfl (lv_at hl 4 rfl) ?_
    refine lv_iload hx hb dX1_change_172 (lv_at hl 0 rfl) ?_
    refine lv_iload hx hb dX1_change_174 (lv_at hl 1 rfl) ?_
    refine vz_Vv4 (n9 := 6) (bs2 := fun u : (Nat → Int32) × (Nat → Nat → Int32) × (Nat → Nat) × (Nat → Nat → Int32) => [mcW g h ma mi mr_33 mf wh (da 0) (da 2), cdW g da dr df, woW g wh wa u.1 wr u.2.1 ph rh (la 0), pgW g ph pa pr pf, rcW g rh ca ci u.2.2.1 u.2.2.2, plW g la lr lf lmx]) (br := [mcW g h ma mi mr_33 mf wh (da 0) (da 2), cdW g da dr df]) (As := [.int n2, .int v35, .int v32]) (rest := []) hx hb hml hown hts hK hA hP hD hS (a_W_store l D g H.size wh wa wi wr wf ph rh la pa pr pf ca ci cr cf lr lf lmx n2 v35 v32 hw_w hw_p hw_c hw_l hmx_l) kv_X1_150 ⟨Nat.le_of_ble_eq_true rfl, Nat.le_of_ble_eq_true rfl⟩ (q0 := 7) (ci := 8) rfl rfl rfl [2, 3, 4, 5] [0, 1] rfl (by decide) rfl (fun _ => rfl) (fun _ => rfl) hl.1 (Nat.le_of_ble_eq_true rfl) dX1_change_176 ⟨Nat.le_refl _, Nat.le_refl _⟩ rfl (fun ⟨wi_36, wf_37, cr_38, cf_39⟩ H locs hw_40 _ hP hD hS => ?_)
    try dsimp only at hw_40
    replace hP : va_P D vwCl (vz_w [mcW g h ma mi mr_33 mf wh (da 0) (da 2), cdW g da dr df, woW g wh wa wi_36 wr wf_37 ph rh (la 0), pgW g ph pa pr pf, rcW g rh ca ci cr_38 cf_39, plW g la lr lf lmx]) H := hP
    replace hD : va_D A (vz_w [mcW g h ma mi mr_33 mf wh (da 0) (da 2), cdW g da dr df, woW g wh wa wi_36 wr wf_37 ph rh (la 0), pgW g ph pa pr pf, rcW g rh ca ci cr_38 cf_39, plW g la lr lf lmx]) := hD
    refine lv_goto (tgt := 187) hx hb dX1_change_179 (by decide) ?_
    exact J187 mr_33 wi_36 wr wf_37 ci cr_38 cf_39 hw_34 hw_w hw_40 H locs ls hP hD hS (lv_sub hl [2, 3, 4, 5] rfl)
  have S1_182 : W p l e { frames := 3, cells := 0, slots := 0, locals := 73 } s m args below meth c H locs 0 0 Q (F0 m 182 ls []) := by
    refine lv_aload_n hx hb dX1_change_182 rfl (lv_at hl 0 rfl) ?_
    refine vz_Vi3 (As := []) (rest := []) hx hb hml hown hts hK hA hP hD hS (a_M_pop l D g H.size h ma mi mr mf wh da dr df wa wi wr wf ph rh la pa pr pf ca ci cr cf lr lf lmx hw_m hw_d hw_w hw_p hw_c hw_l hmx_l) kv_X1_125 ⟨Nat.le_of_ble_eq_true rfl, Nat.le_of_ble_eq_true rfl⟩ (q0 := 0) (ci := 1) rfl rfl rfl  hl.1 (Nat.le_of_ble_eq_true rfl) dX1_change_183 ⟨Nat.le_refl _, Nat.le_refl _⟩ rfl (fun v43 mr_41 H locs hw_42 _ hP hD hS => ?_)
    try dsimp only at hw_42
    replace hP : va_P D vwCl (vz_w [mcW g h ma mi mr_41 mf wh (da 0) (da 2), cdW g da dr df, woW g wh wa wi wr wf ph rh (la 0), pgW g ph pa pr pf, rcW g rh ca ci cr cf, plW g la lr lf lmx]) H := hP
    replace hD : va_D A (vz_w [mcW g h ma mi mr_41 mf wh (da 0) (da 2), cdW g da dr df, woW g wh wa wi wr wf ph rh (la 0), pgW g ph pa pr pf, rcW g rh ca ci cr cf, plW g la lr lf lmx]) := hD
    refine lv_pop hx hb dX1_change_186 rfl ?_
    exact J187 mr_41 wi wr wf ci cr cf hw_42 hw_w hw_c H locs ls hP hD hS (lv_sub hl [0, 1, 2, 3] rfl)
  refine vz_tsw (td := 182) hx hb dX1_change_1 (by decide) [48, 70, 82, 182, 99, 114, 130, 155] (by decide) (by decide) (fun hv => ?_) (fun k t hk hv => ?_)
  · exact S1_182
  · have hm := List.mem_of_getElem? hk
    simp only [List.mem_cons, List.not_mem_nil, or_false] at hm
    rcases hm with rfl | rfl | rfl | rfl | rfl | rfl | rfl | rfl
    · exact S1_48
    · exact S1_70
    · exact S1_82
    · exact S1_182
    · exact S1_99
    · exact S1_114
    · exact S1_130
    · exact S1_155
theorem q1320 : Cond.methodLink RX1 166 yX1_giveBack ∈ wsL_law := mT_5 (List.mem_of_getElem? (i := 220) rfl) rfl
theorem q1321 : Cond.instanceMethod yX1_giveBack ∈ wsL_law := mT_5 (List.mem_of_getElem? (i := 222) rfl) rfl
theorem q1322 : Cond.selects RX1 yX1_giveBack yX1_giveBack ∈ wsL_law := mS_6 (q := (yX1_giveBack, 7)) (List.mem_of_getElem? (i := 15) rfl) rfl
theorem q1323 : Cond.code yX1_giveBack cX1_giveBack 1 none ∈ wsL_law := mT_5 (List.mem_of_getElem? (i := 223) rfl) rfl
theorem kv_X1_166 : vz_cv RX1 166 yX1_giveBack cX1_giveBack 1 none 0 := ⟨q1320, q1321, q1322, q55, q1323, by decide +kernel⟩
theorem q1314 : Cond.methodLink RX1 163 yX1_call ∈ wsL_law := mT_5 (List.mem_of_getElem? (i := 214) rfl) rfl
theorem q1315 : Cond.instanceMethod yX1_call ∈ wsL_law := mT_5 (List.mem_of_getElem? (i := 216) rfl) rfl
theorem q1316 : Cond.selects RX1 yX1_call yX1_call ∈ wsL_law := mS_6 (q := (yX1_call, 7)) (List.mem_of_getElem? (i := 14) rfl) rfl
theorem q1317 : Cond.code yX1_call cX1_call 4 none ∈ wsL_law := mT_5 (List.mem_of_getElem? (i := 217) rfl) rfl
theorem kv_X1_163 : vz_cv RX1 163 yX1_call cX1_call 4 none 1 := ⟨q1314, q1315, q1316, q55, q1317, by decide +kernel⟩
theorem q1309 : Cond.methodLink RX1 160 yX1_turn ∈ wsL_law := mT_5 (List.mem_of_getElem? (i := 209) rfl) rfl
theorem q1310 : Cond.instanceMethod yX1_turn ∈ wsL_law := mT_5 (List.mem_of_getElem? (i := 211) rfl) rfl
theorem q1311 : Cond.selects RX1 yX1_turn yX1_turn ∈ wsL_law := mS_6 (q := (yX1_turn, 7)) (List.mem_of_getElem? (i := 13) rfl) rfl
theorem q1312 : Cond.code yX1_turn cX1_turn 4 none ∈ wsL_law := mT_5 (List.mem_of_getElem? (i := 212) rfl) rfl
theorem kv_X1_160 : vz_cv RX1 160 yX1_turn cX1_turn 4 none 2 := ⟨q1309, q1310, q1311, q55, q1312, by decide +kernel⟩
theorem q1307 : Cond.methodLink RX1 153 yX8_compares ∈ wsL_law := mT_5 (List.mem_of_getElem? (i := 207) rfl) rfl
theorem kv_X1_153 : vz_cv RX1 153 yX8_compares cX8_compares 4 (some .boolean) 3 := ⟨q1307, q1153, q1154, q47, q1155, by decide +kernel⟩
theorem dX1_flow_0 : decode cX1_flow 0 = .ok (.iload_n 1, 1) := by decide +kernel
theorem dX1_flow_1 : decode cX1_flow 1 = .ok (.tableswitch 194 14 22 #[51, 93, 101, 117, 126, 134, 141, 162, 178], 51) := by decide +kernel
theorem dX1_flow_52 : decode cX1_flow 52 = .ok (.aload_n 0, 1) := by decide +kernel
theorem dX1_flow_53 : decode cX1_flow 53 = .ok (.invokevirtual 125, 3) := by decide +kernel
theorem dX1_flow_56 : decode cX1_flow 56 = .ok (.istore 4, 2) := by decide +kernel
theorem dX1_flow_58 : decode cX1_flow 58 = .ok (.aload_n 0, 1) := by decide +kernel
theorem dX1_flow_59 : decode cX1_flow 59 = .ok (.invokevirtual 125, 3) := by decide +kernel
theorem dX1_flow_62 : decode cX1_flow 62 = .ok (.istore 5, 2) := by decide +kernel
theorem dX1_flow_64 : decode cX1_flow 64 = .ok (.aload_n 0, 1) := by decide +kernel
theorem dX1_flow_65 : decode cX1_flow 65 = .ok (.aload_n 0, 1) := by decide +kernel
theorem dX1_flow_66 : decode cX1_flow 66 = .ok (.getfield 9, 3) := by decide +kernel
theorem dX1_flow_69 : decode cX1_flow 69 = .ok (.iload_n 3, 1) := by decide +kernel
theorem dX1_flow_70 : decode cX1_flow 70 = .ok (.iload 5, 2) := by decide +kernel
theorem dX1_flow_72 : decode cX1_flow 72 = .ok (.iload 4, 2) := by decide +kernel
theorem dX1_flow_74 : decode cX1_flow 74 = .ok (.invokevirtual 153, 3) := by decide +kernel
theorem dX1_flow_77 : decode cX1_flow 77 = .ok (.ifCond .eq 10, 3) := by decide +kernel
theorem dX1_flow_80 : decode cX1_flow 80 = .ok (.aload_n 0, 1) := by decide +kernel
theorem dX1_flow_81 : decode cX1_flow 81 = .ok (.getfield 56, 3) := by decide +kernel
theorem dX1_flow_84 : decode cX1_flow 84 = .ok (.goto 4, 3) := by decide +kernel
theorem dX1_flow_87 : decode cX1_flow 87 = .ok (.iload_n 2, 1) := by decide +kernel
theorem dX1_flow_88 : decode cX1_flow 88 = .ok (.putfield 56, 3) := by decide +kernel
theorem dX1_flow_91 : decode cX1_flow 91 = .ok (.goto 117, 3) := by decide +kernel
theorem dX1_flow_94 : decode cX1_flow 94 = .ok (.aload_n 0, 1) := by decide +kernel
theorem dX1_flow_95 : decode cX1_flow 95 = .ok (.iload_n 2, 1) := by decide +kernel
theorem dX1_flow_96 : decode cX1_flow 96 = .ok (.putfield 56, 3) := by decide +kernel
theorem dX1_flow_99 : decode cX1_flow 99 = .ok (.goto 109, 3) := by decide +kernel
theorem dX1_flow_102 : decode cX1_flow 102 = .ok (.aload_n 0, 1) := by decide +kernel
theorem dX1_flow_103 : decode cX1_flow 103 = .ok (.getfield 9, 3) := by decide +kernel
theorem dX1_flow_106 : decode cX1_flow 106 = .ok (.iload_n 2, 1) := by decide +kernel
theorem dX1_flow_107 : decode cX1_flow 107 = .ok (.iconst 0, 1) := by decide +kernel
theorem dX1_flow_108 : decode cX1_flow 108 = .ok (.aload_n 0, 1) := by decide +kernel
theorem dX1_flow_109 : decode cX1_flow 109 = .ok (.invokevirtual 125, 3) := by decide +kernel
theorem dX1_flow_112 : decode cX1_flow 112 = .ok (.invokevirtual 157, 3) := by decide +kernel
theorem dX1_flow_115 : decode cX1_flow 115 = .ok (.goto 93, 3) := by decide +kernel
theorem dX1_flow_118 : decode cX1_flow 118 = .ok (.aload_n 0, 1) := by decide +kernel
theorem dX1_flow_119 : decode cX1_flow 119 = .ok (.iload_n 2, 1) := by decide +kernel
theorem dX1_flow_120 : decode cX1_flow 120 = .ok (.iload_n 3, 1) := by decide +kernel
theorem dX1_flow_121 : decode cX1_flow 121 = .ok (.invokevirtual 160, 3) := by decide +kernel
theorem dX1_flow_124 : decode cX1_flow 124 = .ok (.goto 84, 3) := by decide +kernel
theorem dX1_flow_127 : decode cX1_flow 127 = .ok (.aload_n 0, 1) := by decide +kernel
theorem dX1_flow_128 : decode cX1_flow 128 = .ok (.iload_n 2, 1) := by decide +kernel
theorem dX1_flow_129 : decode cX1_flow 129 = .ok (.invokevirtual 163, 3) := by decide +kernel
theorem dX1_flow_132 : decode cX1_flow 132 = .ok (.goto 76, 3) := by decide +kernel
theorem dX1_flow_135 : decode cX1_flow 135 = .ok (.aload_n 0, 1) := by decide +kernel
theorem dX1_flow_136 : decode cX1_flow 136 = .ok (.invokevirtual 166, 3) := by decide +kernel
theorem dX1_flow_139 : decode cX1_flow 139 = .ok (.goto 69, 3) := by decide +kernel
theorem dX1_flow_142 : decode cX1_flow 142 = .ok (.aload_n 0, 1) := by decide +kernel
theorem dX1_flow_143 : decode cX1_flow 143 = .ok (.getfield 9, 3) := by decide +kernel
theorem dX1_flow_146 : decode cX1_flow 146 = .ok (.iload_n 3, 1) := by decide +kernel
theorem dX1_flow_147 : decode cX1_flow 147 = .ok (.iconst 4, 1) := by decide +kernel
theorem dX1_flow_148 : decode cX1_flow 148 = .ok (.aload_n 0, 1) := by decide +kernel
theorem dX1_flow_149 : decode cX1_flow 149 = .ok (.getfield 56, 3) := by decide +kernel
theorem dX1_flow_152 : decode cX1_flow 152 = .ok (.invokevirtual 157, 3) := by decide +kernel
theorem dX1_flow_155 : decode cX1_flow 155 = .ok (.aload_n 0, 1) := by decide +kernel
theorem dX1_flow_156 : decode cX1_flow 156 = .ok (.iload_n 2, 1) := by decide +kernel
theorem dX1_flow_157 : decode cX1_flow 157 = .ok (.putfield 56, 3) := by decide +kernel
theorem dX1_flow_160 : decode cX1_flow 160 = .ok (.goto 48, 3) := by decide +kernel
theorem dX1_flow_163 : decode cX1_flow 163 = .ok (.aload_n 0, 1) := by decide +kernel
theorem dX1_flow_164 : decode cX1_flow 164 = .ok (.aload_n 0, 1) := by decide +kernel
theorem dX1_flow_165 : decode cX1_flow 165 = .ok (.getfield 9, 3) := by decide +kernel
theorem dX1_flow_168 : decode cX1_flow 168 = .ok (.iload_n 2, 1) := by decide +kernel
theorem dX1_flow_169 : decode cX1_flow 169 = .ok (.iconst 4, 1) := by decide +kernel
theorem dX1_flow_170 : decode cX1_flow 170 = .ok (.invokevirtual 169, 3) := by decide +kernel
theorem dX1_flow_173 : decode cX1_flow 173 = .ok (.putfield 56, 3) := by decide +kernel
theorem dX1_flow_176 : decode cX1_flow 176 = .ok (.goto 32, 3) := by decide +kernel
theorem dX1_flow_179 : decode cX1_flow 179 = .ok (.aload_n 0, 1) := by decide +kernel
theorem dX1_flow_180 : decode cX1_flow 180 = .ok (.getfield 9, 3) := by decide +kernel
theorem dX1_flow_183 : decode cX1_flow 183 = .ok (.iload_n 2, 1) := by decide +kernel
theorem dX1_flow_184 : decode cX1_flow 184 = .ok (.iconst 5, 1) := by decide +kernel
theorem dX1_flow_185 : decode cX1_flow 185 = .ok (.aload_n 0, 1) := by decide +kernel
theorem dX1_flow_186 : decode cX1_flow 186 = .ok (.invokevirtual 125, 3) := by decide +kernel
theorem dX1_flow_189 : decode cX1_flow 189 = .ok (.invokevirtual 157, 3) := by decide +kernel
theorem dX1_flow_192 : decode cX1_flow 192 = .ok (.goto 16, 3) := by decide +kernel
theorem dX1_flow_195 : decode cX1_flow 195 = .ok (.aload_n 0, 1) := by decide +kernel
theorem dX1_flow_196 : decode cX1_flow 196 = .ok (.aload_n 0, 1) := by decide +kernel
theorem dX1_flow_197 : decode cX1_flow 197 = .ok (.getfield 9, 3) := by decide +kernel
theorem dX1_flow_200 : decode cX1_flow 200 = .ok (.iload_n 2, 1) := by decide +kernel
theorem dX1_flow_201 : decode cX1_flow 201 = .ok (.iconst 5, 1) := by decide +kernel
theorem dX1_flow_202 : decode cX1_flow 202 = .ok (.invokevirtual 169, 3) := by decide +kernel
theorem dX1_flow_205 : decode cX1_flow 205 = .ok (.invokevirtual 121, 3) := by decide +kernel
theorem dX1_flow_208 : decode cX1_flow 208 = .ok (.return_, 1) := by decide +kernel
set_option maxHeartbeats 8000000 in
set_option maxRecDepth 100000 in
theorem a_M_flow (l : Launch) (D : va_G) (g : Nat → ClassId)   (sz : Nat) (h : Nat) (ma : Nat → Nat) (mi : Nat → Int32) (mr : Nat → Nat) (mf : Nat → Nat → Int32) (wh : Nat) (da : Nat → Nat) (dr : Nat → Nat) (df : Nat → Nat → Int32) (wa : Nat → Nat) (wi : Nat → Int32) (wr : Nat → Nat) (wf : Nat → Nat → Int32) (ph : Nat) (rh : Nat) (la : Nat → Nat) (pa : Nat → Nat) (pr : Nat → Nat) (pf : Nat → Nat → Int32) (ca : Nat → Nat) (ci : Nat → Int32) (cr : Nat → Nat) (cf : Nat → Nat → Int32) (lr : Nat → Nat) (lf : Nat → Nat → Int32) (lmx : Nat) (n1 : Int32) (n2 : Int32) (n3 : Int32) (hw_m : ∀ k, mr k ≤ mcW_lim k) (hw_d : ∀ k, dr k ≤ cdW_lim k) (hw_w : ∀ k, wr k ≤ woW_lim k) (hw_p : ∀ k, pr k ≤ pgW_lim k) (hw_c : ∀ k, cr k ≤ rcW_lim k) (hw_l : ∀ k, lr k ≤ (plW_lim lmx) k) (hmx_l : lmx ≤ 30) : vz_Mv l D (tyG g) yX1_flow cX1_flow 6 4 94 0 0 [.ref h, .int n1, .int n2, .int n3] sz (vz_w [mcW g h ma mi mr mf wh (da 0) (da 2), cdW g da dr df, woW g wh wa wi wr wf ph rh (la 0), pgW g ph pa pr pf, rcW g rh ca ci cr cf, plW g la lr lf lmx]) (fun u : (Nat → Int32) × (Nat → Nat) × (Nat → Nat → Int32) × (Nat → Int32) × (Nat → Nat) × (Nat → Nat → Int32) × (Nat → Int32) × (Nat → Nat) × (Nat → Nat → Int32) => (∀ k, u.2.1 k ≤ mcW_lim k) ∧ (∀ k, u.2.2.2.2.1 k ≤ woW_lim k) ∧ (∀ k, u.2.2.2.2.2.2.2.1 k ≤ rcW_lim k)) (fun u => vz_w [mcW g h ma u.1 u.2.1 u.2.2.1 wh (da 0) (da 2), cdW g da dr df, woW g wh wa u.2.2.2.1 u.2.2.2.2.1 u.2.2.2.2.2.1 ph rh (la 0), pgW g ph pa pr pf, rcW g rh ca u.2.2.2.2.2.2.1 u.2.2.2.2.2.2.2.1 u.2.2.2.2.2.2.2.2, plW g la lr lf lmx]) := by
  refine vz_svQ (by decide) (Nat.le_of_ble_eq_true rfl) (fun p e s m args below meth c hx hb hr hml hts hown hlk hin hK hsz A hA H locs hP hD hS ls hl Q hQ => ?_)
  have hl : lv_has ls 6 [(0, .ref h), (1, .int n1), (2, .int n2), (3, .int n3)] := hl
  have J208 : ∀ (mi_208 : Nat → Int32), ∀ (mr_208 : Nat → Nat), ∀ (mf_208 : Nat → Nat → Int32), ∀ (wi_208 : Nat → Int32), ∀ (wr_208 : Nat → Nat), ∀ (wf_208 : Nat → Nat → Int32), ∀ (ci_208 : Nat → Int32), ∀ (cr_208 : Nat → Nat), ∀ (cf_208 : Nat → Nat → Int32), (∀ k, mr_208 k ≤ mcW_lim k) → (∀ k, wr_208 k ≤ woW_lim k) → (∀ k, cr_208 k ≤ rcW_lim k) → ∀ (H : Heap) (locs : List Loc) (ls : Array Slot), va_P D vwCl (vz_w [mcW g h ma mi_208 mr_208 mf_208 wh (da 0) (da 2), cdW g da dr df, woW g wh wa wi_208 wr_208 wf_208 ph rh (la 0), pgW g ph pa pr pf, rcW g rh ca ci_208 cr_208 cf_208, plW g la lr lf lmx]) H → va_D A (vz_w [mcW g h ma mi_208 mr_208 mf_208 wh (da 0) (da 2), cdW g da dr df, woW g wh wa wi_208 wr_208 wf_208 ph rh (la 0), pgW g ph pa pr pf, rcW g rh ca ci_208 cr_208 cf_208, plW g la lr lf lmx]) → va_S A s.heap H locs → lv_has ls 6 [(0, .ref h), (1, .int n1), (2, .int n2), (3, .int n3)] → W p l e { frames := 4, cells := 0, slots := 0, locals := 94 } s m args below meth c H locs 0 0 Q (F0 m 208 ls []) := by
    intro mi_208 mr_208 mf_208 wi_208 wr_208 wf_208 ci_208 cr_208 cf_208 hw_m_208 hw_w_208 hw_c_208 H locs ls hP hD hS hl
    rw [hQ]
    exact vz_vret3 hx hb hr hlk hK hP hD hS (mi_208, mr_208, mf_208, wi_208, wr_208, wf_208, ci_208, cr_208, cf_208) (⟨hw_m_208, hw_w_208, hw_c_208⟩) rfl (Nat.le_refl 0) (Nat.le_refl 0) dX1_flow_208
  have J88 : ∀ (x4_88 : Int32), ∀ (x5_88 : Int32), ∀ (y0_88 : Int32), ∀ (mi_88 : Nat → Int32), ∀ (mr_88 : Nat → Nat), ∀ (mf_88 : Nat → Nat → Int32), ∀ (wi_88 : Nat → Int32), ∀ (wr_88 : Nat → Nat), ∀ (wf_88 : Nat → Nat → Int32), ∀ (ci_88 : Nat → Int32), ∀ (cr_88 : Nat → Nat), ∀ (cf_88 : Nat → Nat → Int32), (∀ k, mr_88 k ≤ mcW_lim k) → (∀ k, wr_88 k ≤ woW_lim k) → (∀ k, cr_88 k ≤ rcW_lim k) → ∀ (H : Heap) (locs : List Loc) (ls : Array Slot), va_P D vwCl (vz_w [mcW g h ma mi_88 mr_88 mf_88 wh (da 0) (da 2), cdW g da dr df, woW g wh wa wi_88 wr_88 wf_88 ph rh (la 0), pgW g ph pa pr pf, rcW g rh ca ci_88 cr_88 cf_88, plW g la lr lf lmx]) H → va_D A (vz_w [mcW g h ma mi_88 mr_88 mf_88 wh (da 0) (da 2), cdW g da dr df, woW g wh wa wi_88 wr_88 wf_88 ph rh (la 0), pgW g ph pa pr pf, rcW g rh ca ci_88 cr_88 cf_88, plW g la lr lf lmx]) → va_S A s.heap H locs → lv_has ls 6 [(0, .ref h), (1, .int n1), (2, .int n2), (3, .int n3), (4, .int x4_88), (5, .int x5_88)] → W p l e { frames := 4, cells := 0, slots := 0, locals := 94 } s m args below meth c H locs 0 0 Q (F0 m 88 ls [.int y0_88, .ref h]) := by
    intro x4_88 x5_88 y0_88 mi_88 mr_88 mf_88 wi_88 wr_88 wf_88 ci_88 cr_88 cf_88 hw_m_88 hw_w_88 hw_c_88 H locs ls hP hD hS hl
    refine va_put (D := D) (ci := 1) (v := .int y0_88) (ty := .int) (C := RX1) (T := TX1) (N := 7) hx hb hts inlX1 tyX1 tyX1_ok nmX1 hown hK hP hD hS 0 rfl rfl 5 (by decide) (hts _ q1266) (fun _ h => h) rfl (by decide +kernel) rfl rfl (Nat.le_of_ble_eq_true rfl) dX1_flow_88 (fun H locs hP hD hS => ?_)
    obtain ⟨mi_1, hmi_1, hP, hD⟩ : ∃ mi_1 : Nat → Int32, (mi_1 = (upd mi_88 1 y0_88)) ∧ va_P D vwCl (vz_w [mcW g h ma mi_1 mr_88 mf_88 wh (da 0) (da 2), cdW g da dr df, woW g wh wa wi_88 wr_88 wf_88 ph rh (la 0), pgW g ph pa pr pf, rcW g rh ca ci_88 cr_88 cf_88, plW g la lr lf lmx]) H ∧ va_D A (vz_w [mcW g h ma mi_1 mr_88 mf_88 wh (da 0) (da 2), cdW g da dr df, woW g wh wa wi_88 wr_88 wf_88 ph rh (la 0), pgW g ph pa pr pf, rcW g rh ca ci_88 cr_88 cf_88, plW g la lr lf lmx]) := ⟨(upd mi_88 1 y0_88), rfl, hP, hD⟩
    refine lv_goto (tgt := 208) hx hb dX1_flow_91 (by decide) ?_
    exact J208 mi_1 mr_88 mf_88 wi_88 wr_88 wf_88 ci_88 cr_88 cf_88 hw_m_88 hw_w_88 hw_c_88 H locs ls hP hD hS (lv_sub hl [0, 1, 2, 3] rfl)
  refine lv_iload_n hx hb dX1_flow_0 rfl (lv_at hl 1 rfl) ?_
  have S1_52 : W p l e { frames := 4, cells := 0, slots := 0, locals := 94 } s m args below meth c H locs 0 0 Q (F0 m 52 ls []) := by
    refine lv_aload_n hx hb dX1_flow_52 rfl (lv_at hl 0 rfl) ?_
    refine vz_Vi3 (As := []) (rest := []) hx hb hml hown hts hK hA hP hD hS (a_M_pop l D g H.size h ma mi mr mf wh da dr df wa wi wr wf ph rh la pa pr pf ca ci cr cf lr lf lmx hw_m hw_d hw_w hw_p hw_c hw_l hmx_l) kv_X1_125 ⟨Nat.le_of_ble_eq_true rfl, Nat.le_of_ble_eq_true rfl⟩ (q0 := 0) (ci := 1) rfl rfl rfl  hl.1 (Nat.le_of_ble_eq_true rfl) dX1_flow_53 ⟨Nat.le_refl _, Nat.le_refl _⟩ rfl (fun v3 mr_1 H locs hw_2 _ hP hD hS => ?_)
    try dsimp only at hw_2
    replace hP : va_P D vwCl (vz_w [mcW g h ma mi mr_1 mf wh (da 0) (da 2), cdW g da dr df, woW g wh wa wi wr wf ph rh (la 0), pgW g ph pa pr pf, rcW g rh ca ci cr cf, plW g la lr lf lmx]) H := hP
    replace hD : va_D A (vz_w [mcW g h ma mi mr_1 mf wh (da 0) (da 2), cdW g da dr df, woW g wh wa wi wr wf ph rh (la 0), pgW g ph pa pr pf, rcW g rh ca ci cr cf, plW g la lr lf lmx]) := hD
    refine lv_istore (lv' := [(4, .int v3), (0, .ref h), (1, .int n1), (2, .int n2), (3, .int n3)]) hx hb dX1_flow_56 hl (by decide) rfl (fun ls hl => ?_)
    refine lv_aload_n hx hb dX1_flow_58 rfl (lv_at hl 1 rfl) ?_
    refine vz_Vi3 (As := []) (rest := []) hx hb hml hown hts hK hA hP hD hS (a_M_pop l D g H.size h ma mi mr_1 mf wh da dr df wa wi wr wf ph rh la pa pr pf ca ci cr cf lr lf lmx hw_2 hw_d hw_w hw_p hw_c hw_l hmx_l) kv_X1_125 ⟨Nat.le_of_ble_eq_true rfl, Nat.le_of_ble_eq_true rfl⟩ (q0 := 0) (ci := 1) rfl rfl rfl  hl.1 (Nat.le_of_ble_eq_true rfl) dX1_flow_59 ⟨Nat.le_refl _, Nat.le_refl _⟩ rfl (fun v6 mr_4 H locs hw_5 _ hP hD hS => ?_)
    try dsimp only at hw_5
    replace hP : va_P D vwCl (vz_w [mcW g h ma mi mr_4 mf wh (da 0) (da 2), cdW g da dr df, woW g wh wa wi wr wf ph rh (la 0), pgW g ph pa pr pf, rcW g rh ca ci cr cf, plW g la lr lf lmx]) H := hP
    replace hD : va_D A (vz_w [mcW g h ma mi mr_4 mf wh (da 0) (da 2), cdW g da dr df, woW g wh wa wi wr wf ph rh (la 0), pgW g ph pa pr pf, rcW g rh ca ci cr cf, plW g la lr lf lmx]) := hD
    refine lv_istore (lv' := [(5, .int v6), (4, .int v3), (0, .ref h), (1, .int n1), (2, .int n2), (3, .int n3)]) hx hb dX1_flow_62 hl (by decide) rfl (fun ls hl => ?_)
    refine lv_aload_n hx hb dX1_flow_64 rfl (lv_at hl 2 rfl) ?_
    refine lv_aload_n hx hb dX1_flow_65 rfl (lv_at hl 2 rfl) ?_
    refine va_get (D := D) (ci := 1) (v := .ref wh) (C := RX1) (T := TX1) (N := 7) hx hb hts inlX1 hown hK hP 0 rfl rfl 0 (by decide) (hts _ q159) (fun _ h => h) rfl dX1_flow_66 ?_
    refine lv_iload_n hx hb dX1_flow_69 rfl (lv_at hl 5 rfl) ?_
    refine lv_iload hx hb dX1_flow_70 (lv_at hl 0 rfl) ?_
    refine lv_iload hx hb dX1_flow_72 (lv_at hl 1 rfl) ?_
    refine vz_Vi4 (n9 := 6) (bs2 := fun u : Unit => [mcW g h ma mi mr_4 mf wh (da 0) (da 2), cdW g da dr df, woW g wh wa wi wr wf ph rh (la 0), pgW g ph pa pr pf, rcW g rh ca ci cr cf, plW g la lr lf lmx]) (br := [mcW g h ma mi mr_4 mf wh (da 0) (da 2), cdW g da dr df]) (As := [.int n3, .int v6, .int v3]) (rest := [.ref h]) hx hb hml hown hts hK hA hP hD hS (a_W_compares l D g H.size wh wa wi wr wf ph rh la pa pr pf ca ci cr cf lr lf lmx n3 v6 v3 hw_w hw_p hw_c hw_l hmx_l) kv_X1_153 ⟨Nat.le_of_ble_eq_true rfl, Nat.le_of_ble_eq_true rfl⟩ (q0 := 7) (ci := 8) rfl rfl rfl [2, 3, 4, 5] [0, 1] rfl (by decide) rfl (fun _ => rfl) (fun _ => rfl) hl.1 (Nat.le_of_ble_eq_true rfl) dX1_flow_74 ⟨Nat.le_refl _, Nat.le_refl _⟩ rfl (fun v7 _ H locs hz8 _ hP hD hS => ?_)
    refine lv_if_eq (tgt := 87) hx hb dX1_flow_77 (by decide) (fun kc9 => ?_) (fun kc9 => ?_)
    · refine lv_iload_n hx hb dX1_flow_87 rfl (lv_at hl 4 rfl) ?_
      exact J88 v3 v6 n2 mi mr_4 mf wi wr wf ci cr cf hw_5 hw_w hw_c H locs ls hP hD hS (lv_sub hl [2, 3, 4, 5, 1, 0] rfl)
    · refine lv_aload_n hx hb dX1_flow_80 rfl (lv_at hl 2 rfl) ?_
      refine va_get (D := D) (ci := 1) (v := .int (mi 1)) (C := RX1) (T := TX1) (N := 7) hx hb hts inlX1 hown hK hP 0 rfl rfl 5 (by decide) (hts _ q1266) (fun _ h => h) rfl dX1_flow_81 ?_
      refine lv_goto (tgt := 88) hx hb dX1_flow_84 (by decide) ?_
      exact J88 v3 v6 (mi 1) mi mr_4 mf wi wr wf ci cr cf hw_5 hw_w hw_c H locs ls hP hD hS (lv_sub hl [2, 3, 4, 5, 1, 0] rfl)
  have S1_94 : W p l e { frames := 4, cells := 0, slots := 0, locals := 94 } s m args below meth c H locs 0 0 Q (F0 m 94 ls []) := by
    refine lv_aload_n hx hb dX1_flow_94 rfl (lv_at hl 0 rfl) ?_
    refine lv_iload_n hx hb dX1_flow_95 rfl (lv_at hl 2 rfl) ?_
    refine va_put (D := D) (ci := 1) (v := .int n2) (ty := .int) (C := RX1) (T := TX1) (N := 7) hx hb hts inlX1 tyX1 tyX1_ok nmX1 hown hK hP hD hS 0 rfl rfl 5 (by decide) (hts _ q1266) (fun _ h => h) rfl (by decide +kernel) rfl rfl (Nat.le_of_ble_eq_true rfl) dX1_flow_96 (fun H locs hP hD hS => ?_)
    obtain ⟨mi_10, hmi_10, hP, hD⟩ : ∃ mi_10 : Nat → Int32, (mi_10 = (upd mi 1 n2)) ∧ va_P D vwCl (vz_w [mcW g h ma mi_10 mr mf wh (da 0) (da 2), cdW g da dr df, woW g wh wa wi wr wf ph rh (la 0), pgW g ph pa pr pf, rcW g rh ca ci cr cf, plW g la lr lf lmx]) H ∧ va_D A (vz_w [mcW g h ma mi_10 mr mf wh (da 0) (da 2), cdW g da dr df, woW g wh wa wi wr wf ph rh (la 0), pgW g ph pa pr pf, rcW g rh ca ci cr cf, plW g la lr lf lmx]) := ⟨(upd mi 1 n2), rfl, hP, hD⟩
    refine lv_goto (tgt := 208) hx hb dX1_flow_99 (by decide) ?_
    exact J208 mi_10 mr mf wi wr wf ci cr cf hw_m hw_w hw_c H locs ls hP hD hS (lv_sub hl [0, 1, 2, 3] rfl)
  have S1_102 : W p l e { frames := 4, cells := 0, slots := 0, locals := 94 } s m args below meth c H locs 0 0 Q (F0 m 102 ls []) := by
    refine lv_aload_n hx hb dX1_flow_102 rfl (lv_at hl 0 rfl) ?_
    refine va_get (D := D) (ci := 1) (v := .ref wh) (C := RX1) (T := TX1) (N := 7) hx hb hts inlX1 hown hK hP 0 rfl rfl 0 (by decide) (hts _ q159) (fun _ h => h) rfl dX1_flow_103 ?_
    refine lv_iload_n hx hb dX1_flow_106 rfl (lv_at hl 2 rfl) ?_
    refine lv_iconst (v := 0) hx hb dX1_flow_107 (by decide) ?_
    refine lv_aload_n hx hb dX1_flow_108 rfl (lv_at hl 0 rfl) ?_
    refine vz_Vi3 (As := []) (rest := [.int 0, .int n2, .ref wh]) hx hb hml hown hts hK hA hP hD hS (a_M_pop l D g H.size h ma mi mr mf wh da dr df wa wi wr wf ph rh la pa pr pf ca ci cr cf lr lf lmx hw_m hw_d hw_w hw_p hw_c hw_l hmx_l) kv_X1_125 ⟨Nat.le_of_ble_eq_true rfl, Nat.le_of_ble_eq_true rfl⟩ (q0 := 0) (ci := 1) rfl rfl rfl  hl.1 (Nat.le_of_ble_eq_true rfl) dX1_flow_109 ⟨Nat.le_refl _, Nat.le_refl _⟩ rfl (fun v13 mr_11 H locs hw_12 _ hP hD hS => ?_)
    try dsimp only at hw_12
    replace hP : va_P D vwCl (vz_w [mcW g h ma mi mr_11 mf wh (da 0) (da 2), cdW g da dr df, woW g wh wa wi wr wf ph rh (la 0), pgW g ph pa pr pf, rcW g rh ca ci cr cf, plW g la lr lf lmx]) H := hP
    replace hD : va_D A (vz_w [mcW g h ma mi mr_11 mf wh (da 0) (da 2), cdW g da dr df, woW g wh wa wi wr wf ph rh (la 0), pgW g ph pa pr pf, rcW g rh ca ci cr cf, plW g la lr lf lmx]) := hD
    refine vz_Vv4 (n9 := 6) (bs2 := fun u : (Nat → Nat → Int32) => [mcW g h ma mi mr_11 mf wh (da 0) (da 2), cdW g da dr df, woW g wh wa wi wr u ph rh (la 0), pgW g ph pa pr pf, rcW g rh ca ci cr cf, plW g la lr lf lmx]) (br := [mcW g h ma mi mr_11 mf wh (da 0) (da 2), cdW g da dr df]) (As := [.int n2, .int 0, .int v13]) (rest := []) hx hb hml hown hts hK hA hP hD hS (a_W_setSlot l D g H.size wh wa wi wr wf ph rh la pa pr pf ca ci cr cf lr lf lmx n2 0 v13 hw_w hw_p hw_c hw_l hmx_l) kv_X1_157 ⟨Nat.le_of_ble_eq_true rfl, Nat.le_of_ble_eq_true rfl⟩ (q0 := 7) (ci := 8) rfl rfl rfl [2, 3, 4, 5] [0, 1] rfl (by decide) rfl (fun _ => rfl) (fun _ => rfl) hl.1 (Nat.le_of_ble_eq_true rfl) dX1_flow_112 ⟨Nat.le_refl _, Nat.le_refl _⟩ rfl (fun wf_14 H locs _ _ hP hD hS => ?_)
    replace hP : va_P D vwCl (vz_w [mcW g h ma mi mr_11 mf wh (da 0) (da 2), cdW g da dr df, woW g wh wa wi wr wf_14 ph rh (la 0), pgW g ph pa pr pf, rcW g rh ca ci cr cf, plW g la lr lf lmx]) H := hP
    replace hD : va_D A (vz_w [mcW g h ma mi mr_11 mf wh (da 0) (da 2), cdW g da dr df, woW g wh wa wi wr wf_14 ph rh (la 0), pgW g ph pa pr pf, rcW g rh ca ci cr cf, plW g la lr lf lmx]) := hD
    refine lv_goto (tgt := 208) hx hb dX1_flow_115 (by decide) ?_
    exact J208 mi mr_11 mf wi wr wf_14 ci cr cf hw_12 hw_w hw_c H locs ls hP hD hS (lv_sub hl [0, 1, 2, 3] rfl)
  have S1_118 : W p l e { frames := 4, cells := 0, slots := 0, locals := 94 } s m args below meth c H locs 0 0 Q (F0 m 118 ls []) := by
    refine lv_aload_n hx hb dX1_flow_118 rfl (lv_at hl 0 rfl) ?_
    refine lv_iload_n hx hb dX1_flow_119 rfl (lv_at hl 2 rfl) ?_
    refine lv_iload_n hx hb dX1_flow_120 rfl (lv_at hl 3 rfl) ?_
    refine vz_Vv3 (As := [.int n2, .int n3]) (rest := []) hx hb hml hown hts hK hA hP hD hS (a_M_turn l D g H.size h ma mi mr mf wh da dr df wa wi wr wf ph rh la pa pr pf ca ci cr cf lr lf lmx n2 n3 hw_m hw_d hw_w hw_p hw_c hw_l hmx_l) kv_X1_160 ⟨Nat.le_of_ble_eq_true rfl, Nat.le_of_ble_eq_true rfl⟩ (q0 := 0) (ci := 1) rfl rfl rfl  hl.1 (Nat.le_of_ble_eq_true rfl) dX1_flow_121 ⟨Nat.le_refl _, Nat.le_refl _⟩ rfl (fun ⟨mi_15, wf_16, ci_17⟩ H locs _ _ hP hD hS => ?_)
    replace hP : va_P D vwCl (vz_w [mcW g h ma mi_15 mr mf wh (da 0) (da 2), cdW g da dr df, woW g wh wa wi wr wf_16 ph rh (la 0), pgW g ph pa pr pf, rcW g rh ca ci_17 cr cf, plW g la lr lf lmx]) H := hP
    replace hD : va_D A (vz_w [mcW g h ma mi_15 mr mf wh (da 0) (da 2), cdW g da dr df, woW g wh wa wi wr wf_16 ph rh (la 0), pgW g ph pa pr pf, rcW g rh ca ci_17 cr cf, plW g la lr lf lmx]) := hD
    refine lv_goto (tgt := 208) hx hb dX1_flow_124 (by decide) ?_
    exact J208 mi_15 mr mf wi wr wf_16 ci_17 cr cf hw_m hw_w hw_c H locs ls hP hD hS (lv_sub hl [0, 1, 2, 3] rfl)
  have S1_127 : W p l e { frames := 4, cells := 0, slots := 0, locals := 94 } s m args below meth c H locs 0 0 Q (F0 m 127 ls []) := by
    refine lv_aload_n hx hb dX1_flow_127 rfl (lv_at hl 0 rfl) ?_
    refine lv_iload_n hx hb dX1_flow_128 rfl (lv_at hl 2 rfl) ?_
    refine vz_Vv3 (As := [.int n2]) (rest := []) hx hb hml hown hts hK hA hP hD hS (a_M_call l D g H.size h ma mi mr mf wh da dr df wa wi wr wf ph rh la pa pr pf ca ci cr cf lr lf lmx n2 hw_m hw_d hw_w hw_p hw_c hw_l hmx_l) kv_X1_163 ⟨Nat.le_of_ble_eq_true rfl, Nat.le_of_ble_eq_true rfl⟩ (q0 := 0) (ci := 1) rfl rfl rfl  hl.1 (Nat.le_of_ble_eq_true rfl) dX1_flow_129 ⟨Nat.le_refl _, Nat.le_refl _⟩ rfl (fun ⟨mi_18, mr_19, wi_20, wr_21, wf_22, ci_23, cr_24, cf_25⟩ H locs ⟨hw_26, hw_27, hw_28⟩ _ hP hD hS => ?_)
    try dsimp only at hw_26 hw_27 hw_28
    replace hP : va_P D vwCl (vz_w [mcW g h ma mi_18 mr_19 mf wh (da 0) (da 2), cdW g da dr df, woW g wh wa wi_20 wr_21 wf_22 ph rh (la 0), pgW g ph pa pr pf, rcW g rh ca ci_23 cr_24 cf_25, plW g la lr lf lmx]) H := hP
    replace hD : va_D A (vz_w [mcW g h ma mi_18 mr_19 mf wh (da 0) (da 2), cdW g da dr df, woW g wh wa wi_20 wr_21 wf_22 ph rh (la 0), pgW g ph pa pr pf, rcW g rh ca ci_23 cr_24 cf_25, plW g la lr lf lmx]) := hD
    refine lv_goto (tgt := 208) hx hb dX1_flow_132 (by decide) ?_
    exact J208 mi_18 mr_19 mf wi_20 wr_21 wf_22 ci_23 cr_24 cf_25 hw_26 hw_27 hw_28 H locs ls hP hD hS (lv_sub hl [0, 1, 2, 3] rfl)
  have S1_135 : W p l e { frames := 4, cells := 0, slots := 0, locals := 94 } s m args below meth c H locs 0 0 Q (F0 m 135 ls []) := by
    refine lv_aload_n hx hb dX1_flow_135 rfl (lv_at hl 0 rfl) ?_
    refine vz_Vv3 (As := []) (rest := []) hx hb hml hown hts hK hA hP hD hS (a_M_giveBack l D g H.size h ma mi mr mf wh da dr df wa wi wr wf ph rh la pa pr pf ca ci cr cf lr lf lmx hw_m hw_d hw_w hw_p hw_c hw_l hmx_l) kv_X1_166 ⟨Nat.le_of_ble_eq_true rfl, Nat.le_of_ble_eq_true rfl⟩ (q0 := 0) (ci := 1) rfl rfl rfl  hl.1 (Nat.le_of_ble_eq_true rfl) dX1_flow_136 ⟨Nat.le_refl _, Nat.le_refl _⟩ rfl (fun ⟨mi_29, mr_30, wr_31, ci_32⟩ H locs ⟨hw_33, hw_34⟩ _ hP hD hS => ?_)
    try dsimp only at hw_33 hw_34
    replace hP : va_P D vwCl (vz_w [mcW g h ma mi_29 mr_30 mf wh (da 0) (da 2), cdW g da dr df, woW g wh wa wi wr_31 wf ph rh (la 0), pgW g ph pa pr pf, rcW g rh ca ci_32 cr cf, plW g la lr lf lmx]) H := hP
    replace hD : va_D A (vz_w [mcW g h ma mi_29 mr_30 mf wh (da 0) (da 2), cdW g da dr df, woW g wh wa wi wr_31 wf ph rh (la 0), pgW g ph pa pr pf, rcW g rh ca ci_32 cr cf, plW g la lr lf lmx]) := hD
    refine lv_goto (tgt := 208) hx hb dX1_flow_139 (by decide) ?_
    exact J208 mi_29 mr_30 mf wi wr_31 wf ci_32 cr cf hw_33 hw_34 hw_c H locs ls hP hD hS (lv_sub hl [0, 1, 2, 3] rfl)
  have S1_142 : W p l e { frames := 4, cells := 0, slots := 0, locals := 94 } s m args below meth c H locs 0 0 Q (F0 m 142 ls []) := by
    refine lv_aload_n hx hb dX1_flow_142 rfl (lv_at hl 0 rfl) ?_
    refine va_get (D := D) (ci := 1) (v := .ref wh) (C := RX1) (T := TX1) (N := 7) hx hb hts inlX1 hown hK hP 0 rfl rfl 0 (by decide) (hts _ q159) (fun _ h => h) rfl dX1_flow_143 ?_
    refine lv_iload_n hx hb dX1_flow_146 rfl (lv_at hl 3 rfl) ?_
    refine lv_iconst (v := 4) hx hb dX1_flow_147 (by decide) ?_
    refine lv_aload_n hx hb dX1_flow_148 rfl (lv_at hl 0 rfl) ?_
    refine va_get (D := D) (ci := 1) (v := .int (mi 1)) (C := RX1) (T := TX1) (N := 7) hx hb hts inlX1 hown hK hP 0 rfl rfl 5 (by decide) (hts _ q1266) (fun _ h => h) rfl dX1_flow_149 ?_
    refine vz_Vv4 (n9 := 6) (bs2 := fun u : (Nat → Nat → Int32) => [mcW g h ma mi mr mf wh (da 0) (da 2), cdW g da dr df, woW g wh wa wi wr u ph rh (la 0), pgW g ph pa pr pf, rcW g rh ca ci cr cf, plW g la lr lf lmx]) (br := [mcW g h ma mi mr mf wh (da 0) (da 2), cdW g da dr df]) (As := [.int n3, .int 4, .int (mi 1)]) (rest := []) hx hb hml hown hts hK hA hP hD hS (a_W_setSlot l D g H.size wh wa wi wr wf ph rh la pa pr pf ca ci cr cf lr lf lmx n3 4 (mi 1) hw_w hw_p hw_c hw_l hmx_l) kv_X1_157 ⟨Nat.le_of_ble_eq_true rfl, Nat.le_of_ble_eq_true rfl⟩ (q0 := 7) (ci := 8) rfl rfl rfl [2, 3, 4, 5] [0, 1] rfl (by decide) rfl (fun _ => rfl) (fun _ => rfl) hl.1 (Nat.le_of_ble_eq_true rfl) dX1_flow_152 ⟨Nat.le_refl _, Nat.le_refl _⟩ rfl (fun wf_35 H locs _ _ hP hD hS => ?_)
    replace hP : va_P D vwCl (vz_w [mcW g h ma mi mr mf wh (da 0) (da 2), cdW g da dr df, woW g wh wa wi wr wf_35 ph rh (la 0), pgW g ph pa pr pf, rcW g rh ca ci cr cf, plW g la lr lf lmx]) H := hP
    replace hD : va_D A (vz_w [mcW g h ma mi mr mf wh (da 0) (da 2), cdW g da dr df, woW g wh wa wi wr wf_35 ph rh (la 0), pgW g ph pa pr pf, rcW g rh ca ci cr cf, plW g la lr lf lmx]) := hD
    refine lv_aload_n hx hb dX1_flow_155 rfl (lv_at hl 0 rfl) ?_
    refine lv_iload_n hx hb dX1_flow_156 rfl (lv_at hl 2 rfl) ?_
    refine va_put (D := D) (ci := 1) (v := .int n2) (ty := .int) (C := RX1) (T := TX1) (N := 7) hx hb hts inlX1 tyX1 tyX1_ok nmX1 hown hK hP hD hS 0 rfl rfl 5 (by decide) (hts _ q1266) (fun _ h => h) rfl (by decide +kernel) rfl rfl (Nat.le_of_ble_eq_true rfl) dX1_flow_157 (fun H locs hP hD hS => ?_)
    obtain ⟨mi_36, hmi_36, hP, hD⟩ : ∃ mi_36 : Nat → Int32, (mi_36 = (upd mi 1 n2)) ∧ va_P D vwCl (vz_w [mcW g h ma mi_36 mr mf wh (da 0) (da 2), cdW g da dr df, woW g wh wa wi wr wf_35 ph rh (la 0), pgW g ph pa pr pf, rcW g rh ca ci cr cf, plW g la lr lf lmx]) H ∧ va_D A (vz_w [mcW g h ma mi_36 mr mf wh (da 0) (da 2), cdW g da dr df, woW g wh wa wi wr wf_35 ph rh (la 0), pgW g ph pa pr pf, rcW g rh ca ci cr cf, plW g la lr lf lmx]) := ⟨(upd mi 1 n2), rfl, hP, hD⟩
    refine lv_goto (tgt := 208) hx hb dX1_flow_160 (by decide) ?_
    exact J208 mi_36 mr mf wi wr wf_35 ci cr cf hw_m hw_w hw_c H locs ls hP hD hS (lv_sub hl [0, 1, 2, 3] rfl)
  have S1_163 : W p l e { frames := 4, cells := 0, slots := 0, locals := 94 } s m args below meth c H locs 0 0 Q (F0 m 163 ls []) := by
    refine lv_aload_n hx hb dX1_flow_163 rfl (lv_at hl 0 rfl) ?_
    refine lv_aload_n hx hb dX1_flow_164 rfl (lv_at hl 0 rfl) ?_
    refine va_get (D := D) (ci := 1) (v := .ref wh) (C := RX1) (T := TX1) (N := 7) hx hb hts inlX1 hown hK hP 0 rfl rfl 0 (by decide) (hts _ q159) (fun _ h => h) rfl dX1_flow_165 ?_
    refine lv_iload_n hx hb dX1_flow_168 rfl (lv_at hl 2 rfl) ?_
    refine lv_iconst (v := 4) hx hb dX1_flow_169 (by decide) ?_
    refine vz_Vi4 (n9 := 6) (bs2 := fun u : Unit => [mcW g h ma mi mr mf wh (da 0) (da 2), cdW g da dr df, woW g wh wa wi wr wf ph rh (la 0), pgW g ph pa pr pf, rcW g rh ca ci cr cf, plW g la lr lf lmx]) (br := [mcW g h ma mi mr mf wh (da 0) (da 2), cdW g da dr df]) (As := [.int n2, .int 4]) (rest := [.ref h]) hx hb hml hown hts hK hA hP hD hS (a_W_slot l D g H.size wh wa wi wr wf ph rh la pa pr pf ca ci cr cf lr lf lmx n2 4 hw_w hw_p hw_c hw_l hmx_l) kv_X1_169 ⟨Nat.le_of_ble_eq_true rfl, Nat.le_of_ble_eq_true rfl⟩ (q0 := 7) (ci := 8) rfl rfl rfl [2, 3, 4, 5] [0, 1] rfl (by decide) rfl (fun _ => rfl) (fun _ => rfl) hl.1 (Nat.le_of_ble_eq_true rfl) dX1_flow_170 ⟨Nat.le_refl _, Nat.le_refl _⟩ rfl (fun v37 _ H locs _ _ hP hD hS => ?_)
    refine va_put (D := D) (ci := 1) (v := .int v37) (ty := .int) (C := RX1) (T := TX1) (N := 7) hx hb hts inlX1 tyX1 tyX1_ok nmX1 hown hK hP hD hS 0 rfl rfl 5 (by decide) (hts _ q1266) (fun _ h => h) rfl (by decide +kernel) rfl rfl (Nat.le_of_ble_eq_true rfl) dX1_flow_173 (fun H locs hP hD hS => ?_)
    obtain ⟨mi_38, hmi_38, hP, hD⟩ : ∃ mi_38 : Nat → Int32, (mi_38 = (upd mi 1 v37)) ∧ va_P D vwCl (vz_w [mcW g h ma mi_38 mr mf wh (da 0) (da 2), cdW g da dr df, woW g wh wa wi wr wf ph rh (la 0), pgW g ph pa pr pf, rcW g rh ca ci cr cf, plW g la lr lf lmx]) H ∧ va_D A (vz_w [mcW g h ma mi_38 mr mf wh (da 0) (da 2), cdW g da dr df, woW g wh wa wi wr wf ph rh (la 0), pgW g ph pa pr pf, rcW g rh ca ci cr cf, plW g la lr lf lmx]) := ⟨(upd mi 1 v37), rfl, hP, hD⟩
    refine lv_goto (tgt := 208) hx hb dX1_flow_176 (by decide) ?_
    exact J208 mi_38 mr mf wi wr wf ci cr cf hw_m hw_w hw_c H locs ls hP hD hS (lv_sub hl [0, 1, 2, 3] rfl)
  have S1_179 : W p l e { frames := 4, cells := 0, slots := 0, locals := 94 } s m args below meth c H locs 0 0 Q (F0 m 179 ls []) := by
    refine lv_aload_n hx hb dX1_flow_179 rfl (lv_at hl 0 rfl) ?_
    refine va_get (D := D) (ci := 1) (v := .ref wh) (C := RX1) (T := TX1) (N := 7) hx hb hts inlX1 hown hK hP 0 rfl rfl 0 (by decide) (hts _ q159) (fun _ h => h) rfl dX1_flow_180 ?_
    refine lv_iload_n hx hb dX1_flow_183 rfl (lv_at hl 2 rfl) ?_
    refine lv_iconst (v := 5) hx hb dX1_flow_184 (by decide) ?_
    refine lv_aload_n hx hb dX1_flow_185 rfl (lv_at hl 0 rfl) ?_
    refine vz_Vi3 (As := []) (rest := [.int 5, .int n2, .ref wh]) hx hb hml hown hts hK hA hP hD hS (a_M_pop l D g H.size h ma mi mr mf wh da dr df wa wi wr wf ph rh la pa pr pf ca ci cr cf lr lf lmx hw_m hw_d hw_w hw_p hw_c hw_l hmx_l) kv_X1_125 ⟨Nat.le_of_ble_eq_true rfl, Nat.le_of_ble_eq_true rfl⟩ (q0 := 0) (ci := 1) rfl rfl rfl  hl.1 (Nat.le_of_ble_eq_true rfl) dX1_flow_186 ⟨Nat.le_refl _, Nat.le_refl _⟩ rfl (fun v41 mr_39 H locs hw_40 _ hP hD hS => ?_)
    try dsimp only at hw_40
    replace hP : va_P D vwCl (vz_w [mcW g h ma mi mr_39 mf wh (da 0) (da 2), cdW g da dr df, woW g wh wa wi wr wf ph rh (la 0), pgW g ph pa pr pf, rcW g rh ca ci cr cf, plW g la lr lf lmx]) H := hP
    replace hD : va_D A (vz_w [mcW g h ma mi mr_39 mf wh (da 0) (da 2), cdW g da dr df, woW g wh wa wi wr wf ph rh (la 0), pgW g ph pa pr pf, rcW g rh ca ci cr cf, plW g la lr lf lmx]) := hD
    refine vz_Vv4 (n9 := 6) (bs2 := fun u : (Nat → Nat → Int32) => [mcW g h ma mi mr_39 mf wh (da 0) (da 2), cdW g da dr df, woW g wh wa wi wr u ph rh (la 0), pgW g ph pa pr pf, rcW g rh ca ci cr cf, plW g la lr lf lmx]) (br := [mcW g h ma mi mr_39 mf wh (da 0) (da 2), cdW g da dr df]) (As := [.int n2, .int 5, .int v41]) (rest := []) hx hb hml hown hts hK hA hP hD hS (a_W_setSlot l D g H.size wh wa wi wr wf ph rh la pa pr pf ca ci cr cf lr lf lmx n2 5 v41 hw_w hw_p hw_c hw_l hmx_l) kv_X1_157 ⟨Nat.le_of_ble_eq_true rfl, Nat.le_of_ble_eq_true rfl⟩ (q0 := 7) (ci := 8) rfl rfl rfl [2, 3, 4, 5] [0, 1] rfl (by decide) rfl (fun _ => rfl) (fun _ => rfl) hl.1 (Nat.le_of_ble_eq_true rfl) dX1_flow_189 ⟨Nat.le_refl _, Nat.le_refl _⟩ rfl (fun wf_42 H locs _ _ hP hD hS => ?_)
    replace hP : va_P D vwCl (vz_w [mcW g h ma mi mr_39 mf wh (da 0) (da 2), cdW g da dr df, woW g wh wa wi wr wf_42 ph rh (la 0), pgW g ph pa pr pf, rcW g rh ca ci cr cf, plW g la lr lf lmx]) H := hP
    replace hD : va_D A (vz_w [mcW g h ma mi mr_39 mf wh (da 0) (da 2), cdW g da dr df, woW g wh wa wi wr wf_42 ph rh (la 0), pgW g ph pa pr pf, rcW g rh ca ci cr cf, plW g la lr lf lmx]) := hD
    refine lv_goto (tgt := 208) hx hb dX1_flow_192 (by decide) ?_
    exact J208 mi mr_39 mf wi wr wf_42 ci cr cf hw_40 hw_w hw_c H locs ls hP hD hS (lv_sub hl [0, 1, 2, 3] rfl)
  have S1_195 : W p l e { frames := 4, cells := 0, slots := 0, locals := 94 } s m args below meth c H locs 0 0 Q (F0 m 195 ls []) := by
    refine lv_aload_n hx hb dX1_flow_195 rfl (lv_at hl 0 rfl) ?_
    refine lv_aload_n hx hb dX1_flow_196 rfl (lv_at hl 0 rfl) ?_
    refine va_get (D := D) (ci := 1) (v := .ref wh) (C := RX1) (T := TX1) (N := 7) hx hb hts inlX1 hown hK hP 0 rfl rfl 0 (by decide) (hts _ q159) (fun _ h => h) rfl dX1_flow_197 ?_
    refine lv_iload_n hx hb dX1_flow_200 rfl (lv_at hl 2 rfl) ?_
    refine lv_iconst (v := 5) hx hb dX1_flow_201 (by decide) ?_
    refine vz_Vi4 (n9 := 6) (bs2 := fun u : Unit => [mcW g h ma mi mr mf wh (da 0) (da 2), cdW g da dr df, woW g wh wa wi wr wf ph rh (la 0), pgW g ph pa pr pf, rcW g rh ca ci cr cf, plW g la lr lf lmx]) (br := [mcW g h ma mi mr mf wh (da 0) (da 2), cdW g da dr df]) (As := [.int n2, .int 5]) (rest := [.ref h]) hx hb hml hown hts hK hA hP hD hS (a_W_slot l D g H.size wh wa wi wr wf ph rh la pa pr pf ca ci cr cf lr lf lmx n2 5 hw_w hw_p hw_c hw_l hmx_l) kv_X1_169 ⟨Nat.le_of_ble_eq_true rfl, Nat.le_of_ble_eq_true rfl⟩ (q0 := 7) (ci := 8) rfl rfl rfl [2, 3, 4, 5] [0, 1] rfl (by decide) rfl (fun _ => rfl) (fun _ => rfl) hl.1 (Nat.le_of_ble_eq_true rfl) dX1_flow_202 ⟨Nat.le_refl _, Nat.le_refl _⟩ rfl (fun v43 _ H locs _ _ hP hD hS => ?_)
    refine vz_Vv3 (As := [.int v43]) (rest := []) hx hb hml hown hts hK hA hP hD hS (a_M_push l D g H.size h ma mi mr mf wh da dr df wa wi wr wf ph rh la pa pr pf ca ci cr cf lr lf lmx v43 hw_m hw_d hw_w hw_p hw_c hw_l hmx_l) kv_X1_121 ⟨Nat.le_of_ble_eq_true rfl, Nat.le_of_ble_eq_true rfl⟩ (q0 := 0) (ci := 1) rfl rfl rfl  hl.1 (Nat.le_of_ble_eq_true rfl) dX1_flow_205 ⟨Nat.le_refl _, Nat.le_refl _⟩ rfl (fun ⟨mr_44, mf_45⟩ H locs hw_46 _ hP hD hS => ?_)
    try dsimp only at hw_46
    replace hP : va_P D vwCl (vz_w [mcW g h ma mi mr_44 mf_45 wh (da 0) (da 2), cdW g da dr df, woW g wh wa wi wr wf ph rh (la 0), pgW g ph pa pr pf, rcW g rh ca ci cr cf, plW g la lr lf lmx]) H := hP
    replace hD : va_D A (vz_w [mcW g h ma mi mr_44 mf_45 wh (da 0) (da 2), cdW g da dr df, woW g wh wa wi wr wf ph rh (la 0), pgW g ph pa pr pf, rcW g rh ca ci cr cf, plW g la lr lf lmx]) := hD
    exact J208 mi mr_44 mf_45 wi wr wf ci cr cf hw_46 hw_w hw_c H locs ls hP hD hS (lv_sub hl [0, 1, 2, 3] rfl)
  refine vz_tsw (td := 195) hx hb dX1_flow_1 (by decide) [52, 94, 102, 118, 127, 135, 142, 163, 179] (by decide) (by decide) (fun hv => ?_) (fun k t hk hv => ?_)
  · exact S1_195
  · have hm := List.mem_of_getElem? hk
    simp only [List.mem_cons, List.not_mem_nil, or_false] at hm
    rcases hm with rfl | rfl | rfl | rfl | rfl | rfl | rfl | rfl | rfl
    · exact S1_52
    · exact S1_94
    · exact S1_102
    · exact S1_118
    · exact S1_127
    · exact S1_135
    · exact S1_142
    · exact S1_163
    · exact S1_179
theorem q1339 : Cond.methodLink RX1 187 yX1_closeUnder ∈ wsL_law := mT_5 (List.mem_of_getElem? (i := 237) rfl) rfl
theorem q1340 : Cond.instanceMethod yX1_closeUnder ∈ wsL_law := mT_5 (List.mem_of_getElem? (i := 239) rfl) rfl
theorem q1341 : Cond.selects RX1 yX1_closeUnder yX1_closeUnder ∈ wsL_law := mS_7 (q := (yX1_closeUnder, 7)) (List.mem_of_getElem? (i := 2) rfl) rfl
theorem q1342 : Cond.code yX1_closeUnder cX1_closeUnder 4 none ∈ wsL_law := mT_6 (List.mem_of_getElem? (i := 0) rfl) rfl
theorem kv_X1_187 : vz_cv RX1 187 yX1_closeUnder cX1_closeUnder 4 none 2 := ⟨q1339, q1340, q1341, q55, q1342, by decide +kernel⟩
theorem q1337 : Cond.methodLink RX1 181 yX8_open ∈ wsL_law := mT_5 (List.mem_of_getElem? (i := 235) rfl) rfl
theorem kv_X1_181 : vz_cv RX1 181 yX8_open cX8_open 4 none 2 := ⟨q1337, q1212, q1213, q47, q1214, by decide +kernel⟩
theorem q1331 : Cond.methodLink RX1 178 yX1_lose ∈ wsL_law := mT_5 (List.mem_of_getElem? (i := 231) rfl) rfl
theorem q1332 : Cond.instanceMethod yX1_lose ∈ wsL_law := mT_5 (List.mem_of_getElem? (i := 233) rfl) rfl
theorem q1333 : Cond.selects RX1 yX1_lose yX1_lose ∈ wsL_law := mS_7 (q := (yX1_lose, 7)) (List.mem_of_getElem? (i := 1) rfl) rfl
theorem q1334 : Cond.code yX1_lose cX1_lose 2 none ∈ wsL_law := mT_5 (List.mem_of_getElem? (i := 234) rfl) rfl
theorem kv_X1_178 : vz_cv RX1 178 yX1_lose cX1_lose 2 none 1 := ⟨q1331, q1332, q1333, q55, q1334, by decide +kernel⟩
theorem q164 : Cond.fieldLink RX1 30 "WaysAtlas$Machine" "caught" "I" ∈ wsL_law := mT_2 (List.mem_of_getElem? (i := 122) rfl) rfl
theorem q1330 : Cond.methodLink RX1 175 yX8_finish ∈ wsL_law := mT_5 (List.mem_of_getElem? (i := 230) rfl) rfl
theorem kv_X1_175 : vz_cv RX1 175 yX8_finish cX8_finish 2 none 1 := ⟨q1330, q1246, q1247, q47, q1248, by decide +kernel⟩
theorem dX1_fail_0 : decode cX1_fail 0 = .ok (.iload_n 1, 1) := by decide +kernel
theorem dX1_fail_1 : decode cX1_fail 1 = .ok (.tableswitch 262 24 35 #[63, 76, 96, 115, 134, 150, 166, 180, 191, 199, 218, 240], 63) := by decide +kernel
theorem dX1_fail_64 : decode cX1_fail 64 = .ok (.aload_n 0, 1) := by decide +kernel
theorem dX1_fail_65 : decode cX1_fail 65 = .ok (.getfield 9, 3) := by decide +kernel
theorem dX1_fail_68 : decode cX1_fail 68 = .ok (.iload_n 2, 1) := by decide +kernel
theorem dX1_fail_69 : decode cX1_fail 69 = .ok (.bipush (-9), 2) := by decide +kernel
theorem dX1_fail_71 : decode cX1_fail 71 = .ok (.invokevirtual 172, 3) := by decide +kernel
theorem dX1_fail_74 : decode cX1_fail 74 = .ok (.goto 195, 3) := by decide +kernel
theorem dX1_fail_77 : decode cX1_fail 77 = .ok (.aload_n 0, 1) := by decide +kernel
theorem dX1_fail_78 : decode cX1_fail 78 = .ok (.getfield 9, 3) := by decide +kernel
theorem dX1_fail_81 : decode cX1_fail 81 = .ok (.iload_n 2, 1) := by decide +kernel
theorem dX1_fail_82 : decode cX1_fail 82 = .ok (.aload_n 0, 1) := by decide +kernel
theorem dX1_fail_83 : decode cX1_fail 83 = .ok (.getfield 9, 3) := by decide +kernel
theorem dX1_fail_86 : decode cX1_fail 86 = .ok (.iload_n 3, 1) := by decide +kernel
theorem dX1_fail_87 : decode cX1_fail 87 = .ok (.iconst 1, 1) := by decide +kernel
theorem dX1_fail_88 : decode cX1_fail 88 = .ok (.invokevirtual 169, 3) := by decide +kernel
theorem dX1_fail_91 : decode cX1_fail 91 = .ok (.invokevirtual 172, 3) := by decide +kernel
theorem dX1_fail_94 : decode cX1_fail 94 = .ok (.goto 175, 3) := by decide +kernel
theorem dX1_fail_97 : decode cX1_fail 97 = .ok (.aload_n 0, 1) := by decide +kernel
theorem dX1_fail_98 : decode cX1_fail 98 = .ok (.getfield 9, 3) := by decide +kernel
theorem dX1_fail_101 : decode cX1_fail 101 = .ok (.aload_n 0, 1) := by decide +kernel
theorem dX1_fail_102 : decode cX1_fail 102 = .ok (.getfield 9, 3) := by decide +kernel
theorem dX1_fail_105 : decode cX1_fail 105 = .ok (.iload_n 2, 1) := by decide +kernel
theorem dX1_fail_106 : decode cX1_fail 106 = .ok (.iconst 1, 1) := by decide +kernel
theorem dX1_fail_107 : decode cX1_fail 107 = .ok (.invokevirtual 169, 3) := by decide +kernel
theorem dX1_fail_110 : decode cX1_fail 110 = .ok (.putfield 79, 3) := by decide +kernel
theorem dX1_fail_113 : decode cX1_fail 113 = .ok (.goto 156, 3) := by decide +kernel
theorem dX1_fail_116 : decode cX1_fail 116 = .ok (.aload_n 0, 1) := by decide +kernel
theorem dX1_fail_117 : decode cX1_fail 117 = .ok (.getfield 9, 3) := by decide +kernel
theorem dX1_fail_120 : decode cX1_fail 120 = .ok (.aload_n 0, 1) := by decide +kernel
theorem dX1_fail_121 : decode cX1_fail 121 = .ok (.getfield 9, 3) := by decide +kernel
theorem dX1_fail_124 : decode cX1_fail 124 = .ok (.iload_n 2, 1) := by decide +kernel
theorem dX1_fail_125 : decode cX1_fail 125 = .ok (.iconst 2, 1) := by decide +kernel
theorem dX1_fail_126 : decode cX1_fail 126 = .ok (.invokevirtual 169, 3) := by decide +kernel
theorem dX1_fail_129 : decode cX1_fail 129 = .ok (.putfield 79, 3) := by decide +kernel
theorem dX1_fail_132 : decode cX1_fail 132 = .ok (.goto 137, 3) := by decide +kernel
theorem dX1_fail_135 : decode cX1_fail 135 = .ok (.aload_n 0, 1) := by decide +kernel
theorem dX1_fail_136 : decode cX1_fail 136 = .ok (.getfield 9, 3) := by decide +kernel
theorem dX1_fail_139 : decode cX1_fail 139 = .ok (.iload_n 2, 1) := by decide +kernel
theorem dX1_fail_140 : decode cX1_fail 140 = .ok (.iconst 1, 1) := by decide +kernel
theorem dX1_fail_141 : decode cX1_fail 141 = .ok (.aload_n 0, 1) := by decide +kernel
theorem dX1_fail_142 : decode cX1_fail 142 = .ok (.getfield 30, 3) := by decide +kernel
theorem dX1_fail_145 : decode cX1_fail 145 = .ok (.invokevirtual 157, 3) := by decide +kernel
theorem dX1_fail_148 : decode cX1_fail 148 = .ok (.goto 121, 3) := by decide +kernel
theorem dX1_fail_151 : decode cX1_fail 151 = .ok (.aload_n 0, 1) := by decide +kernel
theorem dX1_fail_152 : decode cX1_fail 152 = .ok (.getfield 9, 3) := by decide +kernel
theorem dX1_fail_155 : decode cX1_fail 155 = .ok (.iload_n 2, 1) := by decide +kernel
theorem dX1_fail_156 : decode cX1_fail 156 = .ok (.iconst 2, 1) := by decide +kernel
theorem dX1_fail_157 : decode cX1_fail 157 = .ok (.aload_n 0, 1) := by decide +kernel
theorem dX1_fail_158 : decode cX1_fail 158 = .ok (.getfield 30, 3) := by decide +kernel
theorem dX1_fail_161 : decode cX1_fail 161 = .ok (.invokevirtual 157, 3) := by decide +kernel
theorem dX1_fail_164 : decode cX1_fail 164 = .ok (.goto 105, 3) := by decide +kernel
theorem dX1_fail_167 : decode cX1_fail 167 = .ok (.aload_n 0, 1) := by decide +kernel
theorem dX1_fail_168 : decode cX1_fail 168 = .ok (.getfield 9, 3) := by decide +kernel
theorem dX1_fail_171 : decode cX1_fail 171 = .ok (.iload_n 2, 1) := by decide +kernel
theorem dX1_fail_172 : decode cX1_fail 172 = .ok (.iconst 2, 1) := by decide +kernel
theorem dX1_fail_173 : decode cX1_fail 173 = .ok (.bipush (-9), 2) := by decide +kernel
theorem dX1_fail_175 : decode cX1_fail 175 = .ok (.invokevirtual 157, 3) := by decide +kernel
theorem dX1_fail_178 : decode cX1_fail 178 = .ok (.goto 91, 3) := by decide +kernel
theorem dX1_fail_181 : decode cX1_fail 181 = .ok (.aload_n 0, 1) := by decide +kernel
theorem dX1_fail_182 : decode cX1_fail 182 = .ok (.getfield 9, 3) := by decide +kernel
theorem dX1_fail_185 : decode cX1_fail 185 = .ok (.iload_n 2, 1) := by decide +kernel
theorem dX1_fail_186 : decode cX1_fail 186 = .ok (.invokevirtual 175, 3) := by decide +kernel
theorem dX1_fail_189 : decode cX1_fail 189 = .ok (.goto 80, 3) := by decide +kernel
theorem dX1_fail_192 : decode cX1_fail 192 = .ok (.aload_n 0, 1) := by decide +kernel
theorem dX1_fail_193 : decode cX1_fail 193 = .ok (.iload_n 2, 1) := by decide +kernel
theorem dX1_fail_194 : decode cX1_fail 194 = .ok (.invokevirtual 178, 3) := by decide +kernel
theorem dX1_fail_197 : decode cX1_fail 197 = .ok (.goto 72, 3) := by decide +kernel
theorem dX1_fail_200 : decode cX1_fail 200 = .ok (.aload_n 0, 1) := by decide +kernel
theorem dX1_fail_201 : decode cX1_fail 201 = .ok (.iload_n 2, 1) := by decide +kernel
theorem dX1_fail_202 : decode cX1_fail 202 = .ok (.invokevirtual 178, 3) := by decide +kernel
theorem dX1_fail_205 : decode cX1_fail 205 = .ok (.aload_n 0, 1) := by decide +kernel
theorem dX1_fail_206 : decode cX1_fail 206 = .ok (.getfield 9, 3) := by decide +kernel
theorem dX1_fail_209 : decode cX1_fail 209 = .ok (.aload_n 0, 1) := by decide +kernel
theorem dX1_fail_210 : decode cX1_fail 210 = .ok (.getfield 30, 3) := by decide +kernel
theorem dX1_fail_213 : decode cX1_fail 213 = .ok (.putfield 79, 3) := by decide +kernel
theorem dX1_fail_216 : decode cX1_fail 216 = .ok (.goto 53, 3) := by decide +kernel
theorem dX1_fail_219 : decode cX1_fail 219 = .ok (.aload_n 0, 1) := by decide +kernel
theorem dX1_fail_220 : decode cX1_fail 220 = .ok (.getfield 9, 3) := by decide +kernel
theorem dX1_fail_223 : decode cX1_fail 223 = .ok (.invokevirtual 138, 3) := by decide +kernel
theorem dX1_fail_226 : decode cX1_fail 226 = .ok (.ifCond .eq 43, 3) := by decide +kernel
theorem dX1_fail_229 : decode cX1_fail 229 = .ok (.aload_n 0, 1) := by decide +kernel
theorem dX1_fail_230 : decode cX1_fail 230 = .ok (.getfield 9, 3) := by decide +kernel
theorem dX1_fail_233 : decode cX1_fail 233 = .ok (.iload_n 2, 1) := by decide +kernel
theorem dX1_fail_234 : decode cX1_fail 234 = .ok (.iload_n 3, 1) := by decide +kernel
theorem dX1_fail_235 : decode cX1_fail 235 = .ok (.invokevirtual 181, 3) := by decide +kernel
theorem dX1_fail_238 : decode cX1_fail 238 = .ok (.goto 31, 3) := by decide +kernel
theorem dX1_fail_241 : decode cX1_fail 241 = .ok (.aload_n 0, 1) := by decide +kernel
theorem dX1_fail_242 : decode cX1_fail 242 = .ok (.getfield 9, 3) := by decide +kernel
theorem dX1_fail_245 : decode cX1_fail 245 = .ok (.invokevirtual 138, 3) := by decide +kernel
theorem dX1_fail_248 : decode cX1_fail 248 = .ok (.ifCond .eq 21, 3) := by decide +kernel
theorem dX1_fail_251 : decode cX1_fail 251 = .ok (.aload_n 0, 1) := by decide +kernel
theorem dX1_fail_252 : decode cX1_fail 252 = .ok (.getfield 9, 3) := by decide +kernel
theorem dX1_fail_255 : decode cX1_fail 255 = .ok (.iload_n 2, 1) := by decide +kernel
theorem dX1_fail_256 : decode cX1_fail 256 = .ok (.iload_n 3, 1) := by decide +kernel
theorem dX1_fail_257 : decode cX1_fail 257 = .ok (.invokevirtual 184, 3) := by decide +kernel
theorem dX1_fail_260 : decode cX1_fail 260 = .ok (.goto 9, 3) := by decide +kernel
theorem dX1_fail_263 : decode cX1_fail 263 = .ok (.aload_n 0, 1) := by decide +kernel
theorem dX1_fail_264 : decode cX1_fail 264 = .ok (.iload_n 2, 1) := by decide +kernel
theorem dX1_fail_265 : decode cX1_fail 265 = .ok (.iload_n 3, 1) := by decide +kernel
theorem dX1_fail_266 : decode cX1_fail 266 = .ok (.invokevirtual 187, 3) := by decide +kernel
theorem dX1_fail_269 : decode cX1_fail 269 = .ok (.return_, 1) := by decide +kernel
set_option maxHeartbeats 8000000 in
set_option maxRecDepth 100000 in
theorem a_M_fail (l : Launch) (D : va_G) (g : Nat → ClassId)   (sz : Nat) (h : Nat) (ma : Nat → Nat) (mi : Nat → Int32) (mr : Nat → Nat) (mf : Nat → Nat → Int32) (wh : Nat) (da : Nat → Nat) (dr : Nat → Nat) (df : Nat → Nat → Int32) (wa : Nat → Nat) (wi : Nat → Int32) (wr : Nat → Nat) (wf : Nat → Nat → Int32) (ph : Nat) (rh : Nat) (la : Nat → Nat) (pa : Nat → Nat) (pr : Nat → Nat) (pf : Nat → Nat → Int32) (ca : Nat → Nat) (ci : Nat → Int32) (cr : Nat → Nat) (cf : Nat → Nat → Int32) (lr : Nat → Nat) (lf : Nat → Nat → Int32) (lmx : Nat) (n1 : Int32) (n2 : Int32) (n3 : Int32) (hw_m : ∀ k, mr k ≤ mcW_lim k) (hw_d : ∀ k, dr k ≤ cdW_lim k) (hw_w : ∀ k, wr k ≤ woW_lim k) (hw_p : ∀ k, pr k ≤ pgW_lim k) (hw_c : ∀ k, cr k ≤ rcW_lim k) (hw_l : ∀ k, lr k ≤ (plW_lim lmx) k) (hmx_l : lmx ≤ 30) : vz_Mv l D (tyG g) yX1_fail cX1_fail 4 4 95 0 0 [.ref h, .int n1, .int n2, .int n3] sz (vz_w [mcW g h ma mi mr mf wh (da 0) (da 2), cdW g da dr df, woW g wh wa wi wr wf ph rh (la 0), pgW g ph pa pr pf, rcW g rh ca ci cr cf, plW g la lr lf lmx]) (fun u : (Nat → Int32) × (Nat → Nat) × (Nat → Nat → Int32) × (Nat → Int32) × (Nat → Nat) × (Nat → Nat → Int32) => (∀ k, u.2.1 k ≤ woW_lim k) ∧ (∀ k, u.2.2.2.2.1 k ≤ rcW_lim k)) (fun u => vz_w [mcW g h ma mi mr mf wh (da 0) (da 2), cdW g da dr df, woW g wh wa u.1 u.2.1 u.2.2.1 ph rh (la 0), pgW g ph pa pr pf, rcW g rh ca u.2.2.2.1 u.2.2.2.2.1 u.2.2.2.2.2, plW g la lr lf lmx]) := by
  refine vz_svQ (by decide) (Nat.le_of_ble_eq_true rfl) (fun p e s m args below meth c hx hb hr hml hts hown hlk hin hK hsz A hA H locs hP hD hS ls hl Q hQ => ?_)
  have hl : lv_has ls 4 [(0, .ref h), (1, .int n1), (2, .int n2), (3, .int n3)] := hl
  have J269 : ∀ (wi_269 : Nat → Int32), ∀ (wr_269 : Nat → Nat), ∀ (wf_269 : Nat → Nat → Int32), ∀ (ci_269 : Nat → Int32), ∀ (cr_269 : Nat → Nat), ∀ (cf_269 : Nat → Nat → Int32), (∀ k, wr_269 k ≤ woW_lim k) → (∀ k, cr_269 k ≤ rcW_lim k) → ∀ (H : Heap) (locs : List Loc) (ls : Array Slot), va_P D vwCl (vz_w [mcW g h ma mi mr mf wh (da 0) (da 2), cdW g da dr df, woW g wh wa wi_269 wr_269 wf_269 ph rh (la 0), pgW g ph pa pr pf, rcW g rh ca ci_269 cr_269 cf_269, plW g la lr lf lmx]) H → va_D A (vz_w [mcW g h ma mi mr mf wh (da 0) (da 2), cdW g da dr df, woW g wh wa wi_269 wr_269 wf_269 ph rh (la 0), pgW g ph pa pr pf, rcW g rh ca ci_269 cr_269 cf_269, plW g la lr lf lmx]) → va_S A s.heap H locs → lv_has ls 4 [(0, .ref h), (1, .int n1), (2, .int n2), (3, .int n3)] → W p l e { frames := 4, cells := 0, slots := 0, locals := 95 } s m args below meth c H locs 0 0 Q (F0 m 269 ls []) := by
    intro wi_269 wr_269 wf_269 ci_269 cr_269 cf_269 hw_w_269 hw_c_269 H locs ls hP hD hS hl
    rw [hQ]
    exact vz_vret3 hx hb hr hlk hK hP hD hS (wi_269, wr_269, wf_269, ci_269, cr_269, cf_269) (⟨hw_w_269, hw_c_269⟩) rfl (Nat.le_refl 0) (Nat.le_refl 0) dX1_fail_269
  refine lv_iload_n hx hb dX1_fail_0 rfl (lv_at hl 1 rfl) ?_
  have S1_64 : W p l e { frames := 4, cells := 0, slots := 0, locals := 95 } s m args below meth c H locs 0 0 Q (F0 m 64 ls []) := by
    refine lv_aload_n hx hb dX1_fail_64 rfl (lv_at hl 0 rfl) ?_
    refine va_get (D := D) (ci := 1) (v := .ref wh) (C := RX1) (T := TX1) (N := 7) hx hb hts inlX1 hown hK hP 0 rfl rfl 0 (by decide) (hts _ q159) (fun _ h => h) rfl dX1_fail_65 ?_
    refine lv_iload_n hx hb dX1_fail_68 rfl (lv_at hl 2 rfl) ?_
    refine lv_bipush (v := (-9)) hx hb dX1_fail_69 (by decide) ?_
    refine vz_Vv4 (n9 := 6) (bs2 := fun u : (Nat → Int32) × (Nat → Nat) × (Nat → Nat → Int32) => [mcW g h ma mi mr mf wh (da 0) (da 2), cdW g da dr df, woW g wh wa u.1 wr wf ph rh (la 0), pgW g ph pa pr pf, rcW g rh ca ci u.2.1 u.2.2, plW g la lr lf lmx]) (br := [mcW g h ma mi mr mf wh (da 0) (da 2), cdW g da dr df]) (As := [.int n2, .int (-9)]) (rest := []) hx hb hml hown hts hK hA hP hD hS (a_W_raise l D g H.size wh wa wi wr wf ph rh la pa pr pf ca ci cr cf lr lf lmx n2 (-9) hw_w hw_p hw_c hw_l hmx_l) kv_X1_172 ⟨Nat.le_of_ble_eq_true rfl, Nat.le_of_ble_eq_true rfl⟩ (q0 := 7) (ci := 8) rfl rfl rfl [2, 3, 4, 5] [0, 1] rfl (by decide) rfl (fun _ => rfl) (fun _ => rfl) hl.1 (Nat.le_of_ble_eq_true rfl) dX1_fail_71 ⟨Nat.le_refl _, Nat.le_refl _⟩ rfl (fun ⟨wi_1, cr_2, cf_3⟩ H locs hw_4 _ hP hD hS => ?_)
    try dsimp only at hw_4
    replace hP : va_P D vwCl (vz_w [mcW g h ma mi mr mf wh (da 0) (da 2), cdW g da dr df, woW g wh wa wi_1 wr wf ph rh (la 0), pgW g ph pa pr pf, rcW g rh ca ci cr_2 cf_3, plW g la lr lf lmx]) H := hP
    replace hD : va_D A (vz_w [mcW g h ma mi mr mf wh (da 0) (da 2), cdW g da dr df, woW g wh wa wi_1 wr wf ph rh (la 0), pgW g ph pa pr pf, rcW g rh ca ci cr_2 cf_3, plW g la lr lf lmx]) := hD
    refine lv_goto (tgt := 269) hx hb dX1_fail_74 (by decide) ?_
    exact J269 wi_1 wr wf ci cr_2 cf_3 hw_w hw_4 H locs ls hP hD hS (lv_sub hl [0, 1, 2, 3] rfl)
  have S1_77 : W p l e { frames := 4, cells := 0, slots := 0, locals := 95 } s m args below meth c H locs 0 0 Q (F0 m 77 ls []) := by
    refine lv_aload_n hx hb dX1_fail_77 rfl (lv_at hl 0 rfl) ?_
    refine va_get (D := D) (ci := 1) (v := .ref wh) (C := RX1) (T := TX1) (N := 7) hx hb hts inlX1 hown hK hP 0 rfl rfl 0 (by decide) (hts _ q159) (fun _ h => h) rfl dX1_fail_78 ?_
    refine lv_iload_n hx hb dX1_fail_81 rfl (lv_at hl 2 rfl) ?_
    refine lv_aload_n hx hb dX1_fail_82 rfl (lv_at hl 0 rfl) ?_
    refine va_get (D := D) (ci := 1) (v := .ref wh) (C := RX1) (T := TX1) (N := 7) hx hb hts inlX1 hown hK hP 0 rfl rfl 0 (by decide) (hts _ q159) (fun _ h => h) rfl dX1_fail_83 ?_
    refine lv_iload_n hx hb dX1_fail_86 rfl (lv_at hl 3 rfl) ?_
    refine lv_iconst (v := 1) hx hb dX1_fail_87 (by decide) ?_
    refine vz_Vi4 (n9 := 6) (bs2 := fun u : Unit => [mcW g h ma mi mr mf wh (da 0) (da 2), cdW g da dr df, woW g wh wa wi wr wf ph rh (la 0), pgW g ph pa pr pf, rcW g rh ca ci cr cf, plW g la lr lf lmx]) (br := [mcW g h ma mi mr mf wh (da 0) (da 2), cdW g da dr df]) (As := [.int n3, .int 1]) (rest := [.int n2, .ref wh]) hx hb hml hown hts hK hA hP hD hS (a_W_slot l D g H.size wh wa wi wr wf ph rh la pa pr pf ca ci cr cf lr lf lmx n3 1 hw_w hw_p hw_c hw_l hmx_l) kv_X1_169 ⟨Nat.le_of_ble_eq_true rfl, Nat.le_of_ble_eq_true rfl⟩ (q0 := 7) (ci := 8) rfl rfl rfl [2, 3, 4, 5] [0, 1] rfl (by decide) rfl (fun _ => rfl) (fun _ => rfl) hl.1 (Nat.le_of_ble_eq_true rfl) dX1_fail_88 ⟨Nat.le_refl _, Nat.le_refl _⟩ rfl (fun v5 _ H locs _ _ hP hD hS => ?_)
    refine vz_Vv4 (n9 := 6) (bs2 := fun u : (Nat → Int32) × (Nat → Nat) × (Nat → Nat → Int32) => [mcW g h ma mi mr mf wh (da 0) (da 2), cdW g da dr df, woW g wh wa u.1 wr wf ph rh (la 0), pgW g ph pa pr pf, rcW g rh ca ci u.2.1 u.2.2, plW g la lr lf lmx]) (br := [mcW g h ma mi mr mf wh (da 0) (da 2), cdW g da dr df]) (As := [.int n2, .int v5]) (rest := []) hx hb hml hown hts hK hA hP hD hS (a_W_raise l D g H.size wh wa wi wr wf ph rh la pa pr pf ca ci cr cf lr lf lmx n2 v5 hw_w hw_p hw_c hw_l hmx_l) kv_X1_172 ⟨Nat.le_of_ble_eq_true rfl, Nat.le_of_ble_eq_true rfl⟩ (q0 := 7) (ci := 8) rfl rfl rfl [2, 3, 4, 5] [0, 1] rfl (by decide) rfl (fun _ => rfl) (fun _ => rfl) hl.1 (Nat.le_of_ble_eq_true rfl) dX1_fail_91 ⟨Nat.le_refl _, Nat.le_refl _⟩ rfl (fun ⟨wi_6, cr_7, cf_8⟩ H locs hw_9 _ hP hD hS => ?_)
    try dsimp only at hw_9
    replace hP : va_P D vwCl (vz_w [mcW g h ma mi mr mf wh (da 0) (da 2), cdW g da dr df, woW g wh wa wi_6 wr wf ph rh (la 0), pgW g ph pa pr pf, rcW g rh ca ci cr_7 cf_8, plW g la lr lf lmx]) H := hP
    replace hD : va_D A (vz_w [mcW g h ma mi mr mf wh (da 0) (da 2), cdW g da dr df, woW g wh wa wi_6 wr wf ph rh (la 0), pgW g ph pa pr pf, rcW g rh ca ci cr_7 cf_8, plW g la lr lf lmx]) := hD
    refine lv_goto (tgt := 269) hx hb dX1_fail_94 (by decide) ?_
    exact J269 wi_6 wr wf ci cr_7 cf_8 hw_w hw_9 H locs ls hP hD hS (lv_sub hl [0, 1, 2, 3] rfl)
  have S1_97 : W p l e { frames := 4, cells := 0, slots := 0, locals := 95 } s m args below meth c H locs 0 0 Q (F0 m 97 ls []) := by
    refine lv_aload_n hx hb dX1_fail_97 rfl (lv_at hl 0 rfl) ?_
    refine va_get (D := D) (ci := 1) (v := .ref wh) (C := RX1) (T := TX1) (N := 7) hx hb hts inlX1 hown hK hP 0 rfl rfl 0 (by decide) (hts _ q159) (fun _ h => h) rfl dX1_fail_98 ?_
    refine lv_aload_n hx hb dX1_fail_101 rfl (lv_at hl 0 rfl) ?_
    refine va_get (D := D) (ci := 1) (v := .ref wh) (C := RX1) (T := TX1) (N := 7) hx hb hts inlX1 hown hK hP 0 rfl rfl 0 (by decide) (hts _ q159) (fun _ h => h) rfl dX1_fail_102 ?_
    refine lv_iload_n hx hb dX1_fail_105 rfl (lv_at hl 2 rfl) ?_
    refine lv_iconst (v := 1) hx hb dX1_fail_106 (by decide) ?_
    refine vz_Vi4 (n9 := 6) (bs2 := fun u : Unit => [mcW g h ma mi mr mf wh (da 0) (da 2), cdW g da dr df, woW g wh wa wi wr wf ph rh (la 0), pgW g ph pa pr pf, rcW g rh ca ci cr cf, plW g la lr lf lmx]) (br := [mcW g h ma mi mr mf wh (da 0) (da 2), cdW g da dr df]) (As := [.int n2, .int 1]) (rest := [.ref wh]) hx hb hml hown hts hK hA hP hD hS (a_W_slot l D g H.size wh wa wi wr wf ph rh la pa pr pf ca ci cr cf lr lf lmx n2 1 hw_w hw_p hw_c hw_l hmx_l) kv_X1_169 ⟨Nat.le_of_ble_eq_true rfl, Nat.le_of_ble_eq_true rfl⟩ (q0 := 7) (ci := 8) rfl rfl rfl [2, 3, 4, 5] [0, 1] rfl (by decide) rfl (fun _ => rfl) (fun _ => rfl) hl.1 (Nat.le_of_ble_eq_true rfl) dX1_fail_107 ⟨Nat.le_refl _, Nat.le_refl _⟩ rfl (fun v10 _ H locs _ _ hP hD hS => ?_)
    refine va_put (D := D) (ci := 8) (v := .int v10) (ty := .int) (C := RX8) (T := TX8) (N := 11) hx hb hts inlX8 tyX8 tyX8_ok nmX8 hown hK hP hD hS 7 rfl rfl 9 (by decide) (hts _ q1269) (fun _ h => h) rfl (by decide +kernel) rfl rfl (Nat.le_of_ble_eq_true rfl) dX1_fail_110 (fun H locs hP hD hS => ?_)
    obtain ⟨wi_11, hwi_11, hP, hD⟩ : ∃ wi_11 : Nat → Int32, (wi_11 = (upd wi 1 v10)) ∧ va_P D vwCl (vz_w [mcW g h ma mi mr mf wh (da 0) (da 2), cdW g da dr df, woW g wh wa wi_11 wr wf ph rh (la 0), pgW g ph pa pr pf, rcW g rh ca ci cr cf, plW g la lr lf lmx]) H ∧ va_D A (vz_w [mcW g h ma mi mr mf wh (da 0) (da 2), cdW g da dr df, woW g wh wa wi_11 wr wf ph rh (la 0), pgW g ph pa pr pf, rcW g rh ca ci cr cf, plW g la lr lf lmx]) := ⟨(upd wi 1 v10), rfl, hP, hD⟩
    refine lv_goto (tgt := 269) hx hb dX1_fail_113 (by decide) ?_
    exact J269 wi_11 wr wf ci cr cf hw_w hw_c H locs ls hP hD hS (lv_sub hl [0, 1, 2, 3] rfl)
  have S1_116 : W p l e { frames := 4, cells := 0, slots := 0, locals := 95 } s m args below meth c H locs 0 0 Q (F0 m 116 ls []) := by
    refine lv_aload_n hx hb dX1_fail_116 rfl (lv_at hl 0 rfl) ?_
    refine va_get (D := D) (ci := 1) (v := .ref wh) (C := RX1) (T := TX1) (N := 7) hx hb hts inlX1 hown hK hP 0 rfl rfl 0 (by decide) (hts _ q159) (fun _ h => h) rfl dX1_fail_117 ?_
    refine lv_aload_n hx hb dX1_fail_120 rfl (lv_at hl 0 rfl) ?_
    refine va_get (D := D) (ci := 1) (v := .ref wh) (C := RX1) (T := TX1) (N := 7) hx hb hts inlX1 hown hK hP 0 rfl rfl 0 (by decide) (hts _ q159) (fun _ h => h) rfl dX1_fail_121 ?_
    refine lv_iload_n hx hb dX1_fail_124 rfl (lv_at hl 2 rfl) ?_
    refine lv_iconst (v := 2) hx hb dX1_fail_125 (by decide) ?_
    refine vz_Vi4 (n9 := 6) (bs2 := fun u : Unit => [mcW g h ma mi mr mf wh (da 0) (da 2), cdW g da dr df, woW g wh wa wi wr wf ph rh (la 0), pgW g ph pa pr pf, rcW g rh ca ci cr cf, plW g la lr lf lmx]) (br := [mcW g h ma mi mr mf wh (da 0) (da 2), cdW g da dr df]) (As := [.int n2, .int 2]) (rest := [.ref wh]) hx hb hml hown hts hK hA hP hD hS (a_W_slot l D g H.size wh wa wi wr wf ph rh la pa pr pf ca ci cr cf lr lf lmx n2 2 hw_w hw_p hw_c hw_l hmx_l) kv_X1_169 ⟨Nat.le_of_ble_eq_true rfl, Nat.le_of_ble_eq_true rfl⟩ (q0 := 7) (ci := 8) rfl rfl rfl [2, 3, 4, 5] [0, 1] rfl (by decide) rfl (fun _ => rfl) (fun _ => rfl) hl.1 (Nat.le_of_ble_eq_true rfl) dX1_fail_126 ⟨Nat.le_refl _, Nat.le_refl _⟩ rfl (fun v12 _ H locs _ _ hP hD hS => ?_)
    refine va_put (D := D) (ci := 8) (v := .int v12) (ty := .int) (C := RX8) (T := TX8) (N := 11) hx hb hts inlX8 tyX8 tyX8_ok nmX8 hown hK hP hD hS 7 rfl rfl 9 (by decide) (hts _ q1269) (fun _ h => h) rfl (by decide +kernel) rfl rfl (Nat.le_of_ble_eq_true rfl) dX1_fail_129 (fun H locs hP hD hS => ?_)
    obtain ⟨wi_13, hwi_13, hP, hD⟩ : ∃ wi_13 : Nat → Int32, (wi_13 = (upd wi 1 v12)) ∧ va_P D vwCl (vz_w [mcW g h ma mi mr mf wh (da 0) (da 2), cdW g da dr df, woW g wh wa wi_13 wr wf ph rh (la 0), pgW g ph pa pr pf, rcW g rh ca ci cr cf, plW g la lr lf lmx]) H ∧ va_D A (vz_w [mcW g h ma mi mr mf wh (da 0) (da 2), cdW g da dr df, woW g wh wa wi_13 wr wf ph rh (la 0), pgW g ph pa pr pf, rcW g rh ca ci cr cf, plW g la lr lf lmx]) := ⟨(upd wi 1 v12), rfl, hP, hD⟩
    refine lv_goto (tgt := 269) hx hb dX1_fail_132 (by decide) ?_
    exact J269 wi_13 wr wf ci cr cf hw_w hw_c H locs ls hP hD hS (lv_sub hl [0, 1, 2, 3] rfl)
  have S1_135 : W p l e { frames := 4, cells := 0, slots := 0, locals := 95 } s m args below meth c H locs 0 0 Q (F0 m 135 ls []) := by
    refine lv_aload_n hx hb dX1_fail_135 rfl (lv_at hl 0 rfl) ?_
    refine va_get (D := D) (ci := 1) (v := .ref wh) (C := RX1) (T := TX1) (N := 7) hx hb hts inlX1 hown hK hP 0 rfl rfl 0 (by decide) (hts _ q159) (fun _ h => h) rfl dX1_fail_136 ?_
    refine lv_iload_n hx hb dX1_fail_139 rfl (lv_at hl 2 rfl) ?_
    refine lv_iconst (v := 1) hx hb dX1_fail_140 (by decide) ?_
    refine lv_aload_n hx hb dX1_fail_141 rfl (lv_at hl 0 rfl) ?_
    refine va_get (D := D) (ci := 1) (v := .int (mi 2)) (C := RX1) (T := TX1) (N := 7) hx hb hts inlX1 hown hK hP 0 rfl rfl 6 (by decide) (hts _ q164) (fun _ h => h) rfl dX1_fail_142 ?_
    refine vz_Vv4 (n9 := 6) (bs2 := fun u : (Nat → Nat → Int32) => [mcW g h ma mi mr mf wh (da 0) (da 2), cdW g da dr df, woW g wh wa wi wr u ph rh (la 0), pgW g ph pa pr pf, rcW g rh ca ci cr cf, plW g la lr lf lmx]) (br := [mcW g h ma mi mr mf wh (da 0) (da 2), cdW g da dr df]) (As := [.int n2, .int 1, .int (mi 2)]) (rest := []) hx hb hml hown hts hK hA hP hD hS (a_W_setSlot l D g H.size wh wa wi wr wf ph rh la pa pr pf ca ci cr cf lr lf lmx n2 1 (mi 2) hw_w hw_p hw_c hw_l hmx_l) kv_X1_157 ⟨Nat.le_of_ble_eq_true rfl, Nat.le_of_ble_eq_true rfl⟩ (q0 := 7) (ci := 8) rfl rfl rfl [2, 3, 4, 5] [0, 1] rfl (by decide) rfl (fun _ => rfl) (fun _ => rfl) hl.1 (Nat.le_of_ble_eq_true rfl) dX1_fail_145 ⟨Nat.le_refl _, Nat.le_refl _⟩ rfl (fun wf_14 H locs _ _ hP hD hS => ?_)
    replace hP : va_P D vwCl (vz_w [mcW g h ma mi mr mf wh (da 0) (da 2), cdW g da dr df, woW g wh wa wi wr wf_14 ph rh (la 0), pgW g ph pa pr pf, rcW g rh ca ci cr cf, plW g la lr lf lmx]) H := hP
    replace hD : va_D A (vz_w [mcW g h ma mi mr mf wh (da 0) (da 2), cdW g da dr df, woW g wh wa wi wr wf_14 ph rh (la 0), pgW g ph pa pr pf, rcW g rh ca ci cr cf, plW g la lr lf lmx]) := hD
    refine lv_goto (tgt := 269) hx hb dX1_fail_148 (by decide) ?_
    exact J269 wi wr wf_14 ci cr cf hw_w hw_c H locs ls hP hD hS (lv_sub hl [0, 1, 2, 3] rfl)
  have S1_151 : W p l e { frames := 4, cells := 0, slots := 0, locals := 95 } s m args below meth c H locs 0 0 Q (F0 m 151 ls []) := by
    refine lv_aload_n hx hb dX1_fail_151 rfl (lv_at hl 0 rfl) ?_
    refine va_get (D := D) (ci := 1) (v := .ref wh) (C := RX1) (T := TX1) (N := 7) hx hb hts inlX1 hown hK hP 0 rfl rfl 0 (by decide) (hts _ q159) (fun _ h => h) rfl dX1_fail_152 ?_
    refine lv_iload_n hx hb dX1_fail_155 rfl (lv_at hl 2 rfl) ?_
    refine lv_iconst (v := 2) hx hb dX1_fail_156 (by decide) ?_
    refine lv_aload_n hx hb dX1_fail_157 rfl (lv_at hl 0 rfl) ?_
    refine va_get (D := D) (ci := 1) (v := .int (mi 2)) (C := RX1) (T := TX1) (N := 7) hx hb hts inlX1 hown hK hP 0 rfl rfl 6 (by decide) (hts _ q164) (fun _ h => h) rfl dX1_fail_158 ?_
    refine vz_Vv4 (n9 := 6) (bs2 := fun u : (Nat → Nat → Int32) => [mcW g h ma mi mr mf wh (da 0) (da 2), cdW g da dr df, woW g wh wa wi wr u ph rh (la 0), pgW g ph pa pr pf, rcW g rh ca ci cr cf, plW g la lr lf lmx]) (br := [mcW g h ma mi mr mf wh (da 0) (da 2), cdW g da dr df]) (As := [.int n2, .int 2, .int (mi 2)]) (rest := []) hx hb hml hown hts hK hA hP hD hS (a_W_setSlot l D g H.size wh wa wi wr wf ph rh la pa pr pf ca ci cr cf lr lf lmx n2 2 (mi 2) hw_w hw_p hw_c hw_l hmx_l) kv_X1_157 ⟨Nat.le_of_ble_eq_true rfl, Nat.le_of_ble_eq_true rfl⟩ (q0 := 7) (ci := 8) rfl rfl rfl [2, 3, 4, 5] [0, 1] rfl (by decide) rfl (fun _ => rfl) (fun _ => rfl) hl.1 (Nat.le_of_ble_eq_true rfl) dX1_fail_161 ⟨Nat.le_refl _, Nat.le_refl _⟩ rfl (fun wf_15 H locs _ _ hP hD hS => ?_)
    replace hP : va_P D vwCl (vz_w [mcW g h ma mi mr mf wh (da 0) (da 2), cdW g da dr df, woW g wh wa wi wr wf_15 ph rh (la 0), pgW g ph pa pr pf, rcW g rh ca ci cr cf, plW g la lr lf lmx]) H := hP
    replace hD : va_D A (vz_w [mcW g h ma mi mr mf wh (da 0) (da 2), cdW g da dr df, woW g wh wa wi wr wf_15 ph rh (la 0), pgW g ph pa pr pf, rcW g rh ca ci cr cf, plW g la lr lf lmx]) := hD
    refine lv_goto (tgt := 269) hx hb dX1_fail_164 (by decide) ?_
    exact J269 wi wr wf_15 ci cr cf hw_w hw_c H locs ls hP hD hS (lv_sub hl [0, 1, 2, 3] rfl)
  have S1_167 : W p l e { frames := 4, cells := 0, slots := 0, locals := 95 } s m args below meth c H locs 0 0 Q (F0 m 167 ls []) := by
    refine lv_aload_n hx hb dX1_fail_167 rfl (lv_at hl 0 rfl) ?_
    refine va_get (D := D) (ci := 1) (v := .ref wh) (C := RX1) (T := TX1) (N := 7) hx hb hts inlX1 hown hK hP 0 rfl rfl 0 (by decide) (hts _ q159) (fun _ h => h) rfl dX1_fail_168 ?_
    refine lv_iload_n hx hb dX1_fail_171 rfl (lv_at hl 2 rfl) ?_
    refine lv_iconst (v := 2) hx hb dX1_fail_172 (by decide) ?_
    refine lv_bipush (v := (-9)) hx hb dX1_fail_173 (by decide) ?_
    refine vz_Vv4 (n9 := 6) (bs2 := fun u : (Nat → Nat → Int32) => [mcW g h ma mi mr mf wh (da 0) (da 2), cdW g da dr df, woW g wh wa wi wr u ph rh (la 0), pgW g ph pa pr pf, rcW g rh ca ci cr cf, plW g la lr lf lmx]) (br := [mcW g h ma mi mr mf wh (da 0) (da 2), cdW g da dr df]) (As := [.int n2, .int 2, .int (-9)]) (rest := []) hx hb hml hown hts hK hA hP hD hS (a_W_setSlot l D g H.size wh wa wi wr wf ph rh la pa pr pf ca ci cr cf lr lf lmx n2 2 (-9) hw_w hw_p hw_c hw_l hmx_l) kv_X1_157 ⟨Nat.le_of_ble_eq_true rfl, Nat.le_of_ble_eq_true rfl⟩ (q0 := 7) (ci := 8) rfl rfl rfl [2, 3, 4, 5] [0, 1] rfl (by decide) rfl (fun _ => rfl) (fun _ => rfl) hl.1 (Nat.le_of_ble_eq_true rfl) dX1_fail_175 ⟨Nat.le_refl _, Nat.le_refl _⟩ rfl (fun wf_16 H locs _ _ hP hD hS => ?_)
    replace hP : va_P D vwCl (vz_w [mcW g h ma mi mr mf wh (da 0) (da 2), cdW g da dr df, woW g wh wa wi wr wf_16 ph rh (la 0), pgW g ph pa pr pf, rcW g rh ca ci cr cf, plW g la lr lf lmx]) H := hP
    replace hD : va_D A (vz_w [mcW g h ma mi mr mf wh (da 0) (da 2), cdW g da dr df, woW g wh wa wi wr wf_16 ph rh (la 0), pgW g ph pa pr pf, rcW g rh ca ci cr cf, plW g la lr lf lmx]) := hD
    refine lv_goto (tgt := 269) hx hb dX1_fail_178 (by decide) ?_
    exact J269 wi wr wf_16 ci cr cf hw_w hw_c H locs ls hP hD hS (lv_sub hl [0, 1, 2, 3] rfl)
  have S1_181 : W p l e { frames := 4, cells := 0, slots := 0, locals := 95 } s m args below meth c H locs 0 0 Q (F0 m 181 ls []) := by
    refine lv_aload_n hx hb dX1_fail_181 rfl (lv_at hl 0 rfl) ?_
    refine va_get (D := D) (ci := 1) (v := .ref wh) (C := RX1) (T := TX1) (N := 7) hx hb hts inlX1 hown hK hP 0 rfl rfl 0 (by decide) (hts _ q159) (fun _ h => h) rfl dX1_fail_182 ?_
    refine lv_iload_n hx hb dX1_fail_185 rfl (lv_at hl 2 rfl) ?_
    refine vz_Vv4 (n9 := 6) (bs2 := fun u : (Nat → Nat → Int32) => [mcW g h ma mi mr mf wh (da 0) (da 2), cdW g da dr df, woW g wh wa wi wr wf ph rh (la 0), pgW g ph pa pr pf, rcW g rh ca ci cr u, plW g la lr lf lmx]) (br := [mcW g h ma mi mr mf wh (da 0) (da 2), cdW g da dr df]) (As := [.int n2]) (rest := []) hx hb hml hown hts hK hA hP hD hS (a_W_finish l D g H.size wh wa wi wr wf ph rh la pa pr pf ca ci cr cf lr lf lmx n2 hw_w hw_p hw_c hw_l hmx_l) kv_X1_175 ⟨Nat.le_of_ble_eq_true rfl, Nat.le_of_ble_eq_true rfl⟩ (q0 := 7) (ci := 8) rfl rfl rfl [2, 3, 4, 5] [0, 1] rfl (by decide) rfl (fun _ => rfl) (fun _ => rfl) hl.1 (Nat.le_of_ble_eq_true rfl) dX1_fail_186 ⟨Nat.le_refl _, Nat.le_refl _⟩ rfl (fun cf_17 H locs _ _ hP hD hS => ?_)
    replace hP : va_P D vwCl (vz_w [mcW g h ma mi mr mf wh (da 0) (da 2), cdW g da dr df, woW g wh wa wi wr wf ph rh (la 0), pgW g ph pa pr pf, rcW g rh ca ci cr cf_17, plW g la lr lf lmx]) H := hP
    replace hD : va_D A (vz_w [mcW g h ma mi mr mf wh (da 0) (da 2), cdW g da dr df, woW g wh wa wi wr wf ph rh (la 0), pgW g ph pa pr pf, rcW g rh ca ci cr cf_17, plW g la lr lf lmx]) := hD
    refine lv_goto (tgt := 269) hx hb dX1_fail_189 (by decide) ?_
    exact J269 wi wr wf ci cr cf_17 hw_w hw_c H locs ls hP hD hS (lv_sub hl [0, 1, 2, 3] rfl)
  have S1_192 : W p l e { frames := 4, cells := 0, slots := 0, locals := 95 } s m args below meth c H locs 0 0 Q (F0 m 192 ls []) := by
    refine lv_aload_n hx hb dX1_fail_192 rfl (lv_at hl 0 rfl) ?_
    refine lv_iload_n hx hb dX1_fail_193 rfl (lv_at hl 2 rfl) ?_
    refine vz_Vv3 (As := [.int n2]) (rest := []) hx hb hml hown hts hK hA hP hD hS (a_M_lose l D g H.size h ma mi mr mf wh da dr df wa wi wr wf ph rh la pa pr pf ca ci cr cf lr lf lmx n2 hw_m hw_d hw_w hw_p hw_c hw_l hmx_l) kv_X1_178 ⟨Nat.le_of_ble_eq_true rfl, Nat.le_of_ble_eq_true rfl⟩ (q0 := 0) (ci := 1) rfl rfl rfl  hl.1 (Nat.le_of_ble_eq_true rfl) dX1_fail_194 ⟨Nat.le_refl _, Nat.le_refl _⟩ rfl (fun ci_18 H locs _ _ hP hD hS => ?_)
    replace hP : va_P D vwCl (vz_w [mcW g h ma mi mr mf wh (da 0) (da 2), cdW g da dr df, woW g wh wa wi wr wf ph rh (la 0), pgW g ph pa pr pf, rcW g rh ca ci_18 cr cf, plW g la lr lf lmx]) H := hP
    replace hD : va_D A (vz_w [mcW g h ma mi mr mf wh (da 0) (da 2), cdW g da dr df, woW g wh wa wi wr wf ph rh (la 0), pgW g ph pa pr pf, rcW g rh ca ci_18 cr cf, plW g la lr lf lmx]) := hD
    refine lv_goto (tgt := 269) hx hb dX1_fail_197 (by decide) ?_
    exact J269 wi wr wf ci_18 cr cf hw_w hw_c H locs ls hP hD hS (lv_sub hl [0, 1, 2, 3] rfl)
  have S1_200 : W p l e { frames := 4, cells := 0, slots := 0, locals := 95 } s m args below meth c H locs 0 0 Q (F0 m 200 ls []) := by
    refine lv_aload_n hx hb dX1_fail_200 rfl (lv_at hl 0 rfl) ?_
    refine lv_iload_n hx hb dX1_fail_201 rfl (lv_at hl 2 rfl) ?_
    refine vz_Vv3 (As := [.int n2]) (rest := []) hx hb hml hown hts hK hA hP hD hS (a_M_lose l D g H.size h ma mi mr mf wh da dr df wa wi wr wf ph rh la pa pr pf ca ci cr cf lr lf lmx n2 hw_m hw_d hw_w hw_p hw_c hw_l hmx_l) kv_X1_178 ⟨Nat.le_of_ble_eq_true rfl, Nat.le_of_ble_eq_true rfl⟩ (q0 := 0) (ci := 1) rfl rfl rfl  hl.1 (Nat.le_of_ble_eq_true rfl) dX1_fail_202 ⟨Nat.le_refl _, Nat.le_refl _⟩ rfl (fun ci_19 H locs _ _ hP hD hS => ?_)
    replace hP : va_P D vwCl (vz_w [mcW g h ma mi mr mf wh (da 0) (da 2), cdW g da dr df, woW g wh wa wi wr wf ph rh (la 0), pgW g ph pa pr pf, rcW g rh ca ci_19 cr cf, plW g la lr lf lmx]) H := hP
    replace hD : va_D A (vz_w [mcW g h ma mi mr mf wh (da 0) (da 2), cdW g da dr df, woW g wh wa wi wr wf ph rh (la 0), pgW g ph pa pr pf, rcW g rh ca ci_19 cr cf, plW g la lr lf lmx]) := hD
    refine lv_aload_n hx hb dX1_fail_205 rfl (lv_at hl 0 rfl) ?_
    refine va_get (D := D) (ci := 1) (v := .ref wh) (C := RX1) (T := TX1) (N := 7) hx hb hts inlX1 hown hK hP 0 rfl rfl 0 (by decide) (hts _ q159) (fun _ h => h) rfl dX1_fail_206 ?_
    refine lv_aload_n hx hb dX1_fail_209 rfl (lv_at hl 0 rfl) ?_
    refine va_get (D := D) (ci := 1) (v := .int (mi 2)) (C := RX1) (T := TX1) (N := 7) hx hb hts inlX1 hown hK hP 0 rfl rfl 6 (by decide) (hts _ q164) (fun _ h => h) rfl dX1_fail_210 ?_
    refine va_put (D := D) (ci := 8) (v := .int (mi 2)) (ty := .int) (C := RX8) (T := TX8) (N := 11) hx hb hts inlX8 tyX8 tyX8_ok nmX8 hown hK hP hD hS 7 rfl rfl 9 (by decide) (hts _ q1269) (fun _ h => h) rfl (by decide +kernel) rfl rfl (Nat.le_of_ble_eq_true rfl) dX1_fail_213 (fun H locs hP hD hS => ?_)
    obtain ⟨wi_20, hwi_20, hP, hD⟩ : ∃ wi_20 : Nat → Int32, (wi_20 = (upd wi 1 (mi 2))) ∧ va_P D vwCl (vz_w [mcW g h ma mi mr mf wh (da 0) (da 2), cdW g da dr df, woW g wh wa wi_20 wr wf ph rh (la 0), pgW g ph pa pr pf, rcW g rh ca ci_19 cr cf, plW g la lr lf lmx]) H ∧ va_D A (vz_w [mcW g h ma mi mr mf wh (da 0) (da 2), cdW g da dr df, woW g wh wa wi_20 wr wf ph rh (la 0), pgW g ph pa pr pf, rcW g rh ca ci_19 cr cf, plW g la lr lf lmx]) := ⟨(upd wi 1 (mi 2)), rfl, hP, hD⟩
    refine lv_goto (tgt := 269) hx hb dX1_fail_216 (by decide) ?_
    exact J269 wi_20 wr wf ci_19 cr cf hw_w hw_c H locs ls hP hD hS (lv_sub hl [0, 1, 2, 3] rfl)
  have S1_219 : W p l e { frames := 4, cells := 0, slots := 0, locals := 95 } s m args below meth c H locs 0 0 Q (F0 m 219 ls []) := by
    refine lv_aload_n hx hb dX1_fail_219 rfl (lv_at hl 0 rfl) ?_
    refine va_get (D := D) (ci := 1) (v := .ref wh) (C := RX1) (T := TX1) (N := 7) hx hb hts inlX1 hown hK hP 0 rfl rfl 0 (by decide) (hts _ q159) (fun _ h => h) rfl dX1_fail_220 ?_
    refine vz_Vi4 (n9 := 6) (bs2 := fun u : (Nat → Int32) => [mcW g h ma mi mr mf wh (da 0) (da 2), cdW g da dr df, woW g wh wa wi wr wf ph rh (la 0), pgW g ph pa pr pf, rcW g rh ca u cr cf, plW g la lr lf lmx]) (br := [mcW g h ma mi mr mf wh (da 0) (da 2), cdW g da dr df]) (As := []) (rest := []) hx hb hml hown hts hK hA hP hD hS (a_W_takeStep l D g H.size wh wa wi wr wf ph rh la pa pr pf ca ci cr cf lr lf lmx hw_w hw_p hw_c hw_l hmx_l) kv_X1_138 ⟨Nat.le_of_ble_eq_true rfl, Nat.le_of_ble_eq_true rfl⟩ (q0 := 7) (ci := 8) rfl rfl rfl [2, 3, 4, 5] [0, 1] rfl (by decide) rfl (fun _ => rfl) (fun _ => rfl) hl.1 (Nat.le_of_ble_eq_true rfl) dX1_fail_223 ⟨Nat.le_refl _, Nat.le_refl _⟩ rfl (fun v22 ci_21 H locs hz23 _ hP hD hS => ?_)
    replace hP : va_P D vwCl (vz_w [mcW g h ma mi mr mf wh (da 0) (da 2), cdW g da dr df, woW g wh wa wi wr wf ph rh (la 0), pgW g ph pa pr pf, rcW g rh ca ci_21 cr cf, plW g la lr lf lmx]) H := hP
    replace hD : va_D A (vz_w [mcW g h ma mi mr mf wh (da 0) (da 2), cdW g da dr df, woW g wh wa wi wr wf ph rh (la 0), pgW g ph pa pr pf, rcW g rh ca ci_21 cr cf, plW g la lr lf lmx]) := hD
    refine lv_if_eq (tgt := 269) hx hb dX1_fail_226 (by decide) (fun kc24 => ?_) (fun kc24 => ?_)
    · exact J269 wi wr wf ci_21 cr cf hw_w hw_c H locs ls hP hD hS (lv_sub hl [0, 1, 2, 3] rfl)
    · refine lv_aload_n hx hb dX1_fail_229 rfl (lv_at hl 0 rfl) ?_
      refine va_get (D := D) (ci := 1) (v := .ref wh) (C := RX1) (T := TX1) (N := 7) hx hb hts inlX1 hown hK hP 0 rfl rfl 0 (by decide) (hts _ q159) (fun _ h => h) rfl dX1_fail_230 ?_
      refine lv_iload_n hx hb dX1_fail_233 rfl (lv_at hl 2 rfl) ?_
      refine lv_iload_n hx hb dX1_fail_234 rfl (lv_at hl 3 rfl) ?_
      refine vz_Vv4 (n9 := 6) (bs2 := fun u : (Nat → Int32) × (Nat → Nat) × (Nat → Nat → Int32) × (Nat → Int32) × (Nat → Nat) × (Nat → Nat → Int32) => [mcW g h ma mi mr mf wh (da 0) (da 2), cdW g da dr df, woW g wh wa u.1 u.2.1 u.2.2.1 ph rh (la 0), pgW g ph pa pr pf, rcW g rh ca u.2.2.2.1 u.2.2.2.2.1 u.2.2.2.2.2, plW g la lr lf lmx]) (br := [mcW g h ma mi mr mf wh (da 0) (da 2), cdW g da dr df]) (As := [.int n2, .int n3]) (rest := []) hx hb hml hown hts hK hA hP hD hS (a_W_open l D g H.size wh wa wi wr wf ph rh la pa pr pf ca ci_21 cr cf lr lf lmx n2 n3 hw_w hw_p hw_c hw_l hmx_l) kv_X1_181 ⟨Nat.le_of_ble_eq_true rfl, Nat.le_of_ble_eq_true rfl⟩ (q0 := 7) (ci := 8) rfl rfl rfl [2, 3, 4, 5] [0, 1] rfl (by decide) rfl (fun _ => rfl) (fun _ => rfl) hl.1 (Nat.le_of_ble_eq_true rfl) dX1_fail_235 ⟨Nat.le_refl _, Nat.le_refl _⟩ rfl (fun ⟨wi_25, wr_26, wf_27, ci_28, cr_29, cf_30⟩ H locs ⟨hw_31, hw_32⟩ _ hP hD hS => ?_)
      try dsimp only at hw_31 hw_32
      replace hP : va_P D vwCl (vz_w [mcW g h ma mi mr mf wh (da 0) (da 2), cdW g da dr df, woW g wh wa wi_25 wr_26 wf_27 ph rh (la 0), pgW g ph pa pr pf, rcW g rh ca ci_28 cr_29 cf_30, plW g la lr lf lmx]) H := hP
      replace hD : va_D A (vz_w [mcW g h ma mi mr mf wh (da 0) (da 2), cdW g da dr df, woW g wh wa wi_25 wr_26 wf_27 ph rh (la 0), pgW g ph pa pr pf, rcW g rh ca ci_28 cr_29 cf_30, plW g la lr lf lmx]) := hD
      refine lv_goto (tgt := 269) hx hb dX1_fail_238 (by decide) ?_
      exact J269 wi_25 wr_26 wf_27 ci_28 cr_29 cf_30 hw_31 hw_32 H locs ls hP hD hS (lv_sub hl [0, 1, 2, 3] rfl)
  have S1_241 : W p l e { frames := 4, cells := 0, slots := 0, locals := 95 } s m args below meth c H locs 0 0 Q (F0 m 241 ls []) := by
    refine lv_aload_n hx hb dX1_fail_241 rfl (lv_at hl 0 rfl) ?_
    refine va_get (D := D) (ci := 1) (v := .ref wh) (C := RX1) (T := TX1) (N := 7) hx hb hts inlX1 hown hK hP 0 rfl rfl 0 (by decide) (hts _ q159) (fun _ h => h) rfl dX1_fail_242 ?_
    refine vz_Vi4 (n9 := 6) (bs2 := fun u : (Nat → Int32) => [mcW g h ma mi mr mf wh (da 0) (da 2), cdW g da dr df, woW g wh wa wi wr wf ph rh (la 0), pgW g ph pa pr pf, rcW g rh ca u cr cf, plW g la lr lf lmx]) (br := [mcW g h ma mi mr mf wh (da 0) (da 2), cdW g da dr df]) (As := []) (rest := []) hx hb hml hown hts hK hA hP hD hS (a_W_takeStep l D g H.size wh wa wi wr wf ph rh la pa pr pf ca ci cr cf lr lf lmx hw_w hw_p hw_c hw_l hmx_l) kv_X1_138 ⟨Nat.le_of_ble_eq_true rfl, Nat.le_of_ble_eq_true rfl⟩ (q0 := 7) (ci := 8) rfl rfl rfl [2, 3, 4, 5] [0, 1] rfl (by decide) rfl (fun _ => rfl) (fun _ => rfl) hl.1 (Nat.le_of_ble_eq_true rfl) dX1_fail_245 ⟨Nat.le_refl _, Nat.le_refl _⟩ rfl (fun v34 ci_33 H locs hz35 _ hP hD hS => ?_)
    replace hP : va_P D vwCl (vz_w [mcW g h ma mi mr mf wh (da 0) (da 2), cdW g da dr df, woW g wh wa wi wr wf ph rh (la 0), pgW g ph pa pr pf, rcW g rh ca ci_33 cr cf, plW g la lr lf lmx]) H := hP
    replace hD : va_D A (vz_w [mcW g h ma mi mr mf wh (da 0) (da 2), cdW g da dr df, woW g wh wa wi wr wf ph rh (la 0), pgW g ph pa pr pf, rcW g rh ca ci_33 cr cf, plW g la lr lf lmx]) := hD
    refine lv_if_eq (tgt := 269) hx hb dX1_fail_248 (by decide) (fun kc36 => ?_) (fun kc36 => ?_)
    · exact J269 wi wr wf ci_33 cr cf hw_w hw_c H locs ls hP hD hS (lv_sub hl [0, 1, 2, 3] rfl)
    · refine lv_aload_n hx hb dX1_fail_251 rfl (lv_at hl 0 rfl) ?_
      refine va_get (D := D) (ci := 1) (v := .ref wh) (C := RX1) (T := TX1) (N := 7) hx hb hts inlX1 hown hK hP 0 rfl rfl 0 (by decide) (hts _ q159) (fun _ h => h) rfl dX1_fail_252 ?_
      refine lv_iload_n hx hb dX1_fail_255 rfl (lv_at hl 2 rfl) ?_
      refine lv_iload_n hx hb dX1_fail_256 rfl (lv_at hl 3 rfl) ?_
      refine vz_Vv4 (n9 := 6) (bs2 := fun u : (Nat → Int32) × (Nat → Nat) × (Nat → Nat → Int32) × (Nat → Nat) × (Nat → Nat → Int32) => [mcW g h ma mi mr mf wh (da 0) (da 2), cdW g da dr df, woW g wh wa u.1 u.2.1 u.2.2.1 ph rh (la 0), pgW g ph pa pr pf, rcW g rh ca ci_33 u.2.2.2.1 u.2.2.2.2, plW g la lr lf lmx]) (br := [mcW g h ma mi mr mf wh (da 0) (da 2), cdW g da dr df]) (As := [.int n2, .int n3]) (rest := []) hx hb hml hown hts hK hA hP hD hS (a_W_close l D g H.size wh wa wi wr wf ph rh la pa pr pf ca ci_33 cr cf lr lf lmx n2 n3 hw_w hw_p hw_c hw_l hmx_l) kv_X1_184 ⟨Nat.le_of_ble_eq_true rfl, Nat.le_of_ble_eq_true rfl⟩ (q0 := 7) (ci := 8) rfl rfl rfl [2, 3, 4, 5] [0, 1] rfl (by decide) rfl (fun _ => rfl) (fun _ => rfl) hl.1 (Nat.le_of_ble_eq_true rfl) dX1_fail_257 ⟨Nat.le_refl _, Nat.le_refl _⟩ rfl (fun ⟨wi_37, wr_38, wf_39, cr_40, cf_41⟩ H locs ⟨hw_42, hw_43⟩ _ hP hD hS => ?_)
      try dsimp only at hw_42 hw_43
      replace hP : va_P D vwCl (vz_w [mcW g h ma mi mr mf wh (da 0) (da 2), cdW g da dr df, woW g wh wa wi_37 wr_38 wf_39 ph rh (la 0), pgW g ph pa pr pf, rcW g rh ca ci_33 cr_40 cf_41, plW g la lr lf lmx]) H := hP
      replace hD : va_D A (vz_w [mcW g h ma mi mr mf wh (da 0) (da 2), cdW g da dr df, woW g wh wa wi_37 wr_38 wf_39 ph rh (la 0), pgW g ph pa pr pf, rcW g rh ca ci_33 cr_40 cf_41, plW g la lr lf lmx]) := hD
      refine lv_goto (tgt := 269) hx hb dX1_fail_260 (by decide) ?_
      exact J269 wi_37 wr_38 wf_39 ci_33 cr_40 cf_41 hw_42 hw_43 H locs ls hP hD hS (lv_sub hl [0, 1, 2, 3] rfl)
  have S1_263 : W p l e { frames := 4, cells := 0, slots := 0, locals := 95 } s m args below meth c H locs 0 0 Q (F0 m 263 ls []) := by
    refine lv_aload_n hx hb dX1_fail_263 rfl (lv_at hl 0 rfl) ?_
    refine lv_iload_n hx hb dX1_fail_264 rfl (lv_at hl 2 rfl) ?_
    refine lv_iload_n hx hb dX1_fail_265 rfl (lv_at hl 3 rfl) ?_
    refine vz_Vv3 (As := [.int n2, .int n3]) (rest := []) hx hb hml hown hts hK hA hP hD hS (a_M_closeUnder l D g H.size h ma mi mr mf wh da dr df wa wi wr wf ph rh la pa pr pf ca ci cr cf lr lf lmx n2 n3 hw_m hw_d hw_w hw_p hw_c hw_l hmx_l) kv_X1_187 ⟨Nat.le_of_ble_eq_true rfl, Nat.le_of_ble_eq_true rfl⟩ (q0 := 0) (ci := 1) rfl rfl rfl  hl.1 (Nat.le_of_ble_eq_true rfl) dX1_fail_266 ⟨Nat.le_refl _, Nat.le_refl _⟩ rfl (fun ⟨wi_44, wr_45, wf_46, ci_47, cr_48, cf_49⟩ H locs ⟨hw_50, hw_51⟩ _ hP hD hS => ?_)
    try dsimp only at hw_50 hw_51
    replace hP : va_P D vwCl (vz_w [mcW g h ma mi mr mf wh (da 0) (da 2), cdW g da dr df, woW g wh wa wi_44 wr_45 wf_46 ph rh (la 0), pgW g ph pa pr pf, rcW g rh ca ci_47 cr_48 cf_49, plW g la lr lf lmx]) H := hP
    replace hD : va_D A (vz_w [mcW g h ma mi mr mf wh (da 0) (da 2), cdW g da dr df, woW g wh wa wi_44 wr_45 wf_46 ph rh (la 0), pgW g ph pa pr pf, rcW g rh ca ci_47 cr_48 cf_49, plW g la lr lf lmx]) := hD
    exact J269 wi_44 wr_45 wf_46 ci_47 cr_48 cf_49 hw_50 hw_51 H locs ls hP hD hS (lv_sub hl [0, 1, 2, 3] rfl)
  refine vz_tsw (td := 263) hx hb dX1_fail_1 (by decide) [64, 77, 97, 116, 135, 151, 167, 181, 192, 200, 219, 241] (by decide) (by decide) (fun hv => ?_) (fun k t hk hv => ?_)
  · exact S1_263
  · have hm := List.mem_of_getElem? hk
    simp only [List.mem_cons, List.not_mem_nil, or_false] at hm
    rcases hm with rfl | rfl | rfl | rfl | rfl | rfl | rfl | rfl | rfl | rfl | rfl | rfl
    · exact S1_64
    · exact S1_77
    · exact S1_97
    · exact S1_116
    · exact S1_135
    · exact S1_151
    · exact S1_167
    · exact S1_181
    · exact S1_192
    · exact S1_200
    · exact S1_219
    · exact S1_241
theorem q1270 : Cond.methodLink RX1 34 yX6_reset ∈ wsL_law := mT_5 (List.mem_of_getElem? (i := 170) rfl) rfl
theorem kv_X1_34 : vz_cv RX1 34 yX6_reset cX6_reset 1 none 0 := ⟨q1270, q290, q291, q15, q292, by decide +kernel⟩
theorem q160 : Cond.fieldLink RX1 15 "WaysAtlas$Machine" "code" "LWaysAtlas$Table;" ∈ wsL_law := mT_2 (List.mem_of_getElem? (i := 117) rfl) rfl
theorem q1349 : Cond.methodLink RX1 98 yX8_kindOf ∈ wsL_law := mT_6 (List.mem_of_getElem? (i := 6) rfl) rfl
theorem kv_X1_98 : vz_cv RX1 98 yX8_kindOf cX8_kindOf 2 (some .int) 1 := ⟨q1349, q1237, q1238, q47, q1239, by decide +kernel⟩
theorem q1350 : Cond.methodLink RX1 102 yX1_handlerOf ∈ wsL_law := mT_6 (List.mem_of_getElem? (i := 7) rfl) rfl
theorem q1351 : Cond.instanceMethod yX1_handlerOf ∈ wsL_law := mT_6 (List.mem_of_getElem? (i := 9) rfl) rfl
theorem q1352 : Cond.selects RX1 yX1_handlerOf yX1_handlerOf ∈ wsL_law := mS_7 (q := (yX1_handlerOf, 7)) (List.mem_of_getElem? (i := 4) rfl) rfl
theorem q1353 : Cond.code yX1_handlerOf cX1_handlerOf 5 (some .int) ∈ wsL_law := mT_6 (List.mem_of_getElem? (i := 10) rfl) rfl
theorem kv_X1_102 : vz_cv RX1 102 yX1_handlerOf cX1_handlerOf 5 (some .int) 2 := ⟨q1350, q1351, q1352, q55, q1353, by decide +kernel⟩
theorem dX1_unwind_0 : decode cX1_unwind 0 = .ok (.aload_n 0, 1) := by decide +kernel
theorem dX1_unwind_1 : decode cX1_unwind 1 = .ok (.getfield 9, 3) := by decide +kernel
theorem dX1_unwind_4 : decode cX1_unwind 4 = .ok (.getfield 79, 3) := by decide +kernel
theorem dX1_unwind_7 : decode cX1_unwind 7 = .ok (.istore_n 1, 1) := by decide +kernel
theorem dX1_unwind_8 : decode cX1_unwind 8 = .ok (.aload_n 0, 1) := by decide +kernel
theorem dX1_unwind_9 : decode cX1_unwind 9 = .ok (.getfield 9, 3) := by decide +kernel
theorem dX1_unwind_12 : decode cX1_unwind 12 = .ok (.bipush (-9), 2) := by decide +kernel
theorem dX1_unwind_14 : decode cX1_unwind 14 = .ok (.putfield 79, 3) := by decide +kernel
theorem dX1_unwind_17 : decode cX1_unwind 17 = .ok (.aload_n 0, 1) := by decide +kernel
theorem dX1_unwind_18 : decode cX1_unwind 18 = .ok (.getfield 27, 3) := by decide +kernel
theorem dX1_unwind_21 : decode cX1_unwind 21 = .ok (.invokevirtual 34, 3) := by decide +kernel
theorem dX1_unwind_24 : decode cX1_unwind 24 = .ok (.iconst 0, 1) := by decide +kernel
theorem dX1_unwind_25 : decode cX1_unwind 25 = .ok (.istore_n 2, 1) := by decide +kernel
theorem dX1_unwind_26 : decode cX1_unwind 26 = .ok (.iload_n 2, 1) := by decide +kernel
theorem dX1_unwind_27 : decode cX1_unwind 27 = .ok (.bipush 12, 2) := by decide +kernel
theorem dX1_unwind_29 : decode cX1_unwind 29 = .ok (.if_icmp .ge 98, 3) := by decide +kernel
theorem dX1_unwind_32 : decode cX1_unwind 32 = .ok (.aload_n 0, 1) := by decide +kernel
theorem dX1_unwind_33 : decode cX1_unwind 33 = .ok (.aload_n 0, 1) := by decide +kernel
theorem dX1_unwind_34 : decode cX1_unwind 34 = .ok (.getfield 15, 3) := by decide +kernel
theorem dX1_unwind_37 : decode cX1_unwind 37 = .ok (.aload_n 0, 1) := by decide +kernel
theorem dX1_unwind_38 : decode cX1_unwind 38 = .ok (.getfield 64, 3) := by decide +kernel
theorem dX1_unwind_41 : decode cX1_unwind 41 = .ok (.iconst 3, 1) := by decide +kernel
theorem dX1_unwind_42 : decode cX1_unwind 42 = .ok (.invokevirtual 52, 3) := by decide +kernel
theorem dX1_unwind_45 : decode cX1_unwind 45 = .ok (.aload_n 0, 1) := by decide +kernel
theorem dX1_unwind_46 : decode cX1_unwind 46 = .ok (.getfield 9, 3) := by decide +kernel
theorem dX1_unwind_49 : decode cX1_unwind 49 = .ok (.iload_n 1, 1) := by decide +kernel
theorem dX1_unwind_50 : decode cX1_unwind 50 = .ok (.invokevirtual 98, 3) := by decide +kernel
theorem dX1_unwind_53 : decode cX1_unwind 53 = .ok (.invokevirtual 102, 3) := by decide +kernel
theorem dX1_unwind_56 : decode cX1_unwind 56 = .ok (.istore_n 3, 1) := by decide +kernel
theorem dX1_unwind_57 : decode cX1_unwind 57 = .ok (.iload_n 3, 1) := by decide +kernel
theorem dX1_unwind_58 : decode cX1_unwind 58 = .ok (.bipush (-9), 2) := by decide +kernel
theorem dX1_unwind_60 : decode cX1_unwind 60 = .ok (.if_icmp .eq 22, 3) := by decide +kernel
theorem dX1_unwind_63 : decode cX1_unwind 63 = .ok (.aload_n 0, 1) := by decide +kernel
theorem dX1_unwind_64 : decode cX1_unwind 64 = .ok (.iload_n 1, 1) := by decide +kernel
theorem dX1_unwind_65 : decode cX1_unwind 65 = .ok (.putfield 30, 3) := by decide +kernel
theorem dX1_unwind_68 : decode cX1_unwind 68 = .ok (.aload_n 0, 1) := by decide +kernel
theorem dX1_unwind_69 : decode cX1_unwind 69 = .ok (.aload_n 0, 1) := by decide +kernel
theorem dX1_unwind_70 : decode cX1_unwind 70 = .ok (.getfield 19, 3) := by decide +kernel
theorem dX1_unwind_73 : decode cX1_unwind 73 = .ok (.iload_n 3, 1) := by decide +kernel
theorem dX1_unwind_74 : decode cX1_unwind 74 = .ok (.iconst 1, 1) := by decide +kernel
theorem dX1_unwind_75 : decode cX1_unwind 75 = .ok (.invokevirtual 52, 3) := by decide +kernel
theorem dX1_unwind_78 : decode cX1_unwind 78 = .ok (.putfield 56, 3) := by decide +kernel
theorem dX1_unwind_81 : decode cX1_unwind 81 = .ok (.return_, 1) := by decide +kernel
theorem dX1_unwind_82 : decode cX1_unwind 82 = .ok (.aload_n 0, 1) := by decide +kernel
theorem dX1_unwind_83 : decode cX1_unwind 83 = .ok (.getfield 9, 3) := by decide +kernel
theorem dX1_unwind_86 : decode cX1_unwind 86 = .ok (.invokevirtual 105, 3) := by decide +kernel
theorem dX1_unwind_89 : decode cX1_unwind 89 = .ok (.aload_n 0, 1) := by decide +kernel
theorem dX1_unwind_90 : decode cX1_unwind 90 = .ok (.getfield 9, 3) := by decide +kernel
theorem dX1_unwind_93 : decode cX1_unwind 93 = .ok (.invokevirtual 108, 3) := by decide +kernel
theorem dX1_unwind_96 : decode cX1_unwind 96 = .ok (.ifCond .ne 13, 3) := by decide +kernel
theorem dX1_unwind_99 : decode cX1_unwind 99 = .ok (.aload_n 0, 1) := by decide +kernel
theorem dX1_unwind_100 : decode cX1_unwind 100 = .ok (.getfield 9, 3) := by decide +kernel
theorem dX1_unwind_103 : decode cX1_unwind 103 = .ok (.iconst 1, 1) := by decide +kernel
theorem dX1_unwind_104 : decode cX1_unwind 104 = .ok (.iload_n 1, 1) := by decide +kernel
theorem dX1_unwind_105 : decode cX1_unwind 105 = .ok (.invokevirtual 111, 3) := by decide +kernel
theorem dX1_unwind_108 : decode cX1_unwind 108 = .ok (.return_, 1) := by decide +kernel
theorem dX1_unwind_109 : decode cX1_unwind 109 = .ok (.aload_n 0, 1) := by decide +kernel
theorem dX1_unwind_110 : decode cX1_unwind 110 = .ok (.aload_n 0, 1) := by decide +kernel
theorem dX1_unwind_111 : decode cX1_unwind 111 = .ok (.getfield 9, 3) := by decide +kernel
theorem dX1_unwind_114 : decode cX1_unwind 114 = .ok (.iconst 2, 1) := by decide +kernel
theorem dX1_unwind_115 : decode cX1_unwind 115 = .ok (.invokevirtual 114, 3) := by decide +kernel
theorem dX1_unwind_118 : decode cX1_unwind 118 = .ok (.putfield 64, 3) := by decide +kernel
theorem dX1_unwind_121 : decode cX1_unwind 121 = .ok (.iinc 2 1, 3) := by decide +kernel
theorem dX1_unwind_124 : decode cX1_unwind 124 = .ok (.goto (-98), 3) := by decide +kernel
theorem dX1_unwind_127 : decode cX1_unwind 127 = .ok (.return_, 1) := by decide +kernel
set_option maxHeartbeats 8000000 in
set_option maxRecDepth 100000 in
theorem a_M_unwind (l : Launch) (D : va_G) (g : Nat → ClassId)   (sz : Nat) (h : Nat) (ma : Nat → Nat) (mi : Nat → Int32) (mr : Nat → Nat) (mf : Nat → Nat → Int32) (wh : Nat) (da : Nat → Nat) (dr : Nat → Nat) (df : Nat → Nat → Int32) (wa : Nat → Nat) (wi : Nat → Int32) (wr : Nat → Nat) (wf : Nat → Nat → Int32) (ph : Nat) (rh : Nat) (la : Nat → Nat) (pa : Nat → Nat) (pr : Nat → Nat) (pf : Nat → Nat → Int32) (ca : Nat → Nat) (ci : Nat → Int32) (cr : Nat → Nat) (cf : Nat → Nat → Int32) (lr : Nat → Nat) (lf : Nat → Nat → Int32) (lmx : Nat) (hw_m : ∀ k, mr k ≤ mcW_lim k) (hw_d : ∀ k, dr k ≤ cdW_lim k) (hw_w : ∀ k, wr k ≤ woW_lim k) (hw_p : ∀ k, pr k ≤ pgW_lim k) (hw_c : ∀ k, cr k ≤ rcW_lim k) (hw_l : ∀ k, lr k ≤ (plW_lim lmx) k) (hmx_l : lmx ≤ 30) : vz_Mv l D (tyG g) yX1_unwind cX1_unwind 4 3 71 0 0 [.ref h] sz (vz_w [mcW g h ma mi mr mf wh (da 0) (da 2), cdW g da dr df, woW g wh wa wi wr wf ph rh (la 0), pgW g ph pa pr pf, rcW g rh ca ci cr cf, plW g la lr lf lmx]) (fun u : (Nat → Int32) × (Nat → Nat) × (Nat → Int32) × (Nat → Nat) × (Nat → Int32) => (∀ k, u.2.1 k ≤ mcW_lim k) ∧ (∀ k, u.2.2.2.1 k ≤ woW_lim k)) (fun u => vz_w [mcW g h ma u.1 u.2.1 mf wh (da 0) (da 2), cdW g da dr df, woW g wh wa u.2.2.1 u.2.2.2.1 wf ph rh (la 0), pgW g ph pa pr pf, rcW g rh ca u.2.2.2.2 cr cf, plW g la lr lf lmx]) := by
  refine vz_svQ (by decide) (Nat.le_of_ble_eq_true rfl) (fun p e s m args below meth c hx hb hr hml hts hown hlk hin hK hsz A hA H locs hP hD hS ls hl Q hQ => ?_)
  have hl : lv_has ls 4 [(0, .ref h)] := hl
  have J26 : ∀ (fu26 n26 : Nat), 12 - n26 < fu26 → n26 ≤ 12 → ∀ (x1_26 : Int32), ∀ (mi_26 : Nat → Int32), ∀ (mr_26 : Nat → Nat), ∀ (wi_26 : Nat → Int32), ∀ (wr_26 : Nat → Nat), ∀ (ci_26 : Nat → Int32), (∀ k, mr_26 k ≤ mcW_lim k) → (∀ k, wr_26 k ≤ woW_lim k) → ∀ (H : Heap) (locs : List Loc) (ls : Array Slot), va_P D vwCl (vz_w [mcW g h ma mi_26 mr_26 mf wh (da 0) (da 2), cdW g da dr df, woW g wh wa wi_26 wr_26 wf ph rh (la 0), pgW g ph pa pr pf, rcW g rh ca ci_26 cr cf, plW g la lr lf lmx]) H → va_D A (vz_w [mcW g h ma mi_26 mr_26 mf wh (da 0) (da 2), cdW g da dr df, woW g wh wa wi_26 wr_26 wf ph rh (la 0), pgW g ph pa pr pf, rcW g rh ca ci_26 cr cf, plW g la lr lf lmx]) → va_S A s.heap H locs → lv_has ls 4 [(0, .ref h), (1, .int x1_26), (2, .int (nI n26))] → W p l e { frames := 3, cells := 0, slots := 0, locals := 71 } s m args below meth c H locs 0 0 Q (F0 m 26 ls []) := by
    intro fu26
    induction fu26 with
    | zero => intro n26 z; omega
    | succ fu26 ih26 =>
      intro n26 hf26 hb26 x1_26 mi_26 mr_26 wi_26 wr_26 ci_26 hw_m_26 hw_w_26 H locs ls hP hD hS hl
      refine lv_iload_n hx hb dX1_unwind_26 rfl (lv_at hl 2 rfl) ?_
      refine lv_bipush (v := 12) hx hb dX1_unwind_27 (by decide) ?_
      refine lv_icmp_ge (tgt := 127) hx hb dX1_unwind_29 (by decide) (fun kc1 => ?_) (fun kc1 => ?_)
      · rw [hQ]
        exact vz_vret3 hx hb hr hlk hK hP hD hS (mi_26, mr_26, wi_26, wr_26, ci_26) (⟨hw_m_26, hw_w_26⟩) rfl (Nat.le_refl 0) (Nat.le_refl 0) dX1_unwind_127
      · have hn26 : n26 < 12 := vz_ltge (B := 12) (by omega) kc1
        refine lv_aload_n hx hb dX1_unwind_32 rfl (lv_at hl 0 rfl) ?_
        refine lv_aload_n hx hb dX1_unwind_33 rfl (lv_at hl 0 rfl) ?_
        refine va_get (D := D) (ci := 1) (v := .ref (da 0)) (C := RX1) (T := TX1) (N := 7) hx hb hts inlX1 hown hK hP 0 rfl rfl 1 (by decide) (hts _ q160) (fun _ h => h) rfl dX1_unwind_34 ?_
        refine lv_aload_n hx hb dX1_unwind_37 rfl (lv_at hl 0 rfl) ?_
        refine va_get (D := D) (ci := 1) (v := .int (mi_26 0)) (C := RX1) (T := TX1) (N := 7) hx hb hts inlX1 hown hK hP 0 rfl rfl 4 (by decide) (hts _ q1268) (fun _ h => h) rfl dX1_unwind_38 ?_
        refine lv_iconst (v := 3) hx hb dX1_unwind_41 (by decide) ?_
        refine vz_Vi2 (ws' := fun u : Unit => vz_w [mcW g h ma mi_26 mr_26 mf wh (da 0) (da 2), cdW g da dr df, woW g wh wa wi_26 wr_26 wf ph rh (la 0), pgW g ph pa pr pf, rcW g rh ca ci_26 cr cf, plW g la lr lf lmx]) (As := [.int (mi_26 0), .int 3]) (rest := [.ref h]) hx hb hml hown hts hK hA hP hD hS (c_T_get l D g (da 0) (da 1) H.size 4 4500 (dr 0) 18000 (df 0) (mi_26 0) 3 ⟨rfl, by decide, by decide, by decide, by decide, hw_d 0⟩) kv_X1_52 ⟨Nat.le_of_ble_eq_true rfl, Nat.le_of_ble_eq_true rfl⟩ (q0 := 3) (ci := 6) rfl rfl rfl [3, 4] rfl (by decide) (fun _ => rfl) (fun _ => rfl) hl.1 (Nat.le_of_ble_eq_true rfl) dX1_unwind_42 ⟨Nat.le_refl _, Nat.le_refl _⟩ rfl (fun v2 _ H locs he3 _ hP hD hS => ?_)
        refine lv_aload_n hx hb dX1_unwind_45 rfl (lv_at hl 0 rfl) ?_
        refine va_get (D := D) (ci := 1) (v := .ref wh) (C := RX1) (T := TX1) (N := 7) hx hb hts inlX1 hown hK hP 0 rfl rfl 0 (by decide) (hts _ q159) (fun _ h => h) rfl dX1_unwind_46 ?_
        refine lv_iload_n hx hb dX1_unwind_49 rfl (lv_at hl 1 rfl) ?_
        refine vz_Vi4 (n9 := 6) (bs2 := fun u : Unit => [mcW g h ma mi_26 mr_26 mf wh (da 0) (da 2), cdW g da dr df, woW g wh wa wi_26 wr_26 wf ph rh (la 0), pgW g ph pa pr pf, rcW g rh ca ci_26 cr cf, plW g la lr lf lmx]) (br := [mcW g h ma mi_26 mr_26 mf wh (da 0) (da 2), cdW g da dr df]) (As := [.int x1_26]) (rest := [.int v2, .ref h]) hx hb hml hown hts hK hA hP hD hS (a_W_kindOf l D g H.size wh wa wi_26 wr_26 wf ph rh la pa pr pf ca ci_26 cr cf lr lf lmx x1_26 hw_w_26 hw_p hw_c hw_l hmx_l) kv_X1_98 ⟨Nat.le_of_ble_eq_true rfl, Nat.le_of_ble_eq_true rfl⟩ (q0 := 7) (ci := 8) rfl rfl rfl [2, 3, 4, 5] [0, 1] rfl (by decide) rfl (fun _ => rfl) (fun _ => rfl) hl.1 (Nat.le_of_ble_eq_true rfl) dX1_unwind_50 ⟨Nat.le_refl _, Nat.le_refl _⟩ rfl (fun v4 _ H locs _ _ hP hD hS => ?_)
        refine vz_Vi3 (As := [.int v2, .int v4]) (rest := []) hx hb hml hown hts hK hA hP hD hS (a_M_handlerOf l D g H.size h ma mi_26 mr_26 mf wh da dr df wa wi_26 wr_26 wf ph rh la pa pr pf ca ci_26 cr cf lr lf lmx v2 v4 hw_m_26 hw_d hw_w_26 hw_p hw_c hw_l hmx_l) kv_X1_102 ⟨Nat.le_of_ble_eq_true rfl, Nat.le_of_ble_eq_true rfl⟩ (q0 := 0) (ci := 1) rfl rfl rfl  hl.1 (Nat.le_of_ble_eq_true rfl) dX1_unwind_53 ⟨Nat.le_refl _, Nat.le_refl _⟩ rfl (fun v5 _ H locs _ _ hP hD hS => ?_)
        refine lv_istore_n (lv' := [(3, .int v5), (0, .ref h), (1, .int x1_26), (2, .int (nI n26))]) hx hb dX1_unwind_56 rfl hl (by decide) rfl (fun ls hl => ?_)
        refine lv_iload_n hx hb dX1_unwind_57 rfl (lv_at hl 0 rfl) ?_
        refine lv_bipush (v := (-9)) hx hb dX1_unwind_58 (by decide) ?_
        refine lv_icmp_eq (tgt := 82) hx hb dX1_unwind_60 (by decide) (fun kc6 => ?_) (fun kc6 => ?_)
        · refine lv_aload_n hx hb dX1_unwind_82 rfl (lv_at hl 1 rfl) ?_
          refine va_get (D := D) (ci := 1) (v := .ref wh) (C := RX1) (T := TX1) (N := 7) hx hb hts inlX1 hown hK hP 0 rfl rfl 0 (by decide) (hts _ q159) (fun _ h => h) rfl dX1_unwind_83 ?_
          refine vz_Vv4 (n9 := 6) (bs2 := fun u : (Nat → Nat) => [mcW g h ma mi_26 mr_26 mf wh (da 0) (da 2), cdW g da dr df, woW g wh wa wi_26 u wf ph rh (la 0), pgW g ph pa pr pf, rcW g rh ca ci_26 cr cf, plW g la lr lf lmx]) (br := [mcW g h ma mi_26 mr_26 mf wh (da 0) (da 2), cdW g da dr df]) (As := []) (rest := []) hx hb hml hown hts hK hA hP hD hS (a_W_leave l D g H.size wh wa wi_26 wr_26 wf ph rh la pa pr pf ca ci_26 cr cf lr lf lmx hw_w_26 hw_p hw_c hw_l hmx_l) kv_X1_105 ⟨Nat.le_of_ble_eq_true rfl, Nat.le_of_ble_eq_true rfl⟩ (q0 := 7) (ci := 8) rfl rfl rfl [2, 3, 4, 5] [0, 1] rfl (by decide) rfl (fun _ => rfl) (fun _ => rfl) hl.1 (Nat.le_of_ble_eq_true rfl) dX1_unwind_86 ⟨Nat.le_refl _, Nat.le_refl _⟩ rfl (fun wr_7 H locs hw_8 _ hP hD hS => ?_)
          try dsimp only at hw_8
          replace hP : va_P D vwCl (vz_w [mcW g h ma mi_26 mr_26 mf wh (da 0) (da 2), cdW g da dr df, woW g wh wa wi_26 wr_7 wf ph rh (la 0), pgW g ph pa pr pf, rcW g rh ca ci_26 cr cf, plW g la lr lf lmx]) H := hP
          replace hD : va_D A (vz_w [mcW g h ma mi_26 mr_26 mf wh (da 0) (da 2), cdW g da dr df, woW g wh wa wi_26 wr_7 wf ph rh (la 0), pgW g ph pa pr pf, rcW g rh ca ci_26 cr cf, plW g la lr lf lmx]) := hD
          refine lv_aload_n hx hb dX1_unwind_89 rfl (lv_at hl 1 rfl) ?_
          refine va_get (D := D) (ci := 1) (v := .ref wh) (C := RX1) (T := TX1) (N := 7) hx hb hts inlX1 hown hK hP 0 rfl rfl 0 (by decide) (hts _ q159) (fun _ h => h) rfl dX1_unwind_90 ?_
          refine vz_Vi4 (n9 := 6) (bs2 := fun u : Unit => [mcW g h ma mi_26 mr_26 mf wh (da 0) (da 2), cdW g da dr df, woW g wh wa wi_26 wr_7 wf ph rh (la 0), pgW g ph pa pr pf, rcW g rh ca ci_26 cr cf, plW g la lr lf lmx]) (br := [mcW g h ma mi_26 mr_26 mf wh (da 0) (da 2), cdW g da dr df]) (As := []) (rest := []) hx hb hml hown hts hK hA hP hD hS (a_W_active l D g H.size wh wa wi_26 wr_7 wf ph rh la pa pr pf ca ci_26 cr cf lr lf lmx hw_8 hw_p hw_c hw_l hmx_l) kv_X1_108 ⟨Nat.le_of_ble_eq_true rfl, Nat.le_of_ble_eq_true rfl⟩ (q0 := 7) (ci := 8) rfl rfl rfl [2, 3, 4, 5] [0, 1] rfl (by decide) rfl (fun _ => rfl) (fun _ => rfl) hl.1 (Nat.le_of_ble_eq_true rfl) dX1_unwind_93 ⟨Nat.le_refl _, Nat.le_refl _⟩ rfl (fun v9 _ H locs _ _ hP hD hS => ?_)
          refine lv_if_ne (tgt := 109) hx hb dX1_unwind_96 (by decide) (fun kc10 => ?_) (fun kc10 => ?_)
          · refine lv_aload_n hx hb dX1_unwind_109 rfl (lv_at hl 1 rfl) ?_
            refine lv_aload_n hx hb dX1_unwind_110 rfl (lv_at hl 1 rfl) ?_
            refine va_get (D := D) (ci := 1) (v := .ref wh) (C := RX1) (T := TX1) (N := 7) hx hb hts inlX1 hown hK hP 0 rfl rfl 0 (by decide) (hts _ q159) (fun _ h => h) rfl dX1_unwind_111 ?_
            refine lv_iconst (v := 2) hx hb dX1_unwind_114 (by decide) ?_
            refine vz_Vi4 (n9 := 6) (bs2 := fun u : Unit => [mcW g h ma mi_26 mr_26 mf wh (da 0) (da 2), cdW g da dr df, woW g wh wa wi_26 wr_7 wf ph rh (la 0), pgW g ph pa pr pf, rcW g rh ca ci_26 cr cf, plW g la lr lf lmx]) (br := [mcW g h ma mi_26 mr_26 mf wh (da 0) (da 2), cdW g da dr df]) (As := [.int 2]) (rest := [.ref h]) hx hb hml hown hts hK hA hP hD hS (a_W_now l D g H.size wh wa wi_26 wr_7 wf ph rh la pa pr pf ca ci_26 cr cf lr lf lmx 2 hw_8 hw_p hw_c hw_l hmx_l) kv_X1_114 ⟨Nat.le_of_ble_eq_true rfl, Nat.le_of_ble_eq_true rfl⟩ (q0 := 7) (ci := 8) rfl rfl rfl [2, 3, 4, 5] [0, 1] rfl (by decide) rfl (fun _ => rfl) (fun _ => rfl) hl.1 (Nat.le_of_ble_eq_true rfl) dX1_unwind_115 ⟨Nat.le_refl _, Nat.le_refl _⟩ rfl (fun v11 _ H locs _ _ hP hD hS => ?_)
            refine va_put (D := D) (ci := 1) (v := .int v11) (ty := .int) (C := RX1) (T := TX1) (N := 7) hx hb hts inlX1 tyX1 tyX1_ok nmX1 hown hK hP hD hS 0 rfl rfl 4 (by decide) (hts _ q1268) (fun _ h => h) rfl (by decide +kernel) rfl rfl (Nat.le_of_ble_eq_true rfl) dX1_unwind_118 (fun H locs hP hD hS => ?_)
            obtain ⟨mi_12, hmi_12, hP, hD⟩ : ∃ mi_12 : Nat → Int32, (mi_12 = (upd mi_26 0 v11)) ∧ va_P D vwCl (vz_w [mcW g h ma mi_12 mr_26 mf wh (da 0) (da 2), cdW g da dr df, woW g wh wa wi_26 wr_7 wf ph rh (la 0), pgW g ph pa pr pf, rcW g rh ca ci_26 cr cf, plW g la lr lf lmx]) H ∧ va_D A (vz_w [mcW g h ma mi_12 mr_26 mf wh (da 0) (da 2), cdW g da dr df, woW g wh wa wi_26 wr_7 wf ph rh (la 0), pgW g ph pa pr pf, rcW g rh ca ci_26 cr cf, plW g la lr lf lmx]) := ⟨(upd mi_26 0 v11), rfl, hP, hD⟩
            refine lv_iinc (v := (nI (n26 + 1))) (lv' := [(2, .int (nI (n26 + 1))), (3, .int v5), (0, .ref h), (1, .int x1_26)]) hx hb dX1_unwind_121 hl (k := 3) rfl (nI_1 n26) (by decide) rfl (fun ls hl => ?_)
            refine lv_goto (tgt := 26) hx hb dX1_unwind_124 (by decide) ?_
            exact ih26 (n26 + 1) (by omega) (by omega) x1_26 mi_12 mr_26 wi_26 wr_7 ci_26 hw_m_26 hw_8 H locs ls hP hD hS (lv_sub hl [2, 3, 0] rfl)
          · refine lv_aload_n hx hb dX1_unwind_99 rfl (lv_at hl 1 rfl) ?_
            refine va_get (D := D) (ci := 1) (v := .ref wh) (C := RX1) (T := TX1) (N := 7) hx hb hts inlX1 hown hK hP 0 rfl rfl 0 (by decide) (hts _ q159) (fun _ h => h) rfl dX1_unwind_100 ?_
            refine lv_iconst (v := 1) hx hb dX1_unwind_103 (by decide) ?_
            refine lv_iload_n hx hb dX1_unwind_104 rfl (lv_at hl 2 rfl) ?_
            refine vz_Vv4 (n9 := 6) (bs2 := fun u : (Nat → Int32) => [mcW g h ma mi_26 mr_26 mf wh (da 0) (da 2), cdW g da dr df, woW g wh wa wi_26 wr_7 wf ph rh (la 0), pgW g ph pa pr pf, rcW g rh ca u cr cf, plW g la lr lf lmx]) (br := [mcW g h ma mi_26 mr_26 mf wh (da 0) (da 2), cdW g da dr df]) (As := [.int 1, .int x1_26]) (rest := []) hx hb hml hown hts hK hA hP hD hS (a_W_end l D g H.size wh wa wi_26 wr_7 wf ph rh la pa pr pf ca ci_26 cr cf lr lf lmx 1 x1_26 hw_8 hw_p hw_c hw_l hmx_l) kv_X1_111 ⟨Nat.le_of_ble_eq_true rfl, Nat.le_of_ble_eq_true rfl⟩ (q0 := 7) (ci := 8) rfl rfl rfl [2, 3, 4, 5] [0, 1] rfl (by decide) rfl (fun _ => rfl) (fun _ => rfl) hl.1 (Nat.le_of_ble_eq_true rfl) dX1_unwind_105 ⟨Nat.le_refl _, Nat.le_refl _⟩ rfl (fun ci_13 H locs _ _ hP hD hS => ?_)
            replace hP : va_P D vwCl (vz_w [mcW g h ma mi_26 mr_26 mf wh (da 0) (da 2), cdW g da dr df, woW g wh wa wi_26 wr_7 wf ph rh (la 0), pgW g ph pa pr pf, rcW g rh ca ci_13 cr cf, plW g la lr lf lmx]) H := hP
            replace hD : va_D A (vz_w [mcW g h ma mi_26 mr_26 mf wh (da 0) (da 2), cdW g da dr df, woW g wh wa wi_26 wr_7 wf ph rh (la 0), pgW g ph pa pr pf, rcW g rh ca ci_13 cr cf, plW g la lr lf lmx]) := hD
            rw [hQ]
            exact vz_vret3 hx hb hr hlk hK hP hD hS (mi_26, mr_26, wi_26, wr_7, ci_13) (⟨hw_m_26, hw_8⟩) rfl (Nat.le_refl 0) (Nat.le_refl 0) dX1_unwind_108
        · refine lv_aload_n hx hb dX1_unwind_63 rfl (lv_at hl 1 rfl) ?_
          refine lv_iload_n hx hb dX1_unwind_64 rfl (lv_at hl 2 rfl) ?_
          refine va_put (D := D) (ci := 1) (v := .int x1_26) (ty := .int) (C := RX1) (T := TX1) (N := 7) hx hb hts inlX1 tyX1 tyX1_ok nmX1 hown hK hP hD hS 0 rfl rfl 6 (by decide) (hts _ q164) (fun _ h => h) rfl (by decide +kernel) rfl rfl (Nat.le_of_ble_eq_true rfl) dX1_unwind_65 (fun H locs hP hD hS => ?_)
          obtain ⟨mi_14, hmi_14, hP, hD⟩ : ∃ mi_14 : Nat → Int32, (mi_14 = (upd mi_26 2 x1_26)) ∧ va_P D vwCl (vz_w [mcW g h ma mi_14 mr_26 mf wh (da 0) (da 2), cdW g da dr df, woW g wh wa wi_26 wr_26 wf ph rh (la 0), pgW g ph pa pr pf, rcW g rh ca ci_26 cr cf, plW g la lr lf lmx]) H ∧ va_D A (vz_w [mcW g h ma mi_14 mr_26 mf wh (da 0) (da 2), cdW g da dr df, woW g wh wa wi_26 wr_26 wf ph rh (la 0), pgW g ph pa pr pf, rcW g rh ca ci_26 cr cf, plW g la lr lf lmx]) := ⟨(upd mi_26 2 x1_26), rfl, hP, hD⟩
          refine lv_aload_n hx hb dX1_unwind_68 rfl (lv_at hl 1 rfl) ?_
          refine lv_aload_n hx hb dX1_unwind_69 rfl (lv_at hl 1 rfl) ?_
          refine va_get (D := D) (ci := 1) (v := .ref (da 2)) (C := RX1) (T := TX1) (N := 7) hx hb hts inlX1 hown hK hP 0 rfl rfl 2 (by decide) (hts _ q161) (fun _ h => h) rfl dX1_unwind_70 ?_
          refine lv_iload_n hx hb dX1_unwind_73 rfl (lv_at hl 0 rfl) ?_
          refine lv_iconst (v := 1) hx hb dX1_unwind_74 (by decide) ?_
          refine vz_Vi2 (ws' := fun u : Unit => vz_w [mcW g h ma mi_14 mr_26 mf wh (da 0) (da 2), cdW g da dr df, woW g wh wa wi_26 wr_26 wf ph rh (la 0), pgW g ph pa pr pf, rcW g rh ca ci_26 cr cf, plW g la lr lf lmx]) (As := [.int v5, .int 1]) (rest := [.ref h]) hx hb hml hown hts hK hA hP hD hS (c_T_get l D g (da 2) (da 3) H.size 3 500 (dr 1) 1500 (df 1) v5 1 ⟨rfl, by decide, by decide, by decide, by decide, hw_d 1⟩) kv_X1_52 ⟨Nat.le_of_ble_eq_true rfl, Nat.le_of_ble_eq_true rfl⟩ (q0 := 5) (ci := 6) rfl rfl rfl [5, 6] rfl (by decide) (fun _ => rfl) (fun _ => rfl) hl.1 (Nat.le_of_ble_eq_true rfl) dX1_unwind_75 ⟨Nat.le_refl _, Nat.le_refl _⟩ rfl (fun v15 _ H locs he16 _ hP hD hS => ?_)
          refine va_put (D := D) (ci := 1) (v := .int v15) (ty := .int) (C := RX1) (T := TX1) (N := 7) hx hb hts inlX1 tyX1 tyX1_ok nmX1 hown hK hP hD hS 0 rfl rfl 5 (by decide) (hts _ q1266) (fun _ h => h) rfl (by decide +kernel) rfl rfl (Nat.le_of_ble_eq_true rfl) dX1_unwind_78 (fun H locs hP hD hS => ?_)
          obtain ⟨mi_17, hmi_17, hP, hD⟩ : ∃ mi_17 : Nat → Int32, (mi_17 = (upd mi_14 1 v15)) ∧ va_P D vwCl (vz_w [mcW g h ma mi_17 mr_26 mf wh (da 0) (da 2), cdW g da dr df, woW g wh wa wi_26 wr_26 wf ph rh (la 0), pgW g ph pa pr pf, rcW g rh ca ci_26 cr cf, plW g la lr lf lmx]) H ∧ va_D A (vz_w [mcW g h ma mi_17 mr_26 mf wh (da 0) (da 2), cdW g da dr df, woW g wh wa wi_26 wr_26 wf ph rh (la 0), pgW g ph pa pr pf, rcW g rh ca ci_26 cr cf, plW g la lr lf lmx]) := ⟨(upd mi_14 1 v15), rfl, hP, hD⟩
          rw [hQ]
          exact vz_vret3 hx hb hr hlk hK hP hD hS (mi_17, mr_26, wi_26, wr_26, ci_26) (⟨hw_m_26, hw_w_26⟩) rfl (Nat.le_refl 0) (Nat.le_refl 0) dX1_unwind_81
  refine lv_aload_n hx hb dX1_unwind_0 rfl (lv_at hl 0 rfl) ?_
  refine va_get (D := D) (ci := 1) (v := .ref wh) (C := RX1) (T := TX1) (N := 7) hx hb hts inlX1 hown hK hP 0 rfl rfl 0 (by decide) (hts _ q159) (fun _ h => h) rfl dX1_unwind_1 ?_
  refine va_get (D := D) (ci := 8) (v := .int (wi 1)) (C := RX8) (T := TX8) (N := 11) hx hb hts inlX8 hown hK hP 7 rfl rfl 9 (by decide) (hts _ q1269) (fun _ h => h) rfl dX1_unwind_4 ?_
  refine lv_istore_n (lv' := [(1, .int (wi 1)), (0, .ref h)]) hx hb dX1_unwind_7 rfl hl (by decide) rfl (fun ls hl => ?_)
  refine lv_aload_n hx hb dX1_unwind_8 rfl (lv_at hl 1 rfl) ?_
  refine va_get (D := D) (ci := 1) (v := .ref wh) (C := RX1) (T := TX1) (N := 7) hx hb hts inlX1 hown hK hP 0 rfl rfl 0 (by decide) (hts _ q159) (fun _ h => h) rfl dX1_unwind_9 ?_
  refine lv_bipush (v := (-9)) hx hb dX1_unwind_12 (by decide) ?_
  refine va_put (D := D) (ci := 8) (v := .int (-9)) (ty := .int) (C := RX8) (T := TX8) (N := 11) hx hb hts inlX8 tyX8 tyX8_ok nmX8 hown hK hP hD hS 7 rfl rfl 9 (by decide) (hts _ q1269) (fun _ h => h) rfl (by decide +kernel) rfl rfl (Nat.le_of_ble_eq_true rfl) dX1_unwind_14 (fun H locs hP hD hS => ?_)
  obtain ⟨wi_1, hwi_1, hP, hD⟩ : ∃ wi_1 : Nat → Int32, (wi_1 = (upd wi 1 (-9))) ∧ va_P D vwCl (vz_w [mcW g h ma mi mr mf wh (da 0) (da 2), cdW g da dr df, woW g wh wa wi_1 wr wf ph rh (la 0), pgW g ph pa pr pf, rcW g rh ca ci cr cf, plW g la lr lf lmx]) H ∧ va_D A (vz_w [mcW g h ma mi mr mf wh (da 0) (da 2), cdW g da dr df, woW g wh wa wi_1 wr wf ph rh (la 0), pgW g ph pa pr pf, rcW g rh ca ci cr cf, plW g la lr lf lmx]) := ⟨(upd wi 1 (-9)), rfl, hP, hD⟩
  refine lv_aload_n hx hb dX1_unwind_17 rfl (lv_at hl 1 rfl) ?_
  refine va_get (D := D) (ci := 1) (v := .ref (ma 0)) (C := RX1) (T := TX1) (N := 7) hx hb hts inlX1 hown hK hP 0 rfl rfl 3 (by decide) (hts _ q163) (fun _ h => h) rfl dX1_unwind_18 ?_
  refine vz_Vv2 (ws' := fun u : Unit => vz_w [mcW g h ma mi (vz_un mr 0 0) mf wh (da 0) (da 2), cdW g da dr df, woW g wh wa wi_1 wr wf ph rh (la 0), pgW g ph pa pr pf, rcW g rh ca ci cr cf, plW g la lr lf lmx]) (As := []) (rest := []) hx hb hml hown hts hK hA hP hD hS (c_T_reset l D g (ma 0) (ma 1) H.size (nI 1) (nI 64) (nI (mr 0))) kv_X1_34 ⟨Nat.le_of_ble_eq_true rfl, Nat.le_of_ble_eq_true rfl⟩ (q0 := 1) (ci := 6) rfl rfl rfl [1] rfl (by decide) (fun _ => rfl) (fun _ => rfl) hl.1 (Nat.le_of_ble_eq_true rfl) dX1_unwind_21 ⟨Nat.le_refl _, Nat.le_refl _⟩ rfl (fun _ H locs _ _ hP hD hS => ?_)
  obtain ⟨mr_2, hw_mr_2, hP, hD⟩ : ∃ mr_2 : Nat → Nat, (∀ k, mr_2 k ≤ mcW_lim k) ∧ va_P D vwCl (vz_w [mcW g h ma mi mr_2 mf wh (da 0) (da 2), cdW g da dr df, woW g wh wa wi_1 wr wf ph rh (la 0), pgW g ph pa pr pf, rcW g rh ca ci cr cf, plW g la lr lf lmx]) H ∧ va_D A (vz_w [mcW g h ma mi mr_2 mf wh (da 0) (da 2), cdW g da dr df, woW g wh wa wi_1 wr wf ph rh (la 0), pgW g ph pa pr pf, rcW g rh ca ci cr cf, plW g la lr lf lmx]) := ⟨(vz_un mr 0 0), (vz_wf hw_m (t := 0) (v := 0) (Nat.zero_le _)), hP, hD⟩
  refine lv_iconst (v := 0) hx hb dX1_unwind_24 (by decide) ?_
  refine lv_istore_n (lv' := [(2, .int 0), (1, .int (wi 1)), (0, .ref h)]) hx hb dX1_unwind_25 rfl hl (by decide) rfl (fun ls hl => ?_)
  exact J26 (13) 0 (by omega) (by omega) (wi 1) mi mr_2 wi_1 wr ci hw_mr_2 hw_w H locs ls hP hD hS (lv_sub hl [2, 1, 0] rfl)
theorem q1267 : Cond.constant RX1 59 (1000000) ∈ wsL_law := mT_5 (List.mem_of_getElem? (i := 173) rfl) rfl
theorem q1273 : Cond.methodLink RX1 60 yX8_isRunning ∈ wsL_law := mT_5 (List.mem_of_getElem? (i := 174) rfl) rfl
theorem kv_X1_60 : vz_cv RX1 60 yX8_isRunning cX8_isRunning 1 (some .boolean) 0 := ⟨q1273, q1068, q1069, q47, q1070, by decide +kernel⟩
theorem q1274 : Cond.methodLink RX1 67 yX1_evaluate ∈ wsL_law := mT_5 (List.mem_of_getElem? (i := 175) rfl) rfl
theorem q1275 : Cond.instanceMethod yX1_evaluate ∈ wsL_law := mT_5 (List.mem_of_getElem? (i := 177) rfl) rfl
theorem q1276 : Cond.selects RX1 yX1_evaluate yX1_evaluate ∈ wsL_law := mS_6 (q := (yX1_evaluate, 7)) (List.mem_of_getElem? (i := 8) rfl) rfl
theorem q1277 : Cond.code yX1_evaluate cX1_evaluate 5 none ∈ wsL_law := mT_5 (List.mem_of_getElem? (i := 178) rfl) rfl
theorem kv_X1_67 : vz_cv RX1 67 yX1_evaluate cX1_evaluate 5 none 2 := ⟨q1274, q1275, q1276, q55, q1277, by decide +kernel⟩
theorem q1294 : Cond.methodLink RX1 70 yX1_change ∈ wsL_law := mT_5 (List.mem_of_getElem? (i := 194) rfl) rfl
theorem q1295 : Cond.instanceMethod yX1_change ∈ wsL_law := mT_5 (List.mem_of_getElem? (i := 196) rfl) rfl
theorem q1296 : Cond.selects RX1 yX1_change yX1_change ∈ wsL_law := mS_6 (q := (yX1_change, 7)) (List.mem_of_getElem? (i := 11) rfl) rfl
theorem q1297 : Cond.code yX1_change cX1_change 6 none ∈ wsL_law := mT_5 (List.mem_of_getElem? (i := 197) rfl) rfl
theorem kv_X1_70 : vz_cv RX1 70 yX1_change cX1_change 6 none 3 := ⟨q1294, q1295, q1296, q55, q1297, by decide +kernel⟩
theorem q1303 : Cond.methodLink RX1 73 yX1_flow ∈ wsL_law := mT_5 (List.mem_of_getElem? (i := 203) rfl) rfl
theorem q1304 : Cond.instanceMethod yX1_flow ∈ wsL_law := mT_5 (List.mem_of_getElem? (i := 205) rfl) rfl
theorem q1305 : Cond.selects RX1 yX1_flow yX1_flow ∈ wsL_law := mS_6 (q := (yX1_flow, 7)) (List.mem_of_getElem? (i := 12) rfl) rfl
theorem q1306 : Cond.code yX1_flow cX1_flow 6 none ∈ wsL_law := mT_5 (List.mem_of_getElem? (i := 206) rfl) rfl
theorem kv_X1_73 : vz_cv RX1 73 yX1_flow cX1_flow 6 none 3 := ⟨q1303, q1304, q1305, q55, q1306, by decide +kernel⟩
theorem q1326 : Cond.methodLink RX1 76 yX1_fail ∈ wsL_law := mT_5 (List.mem_of_getElem? (i := 226) rfl) rfl
theorem q1327 : Cond.instanceMethod yX1_fail ∈ wsL_law := mT_5 (List.mem_of_getElem? (i := 228) rfl) rfl
theorem q1328 : Cond.selects RX1 yX1_fail yX1_fail ∈ wsL_law := mS_7 (q := (yX1_fail, 7)) (List.mem_of_getElem? (i := 0) rfl) rfl
theorem q1329 : Cond.code yX1_fail cX1_fail 4 none ∈ wsL_law := mT_5 (List.mem_of_getElem? (i := 229) rfl) rfl
theorem kv_X1_76 : vz_cv RX1 76 yX1_fail cX1_fail 4 none 3 := ⟨q1326, q1327, q1328, q55, q1329, by decide +kernel⟩
theorem q1345 : Cond.methodLink RX1 82 yX1_unwind ∈ wsL_law := mT_6 (List.mem_of_getElem? (i := 2) rfl) rfl
theorem q1346 : Cond.instanceMethod yX1_unwind ∈ wsL_law := mT_6 (List.mem_of_getElem? (i := 4) rfl) rfl
theorem q1347 : Cond.selects RX1 yX1_unwind yX1_unwind ∈ wsL_law := mS_7 (q := (yX1_unwind, 7)) (List.mem_of_getElem? (i := 3) rfl) rfl
theorem q1348 : Cond.code yX1_unwind cX1_unwind 4 none ∈ wsL_law := mT_6 (List.mem_of_getElem? (i := 5) rfl) rfl
theorem kv_X1_82 : vz_cv RX1 82 yX1_unwind cX1_unwind 4 none 0 := ⟨q1345, q1346, q1347, q55, q1348, by decide +kernel⟩
theorem dX1_work_0 : decode cX1_work 0 = .ok (.aload_n 0, 1) := by decide +kernel
theorem dX1_work_1 : decode cX1_work 1 = .ok (.getfield 27, 3) := by decide +kernel
theorem dX1_work_4 : decode cX1_work 4 = .ok (.invokevirtual 34, 3) := by decide +kernel
theorem dX1_work_7 : decode cX1_work 7 = .ok (.aload_n 0, 1) := by decide +kernel
theorem dX1_work_8 : decode cX1_work 8 = .ok (.getfield 9, 3) := by decide +kernel
theorem dX1_work_11 : decode cX1_work 11 = .ok (.iload_n 1, 1) := by decide +kernel
theorem dX1_work_12 : decode cX1_work 12 = .ok (.iload_n 2, 1) := by decide +kernel
theorem dX1_work_13 : decode cX1_work 13 = .ok (.iload_n 3, 1) := by decide +kernel
theorem dX1_work_14 : decode cX1_work 14 = .ok (.invokevirtual 37, 3) := by decide +kernel
theorem dX1_work_17 : decode cX1_work 17 = .ok (.aload_n 0, 1) := by decide +kernel
theorem dX1_work_18 : decode cX1_work 18 = .ok (.aload_n 0, 1) := by decide +kernel
theorem dX1_work_19 : decode cX1_work 19 = .ok (.getfield 9, 3) := by decide +kernel
theorem dX1_work_22 : decode cX1_work 22 = .ok (.getfield 43, 3) := by decide +kernel
theorem dX1_work_25 : decode cX1_work 25 = .ok (.getfield 47, 3) := by decide +kernel
theorem dX1_work_28 : decode cX1_work 28 = .ok (.iload_n 1, 1) := by decide +kernel
theorem dX1_work_29 : decode cX1_work 29 = .ok (.iconst 1, 1) := by decide +kernel
theorem dX1_work_30 : decode cX1_work 30 = .ok (.invokevirtual 52, 3) := by decide +kernel
theorem dX1_work_33 : decode cX1_work 33 = .ok (.putfield 56, 3) := by decide +kernel
theorem dX1_work_36 : decode cX1_work 36 = .ok (.iconst 0, 1) := by decide +kernel
theorem dX1_work_37 : decode cX1_work 37 = .ok (.istore 4, 2) := by decide +kernel
theorem dX1_work_39 : decode cX1_work 39 = .ok (.iload 4, 2) := by decide +kernel
theorem dX1_work_41 : decode cX1_work 41 = .ok (.ldc 59, 2) := by decide +kernel
theorem dX1_work_43 : decode cX1_work 43 = .ok (.if_icmp .ge 163, 3) := by decide +kernel
theorem dX1_work_46 : decode cX1_work 46 = .ok (.aload_n 0, 1) := by decide +kernel
theorem dX1_work_47 : decode cX1_work 47 = .ok (.getfield 9, 3) := by decide +kernel
theorem dX1_work_50 : decode cX1_work 50 = .ok (.invokevirtual 60, 3) := by decide +kernel
theorem dX1_work_53 : decode cX1_work 53 = .ok (.ifCond .eq 153, 3) := by decide +kernel
theorem dX1_work_56 : decode cX1_work 56 = .ok (.aload_n 0, 1) := by decide +kernel
theorem dX1_work_57 : decode cX1_work 57 = .ok (.aload_n 0, 1) := by decide +kernel
theorem dX1_work_58 : decode cX1_work 58 = .ok (.getfield 56, 3) := by decide +kernel
theorem dX1_work_61 : decode cX1_work 61 = .ok (.putfield 64, 3) := by decide +kernel
theorem dX1_work_64 : decode cX1_work 64 = .ok (.aload_n 0, 1) := by decide +kernel
theorem dX1_work_65 : decode cX1_work 65 = .ok (.dup, 1) := by decide +kernel
theorem dX1_work_66 : decode cX1_work 66 = .ok (.getfield 56, 3) := by decide +kernel
theorem dX1_work_69 : decode cX1_work 69 = .ok (.iconst 1, 1) := by decide +kernel
theorem dX1_work_70 : decode cX1_work 70 = .ok (.iadd, 1) := by decide +kernel
theorem dX1_work_71 : decode cX1_work 71 = .ok (.putfield 56, 3) := by decide +kernel
theorem dX1_work_74 : decode cX1_work 74 = .ok (.aload_n 0, 1) := by decide +kernel
theorem dX1_work_75 : decode cX1_work 75 = .ok (.getfield 15, 3) := by decide +kernel
theorem dX1_work_78 : decode cX1_work 78 = .ok (.aload_n 0, 1) := by decide +kernel
theorem dX1_work_79 : decode cX1_work 79 = .ok (.getfield 64, 3) := by decide +kernel
theorem dX1_work_82 : decode cX1_work 82 = .ok (.iconst 0, 1) := by decide +kernel
theorem dX1_work_83 : decode cX1_work 83 = .ok (.invokevirtual 52, 3) := by decide +kernel
theorem dX1_work_86 : decode cX1_work 86 = .ok (.istore 5, 2) := by decide +kernel
theorem dX1_work_88 : decode cX1_work 88 = .ok (.aload_n 0, 1) := by decide +kernel
theorem dX1_work_89 : decode cX1_work 89 = .ok (.getfield 15, 3) := by decide +kernel
theorem dX1_work_92 : decode cX1_work 92 = .ok (.aload_n 0, 1) := by decide +kernel
theorem dX1_work_93 : decode cX1_work 93 = .ok (.getfield 64, 3) := by decide +kernel
theorem dX1_work_96 : decode cX1_work 96 = .ok (.iconst 1, 1) := by decide +kernel
theorem dX1_work_97 : decode cX1_work 97 = .ok (.invokevirtual 52, 3) := by decide +kernel
theorem dX1_work_100 : decode cX1_work 100 = .ok (.istore 6, 2) := by decide +kernel
theorem dX1_work_102 : decode cX1_work 102 = .ok (.aload_n 0, 1) := by decide +kernel
theorem dX1_work_103 : decode cX1_work 103 = .ok (.getfield 15, 3) := by decide +kernel
theorem dX1_work_106 : decode cX1_work 106 = .ok (.aload_n 0, 1) := by decide +kernel
theorem dX1_work_107 : decode cX1_work 107 = .ok (.getfield 64, 3) := by decide +kernel
theorem dX1_work_110 : decode cX1_work 110 = .ok (.iconst 2, 1) := by decide +kernel
theorem dX1_work_111 : decode cX1_work 111 = .ok (.invokevirtual 52, 3) := by decide +kernel
theorem dX1_work_114 : decode cX1_work 114 = .ok (.istore 7, 2) := by decide +kernel
theorem dX1_work_116 : decode cX1_work 116 = .ok (.iload 5, 2) := by decide +kernel
theorem dX1_work_118 : decode cX1_work 118 = .ok (.bipush 6, 2) := by decide +kernel
theorem dX1_work_120 : decode cX1_work 120 = .ok (.if_icmp .ge 14, 3) := by decide +kernel
theorem dX1_work_123 : decode cX1_work 123 = .ok (.aload_n 0, 1) := by decide +kernel
theorem dX1_work_124 : decode cX1_work 124 = .ok (.iload 5, 2) := by decide +kernel
theorem dX1_work_126 : decode cX1_work 126 = .ok (.iload 6, 2) := by decide +kernel
theorem dX1_work_128 : decode cX1_work 128 = .ok (.invokevirtual 67, 3) := by decide +kernel
theorem dX1_work_131 : decode cX1_work 131 = .ok (.goto 53, 3) := by decide +kernel
theorem dX1_work_134 : decode cX1_work 134 = .ok (.iload 5, 2) := by decide +kernel
theorem dX1_work_136 : decode cX1_work 136 = .ok (.bipush 14, 2) := by decide +kernel
theorem dX1_work_138 : decode cX1_work 138 = .ok (.if_icmp .ge 16, 3) := by decide +kernel
theorem dX1_work_141 : decode cX1_work 141 = .ok (.aload_n 0, 1) := by decide +kernel
theorem dX1_work_142 : decode cX1_work 142 = .ok (.iload 5, 2) := by decide +kernel
theorem dX1_work_144 : decode cX1_work 144 = .ok (.iload 6, 2) := by decide +kernel
theorem dX1_work_146 : decode cX1_work 146 = .ok (.iload 7, 2) := by decide +kernel
theorem dX1_work_148 : decode cX1_work 148 = .ok (.invokevirtual 70, 3) := by decide +kernel
theorem dX1_work_151 : decode cX1_work 151 = .ok (.goto 33, 3) := by decide +kernel
theorem dX1_work_154 : decode cX1_work 154 = .ok (.iload 5, 2) := by decide +kernel
theorem dX1_work_156 : decode cX1_work 156 = .ok (.bipush 24, 2) := by decide +kernel
theorem dX1_work_158 : decode cX1_work 158 = .ok (.if_icmp .ge 16, 3) := by decide +kernel
theorem dX1_work_161 : decode cX1_work 161 = .ok (.aload_n 0, 1) := by decide +kernel
theorem dX1_work_162 : decode cX1_work 162 = .ok (.iload 5, 2) := by decide +kernel
theorem dX1_work_164 : decode cX1_work 164 = .ok (.iload 6, 2) := by decide +kernel
theorem dX1_work_166 : decode cX1_work 166 = .ok (.iload 7, 2) := by decide +kernel
theorem dX1_work_168 : decode cX1_work 168 = .ok (.invokevirtual 73, 3) := by decide +kernel
theorem dX1_work_171 : decode cX1_work 171 = .ok (.goto 13, 3) := by decide +kernel
theorem dX1_work_174 : decode cX1_work 174 = .ok (.aload_n 0, 1) := by decide +kernel
theorem dX1_work_175 : decode cX1_work 175 = .ok (.iload 5, 2) := by decide +kernel
theorem dX1_work_177 : decode cX1_work 177 = .ok (.iload 6, 2) := by decide +kernel
theorem dX1_work_179 : decode cX1_work 179 = .ok (.iload 7, 2) := by decide +kernel
theorem dX1_work_181 : decode cX1_work 181 = .ok (.invokevirtual 76, 3) := by decide +kernel
theorem dX1_work_184 : decode cX1_work 184 = .ok (.aload_n 0, 1) := by decide +kernel
theorem dX1_work_185 : decode cX1_work 185 = .ok (.getfield 9, 3) := by decide +kernel
theorem dX1_work_188 : decode cX1_work 188 = .ok (.getfield 79, 3) := by decide +kernel
theorem dX1_work_191 : decode cX1_work 191 = .ok (.bipush (-9), 2) := by decide +kernel
theorem dX1_work_193 : decode cX1_work 193 = .ok (.if_icmp .eq 7, 3) := by decide +kernel
theorem dX1_work_196 : decode cX1_work 196 = .ok (.aload_n 0, 1) := by decide +kernel
theorem dX1_work_197 : decode cX1_work 197 = .ok (.invokevirtual 82, 3) := by decide +kernel
theorem dX1_work_200 : decode cX1_work 200 = .ok (.iinc 4 1, 3) := by decide +kernel
theorem dX1_work_203 : decode cX1_work 203 = .ok (.goto (-164), 3) := by decide +kernel
theorem dX1_work_206 : decode cX1_work 206 = .ok (.return_, 1) := by decide +kernel
set_option maxHeartbeats 8000000 in
set_option maxRecDepth 100000 in
theorem a_M_work (l : Launch) (D : va_G) (g : Nat → ClassId)   (sz : Nat) (h : Nat) (ma : Nat → Nat) (mi : Nat → Int32) (mr : Nat → Nat) (mf : Nat → Nat → Int32) (wh : Nat) (da : Nat → Nat) (dr : Nat → Nat) (df : Nat → Nat → Int32) (wa : Nat → Nat) (wi : Nat → Int32) (wr : Nat → Nat) (wf : Nat → Nat → Int32) (ph : Nat) (rh : Nat) (la : Nat → Nat) (pa : Nat → Nat) (pr : Nat → Nat) (pf : Nat → Nat → Int32) (ca : Nat → Nat) (ci : Nat → Int32) (cr : Nat → Nat) (cf : Nat → Nat → Int32) (lr : Nat → Nat) (lf : Nat → Nat → Int32) (lmx : Nat) (n1 : Int32) (n2 : Int32) (n3 : Int32) (hw_m : ∀ k, mr k ≤ mcW_lim k) (hw_d : ∀ k, dr k ≤ cdW_lim k) (hw_w : ∀ k, wr k ≤ woW_lim k) (hw_p : ∀ k, pr k ≤ pgW_lim k) (hw_c : ∀ k, cr k ≤ rcW_lim k) (hw_l : ∀ k, lr k ≤ (plW_lim lmx) k) (hmx_l : lmx ≤ 30) : vz_Mv l D (tyG g) yX1_work cX1_work 8 5 119 0 0 [.ref h, .int n1, .int n2, .int n3] sz (vz_w [mcW g h ma mi mr mf wh (da 0) (da 2), cdW g da dr df, woW g wh wa wi wr wf ph rh (la 0), pgW g ph pa pr pf, rcW g rh ca ci cr cf, plW g la lr lf lmx]) (fun u : (Nat → Int32) × (Nat → Nat) × (Nat → Nat → Int32) × (Nat → Int32) × (Nat → Nat) × (Nat → Nat → Int32) × (Nat → Int32) × (Nat → Nat) × (Nat → Nat → Int32) => (∀ k, u.2.1 k ≤ mcW_lim k) ∧ (∀ k, u.2.2.2.2.1 k ≤ woW_lim k) ∧ (∀ k, u.2.2.2.2.2.2.2.1 k ≤ rcW_lim k)) (fun u => vz_w [mcW g h ma u.1 u.2.1 u.2.2.1 wh (da 0) (da 2), cdW g da dr df, woW g wh wa u.2.2.2.1 u.2.2.2.2.1 u.2.2.2.2.2.1 ph rh (la 0), pgW g ph pa pr pf, rcW g rh ca u.2.2.2.2.2.2.1 u.2.2.2.2.2.2.2.1 u.2.2.2.2.2.2.2.2, plW g la lr lf lmx]) := by
  refine vz_svQ (by decide) (Nat.le_of_ble_eq_true rfl) (fun p e s m args below meth c hx hb hr hml hts hown hlk hin hK hsz A hA H locs hP hD hS ls hl Q hQ => ?_)
  have hl : lv_has ls 8 [(0, .ref h), (1, .int n1), (2, .int n2), (3, .int n3)] := hl
  have J206 : ∀ (x4_206 : Int32), ∀ (mi_206 : Nat → Int32), ∀ (mr_206 : Nat → Nat), ∀ (mf_206 : Nat → Nat → Int32), ∀ (wi_206 : Nat → Int32), ∀ (wr_206 : Nat → Nat), ∀ (wf_206 : Nat → Nat → Int32), ∀ (ci_206 : Nat → Int32), ∀ (cr_206 : Nat → Nat), ∀ (cf_206 : Nat → Nat → Int32), (∀ k, mr_206 k ≤ mcW_lim k) → (∀ k, wr_206 k ≤ woW_lim k) → (∀ k, cr_206 k ≤ rcW_lim k) → ∀ (H : Heap) (locs : List Loc) (ls : Array Slot), va_P D vwCl (vz_w [mcW g h ma mi_206 mr_206 mf_206 wh (da 0) (da 2), cdW g da dr df, woW g wh wa wi_206 wr_206 wf_206 ph rh (la 0), pgW g ph pa pr pf, rcW g rh ca ci_206 cr_206 cf_206, plW g la lr lf lmx]) H → va_D A (vz_w [mcW g h ma mi_206 mr_206 mf_206 wh (da 0) (da 2), cdW g da dr df, woW g wh wa wi_206 wr_206 wf_206 ph rh (la 0), pgW g ph pa pr pf, rcW g rh ca ci_206 cr_206 cf_206, plW g la lr lf lmx]) → va_S A s.heap H locs → lv_has ls 8 [(0, .ref h), (1, .int n1), (2, .int n2), (3, .int n3), (4, .int x4_206)] → W p l e { frames := 5, cells := 0, slots := 0, locals := 119 } s m args below meth c H locs 0 0 Q (F0 m 206 ls []) := by
    intro x4_206 mi_206 mr_206 mf_206 wi_206 wr_206 wf_206 ci_206 cr_206 cf_206 hw_m_206 hw_w_206 hw_c_206 H locs ls hP hD hS hl
    rw [hQ]
    exact vz_vret3 hx hb hr hlk hK hP hD hS (mi_206, mr_206, mf_206, wi_206, wr_206, wf_206, ci_206, cr_206, cf_206) (⟨hw_m_206, hw_w_206, hw_c_206⟩) rfl (Nat.le_refl 0) (Nat.le_refl 0) dX1_work_206
  have J39 : ∀ (fu39 n39 : Nat), 1000000 - n39 < fu39 → n39 ≤ 1000000 → ∀ (mi_39 : Nat → Int32), ∀ (mr_39 : Nat → Nat), ∀ (mf_39 : Nat → Nat → Int32), ∀ (wi_39 : Nat → Int32), ∀ (wr_39 : Nat → Nat), ∀ (wf_39 : Nat → Nat → Int32), ∀ (ci_39 : Nat → Int32), ∀ (cr_39 : Nat → Nat), ∀ (cf_39 : Nat → Nat → Int32), (∀ k, mr_39 k ≤ mcW_lim k) → (∀ k, wr_39 k ≤ woW_lim k) → (∀ k, cr_39 k ≤ rcW_lim k) → ∀ (H : Heap) (locs : List Loc) (ls : Array Slot), va_P D vwCl (vz_w [mcW g h ma mi_39 mr_39 mf_39 wh (da 0) (da 2), cdW g da dr df, woW g wh wa wi_39 wr_39 wf_39 ph rh (la 0), pgW g ph pa pr pf, rcW g rh ca ci_39 cr_39 cf_39, plW g la lr lf lmx]) H → va_D A (vz_w [mcW g h ma mi_39 mr_39 mf_39 wh (da 0) (da 2), cdW g da dr df, woW g wh wa wi_39 wr_39 wf_39 ph rh (la 0), pgW g ph pa pr pf, rcW g rh ca ci_39 cr_39 cf_39, plW g la lr lf lmx]) → va_S A s.heap H locs → lv_has ls 8 [(0, .ref h), (1, .int n1), (2, .int n2), (3, .int n3), (4, .int (nI n39))] → W p l e { frames := 5, cells := 0, slots := 0, locals := 119 } s m args below meth c H locs 0 0 Q (F0 m 39 ls []) := by
    intro fu39
    induction fu39 with
    | zero => intro n39 z; omega
    | succ fu39 ih39 =>
      intro n39 hf39 hb39 mi_39 mr_39 mf_39 wi_39 wr_39 wf_39 ci_39 cr_39 cf_39 hw_m_39 hw_w_39 hw_c_39 H locs ls hP hD hS hl
      have J200 : n39 < 1000000 → ∀ (x5_200 : Int32), ∀ (x6_200 : Int32), ∀ (x7_200 : Int32), ∀ (mi_200 : Nat → Int32), ∀ (mr_200 : Nat → Nat), ∀ (mf_200 : Nat → Nat → Int32), ∀ (wi_200 : Nat → Int32), ∀ (wr_200 : Nat → Nat), ∀ (wf_200 : Nat → Nat → Int32), ∀ (ci_200 : Nat → Int32), ∀ (cr_200 : Nat → Nat), ∀ (cf_200 : Nat → Nat → Int32), (∀ k, mr_200 k ≤ mcW_lim k) → (∀ k, wr_200 k ≤ woW_lim k) → (∀ k, cr_200 k ≤ rcW_lim k) → ∀ (H : Heap) (locs : List Loc) (ls : Array Slot), va_P D vwCl (vz_w [mcW g h ma mi_200 mr_200 mf_200 wh (da 0) (da 2), cdW g da dr df, woW g wh wa wi_200 wr_200 wf_200 ph rh (la 0), pgW g ph pa pr pf, rcW g rh ca ci_200 cr_200 cf_200, plW g la lr lf lmx]) H → va_D A (vz_w [mcW g h ma mi_200 mr_200 mf_200 wh (da 0) (da 2), cdW g da dr df, woW g wh wa wi_200 wr_200 wf_200 ph rh (la 0), pgW g ph pa pr pf, rcW g rh ca ci_200 cr_200 cf_200, plW g la lr lf lmx]) → va_S A s.heap H locs → lv_has ls 8 [(0, .ref h), (1, .int n1), (2, .int n2), (3, .int n3), (4, .int (nI n39)), (5, .int x5_200), (6, .int x6_200), (7, .int x7_200)] → W p l e { frames := 5, cells := 0, slots := 0, locals := 119 } s m args below meth c H locs 0 0 Q (F0 m 200 ls []) := by
        intro hn39 x5_200 x6_200 x7_200 mi_200 mr_200 mf_200 wi_200 wr_200 wf_200 ci_200 cr_200 cf_200 hw_m_200 hw_w_200 hw_c_200 H locs ls hP hD hS hl
        refine lv_iinc (v := (nI (n39 + 1))) (lv' := [(4, .int (nI (n39 + 1))), (0, .ref h), (1, .int n1), (2, .int n2), (3, .int n3), (5, .int x5_200), (6, .int x6_200), (7, .int x7_200)]) hx hb dX1_work_200 hl (k := 4) rfl (nI_1 n39) (by decide) rfl (fun ls hl => ?_)
        refine lv_goto (tgt := 39) hx hb dX1_work_203 (by decide) ?_
        exact ih39 (n39 + 1) (by omega) (by omega) mi_200 mr_200 mf_200 wi_200 wr_200 wf_200 ci_200 cr_200 cf_200 hw_m_200 hw_w_200 hw_c_200 H locs ls hP hD hS (lv_sub hl [1, 2, 3, 4, 0] rfl)
      have J184 : n39 < 1000000 → ∀ (x5_184 : Int32), ∀ (x6_184 : Int32), ∀ (x7_184 : Int32), ∀ (mi_184 : Nat → Int32), ∀ (mr_184 : Nat → Nat), ∀ (mf_184 : Nat → Nat → Int32), ∀ (wi_184 : Nat → Int32), ∀ (wr_184 : Nat → Nat), ∀ (wf_184 : Nat → Nat → Int32), ∀ (ci_184 : Nat → Int32), ∀ (cr_184 : Nat → Nat), ∀ (cf_184 : Nat → Nat → Int32), (∀ k, mr_184 k ≤ mcW_lim k) → (∀ k, wr_184 k ≤ woW_lim k) → (∀ k, cr_184 k ≤ rcW_lim k) → ∀ (H : Heap) (locs : List Loc) (ls : Array Slot), va_P D vwCl (vz_w [mcW g h ma mi_184 mr_184 mf_184 wh (da 0) (da 2), cdW g da dr df, woW g wh wa wi_184 wr_184 wf_184 ph rh (la 0), pgW g ph pa pr pf, rcW g rh ca ci_184 cr_184 cf_184, plW g la lr lf lmx]) H → va_D A (vz_w [mcW g h ma mi_184 mr_184 mf_184 wh (da 0) (da 2), cdW g da dr df, woW g wh wa wi_184 wr_184 wf_184 ph rh (la 0), pgW g ph pa pr pf, rcW g rh ca ci_184 cr_184 cf_184, plW g la lr lf lmx]) → va_S A s.heap H locs → lv_has ls 8 [(0, .ref h), (1, .int n1), (2, .int n2), (3, .int n3), (4, .int (nI n39)), (5, .int x5_184), (6, .int x6_184), (7, .int x7_184)] → W p l e { frames := 5, cells := 0, slots := 0, locals := 119 } s m args below meth c H locs 0 0 Q (F0 m 184 ls []) := by
        intro hn39 x5_184 x6_184 x7_184 mi_184 mr_184 mf_184 wi_184 wr_184 wf_184 ci_184 cr_184 cf_184 hw_m_184 hw_w_184 hw_c_184 H locs ls hP hD hS hl
        refine lv_aload_n hx hb dX1_work_184 rfl (lv_at hl 0 rfl) ?_
        refine va_get (D := D) (ci := 1) (v := .ref wh) (C := RX1) (T := TX1) (N := 7) hx hb hts inlX1 hown hK hP 0 rfl rfl 0 (by decide) (hts _ q159) (fun _ h => h) rfl dX1_work_185 ?_
        refine va_get (D := D) (ci := 8) (v := .int (wi_184 1)) (C := RX8) (T := TX8) (N := 11) hx hb hts inlX8 hown hK hP 7 rfl rfl 9 (by decide) (hts _ q1269) (fun _ h => h) rfl dX1_work_188 ?_
        refine lv_bipush (v := (-9)) hx hb dX1_work_191 (by decide) ?_
        refine lv_icmp_eq (tgt := 200) hx hb dX1_work_193 (by decide) (fun kc1 => ?_) (fun kc1 => ?_)
        · exact J200 hn39 x5_184 x6_184 x7_184 mi_184 mr_184 mf_184 wi_184 wr_184 wf_184 ci_184 cr_184 cf_184 hw_m_184 hw_w_184 hw_c_184 H locs ls hP hD hS (lv_sub hl [0, 1, 2, 3, 4, 5, 6, 7] rfl)
        · refine lv_aload_n hx hb dX1_work_196 rfl (lv_at hl 0 rfl) ?_
          refine vz_Vv3 (As := []) (rest := []) hx hb hml hown hts hK hA hP hD hS (a_M_unwind l D g H.size h ma mi_184 mr_184 mf_184 wh da dr df wa wi_184 wr_184 wf_184 ph rh la pa pr pf ca ci_184 cr_184 cf_184 lr lf lmx hw_m_184 hw_d hw_w_184 hw_p hw_c_184 hw_l hmx_l) kv_X1_82 ⟨Nat.le_of_ble_eq_true rfl, Nat.le_of_ble_eq_true rfl⟩ (q0 := 0) (ci := 1) rfl rfl rfl  hl.1 (Nat.le_of_ble_eq_true rfl) dX1_work_197 ⟨Nat.le_refl _, Nat.le_refl _⟩ rfl (fun ⟨mi_2, mr_3, wi_4, wr_5, ci_6⟩ H locs ⟨hw_7, hw_8⟩ _ hP hD hS => ?_)
          try dsimp only at hw_7 hw_8
          replace hP : va_P D vwCl (vz_w [mcW g h ma mi_2 mr_3 mf_184 wh (da 0) (da 2), cdW g da dr df, woW g wh wa wi_4 wr_5 wf_184 ph rh (la 0), pgW g ph pa pr pf, rcW g rh ca ci_6 cr_184 cf_184, plW g la lr lf lmx]) H := hP
          replace hD : va_D A (vz_w [mcW g h ma mi_2 mr_3 mf_184 wh (da 0) (da 2), cdW g da dr df, woW g wh wa wi_4 wr_5 wf_184 ph rh (la 0), pgW g ph pa pr pf, rcW g rh ca ci_6 cr_184 cf_184, plW g la lr lf lmx]) := hD
          exact J200 hn39 x5_184 x6_184 x7_184 mi_2 mr_3 mf_184 wi_4 wr_5 wf_184 ci_6 cr_184 cf_184 hw_7 hw_8 hw_c_184 H locs ls hP hD hS (lv_sub hl [0, 1, 2, 3, 4, 5, 6, 7] rfl)
      refine lv_iload hx hb dX1_work_39 (lv_at hl 4 rfl) ?_
      refine lv_ldc hx hb hown (hts _ q1267) dX1_work_41 ?_
      refine lv_icmp_ge (tgt := 206) hx hb dX1_work_43 (by decide) (fun kc1 => ?_) (fun kc1 => ?_)
      · exact J206 (nI n39) mi_39 mr_39 mf_39 wi_39 wr_39 wf_39 ci_39 cr_39 cf_39 hw_m_39 hw_w_39 hw_c_39 H locs ls hP hD hS (lv_sub hl [0, 1, 2, 3, 4] rfl)
      · have hn39 : n39 < 1000000 := vz_ltge (B := 1000000) (by omega) kc1
        refine lv_aload_n hx hb dX1_work_46 rfl (lv_at hl 0 rfl) ?_
        refine va_get (D := D) (ci := 1) (v := .ref wh) (C := RX1) (T := TX1) (N := 7) hx hb hts inlX1 hown hK hP 0 rfl rfl 0 (by decide) (hts _ q159) (fun _ h => h) rfl dX1_work_47 ?_
        refine vz_Vi4 (n9 := 6) (bs2 := fun u : Unit => [mcW g h ma mi_39 mr_39 mf_39 wh (da 0) (da 2), cdW g da dr df, woW g wh wa wi_39 wr_39 wf_39 ph rh (la 0), pgW g ph pa pr pf, rcW g rh ca ci_39 cr_39 cf_39, plW g la lr lf lmx]) (br := [mcW g h ma mi_39 mr_39 mf_39 wh (da 0) (da 2), cdW g da dr df]) (As := []) (rest := []) hx hb hml hown hts hK hA hP hD hS (a_W_isRunning l D g H.size wh wa wi_39 wr_39 wf_39 ph rh la pa pr pf ca ci_39 cr_39 cf_39 lr lf lmx hw_w_39 hw_p hw_c_39 hw_l hmx_l) kv_X1_60 ⟨Nat.le_of_ble_eq_true rfl, Nat.le_of_ble_eq_true rfl⟩ (q0 := 7) (ci := 8) rfl rfl rfl [2, 3, 4, 5] [0, 1] rfl (by decide) rfl (fun _ => rfl) (fun _ => rfl) hl.1 (Nat.le_of_ble_eq_true rfl) dX1_work_50 ⟨Nat.le_refl _, Nat.le_refl _⟩ rfl (fun v2 _ H locs hz3 _ hP hD hS => ?_)
        refine lv_if_eq (tgt := 206) hx hb dX1_work_53 (by decide) (fun kc4 => ?_) (fun kc4 => ?_)
        · exact J206 (nI n39) mi_39 mr_39 mf_39 wi_39 wr_39 wf_39 ci_39 cr_39 cf_39 hw_m_39 hw_w_39 hw_c_39 H locs ls hP hD hS (lv_sub hl [0, 1, 2, 3, 4] rfl)
        · refine lv_aload_n hx hb dX1_work_56 rfl (lv_at hl 0 rfl) ?_
          refine lv_aload_n hx hb dX1_work_57 rfl (lv_at hl 0 rfl) ?_
          refine va_get (D := D) (ci := 1) (v := .int (mi_39 1)) (C := RX1) (T := TX1) (N := 7) hx hb hts inlX1 hown hK hP 0 rfl rfl 5 (by decide) (hts _ q1266) (fun _ h => h) rfl dX1_work_58 ?_
          refine va_put (D := D) (ci := 1) (v := .int (mi_39 1)) (ty := .int) (C := RX1) (T := TX1) (N := 7) hx hb hts inlX1 tyX1 tyX1_ok nmX1 hown hK hP hD hS 0 rfl rfl 4 (by decide) (hts _ q1268) (fun _ h => h) rfl (by decide +kernel) rfl rfl (Nat.le_of_ble_eq_true rfl) dX1_work_61 (fun H locs hP hD hS => ?_)
          obtain ⟨mi_5, hmi_5, hP, hD⟩ : ∃ mi_5 : Nat → Int32, (mi_5 = (upd mi_39 0 (mi_39 1))) ∧ va_P D vwCl (vz_w [mcW g h ma mi_5 mr_39 mf_39 wh (da 0) (da 2), cdW g da dr df, woW g wh wa wi_39 wr_39 wf_39 ph rh (la 0), pgW g ph pa pr pf, rcW g rh ca ci_39 cr_39 cf_39, plW g la lr lf lmx]) H ∧ va_D A (vz_w [mcW g h ma mi_5 mr_39 mf_39 wh (da 0) (da 2), cdW g da dr df, woW g wh wa wi_39 wr_39 wf_39 ph rh (la 0), pgW g ph pa pr pf, rcW g rh ca ci_39 cr_39 cf_39, plW g la lr lf lmx]) := ⟨(upd mi_39 0 (mi_39 1)), rfl, hP, hD⟩
          refine lv_aload_n hx hb dX1_work_64 rfl (lv_at hl 0 rfl) ?_
          refine lv_dup hx hb dX1_work_65 rfl ?_
          refine va_get (D := D) (ci := 1) (v := .int (mi_5 1)) (C := RX1) (T := TX1) (N := 7) hx hb hts inlX1 hown hK hP 0 rfl rfl 5 (by decide) (hts _ q1266) (fun _ h => h) rfl dX1_work_66 ?_
          refine lv_iconst (v := 1) hx hb dX1_work_69 (by decide) ?_
          refine lv_iadd hx hb dX1_work_70 ?_
          refine va_put (D := D) (ci := 1) (v := .int ((mi_5 1) + 1)) (ty := .int) (C := RX1) (T := TX1) (N := 7) hx hb hts inlX1 tyX1 tyX1_ok nmX1 hown hK hP hD hS 0 rfl rfl 5 (by decide) (hts _ q1266) (fun _ h => h) rfl (by decide +kernel) rfl rfl (Nat.le_of_ble_eq_true rfl) dX1_work_71 (fun H locs hP hD hS => ?_)
          obtain ⟨mi_6, hmi_6, hP, hD⟩ : ∃ mi_6 : Nat → Int32, (mi_6 = (upd mi_5 1 ((mi_5 1) + 1))) ∧ va_P D vwCl (vz_w [mcW g h ma mi_6 mr_39 mf_39 wh (da 0) (da 2), cdW g da dr df, woW g wh wa wi_39 wr_39 wf_39 ph rh (la 0), pgW g ph pa pr pf, rcW g rh ca ci_39 cr_39 cf_39, plW g la lr lf lmx]) H ∧ va_D A (vz_w [mcW g h ma mi_6 mr_39 mf_39 wh (da 0) (da 2), cdW g da dr df, woW g wh wa wi_39 wr_39 wf_39 ph rh (la 0), pgW g ph pa pr pf, rcW g rh ca ci_39 cr_39 cf_39, plW g la lr lf lmx]) := ⟨(upd mi_5 1 ((mi_5 1) + 1)), rfl, hP, hD⟩
          refine lv_aload_n hx hb dX1_work_74 rfl (lv_at hl 0 rfl) ?_
          refine va_get (D := D) (ci := 1) (v := .ref (da 0)) (C := RX1) (T := TX1) (N := 7) hx hb hts inlX1 hown hK hP 0 rfl rfl 1 (by decide) (hts _ q160) (fun _ h => h) rfl dX1_work_75 ?_
          refine lv_aload_n hx hb dX1_work_78 rfl (lv_at hl 0 rfl) ?_
          refine va_get (D := D) (ci := 1) (v := .int (mi_6 0)) (C := RX1) (T := TX1) (N := 7) hx hb hts inlX1 hown hK hP 0 rfl rfl 4 (by decide) (hts _ q1268) (fun _ h => h) rfl dX1_work_79 ?_
          refine lv_iconst (v := 0) hx hb dX1_work_82 (by decide) ?_
          refine vz_Vi2 (ws' := fun u : Unit => vz_w [mcW g h ma mi_6 mr_39 mf_39 wh (da 0) (da 2), cdW g da dr df, woW g wh wa wi_39 wr_39 wf_39 ph rh (la 0), pgW g ph pa pr pf, rcW g rh ca ci_39 cr_39 cf_39, plW g la lr lf lmx]) (As := [.int (mi_6 0), .int 0]) (rest := []) hx hb hml hown hts hK hA hP hD hS (c_T_get l D g (da 0) (da 1) H.size 4 4500 (dr 0) 18000 (df 0) (mi_6 0) 0 ⟨rfl, by decide, by decide, by decide, by decide, hw_d 0⟩) kv_X1_52 ⟨Nat.le_of_ble_eq_true rfl, Nat.le_of_ble_eq_true rfl⟩ (q0 := 3) (ci := 6) rfl rfl rfl [3, 4] rfl (by decide) (fun _ => rfl) (fun _ => rfl) hl.1 (Nat.le_of_ble_eq_true rfl) dX1_work_83 ⟨Nat.le_refl _, Nat.le_refl _⟩ rfl (fun v7 _ H locs he8 _ hP hD hS => ?_)
          refine lv_istore (lv' := [(5, .int v7), (0, .ref h), (1, .int n1), (2, .int n2), (3, .int n3), (4, .int (nI n39))]) hx hb dX1_work_86 hl (by decide) rfl (fun ls hl => ?_)
          refine lv_aload_n hx hb dX1_work_88 rfl (lv_at hl 1 rfl) ?_
          refine va_get (D := D) (ci := 1) (v := .ref (da 0)) (C := RX1) (T := TX1) (N := 7) hx hb hts inlX1 hown hK hP 0 rfl rfl 1 (by decide) (hts _ q160) (fun _ h => h) rfl dX1_work_89 ?_
          refine lv_aload_n hx hb dX1_work_92 rfl (lv_at hl 1 rfl) ?_
          refine va_get (D := D) (ci := 1) (v := .int (mi_6 0)) (C := RX1) (T := TX1) (N := 7) hx hb hts inlX1 hown hK hP 0 rfl rfl 4 (by decide) (hts _ q1268) (fun _ h => h) rfl dX1_work_93 ?_
          refine lv_iconst (v := 1) hx hb dX1_work_96 (by decide) ?_
          refine vz_Vi2 (ws' := fun u : Unit => vz_w [mcW g h ma mi_6 mr_39 mf_39 wh (da 0) (da 2), cdW g da dr df, woW g wh wa wi_39 wr_39 wf_39 ph rh (la 0), pgW g ph pa pr pf, rcW g rh ca ci_39 cr_39 cf_39, plW g la lr lf lmx]) (As := [.int (mi_6 0), .int 1]) (rest := []) hx hb hml hown hts hK hA hP hD hS (c_T_get l D g (da 0) (da 1) H.size 4 4500 (dr 0) 18000 (df 0) (mi_6 0) 1 ⟨rfl, by decide, by decide, by decide, by decide, hw_d 0⟩) kv_X1_52 ⟨Nat.le_of_ble_eq_true rfl, Nat.le_of_ble_eq_true rfl⟩ (q0 := 3) (ci := 6) rfl rfl rfl [3, 4] rfl (by decide) (fun _ => rfl) (fun _ => rfl) hl.1 (Nat.le_of_ble_eq_true rfl) dX1_work_97 ⟨Nat.le_refl _, Nat.le_refl _⟩ rfl (fun v9 _ H locs he10 _ hP hD hS => ?_)
          refine lv_istore (lv' := [(6, .int v9), (5, .int v7), (0, .ref h), (1, .int n1), (2, .int n2), (3, .int n3), (4, .int (nI n39))]) hx hb dX1_work_100 hl (by decide) rfl (fun ls hl => ?_)
          refine lv_aload_n hx hb dX1_work_102 rfl (lv_at hl 2 rfl) ?_
          refine va_get (D := D) (ci := 1) (v := .ref (da 0)) (C := RX1) (T := TX1) (N := 7) hx hb hts inlX1 hown hK hP 0 rfl rfl 1 (by decide) (hts _ q160) (fun _ h => h) rfl dX1_work_103 ?_
          refine lv_aload_n hx hb dX1_work_106 rfl (lv_at hl 2 rfl) ?_
          refine va_get (D := D) (ci := 1) (v := .int (mi_6 0)) (C := RX1) (T := TX1) (N := 7) hx hb hts inlX1 hown hK hP 0 rfl rfl 4 (by decide) (hts _ q1268) (fun _ h => h) rfl dX1_work_107 ?_
          refine lv_iconst (v := 2) hx hb dX1_work_110 (by decide) ?_
          refine vz_Vi2 (ws' := fun u : Unit => vz_w [mcW g h ma mi_6 mr_39 mf_39 wh (da 0) (da 2), cdW g da dr df, woW g wh wa wi_39 wr_39 wf_39 ph rh (la 0), pgW g ph pa pr pf, rcW g rh ca ci_39 cr_39 cf_39, plW g la lr lf lmx]) (As := [.int (mi_6 0), .int 2]) (rest := []) hx hb hml hown hts hK hA hP hD hS (c_T_get l D g (da 0) (da 1) H.size 4 4500 (dr 0) 18000 (df 0) (mi_6 0) 2 ⟨rfl, by decide, by decide, by decide, by decide, hw_d 0⟩) kv_X1_52 ⟨Nat.le_of_ble_eq_true rfl, Nat.le_of_ble_eq_true rfl⟩ (q0 := 3) (ci := 6) rfl rfl rfl [3, 4] rfl (by decide) (fun _ => rfl) (fun _ => rfl) hl.1 (Nat.le_of_ble_eq_true rfl) dX1_work_111 ⟨Nat.le_refl _, Nat.le_refl _⟩ rfl (fun v11 _ H locs he12 _ hP hD hS => ?_)
          refine lv_istore (lv' := [(7, .int v11), (6, .int v9), (5, .int v7), (0, .ref h), (1, .int n1), (2, .int n2), (3, .int n3), (4, .int (nI n39))]) hx hb dX1_work_114 hl (by decide) rfl (fun ls hl => ?_)
          refine lv_iload hx hb dX1_work_116 (lv_at hl 2 rfl) ?_
          refine lv_bipush (v := 6) hx hb dX1_work_118 (by decide) ?_
          refine lv_icmp_ge (tgt := 134) hx hb dX1_work_120 (by decide) (fun kc13 => ?_) (fun kc13 => ?_)
          · refine lv_iload hx hb dX1_work_134 (lv_at hl 2 rfl) ?_
            refine lv_bipush (v := 14) hx hb dX1_work_136 (by decide) ?_
            refine lv_icmp_ge (tgt := 154) hx hb dX1_work_138 (by decide) (fun kc14 => ?_) (fun kc14 => ?_)
            · refine lv_iload hx hb dX1_work_154 (lv_at hl 2 rfl) ?_
              refine lv_bipush (v := 24) hx hb dX1_work_156 (by decide) ?_
              refine lv_icmp_ge (tgt := 174) hx hb dX1_work_158 (by decide) (fun kc15 => ?_) (fun kc15 => ?_)
              · refine lv_aload_n hx hb dX1_work_174 rfl (lv_at hl 3 rfl) ?_
                refine lv_iload hx hb dX1_work_175 (lv_at hl 2 rfl) ?_
                refine lv_iload hx hb dX1_work_177 (lv_at hl 1 rfl) ?_
                refine lv_iload hx hb dX1_work_179 (lv_at hl 0 rfl) ?_
                refine vz_Vv3 (As := [.int v7, .int v9, .int v11]) (rest := []) hx hb hml hown hts hK hA hP hD hS (a_M_fail l D g H.size h ma mi_6 mr_39 mf_39 wh da dr df wa wi_39 wr_39 wf_39 ph rh la pa pr pf ca ci_39 cr_39 cf_39 lr lf lmx v7 v9 v11 hw_m_39 hw_d hw_w_39 hw_p hw_c_39 hw_l hmx_l) kv_X1_76 ⟨Nat.le_of_ble_eq_true rfl, Nat.le_of_ble_eq_true rfl⟩ (q0 := 0) (ci := 1) rfl rfl rfl  hl.1 (Nat.le_of_ble_eq_true rfl) dX1_work_181 ⟨Nat.le_refl _, Nat.le_refl _⟩ rfl (fun ⟨wi_16, wr_17, wf_18, ci_19, cr_20, cf_21⟩ H locs ⟨hw_22, hw_23⟩ _ hP hD hS => ?_)
                try dsimp only at hw_22 hw_23
                replace hP : va_P D vwCl (vz_w [mcW g h ma mi_6 mr_39 mf_39 wh (da 0) (da 2), cdW g da dr df, woW g wh wa wi_16 wr_17 wf_18 ph rh (la 0), pgW g ph pa pr pf, rcW g rh ca ci_19 cr_20 cf_21, plW g la lr lf lmx]) H := hP
                replace hD : va_D A (vz_w [mcW g h ma mi_6 mr_39 mf_39 wh (da 0) (da 2), cdW g da dr df, woW g wh wa wi_16 wr_17 wf_18 ph rh (la 0), pgW g ph pa pr pf, rcW g rh ca ci_19 cr_20 cf_21, plW g la lr lf lmx]) := hD
                exact J184 hn39 v7 v9 v11 mi_6 mr_39 mf_39 wi_16 wr_17 wf_18 ci_19 cr_20 cf_21 hw_m_39 hw_22 hw_23 H locs ls hP hD hS (lv_sub hl [3, 4, 5, 6, 7, 2, 1, 0] rfl)
              · refine lv_aload_n hx hb dX1_work_161 rfl (lv_at hl 3 rfl) ?_
                refine lv_iload hx hb dX1_work_162 (lv_at hl 2 rfl) ?_
                refine lv_iload hx hb dX1_work_164 (lv_at hl 1 rfl) ?_
                refine lv_iload hx hb dX1_work_166 (lv_at hl 0 rfl) ?_
                refine vz_Vv3 (As := [.int v7, .int v9, .int v11]) (rest := []) hx hb hml hown hts hK hA hP hD hS (a_M_flow l D g H.size h ma mi_6 mr_39 mf_39 wh da dr df wa wi_39 wr_39 wf_39 ph rh la pa pr pf ca ci_39 cr_39 cf_39 lr lf lmx v7 v9 v11 hw_m_39 hw_d hw_w_39 hw_p hw_c_39 hw_l hmx_l) kv_X1_73 ⟨Nat.le_of_ble_eq_true rfl, Nat.le_of_ble_eq_true rfl⟩ (q0 := 0) (ci := 1) rfl rfl rfl  hl.1 (Nat.le_of_ble_eq_true rfl) dX1_work_168 ⟨Nat.le_refl _, Nat.le_refl _⟩ rfl (fun ⟨mi_24, mr_25, mf_26, wi_27, wr_28, wf_29, ci_30, cr_31, cf_32⟩ H locs ⟨hw_33, hw_34, hw_35⟩ _ hP hD hS => ?_)
                try dsimp only at hw_33 hw_34 hw_35
                replace hP : va_P D vwCl (vz_w [mcW g h ma mi_24 mr_25 mf_26 wh (da 0) (da 2), cdW g da dr df, woW g wh wa wi_27 wr_28 wf_29 ph rh (la 0), pgW g ph pa pr pf, rcW g rh ca ci_30 cr_31 cf_32, plW g la lr lf lmx]) H := hP
                replace hD : va_D A (vz_w [mcW g h ma mi_24 mr_25 mf_26 wh (da 0) (da 2), cdW g da dr df, woW g wh wa wi_27 wr_28 wf_29 ph rh (la 0), pgW g ph pa pr pf, rcW g rh ca ci_30 cr_31 cf_32, plW g la lr lf lmx]) := hD
                refine lv_goto (tgt := 184) hx hb dX1_work_171 (by decide) ?_
                exact J184 hn39 v7 v9 v11 mi_24 mr_25 mf_26 wi_27 wr_28 wf_29 ci_30 cr_31 cf_32 hw_33 hw_34 hw_35 H locs ls hP hD hS (lv_sub hl [3, 4, 5, 6, 7, 2, 1, 0] rfl)
            · refine lv_aload_n hx hb dX1_work_141 rfl (lv_at hl 3 rfl) ?_
              refine lv_iload hx hb dX1_work_142 (lv_at hl 2 rfl) ?_
              refine lv_iload hx hb dX1_work_144 (lv_at hl 1 rfl) ?_
              refine lv_iload hx hb dX1_work_146 (lv_at hl 0 rfl) ?_
              refine vz_Vv3 (As := [.int v7, .int v9, .int v11]) (rest := []) hx hb hml hown hts hK hA hP hD hS (a_M_change l D g H.size h ma mi_6 mr_39 mf_39 wh da dr df wa wi_39 wr_39 wf_39 ph rh la pa pr pf ca ci_39 cr_39 cf_39 lr lf lmx v7 v9 v11 hw_m_39 hw_d hw_w_39 hw_p hw_c_39 hw_l hmx_l) kv_X1_70 ⟨Nat.le_of_ble_eq_true rfl, Nat.le_of_ble_eq_true rfl⟩ (q0 := 0) (ci := 1) rfl rfl rfl  hl.1 (Nat.le_of_ble_eq_true rfl) dX1_work_148 ⟨Nat.le_refl _, Nat.le_refl _⟩ rfl (fun ⟨mr_36, wi_37, wr_38, wf_39, ci_40, cr_41, cf_42⟩ H locs ⟨hw_43, hw_44, hw_45⟩ _ hP hD hS => ?_)
              try dsimp only at hw_43 hw_44 hw_45
              replace hP : va_P D vwCl (vz_w [mcW g h ma mi_6 mr_36 mf_39 wh (da 0) (da 2), cdW g da dr df, woW g wh wa wi_37 wr_38 wf_39 ph rh (la 0), pgW g ph pa pr pf, rcW g rh ca ci_40 cr_41 cf_42, plW g la lr lf lmx]) H := hP
              replace hD : va_D A (vz_w [mcW g h ma mi_6 mr_36 mf_39 wh (da 0) (da 2), cdW g da dr df, woW g wh wa wi_37 wr_38 wf_39 ph rh (la 0), pgW g ph pa pr pf, rcW g rh ca ci_40 cr_41 cf_42, plW g la lr lf lmx]) := hD
              refine lv_goto (tgt := 184) hx hb dX1_work_151 (by decide) ?_
              exact J184 hn39 v7 v9 v11 mi_6 mr_36 mf_39 wi_37 wr_38 wf_39 ci_40 cr_41 cf_42 hw_43 hw_44 hw_45 H locs ls hP hD hS (lv_sub hl [3, 4, 5, 6, 7, 2, 1, 0] rfl)
          · refine lv_aload_n hx hb dX1_work_123 rfl (lv_at hl 3 rfl) ?_
            refine lv_iload hx hb dX1_work_124 (lv_at hl 2 rfl) ?_
            refine lv_iload hx hb dX1_work_126 (lv_at hl 1 rfl) ?_
            refine vz_Vv3 (As := [.int v7, .int v9]) (rest := []) hx hb hml hown hts hK hA hP hD hS (a_M_evaluate l D g H.size h ma mi_6 mr_39 mf_39 wh da dr df wa wi_39 wr_39 wf_39 ph rh la pa pr pf ca ci_39 cr_39 cf_39 lr lf lmx v7 v9 hw_m_39 hw_d hw_w_39 hw_p hw_c_39 hw_l hmx_l) kv_X1_67 ⟨Nat.le_of_ble_eq_true rfl, Nat.le_of_ble_eq_true rfl⟩ (q0 := 0) (ci := 1) rfl rfl rfl  hl.1 (Nat.le_of_ble_eq_true rfl) dX1_work_128 ⟨Nat.le_refl _, Nat.le_refl _⟩ rfl (fun ⟨mr_46, mf_47, wi_48, cr_49, cf_50⟩ H locs ⟨hw_51, hw_52⟩ _ hP hD hS => ?_)
            try dsimp only at hw_51 hw_52
            replace hP : va_P D vwCl (vz_w [mcW g h ma mi_6 mr_46 mf_47 wh (da 0) (da 2), cdW g da dr df, woW g wh wa wi_48 wr_39 wf_39 ph rh (la 0), pgW g ph pa pr pf, rcW g rh ca ci_39 cr_49 cf_50, plW g la lr lf lmx]) H := hP
            replace hD : va_D A (vz_w [mcW g h ma mi_6 mr_46 mf_47 wh (da 0) (da 2), cdW g da dr df, woW g wh wa wi_48 wr_39 wf_39 ph rh (la 0), pgW g ph pa pr pf, rcW g rh ca ci_39 cr_49 cf_50, plW g la lr lf lmx]) := hD
            refine lv_goto (tgt := 184) hx hb dX1_work_131 (by decide) ?_
            exact J184 hn39 v7 v9 v11 mi_6 mr_46 mf_47 wi_48 wr_39 wf_39 ci_39 cr_49 cf_50 hw_51 hw_w_39 hw_52 H locs ls hP hD hS (lv_sub hl [3, 4, 5, 6, 7, 2, 1, 0] rfl)
  refine lv_aload_n hx hb dX1_work_0 rfl (lv_at hl 0 rfl) ?_
  refine va_get (D := D) (ci := 1) (v := .ref (ma 0)) (C := RX1) (T := TX1) (N := 7) hx hb hts inlX1 hown hK hP 0 rfl rfl 3 (by decide) (hts _ q163) (fun _ h => h) rfl dX1_work_1 ?_
  refine vz_Vv2 (ws' := fun u : Unit => vz_w [mcW g h ma mi (vz_un mr 0 0) mf wh (da 0) (da 2), cdW g da dr df, woW g wh wa wi wr wf ph rh (la 0), pgW g ph pa pr pf, rcW g rh ca ci cr cf, plW g la lr lf lmx]) (As := []) (rest := []) hx hb hml hown hts hK hA hP hD hS (c_T_reset l D g (ma 0) (ma 1) H.size (nI 1) (nI 64) (nI (mr 0))) kv_X1_34 ⟨Nat.le_of_ble_eq_true rfl, Nat.le_of_ble_eq_true rfl⟩ (q0 := 1) (ci := 6) rfl rfl rfl [1] rfl (by decide) (fun _ => rfl) (fun _ => rfl) hl.1 (Nat.le_of_ble_eq_true rfl) dX1_work_4 ⟨Nat.le_refl _, Nat.le_refl _⟩ rfl (fun _ H locs _ _ hP hD hS => ?_)
  obtain ⟨mr_1, hw_mr_1, hP, hD⟩ : ∃ mr_1 : Nat → Nat, (∀ k, mr_1 k ≤ mcW_lim k) ∧ va_P D vwCl (vz_w [mcW g h ma mi mr_1 mf wh (da 0) (da 2), cdW g da dr df, woW g wh wa wi wr wf ph rh (la 0), pgW g ph pa pr pf, rcW g rh ca ci cr cf, plW g la lr lf lmx]) H ∧ va_D A (vz_w [mcW g h ma mi mr_1 mf wh (da 0) (da 2), cdW g da dr df, woW g wh wa wi wr wf ph rh (la 0), pgW g ph pa pr pf, rcW g rh ca ci cr cf, plW g la lr lf lmx]) := ⟨(vz_un mr 0 0), (vz_wf hw_m (t := 0) (v := 0) (Nat.zero_le _)), hP, hD⟩
  refine lv_aload_n hx hb dX1_work_7 rfl (lv_at hl 0 rfl) ?_
  refine va_get (D := D) (ci := 1) (v := .ref wh) (C := RX1) (T := TX1) (N := 7) hx hb hts inlX1 hown hK hP 0 rfl rfl 0 (by decide) (hts _ q159) (fun _ h => h) rfl dX1_work_8 ?_
  refine lv_iload_n hx hb dX1_work_11 rfl (lv_at hl 1 rfl) ?_
  refine lv_iload_n hx hb dX1_work_12 rfl (lv_at hl 2 rfl) ?_
  refine lv_iload_n hx hb dX1_work_13 rfl (lv_at hl 3 rfl) ?_
  refine vz_Vv4 (n9 := 6) (bs2 := fun u : (Nat → Nat) × (Nat → Nat → Int32) × (Nat → Int32) × (Nat → Nat) × (Nat → Nat → Int32) => [mcW g h ma mi mr_1 mf wh (da 0) (da 2), cdW g da dr df, woW g wh wa wi u.1 u.2.1 ph rh (la 0), pgW g ph pa pr pf, rcW g rh ca u.2.2.1 u.2.2.2.1 u.2.2.2.2, plW g la lr lf lmx]) (br := [mcW g h ma mi mr_1 mf wh (da 0) (da 2), cdW g da dr df]) (As := [.int n1, .int n2, .int n3]) (rest := []) hx hb hml hown hts hK hA hP hD hS (a_W_enter l D g H.size wh wa wi wr wf ph rh la pa pr pf ca ci cr cf lr lf lmx n1 n2 n3 hw_w hw_p hw_c hw_l hmx_l) kv_X1_37 ⟨Nat.le_of_ble_eq_true rfl, Nat.le_of_ble_eq_true rfl⟩ (q0 := 7) (ci := 8) rfl rfl rfl [2, 3, 4, 5] [0, 1] rfl (by decide) rfl (fun _ => rfl) (fun _ => rfl) hl.1 (Nat.le_of_ble_eq_true rfl) dX1_work_14 ⟨Nat.le_refl _, Nat.le_refl _⟩ rfl (fun ⟨wr_2, wf_3, ci_4, cr_5, cf_6⟩ H locs ⟨hw_7, hw_8⟩ _ hP hD hS => ?_)
  try dsimp only at hw_7 hw_8
  replace hP : va_P D vwCl (vz_w [mcW g h ma mi mr_1 mf wh (da 0) (da 2), cdW g da dr df, woW g wh wa wi wr_2 wf_3 ph rh (la 0), pgW g ph pa pr pf, rcW g rh ca ci_4 cr_5 cf_6, plW g la lr lf lmx]) H := hP
  replace hD : va_D A (vz_w [mcW g h ma mi mr_1 mf wh (da 0) (da 2), cdW g da dr df, woW g wh wa wi wr_2 wf_3 ph rh (la 0), pgW g ph pa pr pf, rcW g rh ca ci_4 cr_5 cf_6, plW g la lr lf lmx]) := hD
  refine lv_aload_n hx hb dX1_work_17 rfl (lv_at hl 0 rfl) ?_
  refine lv_aload_n hx hb dX1_work_18 rfl (lv_at hl 0 rfl) ?_
  refine va_get (D := D) (ci := 1) (v := .ref wh) (C := RX1) (T := TX1) (N := 7) hx hb hts inlX1 hown hK hP 0 rfl rfl 0 (by decide) (hts _ q159) (fun _ h => h) rfl dX1_work_19 ?_
  refine va_get (D := D) (ci := 8) (v := .ref ph) (C := RX8) (T := TX8) (N := 11) hx hb hts inlX8 hown hK hP 7 rfl rfl 5 (by decide) (hts _ q1264) (fun _ h => h) rfl dX1_work_22 ?_
  refine va_get (D := D) (ci := 2) (v := .ref (pa 8)) (C := RX2) (T := TX2) (N := 5) hx hb hts inlX2 hown hK hP 18 rfl rfl 4 (by decide) (hts _ q1265) (fun _ h => h) rfl dX1_work_25 ?_
  refine lv_iload_n hx hb dX1_work_28 rfl (lv_at hl 1 rfl) ?_
  refine lv_iconst (v := 1) hx hb dX1_work_29 (by decide) ?_
  refine vz_Vi2 (ws' := fun u : Unit => vz_w [mcW g h ma mi mr_1 mf wh (da 0) (da 2), cdW g da dr df, woW g wh wa wi wr_2 wf_3 ph rh (la 0), pgW g ph pa pr pf, rcW g rh ca ci_4 cr_5 cf_6, plW g la lr lf lmx]) (As := [.int n1, .int 1]) (rest := [.ref h]) hx hb hml hown hts hK hA hP hD hS (c_T_get l D g (pa 8) (pa 9) H.size 2 8 (pr 4) 16 (pf 4) n1 1 ⟨rfl, by decide, by decide, by decide, by decide, hw_p 4⟩) kv_X1_52 ⟨Nat.le_of_ble_eq_true rfl, Nat.le_of_ble_eq_true rfl⟩ (q0 := 27) (ci := 6) rfl rfl rfl [27, 28] rfl (by decide) (fun _ => rfl) (fun _ => rfl) hl.1 (Nat.le_of_ble_eq_true rfl) dX1_work_30 ⟨Nat.le_refl _, Nat.le_refl _⟩ rfl (fun v9 _ H locs he10 _ hP hD hS => ?_)
  refine va_put (D := D) (ci := 1) (v := .int v9) (ty := .int) (C := RX1) (T := TX1) (N := 7) hx hb hts inlX1 tyX1 tyX1_ok nmX1 hown hK hP hD hS 0 rfl rfl 5 (by decide) (hts _ q1266) (fun _ h => h) rfl (by decide +kernel) rfl rfl (Nat.le_of_ble_eq_true rfl) dX1_work_33 (fun H locs hP hD hS => ?_)
  obtain ⟨mi_11, hmi_11, hP, hD⟩ : ∃ mi_11 : Nat → Int32, (mi_11 = (upd mi 1 v9)) ∧ va_P D vwCl (vz_w [mcW g h ma mi_11 mr_1 mf wh (da 0) (da 2), cdW g da dr df, woW g wh wa wi wr_2 wf_3 ph rh (la 0), pgW g ph pa pr pf, rcW g rh ca ci_4 cr_5 cf_6, plW g la lr lf lmx]) H ∧ va_D A (vz_w [mcW g h ma mi_11 mr_1 mf wh (da 0) (da 2), cdW g da dr df, woW g wh wa wi wr_2 wf_3 ph rh (la 0), pgW g ph pa pr pf, rcW g rh ca ci_4 cr_5 cf_6, plW g la lr lf lmx]) := ⟨(upd mi 1 v9), rfl, hP, hD⟩
  refine lv_iconst (v := 0) hx hb dX1_work_36 (by decide) ?_
  refine lv_istore (lv' := [(4, .int 0), (0, .ref h), (1, .int n1), (2, .int n2), (3, .int n3)]) hx hb dX1_work_37 hl (by decide) rfl (fun ls hl => ?_)
  exact J39 (1000001) 0 (by omega) (by omega) mi_11 mr_1 mf wi wr_2 wf_3 ci_4 cr_5 cf_6 hw_mr_1 hw_7 hw_8 H locs ls hP hD hS (lv_sub hl [1, 2, 3, 4, 0] rfl)
