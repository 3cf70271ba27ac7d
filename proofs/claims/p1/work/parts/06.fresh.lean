theorem q314 : Cond.methodLink RX5 60 yX6_add ∈ wsL_law := mT_2 (List.mem_of_getElem? (i := 235) rfl) rfl
theorem q261 : Cond.instanceMethod yX6_add ∈ wsL_law := mT_2 (List.mem_of_getElem? (i := 195) rfl) rfl
theorem q262 : Cond.selects RX6 yX6_add yX6_add ∈ wsL_law := mT_2 (List.mem_of_getElem? (i := 196) rfl) rfl
theorem q263 : Cond.code yX6_add cX6_add 2 (some .int) ∈ wsL_law := mT_2 (List.mem_of_getElem? (i := 197) rfl) rfl
theorem kv_X5_60 : vz_cv RX5 60 yX6_add cX6_add 2 (some .int) 0 := ⟨q314, q261, q262, q15, q263, by decide +kernel⟩
theorem q315 : Cond.methodLink RX5 64 yX6_set ∈ wsL_law := mT_2 (List.mem_of_getElem? (i := 236) rfl) rfl
theorem q265 : Cond.instanceMethod yX6_set ∈ wsL_law := mT_2 (List.mem_of_getElem? (i := 199) rfl) rfl
theorem q266 : Cond.selects RX6 yX6_set yX6_set ∈ wsL_law := mT_2 (List.mem_of_getElem? (i := 200) rfl) rfl
theorem q267 : Cond.code yX6_set cX6_set 5 none ∈ wsL_law := mT_2 (List.mem_of_getElem? (i := 201) rfl) rfl
theorem kv_X5_64 : vz_cv RX5 64 yX6_set cX6_set 5 none 3 := ⟨q315, q265, q266, q15, q267, by decide +kernel⟩
theorem dX5_note_0 : decode cX5_note 0 = .ok (.aload_n 0, 1) := by decide +kernel
theorem dX5_note_1 : decode cX5_note 1 = .ok (.getfield 14, 3) := by decide +kernel
theorem dX5_note_4 : decode cX5_note 4 = .ok (.invokevirtual 60, 3) := by decide +kernel
theorem dX5_note_7 : decode cX5_note 7 = .ok (.istore 4, 2) := by decide +kernel
theorem dX5_note_9 : decode cX5_note 9 = .ok (.aload_n 0, 1) := by decide +kernel
theorem dX5_note_10 : decode cX5_note 10 = .ok (.getfield 14, 3) := by decide +kernel
theorem dX5_note_13 : decode cX5_note 13 = .ok (.iload 4, 2) := by decide +kernel
theorem dX5_note_15 : decode cX5_note 15 = .ok (.iconst 0, 1) := by decide +kernel
theorem dX5_note_16 : decode cX5_note 16 = .ok (.iload_n 1, 1) := by decide +kernel
theorem dX5_note_17 : decode cX5_note 17 = .ok (.invokevirtual 64, 3) := by decide +kernel
theorem dX5_note_20 : decode cX5_note 20 = .ok (.aload_n 0, 1) := by decide +kernel
theorem dX5_note_21 : decode cX5_note 21 = .ok (.getfield 14, 3) := by decide +kernel
theorem dX5_note_24 : decode cX5_note 24 = .ok (.iload 4, 2) := by decide +kernel
theorem dX5_note_26 : decode cX5_note 26 = .ok (.iconst 1, 1) := by decide +kernel
theorem dX5_note_27 : decode cX5_note 27 = .ok (.iload_n 2, 1) := by decide +kernel
theorem dX5_note_28 : decode cX5_note 28 = .ok (.invokevirtual 64, 3) := by decide +kernel
theorem dX5_note_31 : decode cX5_note 31 = .ok (.aload_n 0, 1) := by decide +kernel
theorem dX5_note_32 : decode cX5_note 32 = .ok (.getfield 14, 3) := by decide +kernel
theorem dX5_note_35 : decode cX5_note 35 = .ok (.iload 4, 2) := by decide +kernel
theorem dX5_note_37 : decode cX5_note 37 = .ok (.iconst 2, 1) := by decide +kernel
theorem dX5_note_38 : decode cX5_note 38 = .ok (.iload_n 3, 1) := by decide +kernel
theorem dX5_note_39 : decode cX5_note 39 = .ok (.invokevirtual 64, 3) := by decide +kernel
theorem dX5_note_42 : decode cX5_note 42 = .ok (.return_, 1) := by decide +kernel
set_option maxHeartbeats 4000000 in
set_option maxRecDepth 100000 in
theorem c_S_note0 (l : Launch) (D : va_G) (g : Nat → ClassId) (h t q sz : Nat) (a_t tk v pl : Int32) (f : Nat → Int32)  : vz_Mv l D (tyG g) yX5_note cX5_note 5 1 24 0 0 [.ref h, .int tk, .int v, .int pl] sz [(h, .inr (5, [.ref t, .int a_t])), tT t q (nI 3) (nI 1001) 0, tA g q 3003 f] (fun u : Nat → Int32 => u 0 = tk ∧ u 1 = v ∧ u 2 = pl) (fun u => [(h, .inr (5, [.ref t, .int a_t])), tT t q (nI 3) (nI 1001) (nI 1), tA g q 3003 u]) := by
  refine vz_sv (by decide) (Nat.le_of_ble_eq_true rfl) (fun p e s m args below meth c hx hb hr hml hts hown hlk hin hK hsz A hA H locs hP hD hS ls hl => ?_)
  have hl : lv_has ls 5 [(0, .ref h), (1, .int tk), (2, .int v), (3, .int pl)] := hl
  refine lv_aload_n hx hb dX5_note_0 rfl (lv_at hl 0 rfl) ?_
  refine va_get (D := D) (ci := 5) (v := .ref t) (C := RX5) (T := TX5) (N := 2) hx hb hts inlX5 hown hK hP 0 rfl rfl 0 (by decide) (hts _ q78) (fun _ h => h) rfl dX5_note_1 ?_
  refine vz_Vi (wr := [(h, .inr (5, [.ref t, .int a_t]))]) (As := []) (rest := []) hx hb hml hown hts hK hA hP hD hS (c_T_add l D g t q H.size 3 1001 0 3003 f (by decide +kernel)) kv_X5_60 (⟨Nat.le_of_ble_eq_true rfl, Nat.le_of_ble_eq_true rfl⟩) (q0 := 1) (ci := 6) rfl rfl rfl [1, 2] [0] rfl rfl (by decide) hl.1 (Nat.le_of_ble_eq_true rfl) dX5_note_4 (⟨Nat.le_of_ble_eq_true rfl, Nat.le_of_ble_eq_true rfl⟩) rfl (fun r1 ⟨u2R, u2f⟩ H locs e3 _ hP hD hS => ?_)
  obtain ⟨-, e31, e32, e33⟩ | ⟨h9, -⟩ := e3
  case inr => exact absurd h9 (by decide)
  dsimp only at e32 e33 hP hD
  subst e31 e32 e33
  have hP : va_P D vwCl [(h, .inr (5, [.ref t, .int a_t])), tT t q (nI 3) (nI 1001) (nI 1), tA g q 3003 (tf f (0 * 3) ((0 + 1) * 3) (-9))] H := hP
  have hD : va_D A [(h, .inr (5, [.ref t, .int a_t])), tT t q (nI 3) (nI 1001) (nI 1), tA g q 3003 (tf f (0 * 3) ((0 + 1) * 3) (-9))] := hD
  refine lv_istore (lv' := [(4, .int (nI 0)), (0, .ref h), (1, .int tk), (2, .int v), (3, .int pl)]) hx hb dX5_note_7 hl (by decide) rfl (fun ls hl => ?_)
  refine lv_aload_n hx hb dX5_note_9 rfl (lv_at hl 1 rfl) ?_
  refine va_get (D := D) (ci := 5) (v := .ref t) (C := RX5) (T := TX5) (N := 2) hx hb hts inlX5 hown hK hP 0 rfl rfl 0 (by decide) (hts _ q78) (fun _ h => h) rfl dX5_note_10 ?_
  refine lv_iload hx hb dX5_note_13 (lv_at hl 0 rfl) ?_
  refine lv_iconst (v := 0) hx hb dX5_note_15 (by decide) ?_
  refine lv_iload_n hx hb dX5_note_16 rfl (lv_at hl 2 rfl) ?_
  refine vz_Vv (wr := [(h, .inr (5, [.ref t, .int a_t]))]) (As := [.int (nI 0), .int 0, .int tk]) (rest := []) hx hb hml hown hts hK hA hP hD hS (c_T_set l D g t q H.size 3 1001 1 3003 (tf f (0 * 3) ((0 + 1) * 3) (-9)) (nI 0) 0 tk (by decide +kernel)) kv_X5_64 (⟨Nat.le_of_ble_eq_true rfl, Nat.le_of_ble_eq_true rfl⟩) (q0 := 1) (ci := 6) rfl rfl rfl [1, 2] [0] rfl rfl (by decide) hl.1 (Nat.le_of_ble_eq_true rfl) dX5_note_17 (⟨Nat.le_of_ble_eq_true rfl, Nat.le_of_ble_eq_true rfl⟩) rfl (fun f4 H locs e5 _ hP hD hS => ?_)
  rw [ts_c 0 (by decide) (by decide)] at e5
  subst e5
  have hP : va_P D vwCl [(h, .inr (5, [.ref t, .int a_t])), tT t q (nI 3) (nI 1001) (nI 1), tA g q 3003 (upd (tf f (0 * 3) ((0 + 1) * 3) (-9)) 0 tk)] H := hP
  have hD : va_D A [(h, .inr (5, [.ref t, .int a_t])), tT t q (nI 3) (nI 1001) (nI 1), tA g q 3003 (upd (tf f (0 * 3) ((0 + 1) * 3) (-9)) 0 tk)] := hD
  refine lv_aload_n hx hb dX5_note_20 rfl (lv_at hl 1 rfl) ?_
  refine va_get (D := D) (ci := 5) (v := .ref t) (C := RX5) (T := TX5) (N := 2) hx hb hts inlX5 hown hK hP 0 rfl rfl 0 (by decide) (hts _ q78) (fun _ h => h) rfl dX5_note_21 ?_
  refine lv_iload hx hb dX5_note_24 (lv_at hl 0 rfl) ?_
  refine lv_iconst (v := 1) hx hb dX5_note_26 (by decide) ?_
  refine lv_iload_n hx hb dX5_note_27 rfl (lv_at hl 3 rfl) ?_
  refine vz_Vv (wr := [(h, .inr (5, [.ref t, .int a_t]))]) (As := [.int (nI 0), .int 1, .int v]) (rest := []) hx hb hml hown hts hK hA hP hD hS (c_T_set l D g t q H.size 3 1001 1 3003 (upd (tf f (0 * 3) ((0 + 1) * 3) (-9)) 0 tk) (nI 0) 1 v (by decide +kernel)) kv_X5_64 (⟨Nat.le_of_ble_eq_true rfl, Nat.le_of_ble_eq_true rfl⟩) (q0 := 1) (ci := 6) rfl rfl rfl [1, 2] [0] rfl rfl (by decide) hl.1 (Nat.le_of_ble_eq_true rfl) dX5_note_28 (⟨Nat.le_of_ble_eq_true rfl, Nat.le_of_ble_eq_true rfl⟩) rfl (fun f6 H locs e7 _ hP hD hS => ?_)
  rw [ts_c 1 (by decide) (by decide)] at e7
  subst e7
  have hP : va_P D vwCl [(h, .inr (5, [.ref t, .int a_t])), tT t q (nI 3) (nI 1001) (nI 1), tA g q 3003 (upd (upd (tf f (0 * 3) ((0 + 1) * 3) (-9)) 0 tk) 1 v)] H := hP
  have hD : va_D A [(h, .inr (5, [.ref t, .int a_t])), tT t q (nI 3) (nI 1001) (nI 1), tA g q 3003 (upd (upd (tf f (0 * 3) ((0 + 1) * 3) (-9)) 0 tk) 1 v)] := hD
  refine lv_aload_n hx hb dX5_note_31 rfl (lv_at hl 1 rfl) ?_
  refine va_get (D := D) (ci := 5) (v := .ref t) (C := RX5) (T := TX5) (N := 2) hx hb hts inlX5 hown hK hP 0 rfl rfl 0 (by decide) (hts _ q78) (fun _ h => h) rfl dX5_note_32 ?_
  refine lv_iload hx hb dX5_note_35 (lv_at hl 0 rfl) ?_
  refine lv_iconst (v := 2) hx hb dX5_note_37 (by decide) ?_
  refine lv_iload_n hx hb dX5_note_38 rfl (lv_at hl 4 rfl) ?_
  refine vz_Vv (wr := [(h, .inr (5, [.ref t, .int a_t]))]) (As := [.int (nI 0), .int 2, .int pl]) (rest := []) hx hb hml hown hts hK hA hP hD hS (c_T_set l D g t q H.size 3 1001 1 3003 (upd (upd (tf f (0 * 3) ((0 + 1) * 3) (-9)) 0 tk) 1 v) (nI 0) 2 pl (by decide +kernel)) kv_X5_64 (⟨Nat.le_of_ble_eq_true rfl, Nat.le_of_ble_eq_true rfl⟩) (q0 := 1) (ci := 6) rfl rfl rfl [1, 2] [0] rfl rfl (by decide) hl.1 (Nat.le_of_ble_eq_true rfl) dX5_note_39 (⟨Nat.le_of_ble_eq_true rfl, Nat.le_of_ble_eq_true rfl⟩) rfl (fun f8 H locs e9 _ hP hD hS => ?_)
  rw [ts_c 2 (by decide) (by decide)] at e9
  subst e9
  have hP : va_P D vwCl [(h, .inr (5, [.ref t, .int a_t])), tT t q (nI 3) (nI 1001) (nI 1), tA g q 3003 (upd (upd (upd (tf f (0 * 3) ((0 + 1) * 3) (-9)) 0 tk) 1 v) 2 pl)] H := hP
  have hD : va_D A [(h, .inr (5, [.ref t, .int a_t])), tT t q (nI 3) (nI 1001) (nI 1), tA g q 3003 (upd (upd (upd (tf f (0 * 3) ((0 + 1) * 3) (-9)) 0 tk) 1 v) 2 pl)] := hD
  exact vz_vret hx hb hr hlk hK hP hD hS ((upd (upd (upd (tf f (0 * 3) ((0 + 1) * 3) (-9)) 0 tk) 1 v) 2 pl)) (⟨by simp [upd], by simp [upd], by simp [upd]⟩) [0, 1, 2] rfl (by decide) (Nat.le_refl 0) (Nat.le_refl 0) dX5_note_42
theorem q289 : Cond.methodLink RX5 24 yX6_reset ∈ wsL_law := mT_2 (List.mem_of_getElem? (i := 210) rfl) rfl
theorem q290 : Cond.instanceMethod yX6_reset ∈ wsL_law := mT_2 (List.mem_of_getElem? (i := 211) rfl) rfl
theorem q291 : Cond.selects RX6 yX6_reset yX6_reset ∈ wsL_law := mT_2 (List.mem_of_getElem? (i := 212) rfl) rfl
theorem q292 : Cond.code yX6_reset cX6_reset 1 none ∈ wsL_law := mT_2 (List.mem_of_getElem? (i := 213) rfl) rfl
theorem kv_X5_24 : vz_cv RX5 24 yX6_reset cX6_reset 1 none 0 := ⟨q289, q290, q291, q15, q292, by decide +kernel⟩
theorem q288 : Cond.fieldLink RX5 27 "WaysAtlas$Table" "rows" "I" ∈ wsL_law := mT_1 (List.mem_of_getElem? (i := 40) rfl) rfl
theorem q310 : Cond.methodLink RX5 56 yX5_note ∈ wsL_law := mT_2 (List.mem_of_getElem? (i := 231) rfl) rfl
theorem q311 : Cond.instanceMethod yX5_note ∈ wsL_law := mT_2 (List.mem_of_getElem? (i := 233) rfl) rfl
theorem q312 : Cond.selects RX5 yX5_note yX5_note ∈ wsL_law := mS_1 (q := (yX5_note, 2)) (List.mem_of_getElem? (i := 1) rfl) rfl
theorem q19 : Cond.initialized RX5 ∈ wsL_law := mT_1 (List.mem_of_getElem? (i := 4) rfl) rfl
theorem q313 : Cond.code yX5_note cX5_note 5 none ∈ wsL_law := mT_2 (List.mem_of_getElem? (i := 234) rfl) rfl
theorem kv_X5_56 : vz_cv RX5 56 yX5_note cX5_note 5 none 3 := ⟨q310, q311, q312, q19, q313, by decide +kernel⟩
theorem dX5_scan_0 : decode cX5_scan 0 = .ok (.aload_n 0, 1) := by decide +kernel
theorem dX5_scan_1 : decode cX5_scan 1 = .ok (.getfield 14, 3) := by decide +kernel
theorem dX5_scan_4 : decode cX5_scan 4 = .ok (.invokevirtual 24, 3) := by decide +kernel
theorem dX5_scan_7 : decode cX5_scan 7 = .ok (.aload_n 0, 1) := by decide +kernel
theorem dX5_scan_8 : decode cX5_scan 8 = .ok (.iconst 0, 1) := by decide +kernel
theorem dX5_scan_9 : decode cX5_scan 9 = .ok (.putfield 20, 3) := by decide +kernel
theorem dX5_scan_12 : decode cX5_scan 12 = .ok (.iconst 0, 1) := by decide +kernel
theorem dX5_scan_13 : decode cX5_scan 13 = .ok (.istore_n 2, 1) := by decide +kernel
theorem dX5_scan_14 : decode cX5_scan 14 = .ok (.iload_n 2, 1) := by decide +kernel
theorem dX5_scan_15 : decode cX5_scan 15 = .ok (.sipush 1000, 3) := by decide +kernel
theorem dX5_scan_18 : decode cX5_scan 18 = .ok (.if_icmp .gt 119, 3) := by decide +kernel
theorem dX5_scan_21 : decode cX5_scan 21 = .ok (.aload_n 0, 1) := by decide +kernel
theorem dX5_scan_22 : decode cX5_scan 22 = .ok (.getfield 20, 3) := by decide +kernel
theorem dX5_scan_25 : decode cX5_scan 25 = .ok (.aload_n 1, 1) := by decide +kernel
theorem dX5_scan_26 : decode cX5_scan 26 = .ok (.getfield 27, 3) := by decide +kernel
theorem dX5_scan_29 : decode cX5_scan 29 = .ok (.if_icmp .ge 108, 3) := by decide +kernel
theorem dX5_scan_137 : decode cX5_scan 137 = .ok (.aload_n 0, 1) := by decide +kernel
theorem dX5_scan_138 : decode cX5_scan 138 = .ok (.iconst 0, 1) := by decide +kernel
theorem dX5_scan_139 : decode cX5_scan 139 = .ok (.iconst 0, 1) := by decide +kernel
theorem dX5_scan_140 : decode cX5_scan 140 = .ok (.aload_n 1, 1) := by decide +kernel
theorem dX5_scan_141 : decode cX5_scan 141 = .ok (.getfield 27, 3) := by decide +kernel
theorem dX5_scan_144 : decode cX5_scan 144 = .ok (.invokevirtual 56, 3) := by decide +kernel
theorem dX5_scan_147 : decode cX5_scan 147 = .ok (.return_, 1) := by decide +kernel
set_option maxHeartbeats 4000000 in
set_option maxRecDepth 100000 in
theorem c_S_scan0 (l : Launch) (D : va_G) (g : Nat → ClassId) (h t q x y sz : Nat) (a_t : Int32) (f : Nat → Int32)  : vz_Mv l D (tyG g) yX5_scan cX5_scan 4 2 48 0 0 [.ref h, .ref x] sz [(h, .inr (5, [.ref t, .int a_t])), tT t q (nI 3) (nI 1001) 0, tA g q 3003 f, tT x y (nI 1) (nI 1000) 0] (fun u : Nat → Int32 => u 0 = 0 ∧ u 1 = 0 ∧ u 2 = 0) (fun u => [(h, .inr (5, [.ref t, .int 0])), tT t q (nI 3) (nI 1001) (nI 1), tA g q 3003 u, tT x y (nI 1) (nI 1000) 0]) := by
  refine vz_sv (by decide) (Nat.le_of_ble_eq_true rfl) (fun p e s m args below meth c hx hb hr hml hts hown hlk hin hK hsz A hA H locs hP hD hS ls hl => ?_)
  have hl : lv_has ls 4 [(0, .ref h), (1, .ref x)] := hl
  refine lv_aload_n hx hb dX5_scan_0 rfl (lv_at hl 0 rfl) ?_
  refine va_get (D := D) (ci := 5) (v := .ref t) (C := RX5) (T := TX5) (N := 2) hx hb hts inlX5 hown hK hP 0 rfl rfl 0 (by decide) (hts _ q78) (fun _ h => h) rfl dX5_scan_1 ?_
  refine vz_Vv (wr := [(h, .inr (5, [.ref t, .int a_t])), tA g q 3003 f, tT x y (nI 1) (nI 1000) 0]) (As := []) (rest := []) hx hb hml hown hts hK hA hP hD hS (c_T_reset l D g t q H.size (nI 3) (nI 1001) 0) kv_X5_24 (⟨Nat.le_of_ble_eq_true rfl, Nat.le_of_ble_eq_true rfl⟩) (q0 := 1) (ci := 6) rfl rfl rfl [1] [0, 2, 3] rfl rfl (by decide) hl.1 (Nat.le_of_ble_eq_true rfl) dX5_scan_4 (⟨Nat.le_of_ble_eq_true rfl, Nat.le_of_ble_eq_true rfl⟩) rfl (fun _ H locs _ _ hP hD hS => ?_)
  have hP : va_P D vwCl [(h, .inr (5, [.ref t, .int a_t])), tA g q 3003 f, tT x y (nI 1) (nI 1000) 0, tT t q (nI 3) (nI 1001) 0] H := hP
  have hD : va_D A [(h, .inr (5, [.ref t, .int a_t])), tA g q 3003 f, tT x y (nI 1) (nI 1000) 0, tT t q (nI 3) (nI 1001) 0] := hD
  refine lv_aload_n hx hb dX5_scan_7 rfl (lv_at hl 0 rfl) ?_
  refine lv_iconst (v := 0) hx hb dX5_scan_8 (by decide) ?_
  refine va_put (D := D) (ci := 5) (v := .int 0) (ty := .int) (C := RX5) (T := TX5) (N := 2) hx hb hts inlX5 tyX5 tyX5_ok nmX5 hown hK hP hD hS 0 rfl rfl 1 (by decide) (hts _ q79) (fun _ h => h) rfl (by decide +kernel) rfl rfl (Nat.le_of_ble_eq_true rfl) dX5_scan_9 (fun H locs hP hD hS => ?_)
  have hP : va_P D vwCl [(h, .inr (5, [.ref t, .int 0])), tA g q 3003 f, tT x y (nI 1) (nI 1000) 0, tT t q (nI 3) (nI 1001) 0] H := hP
  have hD : va_D A [(h, .inr (5, [.ref t, .int 0])), tA g q 3003 f, tT x y (nI 1) (nI 1000) 0, tT t q (nI 3) (nI 1001) 0] := hD
  refine lv_iconst (v := 0) hx hb dX5_scan_12 (by decide) ?_
  refine lv_istore_n (lv' := [(2, .int 0), (0, .ref h), (1, .ref x)]) hx hb dX5_scan_13 rfl hl (by decide) rfl (fun ls hl => ?_)
  refine lv_iload_n hx hb dX5_scan_14 rfl (lv_at hl 0 rfl) ?_
  refine lv_sipush (v := 1000) hx hb dX5_scan_15 (by decide) ?_
  refine lv_icmp_gt (tgt := 137) hx hb dX5_scan_18 (by decide) (fun h9 => absurd h9 (by decide)) (fun _ => ?_)
  refine lv_aload_n hx hb dX5_scan_21 rfl (lv_at hl 1 rfl) ?_
  refine va_get (D := D) (ci := 5) (v := .int 0) (C := RX5) (T := TX5) (N := 2) hx hb hts inlX5 hown hK hP 0 rfl rfl 1 (by decide) (hts _ q79) (fun _ h => h) rfl dX5_scan_22 ?_
  refine lv_aload_n hx hb dX5_scan_25 rfl (lv_at hl 2 rfl) ?_
  refine va_get (D := D) (ci := 6) (v := .int 0) (C := RX6) (T := TX6) (N := 4) hx hb hts inlX6 hown hK hP 2 rfl rfl 3 (by decide) (hts _ q288) (fun _ h => h) rfl dX5_scan_26 ?_
  refine lv_icmp_ge (tgt := 137) hx hb dX5_scan_29 (by decide) (fun _ => ?_) (fun h9 => absurd (by decide) h9)
  refine lv_aload_n hx hb dX5_scan_137 rfl (lv_at hl 1 rfl) ?_
  refine lv_iconst (v := 0) hx hb dX5_scan_138 (by decide) ?_
  refine lv_iconst (v := 0) hx hb dX5_scan_139 (by decide) ?_
  refine lv_aload_n hx hb dX5_scan_140 rfl (lv_at hl 2 rfl) ?_
  refine va_get (D := D) (ci := 6) (v := .int 0) (C := RX6) (T := TX6) (N := 4) hx hb hts inlX6 hown hK hP 2 rfl rfl 3 (by decide) (hts _ q288) (fun _ h => h) rfl dX5_scan_141 ?_
  refine vz_Vv (wr := [tT x y (nI 1) (nI 1000) 0]) (As := [.int 0, .int 0, .int 0]) (rest := []) hx hb hml hown hts hK hA hP hD hS (c_S_note0 l D g h t q H.size 0 0 0 0 f) kv_X5_56 (⟨Nat.le_of_ble_eq_true rfl, Nat.le_of_ble_eq_true rfl⟩) (q0 := 0) (ci := 5) rfl rfl rfl [0, 3, 1] [2] rfl rfl (by decide) hl.1 (Nat.le_of_ble_eq_true rfl) dX5_scan_144 (⟨Nat.le_of_ble_eq_true rfl, Nat.le_of_ble_eq_true rfl⟩) rfl (fun fn H locs efn _ hP hD hS => ?_)
  have hP : va_P D vwCl [tT x y (nI 1) (nI 1000) 0, (h, .inr (5, [.ref t, .int 0])), tT t q (nI 3) (nI 1001) (nI 1), tA g q 3003 fn] H := hP
  have hD : va_D A [tT x y (nI 1) (nI 1000) 0, (h, .inr (5, [.ref t, .int 0])), tT t q (nI 3) (nI 1001) (nI 1), tA g q 3003 fn] := hD
  exact vz_vret hx hb hr hlk hK hP hD hS (fn) (efn) [1, 2, 3, 0] rfl (by decide) (Nat.le_refl 0) (Nat.le_refl 0) dX5_scan_147
theorem q457 : Cond.methodLink RX2 35 yX6_add ∈ wsL_law := mT_3 (List.mem_of_getElem? (i := 134) rfl) rfl
theorem kv_X2_35 : vz_cv RX2 35 yX6_add cX6_add 2 (some .int) 0 := ⟨q457, q261, q262, q15, q263, by decide +kernel⟩
theorem q458 : Cond.methodLink RX2 39 yX6_set ∈ wsL_law := mT_3 (List.mem_of_getElem? (i := 135) rfl) rfl
theorem kv_X2_39 : vz_cv RX2 39 yX6_set cX6_set 5 none 3 := ⟨q458, q265, q266, q15, q267, by decide +kernel⟩
theorem dX2_reset_37 : decode cX2_reset 37 = .ok (.iload_n 1, 1) := by decide +kernel
theorem dX2_reset_38 : decode cX2_reset 38 = .ok (.bipush 7, 2) := by decide +kernel
theorem dX2_reset_40 : decode cX2_reset 40 = .ok (.if_icmp .ge 45, 3) := by decide +kernel
theorem dX2_reset_43 : decode cX2_reset 43 = .ok (.aload_n 0, 1) := by decide +kernel
theorem dX2_reset_44 : decode cX2_reset 44 = .ok (.getfield 26, 3) := by decide +kernel
theorem dX2_reset_47 : decode cX2_reset 47 = .ok (.invokevirtual 35, 3) := by decide +kernel
theorem dX2_reset_50 : decode cX2_reset 50 = .ok (.istore_n 2, 1) := by decide +kernel
theorem dX2_reset_51 : decode cX2_reset 51 = .ok (.aload_n 0, 1) := by decide +kernel
theorem dX2_reset_52 : decode cX2_reset 52 = .ok (.getfield 26, 3) := by decide +kernel
theorem dX2_reset_55 : decode cX2_reset 55 = .ok (.iload_n 2, 1) := by decide +kernel
theorem dX2_reset_56 : decode cX2_reset 56 = .ok (.iconst 0, 1) := by decide +kernel
theorem dX2_reset_57 : decode cX2_reset 57 = .ok (.iload_n 1, 1) := by decide +kernel
theorem dX2_reset_58 : decode cX2_reset 58 = .ok (.ifCond .ne 8, 3) := by decide +kernel
theorem dX2_reset_61 : decode cX2_reset 61 = .ok (.bipush (-9), 2) := by decide +kernel
theorem dX2_reset_63 : decode cX2_reset 63 = .ok (.goto 13, 3) := by decide +kernel
theorem dX2_reset_66 : decode cX2_reset 66 = .ok (.iload_n 1, 1) := by decide +kernel
theorem dX2_reset_67 : decode cX2_reset 67 = .ok (.iconst 1, 1) := by decide +kernel
theorem dX2_reset_68 : decode cX2_reset 68 = .ok (.if_icmp .ne 7, 3) := by decide +kernel
theorem dX2_reset_71 : decode cX2_reset 71 = .ok (.iconst 0, 1) := by decide +kernel
theorem dX2_reset_72 : decode cX2_reset 72 = .ok (.goto 4, 3) := by decide +kernel
theorem dX2_reset_75 : decode cX2_reset 75 = .ok (.iconst 1, 1) := by decide +kernel
theorem dX2_reset_76 : decode cX2_reset 76 = .ok (.invokevirtual 39, 3) := by decide +kernel
theorem dX2_reset_79 : decode cX2_reset 79 = .ok (.iinc 1 1, 3) := by decide +kernel
theorem dX2_reset_82 : decode cX2_reset 82 = .ok (.goto (-45), 3) := by decide +kernel
set_option maxHeartbeats 4000000 in
set_option maxRecDepth 100000 in
theorem lp_P_reset {p : Program} {l : Launch} {e : Env} {Rm : Room} {s : State} {m : MethodId} {args : Array Value} {below : List Frame} {meth : Method} {c : Code} {Q : State → Prop} {A : Nat → Prop} {D : va_G} {g : Nat → ClassId} {H0 : Heap} {cells slots : Nat} (hx : p.tables.exec = Jvm.exec) (hb : c.code = cX2_reset) (hml : c.maxLocals = 3) (hown : s.vm.findClass RX2 = some m.cls) (hts : ∀ w ∈ wsL_law, w.before args s = true) (hK : va_K D vwCl (tyG g) s) (hA : ∀ q : Nat, H0.size ≤ q → A q) (hRf : 1 ≤ Rm.frames) (hRl : 24 ≤ Rm.locals) (hcc : cells ≤ Rm.cells) (hss : slots ≤ Rm.slots) {h t0 t1 t2 t3 t4 q0 q1 q2 q3 q4 : Nat}
    (kk : ∀ (f : Nat → Int32) (H : Heap) (locs : List Loc) (ls : Array Slot), va_P D vwCl [(h, .inr (2, [.ref t0, .ref t1, .ref t2, .ref t3, .ref t4])), tT t0 q0 (nI 12) (nI 80) 0, tT t1 q1 (nI 5) (nI 1000) 0, tT t2 q2 (nI 5) (nI 112) 0, tT t4 q4 (nI 2) (nI 8) 0, tT t3 q3 (nI 1) (nI 16) (nI 7), tA g q3 16 f] H → va_D A [(h, .inr (2, [.ref t0, .ref t1, .ref t2, .ref t3, .ref t4])), tT t0 q0 (nI 12) (nI 80) 0, tT t1 q1 (nI 5) (nI 1000) 0, tT t2 q2 (nI 5) (nI 112) 0, tT t4 q4 (nI 2) (nI 8) 0, tT t3 q3 (nI 1) (nI 16) (nI 7), tA g q3 16 f] → va_S A H0 H locs → lv_has ls 3 [(0, .ref h), (1, .int (nI 7))] → W p l e Rm s m args below meth c H locs cells slots Q (F0 m 85 ls [])) :
    ∀ (n i : Nat), i ≤ 7 → 7 - i < n → ∀ (f : Nat → Int32) (H : Heap) (locs : List Loc) (ls : Array Slot), va_P D vwCl [(h, .inr (2, [.ref t0, .ref t1, .ref t2, .ref t3, .ref t4])), tT t0 q0 (nI 12) (nI 80) 0, tT t1 q1 (nI 5) (nI 1000) 0, tT t2 q2 (nI 5) (nI 112) 0, tT t4 q4 (nI 2) (nI 8) 0, tT t3 q3 (nI 1) (nI 16) (nI i), tA g q3 16 f] H → va_D A [(h, .inr (2, [.ref t0, .ref t1, .ref t2, .ref t3, .ref t4])), tT t0 q0 (nI 12) (nI 80) 0, tT t1 q1 (nI 5) (nI 1000) 0, tT t2 q2 (nI 5) (nI 112) 0, tT t4 q4 (nI 2) (nI 8) 0, tT t3 q3 (nI 1) (nI 16) (nI i), tA g q3 16 f] → va_S A H0 H locs → lv_has ls 3 [(0, .ref h), (1, .int (nI i))] → W p l e Rm s m args below meth c H locs cells slots Q (F0 m 37 ls []) := by
  intro n
  induction n with
  | zero => intro i _ z; omega
  | succ n ih =>
    intro i hi hm f H locs ls hP hD hS hl
    refine lv_iload_n hx hb dX2_reset_37 rfl (lv_at hl 1 rfl) ?_
    refine lv_bipush (v := 7) hx hb dX2_reset_38 (by decide) ?_
    refine lv_icmp_ge (tgt := 85) hx hb dX2_reset_40 (by decide) (fun kc => ?_) (fun kc => ?_)
    · have hii : i = 7 := by
        rcases Nat.lt_or_ge i 7 with z | z
        · exact absurd kc (nI_ge (b := 7) z (by decide))
        · omega
      subst hii
      exact kk f H locs ls hP hD hS hl
    · have hlt : i < 7 := by
        rcases Nat.lt_or_ge i 7 with z | z
        · exact z
        · exact absurd (nI_le (a := 7) z (by omega)) kc
      refine lv_aload_n hx hb dX2_reset_43 rfl (lv_at hl 0 rfl) ?_
      refine va_get (D := D) (ci := 2) (v := .ref t3) (C := RX2) (T := TX2) (N := 5) hx hb hts inlX2 hown hK hP 0 rfl rfl 3 (by decide) (hts _ q89) (fun _ h => h) rfl dX2_reset_44 ?_
      refine vz_Vi (wr := [(h, .inr (2, [.ref t0, .ref t1, .ref t2, .ref t3, .ref t4])), tT t0 q0 (nI 12) (nI 80) 0, tT t1 q1 (nI 5) (nI 1000) 0, tT t2 q2 (nI 5) (nI 112) 0, tT t4 q4 (nI 2) (nI 8) 0]) (As := []) (rest := []) hx hb hml hown hts hK hA hP hD hS (c_T_add l D g t3 q3 H.size 1 16 i 16 f ⟨rfl, by decide, by decide, by decide, by decide, by omega⟩) kv_X2_35 (⟨by omega, by omega⟩) (q0 := 5) (ci := 6) rfl rfl rfl [5, 6] [0, 1, 2, 3, 4] rfl rfl (by decide) hl.1 (Nat.le_of_ble_eq_true rfl) dX2_reset_47 (⟨by omega, by omega⟩) rfl (fun r ⟨uR, uf⟩ H locs ea _ hP hD hS => ?_)
      obtain ⟨-, ea1, ea2, ea3⟩ | ⟨h9, -⟩ := ea
      case inr => exact absurd h9 (by omega)
      dsimp only at ea2 ea3 hP hD
      subst ea1 ea2 ea3
      have hP : va_P D vwCl [(h, .inr (2, [.ref t0, .ref t1, .ref t2, .ref t3, .ref t4])), tT t0 q0 (nI 12) (nI 80) 0, tT t1 q1 (nI 5) (nI 1000) 0, tT t2 q2 (nI 5) (nI 112) 0, tT t4 q4 (nI 2) (nI 8) 0, tT t3 q3 (nI 1) (nI 16) (nI (i + 1)), tA g q3 16 (tf f (i * 1) ((i + 1) * 1) (-9))] H := hP
      have hD : va_D A [(h, .inr (2, [.ref t0, .ref t1, .ref t2, .ref t3, .ref t4])), tT t0 q0 (nI 12) (nI 80) 0, tT t1 q1 (nI 5) (nI 1000) 0, tT t2 q2 (nI 5) (nI 112) 0, tT t4 q4 (nI 2) (nI 8) 0, tT t3 q3 (nI 1) (nI 16) (nI (i + 1)), tA g q3 16 (tf f (i * 1) ((i + 1) * 1) (-9))] := hD
      refine lv_istore_n (lv' := [(2, .int (nI i)), (0, .ref h), (1, .int (nI i))]) hx hb dX2_reset_50 rfl hl (by decide) rfl (fun ls hl => ?_)
      refine lv_aload_n hx hb dX2_reset_51 rfl (lv_at hl 1 rfl) ?_
      refine va_get (D := D) (ci := 2) (v := .ref t3) (C := RX2) (T := TX2) (N := 5) hx hb hts inlX2 hown hK hP 0 rfl rfl 3 (by decide) (hts _ q89) (fun _ h => h) rfl dX2_reset_52 ?_
      refine lv_iload_n hx hb dX2_reset_55 rfl (lv_at hl 0 rfl) ?_
      refine lv_iconst (v := 0) hx hb dX2_reset_56 (by decide) ?_
      refine lv_iload_n hx hb dX2_reset_57 rfl (lv_at hl 2 rfl) ?_
      refine lv_if_ne (tgt := 66) hx hb dX2_reset_58 (by decide) (fun kd => ?_) (fun kd => ?_)
      · refine lv_iload_n hx hb dX2_reset_66 rfl (lv_at hl 2 rfl) ?_
        refine lv_iconst (v := 1) hx hb dX2_reset_67 (by decide) ?_
        refine lv_icmp_ne (tgt := 75) hx hb dX2_reset_68 (by decide) (fun ke => ?_) (fun ke => ?_)
        · refine lv_iconst (v := 1) hx hb dX2_reset_75 (by decide) ?_
          refine vz_Vv (wr := [(h, .inr (2, [.ref t0, .ref t1, .ref t2, .ref t3, .ref t4])), tT t0 q0 (nI 12) (nI 80) 0, tT t1 q1 (nI 5) (nI 1000) 0, tT t2 q2 (nI 5) (nI 112) 0, tT t4 q4 (nI 2) (nI 8) 0]) (As := [.int (nI i), .int 0, .int 1]) (rest := []) hx hb hml hown hts hK hA hP hD hS (c_T_set l D g t3 q3 H.size 1 16 (i + 1) 16 (tf f (i * 1) ((i + 1) * 1) (-9)) (nI i) 0 1 ⟨rfl, by decide, by decide, by decide, by decide, by omega⟩) kv_X2_39 (⟨by omega, by omega⟩) (q0 := 5) (ci := 6) rfl rfl rfl [5, 6] [0, 1, 2, 3, 4] rfl rfl (by decide) hl.1 (Nat.le_of_ble_eq_true rfl) dX2_reset_76 (⟨by omega, by omega⟩) rfl (fun f2 H locs _ _ hP hD hS => ?_)
          have hP : va_P D vwCl [(h, .inr (2, [.ref t0, .ref t1, .ref t2, .ref t3, .ref t4])), tT t0 q0 (nI 12) (nI 80) 0, tT t1 q1 (nI 5) (nI 1000) 0, tT t2 q2 (nI 5) (nI 112) 0, tT t4 q4 (nI 2) (nI 8) 0, tT t3 q3 (nI 1) (nI 16) (nI (i + 1)), tA g q3 16 f2] H := hP
          have hD : va_D A [(h, .inr (2, [.ref t0, .ref t1, .ref t2, .ref t3, .ref t4])), tT t0 q0 (nI 12) (nI 80) 0, tT t1 q1 (nI 5) (nI 1000) 0, tT t2 q2 (nI 5) (nI 112) 0, tT t4 q4 (nI 2) (nI 8) 0, tT t3 q3 (nI 1) (nI 16) (nI (i + 1)), tA g q3 16 f2] := hD
          refine lv_iinc (v := (nI (i + 1))) (lv' := [(1, .int (nI (i + 1))), (2, .int (nI i)), (0, .ref h)]) hx hb dX2_reset_79 hl (k := 2) rfl (nI_1 i) (by decide) rfl (fun ls hl => ?_)
          refine lv_goto (tgt := 37) hx hb dX2_reset_82 (by decide) ?_
          exact ih (i + 1) (by omega) (by omega) _ H locs ls hP hD hS (lv_sub hl [2, 0] rfl)
        · refine lv_iconst (v := 0) hx hb dX2_reset_71 (by decide) ?_
          refine lv_goto (tgt := 76) hx hb dX2_reset_72 (by decide) ?_
          refine vz_Vv (wr := [(h, .inr (2, [.ref t0, .ref t1, .ref t2, .ref t3, .ref t4])), tT t0 q0 (nI 12) (nI 80) 0, tT t1 q1 (nI 5) (nI 1000) 0, tT t2 q2 (nI 5) (nI 112) 0, tT t4 q4 (nI 2) (nI 8) 0]) (As := [.int (nI i), .int 0, .int 0]) (rest := []) hx hb hml hown hts hK hA hP hD hS (c_T_set l D g t3 q3 H.size 1 16 (i + 1) 16 (tf f (i * 1) ((i + 1) * 1) (-9)) (nI i) 0 0 ⟨rfl, by decide, by decide, by decide, by decide, by omega⟩) kv_X2_39 (⟨by omega, by omega⟩) (q0 := 5) (ci := 6) rfl rfl rfl [5, 6] [0, 1, 2, 3, 4] rfl rfl (by decide) hl.1 (Nat.le_of_ble_eq_true rfl) dX2_reset_76 (⟨by omega, by omega⟩) rfl (fun f2 H locs _ _ hP hD hS => ?_)
          have hP : va_P D vwCl [(h, .inr (2, [.ref t0, .ref t1, .ref t2, .ref t3, .ref t4])), tT t0 q0 (nI 12) (nI 80) 0, tT t1 q1 (nI 5) (nI 1000) 0, tT t2 q2 (nI 5) (nI 112) 0, tT t4 q4 (nI 2) (nI 8) 0, tT t3 q3 (nI 1) (nI 16) (nI (i + 1)), tA g q3 16 f2] H := hP
          have hD : va_D A [(h, .inr (2, [.ref t0, .ref t1, .ref t2, .ref t3, .ref t4])), tT t0 q0 (nI 12) (nI 80) 0, tT t1 q1 (nI 5) (nI 1000) 0, tT t2 q2 (nI 5) (nI 112) 0, tT t4 q4 (nI 2) (nI 8) 0, tT t3 q3 (nI 1) (nI 16) (nI (i + 1)), tA g q3 16 f2] := hD
          refine lv_iinc (v := (nI (i + 1))) (lv' := [(1, .int (nI (i + 1))), (2, .int (nI i)), (0, .ref h)]) hx hb dX2_reset_79 hl (k := 2) rfl (nI_1 i) (by decide) rfl (fun ls hl => ?_)
          refine lv_goto (tgt := 37) hx hb dX2_reset_82 (by decide) ?_
          exact ih (i + 1) (by omega) (by omega) _ H locs ls hP hD hS (lv_sub hl [2, 0] rfl)
      · refine lv_bipush (v := (-9)) hx hb dX2_reset_61 (by decide) ?_
        refine lv_goto (tgt := 76) hx hb dX2_reset_63 (by decide) ?_
        refine vz_Vv (wr := [(h, .inr (2, [.ref t0, .ref t1, .ref t2, .ref t3, .ref t4])), tT t0 q0 (nI 12) (nI 80) 0, tT t1 q1 (nI 5) (nI 1000) 0, tT t2 q2 (nI 5) (nI 112) 0, tT t4 q4 (nI 2) (nI 8) 0]) (As := [.int (nI i), .int 0, .int (-9)]) (rest := []) hx hb hml hown hts hK hA hP hD hS (c_T_set l D g t3 q3 H.size 1 16 (i + 1) 16 (tf f (i * 1) ((i + 1) * 1) (-9)) (nI i) 0 (-9) ⟨rfl, by decide, by decide, by decide, by decide, by omega⟩) kv_X2_39 (⟨by omega, by omega⟩) (q0 := 5) (ci := 6) rfl rfl rfl [5, 6] [0, 1, 2, 3, 4] rfl rfl (by decide) hl.1 (Nat.le_of_ble_eq_true rfl) dX2_reset_76 (⟨by omega, by omega⟩) rfl (fun f2 H locs _ _ hP hD hS => ?_)
        have hP : va_P D vwCl [(h, .inr (2, [.ref t0, .ref t1, .ref t2, .ref t3, .ref t4])), tT t0 q0 (nI 12) (nI 80) 0, tT t1 q1 (nI 5) (nI 1000) 0, tT t2 q2 (nI 5) (nI 112) 0, tT t4 q4 (nI 2) (nI 8) 0, tT t3 q3 (nI 1) (nI 16) (nI (i + 1)), tA g q3 16 f2] H := hP
        have hD : va_D A [(h, .inr (2, [.ref t0, .ref t1, .ref t2, .ref t3, .ref t4])), tT t0 q0 (nI 12) (nI 80) 0, tT t1 q1 (nI 5) (nI 1000) 0, tT t2 q2 (nI 5) (nI 112) 0, tT t4 q4 (nI 2) (nI 8) 0, tT t3 q3 (nI 1) (nI 16) (nI (i + 1)), tA g q3 16 f2] := hD
        refine lv_iinc (v := (nI (i + 1))) (lv' := [(1, .int (nI (i + 1))), (2, .int (nI i)), (0, .ref h)]) hx hb dX2_reset_79 hl (k := 2) rfl (nI_1 i) (by decide) rfl (fun ls hl => ?_)
        refine lv_goto (tgt := 37) hx hb dX2_reset_82 (by decide) ?_
        exact ih (i + 1) (by omega) (by omega) _ H locs ls hP hD hS (lv_sub hl [2, 0] rfl)
theorem q456 : Cond.methodLink RX2 32 yX6_reset ∈ wsL_law := mT_3 (List.mem_of_getElem? (i := 133) rfl) rfl
theorem kv_X2_32 : vz_cv RX2 32 yX6_reset cX6_reset 1 none 0 := ⟨q456, q290, q291, q15, q292, by decide +kernel⟩
theorem dX2_reset_0 : decode cX2_reset 0 = .ok (.aload_n 0, 1) := by decide +kernel
theorem dX2_reset_1 : decode cX2_reset 1 = .ok (.getfield 14, 3) := by decide +kernel
theorem dX2_reset_4 : decode cX2_reset 4 = .ok (.invokevirtual 32, 3) := by decide +kernel
theorem dX2_reset_7 : decode cX2_reset 7 = .ok (.aload_n 0, 1) := by decide +kernel
theorem dX2_reset_8 : decode cX2_reset 8 = .ok (.getfield 20, 3) := by decide +kernel
theorem dX2_reset_11 : decode cX2_reset 11 = .ok (.invokevirtual 32, 3) := by decide +kernel
theorem dX2_reset_14 : decode cX2_reset 14 = .ok (.aload_n 0, 1) := by decide +kernel
theorem dX2_reset_15 : decode cX2_reset 15 = .ok (.getfield 23, 3) := by decide +kernel
theorem dX2_reset_18 : decode cX2_reset 18 = .ok (.invokevirtual 32, 3) := by decide +kernel
theorem dX2_reset_21 : decode cX2_reset 21 = .ok (.aload_n 0, 1) := by decide +kernel
theorem dX2_reset_22 : decode cX2_reset 22 = .ok (.getfield 29, 3) := by decide +kernel
theorem dX2_reset_25 : decode cX2_reset 25 = .ok (.invokevirtual 32, 3) := by decide +kernel
theorem dX2_reset_28 : decode cX2_reset 28 = .ok (.aload_n 0, 1) := by decide +kernel
theorem dX2_reset_29 : decode cX2_reset 29 = .ok (.getfield 26, 3) := by decide +kernel
theorem dX2_reset_32 : decode cX2_reset 32 = .ok (.invokevirtual 32, 3) := by decide +kernel
theorem dX2_reset_35 : decode cX2_reset 35 = .ok (.iconst 0, 1) := by decide +kernel
theorem dX2_reset_36 : decode cX2_reset 36 = .ok (.istore_n 1, 1) := by decide +kernel
theorem dX2_reset_85 : decode cX2_reset 85 = .ok (.return_, 1) := by decide +kernel
set_option maxHeartbeats 4000000 in
set_option maxRecDepth 100000 in
theorem c_P_reset (l : Launch) (D : va_G) (g : Nat → ClassId) (h t0 t1 t2 t3 t4 q0 q1 q2 q3 q4 sz : Nat) (r0 r1 r2 r3 r4 : Int32) (f : Nat → Int32)  : vz_Mv l D (tyG g) yX2_reset cX2_reset 3 1 24 0 0 [.ref h] sz [(h, .inr (2, [.ref t0, .ref t1, .ref t2, .ref t3, .ref t4])), tT t0 q0 (nI 12) (nI 80) r0, tT t1 q1 (nI 5) (nI 1000) r1, tT t2 q2 (nI 5) (nI 112) r2, tT t3 q3 (nI 1) (nI 16) r3, tT t4 q4 (nI 2) (nI 8) r4, tA g q3 16 f] (fun u : Nat → Int32 => True) (fun u => [(h, .inr (2, [.ref t0, .ref t1, .ref t2, .ref t3, .ref t4])), tT t0 q0 (nI 12) (nI 80) 0, tT t1 q1 (nI 5) (nI 1000) 0, tT t2 q2 (nI 5) (nI 112) 0, tT t3 q3 (nI 1) (nI 16) (nI 7), tT t4 q4 (nI 2) (nI 8) 0, tA g q3 16 u]) := by
  refine vz_sv (by decide) (Nat.le_of_ble_eq_true rfl) (fun p e s m args below meth c hx hb hr hml hts hown hlk hin hK hsz A hA H locs hP hD hS ls hl => ?_)
  have hl : lv_has ls 3 [(0, .ref h)] := hl
  refine lv_aload_n hx hb dX2_reset_0 rfl (lv_at hl 0 rfl) ?_
  refine va_get (D := D) (ci := 2) (v := .ref t0) (C := RX2) (T := TX2) (N := 5) hx hb hts inlX2 hown hK hP 0 rfl rfl 0 (by decide) (hts _ q86) (fun _ h => h) rfl dX2_reset_1 ?_
  refine vz_Vv (wr := [(h, .inr (2, [.ref t0, .ref t1, .ref t2, .ref t3, .ref t4])), tT t1 q1 (nI 5) (nI 1000) r1, tT t2 q2 (nI 5) (nI 112) r2, tT t3 q3 (nI 1) (nI 16) r3, tT t4 q4 (nI 2) (nI 8) r4, tA g q3 16 f]) (As := []) (rest := []) hx hb hml hown hts hK hA hP hD hS (c_T_reset l D g t0 q0 H.size (nI 12) (nI 80) r0) kv_X2_32 (⟨Nat.le_of_ble_eq_true rfl, Nat.le_of_ble_eq_true rfl⟩) (q0 := 1) (ci := 6) rfl rfl rfl [1] [0, 2, 3, 4, 5, 6] rfl rfl (by decide) hl.1 (Nat.le_of_ble_eq_true rfl) dX2_reset_4 (⟨Nat.le_of_ble_eq_true rfl, Nat.le_of_ble_eq_true rfl⟩) rfl (fun _ H locs _ _ hP hD hS => ?_)
  have hP : va_P D vwCl [(h, .inr (2, [.ref t0, .ref t1, .ref t2, .ref t3, .ref t4])), tT t1 q1 (nI 5) (nI 1000) r1, tT t2 q2 (nI 5) (nI 112) r2, tT t3 q3 (nI 1) (nI 16) r3, tT t4 q4 (nI 2) (nI 8) r4, tA g q3 16 f, tT t0 q0 (nI 12) (nI 80) 0] H := hP
  have hD : va_D A [(h, .inr (2, [.ref t0, .ref t1, .ref t2, .ref t3, .ref t4])), tT t1 q1 (nI 5) (nI 1000) r1, tT t2 q2 (nI 5) (nI 112) r2, tT t3 q3 (nI 1) (nI 16) r3, tT t4 q4 (nI 2) (nI 8) r4, tA g q3 16 f, tT t0 q0 (nI 12) (nI 80) 0] := hD
  refine lv_aload_n hx hb dX2_reset_7 rfl (lv_at hl 0 rfl) ?_
  refine va_get (D := D) (ci := 2) (v := .ref t1) (C := RX2) (T := TX2) (N := 5) hx hb hts inlX2 hown hK hP 0 rfl rfl 1 (by decide) (hts _ q87) (fun _ h => h) rfl dX2_reset_8 ?_
  refine vz_Vv (wr := [(h, .inr (2, [.ref t0, .ref t1, .ref t2, .ref t3, .ref t4])), tT t2 q2 (nI 5) (nI 112) r2, tT t3 q3 (nI 1) (nI 16) r3, tT t4 q4 (nI 2) (nI 8) r4, tA g q3 16 f, tT t0 q0 (nI 12) (nI 80) 0]) (As := []) (rest := []) hx hb hml hown hts hK hA hP hD hS (c_T_reset l D g t1 q1 H.size (nI 5) (nI 1000) r1) kv_X2_32 (⟨Nat.le_of_ble_eq_true rfl, Nat.le_of_ble_eq_true rfl⟩) (q0 := 1) (ci := 6) rfl rfl rfl [1] [0, 2, 3, 4, 5, 6] rfl rfl (by decide) hl.1 (Nat.le_of_ble_eq_true rfl) dX2_reset_11 (⟨Nat.le_of_ble_eq_true rfl, Nat.le_of_ble_eq_true rfl⟩) rfl (fun _ H locs _ _ hP hD hS => ?_)
  have hP : va_P D vwCl [(h, .inr (2, [.ref t0, .ref t1, .ref t2, .ref t3, .ref t4])), tT t2 q2 (nI 5) (nI 112) r2, tT t3 q3 (nI 1) (nI 16) r3, tT t4 q4 (nI 2) (nI 8) r4, tA g q3 16 f, tT t0 q0 (nI 12) (nI 80) 0, tT t1 q1 (nI 5) (nI 1000) 0] H := hP
  have hD : va_D A [(h, .inr (2, [.ref t0, .ref t1, .ref t2, .ref t3, .ref t4])), tT t2 q2 (nI 5) (nI 112) r2, tT t3 q3 (nI 1) (nI 16) r3, tT t4 q4 (nI 2) (nI 8) r4, tA g q3 16 f, tT t0 q0 (nI 12) (nI 80) 0, tT t1 q1 (nI 5) (nI 1000) 0] := hD
  refine lv_aload_n hx hb dX2_reset_14 rfl (lv_at hl 0 rfl) ?_
  refine va_get (D := D) (ci := 2) (v := .ref t2) (C := RX2) (T := TX2) (N := 5) hx hb hts inlX2 hown hK hP 0 rfl rfl 2 (by decide) (hts _ q88) (fun _ h => h) rfl dX2_reset_15 ?_
  refine vz_Vv (wr := [(h, .inr (2, [.ref t0, .ref t1, .ref t2, .ref t3, .ref t4])), tT t3 q3 (nI 1) (nI 16) r3, tT t4 q4 (nI 2) (nI 8) r4, tA g q3 16 f, tT t0 q0 (nI 12) (nI 80) 0, tT t1 q1 (nI 5) (nI 1000) 0]) (As := []) (rest := []) hx hb hml hown hts hK hA hP hD hS (c_T_reset l D g t2 q2 H.size (nI 5) (nI 112) r2) kv_X2_32 (⟨Nat.le_of_ble_eq_true rfl, Nat.le_of_ble_eq_true rfl⟩) (q0 := 1) (ci := 6) rfl rfl rfl [1] [0, 2, 3, 4, 5, 6] rfl rfl (by decide) hl.1 (Nat.le_of_ble_eq_true rfl) dX2_reset_18 (⟨Nat.le_of_ble_eq_true rfl, Nat.le_of_ble_eq_true rfl⟩) rfl (fun _ H locs _ _ hP hD hS => ?_)
  have hP : va_P D vwCl [(h, .inr (2, [.ref t0, .ref t1, .ref t2, .ref t3, .ref t4])), tT t3 q3 (nI 1) (nI 16) r3, tT t4 q4 (nI 2) (nI 8) r4, tA g q3 16 f, tT t0 q0 (nI 12) (nI 80) 0, tT t1 q1 (nI 5) (nI 1000) 0, tT t2 q2 (nI 5) (nI 112) 0] H := hP
  have hD : va_D A [(h, .inr (2, [.ref t0, .ref t1, .ref t2, .ref t3, .ref t4])), tT t3 q3 (nI 1) (nI 16) r3, tT t4 q4 (nI 2) (nI 8) r4, tA g q3 16 f, tT t0 q0 (nI 12) (nI 80) 0, tT t1 q1 (nI 5) (nI 1000) 0, tT t2 q2 (nI 5) (nI 112) 0] := hD
  refine lv_aload_n hx hb dX2_reset_21 rfl (lv_at hl 0 rfl) ?_
  refine va_get (D := D) (ci := 2) (v := .ref t4) (C := RX2) (T := TX2) (N := 5) hx hb hts inlX2 hown hK hP 0 rfl rfl 4 (by decide) (hts _ q90) (fun _ h => h) rfl dX2_reset_22 ?_
  refine vz_Vv (wr := [(h, .inr (2, [.ref t0, .ref t1, .ref t2, .ref t3, .ref t4])), tT t3 q3 (nI 1) (nI 16) r3, tA g q3 16 f, tT t0 q0 (nI 12) (nI 80) 0, tT t1 q1 (nI 5) (nI 1000) 0, tT t2 q2 (nI 5) (nI 112) 0]) (As := []) (rest := []) hx hb hml hown hts hK hA hP hD hS (c_T_reset l D g t4 q4 H.size (nI 2) (nI 8) r4) kv_X2_32 (⟨Nat.le_of_ble_eq_true rfl, Nat.le_of_ble_eq_true rfl⟩) (q0 := 2) (ci := 6) rfl rfl rfl [2] [0, 1, 3, 4, 5, 6] rfl rfl (by decide) hl.1 (Nat.le_of_ble_eq_true rfl) dX2_reset_25 (⟨Nat.le_of_ble_eq_true rfl, Nat.le_of_ble_eq_true rfl⟩) rfl (fun _ H locs _ _ hP hD hS => ?_)
  have hP : va_P D vwCl [(h, .inr (2, [.ref t0, .ref t1, .ref t2, .ref t3, .ref t4])), tT t3 q3 (nI 1) (nI 16) r3, tA g q3 16 f, tT t0 q0 (nI 12) (nI 80) 0, tT t1 q1 (nI 5) (nI 1000) 0, tT t2 q2 (nI 5) (nI 112) 0, tT t4 q4 (nI 2) (nI 8) 0] H := hP
  have hD : va_D A [(h, .inr (2, [.ref t0, .ref t1, .ref t2, .ref t3, .ref t4])), tT t3 q3 (nI 1) (nI 16) r3, tA g q3 16 f, tT t0 q0 (nI 12) (nI 80) 0, tT t1 q1 (nI 5) (nI 1000) 0, tT t2 q2 (nI 5) (nI 112) 0, tT t4 q4 (nI 2) (nI 8) 0] := hD
  refine lv_aload_n hx hb dX2_reset_28 rfl (lv_at hl 0 rfl) ?_
  refine va_get (D := D) (ci := 2) (v := .ref t3) (C := RX2) (T := TX2) (N := 5) hx hb hts inlX2 hown hK hP 0 rfl rfl 3 (by decide) (hts _ q89) (fun _ h => h) rfl dX2_reset_29 ?_
  refine vz_Vv (wr := [(h, .inr (2, [.ref t0, .ref t1, .ref t2, .ref t3, .ref t4])), tA g q3 16 f, tT t0 q0 (nI 12) (nI 80) 0, tT t1 q1 (nI 5) (nI 1000) 0, tT t2 q2 (nI 5) (nI 112) 0, tT t4 q4 (nI 2) (nI 8) 0]) (As := []) (rest := []) hx hb hml hown hts hK hA hP hD hS (c_T_reset l D g t3 q3 H.size (nI 1) (nI 16) r3) kv_X2_32 (⟨Nat.le_of_ble_eq_true rfl, Nat.le_of_ble_eq_true rfl⟩) (q0 := 1) (ci := 6) rfl rfl rfl [1] [0, 2, 3, 4, 5, 6] rfl rfl (by decide) hl.1 (Nat.le_of_ble_eq_true rfl) dX2_reset_32 (⟨Nat.le_of_ble_eq_true rfl, Nat.le_of_ble_eq_true rfl⟩) rfl (fun _ H locs _ _ hP hD hS => ?_)
  have hP : va_P D vwCl [(h, .inr (2, [.ref t0, .ref t1, .ref t2, .ref t3, .ref t4])), tA g q3 16 f, tT t0 q0 (nI 12) (nI 80) 0, tT t1 q1 (nI 5) (nI 1000) 0, tT t2 q2 (nI 5) (nI 112) 0, tT t4 q4 (nI 2) (nI 8) 0, tT t3 q3 (nI 1) (nI 16) 0] H := hP
  have hD : va_D A [(h, .inr (2, [.ref t0, .ref t1, .ref t2, .ref t3, .ref t4])), tA g q3 16 f, tT t0 q0 (nI 12) (nI 80) 0, tT t1 q1 (nI 5) (nI 1000) 0, tT t2 q2 (nI 5) (nI 112) 0, tT t4 q4 (nI 2) (nI 8) 0, tT t3 q3 (nI 1) (nI 16) 0] := hD
  refine lv_iconst (v := 0) hx hb dX2_reset_35 (by decide) ?_
  refine lv_istore_n (lv' := [(1, .int 0), (0, .ref h)]) hx hb dX2_reset_36 rfl hl (by decide) rfl (fun ls hl => ?_)
  have hP : va_P D vwCl [(h, .inr (2, [.ref t0, .ref t1, .ref t2, .ref t3, .ref t4])), tT t0 q0 (nI 12) (nI 80) 0, tT t1 q1 (nI 5) (nI 1000) 0, tT t2 q2 (nI 5) (nI 112) 0, tT t4 q4 (nI 2) (nI 8) 0, tT t3 q3 (nI 1) (nI 16) 0, tA g q3 16 f] H := vz_pickP hP [0, 2, 3, 4, 5, 6, 1] rfl
  have hD : va_D A [(h, .inr (2, [.ref t0, .ref t1, .ref t2, .ref t3, .ref t4])), tT t0 q0 (nI 12) (nI 80) 0, tT t1 q1 (nI 5) (nI 1000) 0, tT t2 q2 (nI 5) (nI 112) 0, tT t4 q4 (nI 2) (nI 8) 0, tT t3 q3 (nI 1) (nI 16) 0, tA g q3 16 f] := hD.sub [0, 2, 3, 4, 5, 6, 1] (by decide) rfl
  refine lp_P_reset hx hb hml hown hts hK hA (Nat.le_of_ble_eq_true rfl) (Nat.le_of_ble_eq_true rfl) (Nat.le_of_ble_eq_true rfl) (Nat.le_of_ble_eq_true rfl) ?_ 8 0 (by omega) (by omega) f H locs ls hP hD hS (lv_sub hl [1, 0] rfl)
  intro f1 H locs ls hP hD hS hl
  exact vz_vret hx hb hr hlk hK hP hD hS (f1) (trivial) [0, 1, 2, 3, 5, 4, 6] rfl (by decide) (Nat.le_refl 0) (Nat.le_refl 0) dX2_reset_85
theorem q445 : Cond.fieldLink RX3 74 "WaysAtlas$Reader" "fault" "I" ∈ wsL_law := mT_1 (List.mem_of_getElem? (i := 134) rfl) rfl
theorem q443 : Cond.fieldLink RX3 41 "WaysAtlas$Reader" "token" "I" ∈ wsL_law := mT_1 (List.mem_of_getElem? (i := 130) rfl) rfl
theorem q465 : Cond.fieldLink RX3 98 "WaysAtlas$Reader" "place" "I" ∈ wsL_law := mT_1 (List.mem_of_getElem? (i := 132) rfl) rfl
theorem q446 : Cond.fieldLink RX3 77 "WaysAtlas$Reader" "faultPlace" "I" ∈ wsL_law := mT_1 (List.mem_of_getElem? (i := 136) rfl) rfl
theorem dX3_fail_0 : decode cX3_fail 0 = .ok (.aload_n 0, 1) := by decide +kernel
theorem dX3_fail_1 : decode cX3_fail 1 = .ok (.getfield 74, 3) := by decide +kernel
theorem dX3_fail_4 : decode cX3_fail 4 = .ok (.ifCond .ne 16, 3) := by decide +kernel
theorem dX3_fail_7 : decode cX3_fail 7 = .ok (.aload_n 0, 1) := by decide +kernel
theorem dX3_fail_8 : decode cX3_fail 8 = .ok (.iload_n 1, 1) := by decide +kernel
theorem dX3_fail_9 : decode cX3_fail 9 = .ok (.putfield 74, 3) := by decide +kernel
theorem dX3_fail_12 : decode cX3_fail 12 = .ok (.aload_n 0, 1) := by decide +kernel
theorem dX3_fail_13 : decode cX3_fail 13 = .ok (.aload_n 0, 1) := by decide +kernel
theorem dX3_fail_14 : decode cX3_fail 14 = .ok (.getfield 98, 3) := by decide +kernel
theorem dX3_fail_17 : decode cX3_fail 17 = .ok (.putfield 77, 3) := by decide +kernel
theorem dX3_fail_20 : decode cX3_fail 20 = .ok (.aload_n 0, 1) := by decide +kernel
theorem dX3_fail_21 : decode cX3_fail 21 = .ok (.iconst 1, 1) := by decide +kernel
theorem dX3_fail_22 : decode cX3_fail 22 = .ok (.putfield 41, 3) := by decide +kernel
theorem dX3_fail_25 : decode cX3_fail 25 = .ok (.return_, 1) := by decide +kernel
set_option maxHeartbeats 4000000 in
set_option maxRecDepth 100000 in
theorem c_R_fail (l : Launch) (D : va_G) (g : Nat → ClassId) (h tk lo ca cp pg sz : Nat) (a_t to va pl le fa fp : Int32) (n : Int32)  : vz_Mv l D (tyG g) yX3_fail cX3_fail 2 0 0 0 0 [.ref h, .int n] sz [(h, .inr (3, [.ref tk, .ref lo, .ref ca, .ref cp, .ref pg, .int a_t, .int to, .int va, .int pl, .int le, .int fa, .int fp]))] (fun u : Int32 × Int32 => (fa = 0 ∧ u = (n, pl)) ∨ (¬ fa = 0 ∧ u = (fa, fp))) (fun u => [(h, .inr (3, [.ref tk, .ref lo, .ref ca, .ref cp, .ref pg, .int a_t, .int 1, .int va, .int pl, .int le, .int u.1, .int u.2]))]) := by
  refine vz_sv (by decide) (Nat.le_of_ble_eq_true rfl) (fun p e s m args below meth c hx hb hr hml hts hown hlk hin hK hsz A hA H locs hP hD hS ls hl => ?_)
  have hl : lv_has ls 2 [(0, .ref h), (1, .int n)] := hl
  refine lv_aload_n hx hb dX3_fail_0 rfl (lv_at hl 0 rfl) ?_
  refine va_get (D := D) (ci := 3) (v := .int fa) (C := RX3) (T := TX3) (N := 12) hx hb hts inlX3 hown hK hP 0 rfl rfl 10 (by decide) (hts _ q445) (fun _ h => h) rfl dX3_fail_1 ?_
  refine lv_if_ne (tgt := 20) hx hb dX3_fail_4 (by decide) (fun kc => ?_) (fun kc => ?_)
  · refine lv_aload_n hx hb dX3_fail_20 rfl (lv_at hl 0 rfl) ?_
    refine lv_iconst (v := 1) hx hb dX3_fail_21 (by decide) ?_
    refine va_put (D := D) (ci := 3) (v := .int 1) (ty := .int) (C := RX3) (T := TX3) (N := 12) hx hb hts inlX3 tyX3 tyX3_ok nmX3 hown hK hP hD hS 0 rfl rfl 6 (by decide) (hts _ q443) (fun _ h => h) rfl (by decide +kernel) rfl rfl (Nat.le_of_ble_eq_true rfl) dX3_fail_22 (fun H locs hP hD hS => ?_)
    have hP : va_P D vwCl [(h, .inr (3, [.ref tk, .ref lo, .ref ca, .ref cp, .ref pg, .int a_t, .int 1, .int va, .int pl, .int le, .int fa, .int fp]))] H := hP
    have hD : va_D A [(h, .inr (3, [.ref tk, .ref lo, .ref ca, .ref cp, .ref pg, .int a_t, .int 1, .int va, .int pl, .int le, .int fa, .int fp]))] := hD
    exact vz_vret hx hb hr hlk hK hP hD hS ((fa, fp)) (Or.inr ⟨kc, rfl⟩) [0] rfl (by decide) (Nat.le_refl 0) (Nat.le_refl 0) dX3_fail_25
  · refine lv_aload_n hx hb dX3_fail_7 rfl (lv_at hl 0 rfl) ?_
    refine lv_iload_n hx hb dX3_fail_8 rfl (lv_at hl 1 rfl) ?_
    refine va_put (D := D) (ci := 3) (v := .int n) (ty := .int) (C := RX3) (T := TX3) (N := 12) hx hb hts inlX3 tyX3 tyX3_ok nmX3 hown hK hP hD hS 0 rfl rfl 10 (by decide) (hts _ q445) (fun _ h => h) rfl (by decide +kernel) rfl rfl (Nat.le_of_ble_eq_true rfl) dX3_fail_9 (fun H locs hP hD hS => ?_)
    have hP : va_P D vwCl [(h, .inr (3, [.ref tk, .ref lo, .ref ca, .ref cp, .ref pg, .int a_t, .int to, .int va, .int pl, .int le, .int n, .int fp]))] H := hP
    have hD : va_D A [(h, .inr (3, [.ref tk, .ref lo, .ref ca, .ref cp, .ref pg, .int a_t, .int to, .int va, .int pl, .int le, .int n, .int fp]))] := hD
    refine lv_aload_n hx hb dX3_fail_12 rfl (lv_at hl 0 rfl) ?_
    refine lv_aload_n hx hb dX3_fail_13 rfl (lv_at hl 0 rfl) ?_
    refine va_get (D := D) (ci := 3) (v := .int pl) (C := RX3) (T := TX3) (N := 12) hx hb hts inlX3 hown hK hP 0 rfl rfl 8 (by decide) (hts _ q465) (fun _ h => h) rfl dX3_fail_14 ?_
    refine va_put (D := D) (ci := 3) (v := .int pl) (ty := .int) (C := RX3) (T := TX3) (N := 12) hx hb hts inlX3 tyX3 tyX3_ok nmX3 hown hK hP hD hS 0 rfl rfl 11 (by decide) (hts _ q446) (fun _ h => h) rfl (by decide +kernel) rfl rfl (Nat.le_of_ble_eq_true rfl) dX3_fail_17 (fun H locs hP hD hS => ?_)
    have hP : va_P D vwCl [(h, .inr (3, [.ref tk, .ref lo, .ref ca, .ref cp, .ref pg, .int a_t, .int to, .int va, .int pl, .int le, .int n, .int pl]))] H := hP
    have hD : va_D A [(h, .inr (3, [.ref tk, .ref lo, .ref ca, .ref cp, .ref pg, .int a_t, .int to, .int va, .int pl, .int le, .int n, .int pl]))] := hD
    refine lv_aload_n hx hb dX3_fail_20 rfl (lv_at hl 0 rfl) ?_
    refine lv_iconst (v := 1) hx hb dX3_fail_21 (by decide) ?_
    refine va_put (D := D) (ci := 3) (v := .int 1) (ty := .int) (C := RX3) (T := TX3) (N := 12) hx hb hts inlX3 tyX3 tyX3_ok nmX3 hown hK hP hD hS 0 rfl rfl 6 (by decide) (hts _ q443) (fun _ h => h) rfl (by decide +kernel) rfl rfl (Nat.le_of_ble_eq_true rfl) dX3_fail_22 (fun H locs hP hD hS => ?_)
    have hP : va_P D vwCl [(h, .inr (3, [.ref tk, .ref lo, .ref ca, .ref cp, .ref pg, .int a_t, .int 1, .int va, .int pl, .int le, .int n, .int pl]))] H := hP
    have hD : va_D A [(h, .inr (3, [.ref tk, .ref lo, .ref ca, .ref cp, .ref pg, .int a_t, .int 1, .int va, .int pl, .int le, .int n, .int pl]))] := hD
    exact vz_vret hx hb hr hlk hK hP hD hS ((n, pl)) (Or.inl ⟨kc, rfl⟩) [0] rfl (by decide) (Nat.le_refl 0) (Nat.le_refl 0) dX3_fail_25
theorem q473 : Cond.methodLink RX3 68 yX3_fail ∈ wsL_law := mT_3 (List.mem_of_getElem? (i := 146) rfl) rfl
theorem q474 : Cond.instanceMethod yX3_fail ∈ wsL_law := mT_3 (List.mem_of_getElem? (i := 148) rfl) rfl
theorem q475 : Cond.selects RX3 yX3_fail yX3_fail ∈ wsL_law := mS_1 (q := (yX3_fail, 12)) (List.mem_of_getElem? (i := 7) rfl) rfl
theorem q28 : Cond.initialized RX3 ∈ wsL_law := mT_1 (List.mem_of_getElem? (i := 6) rfl) rfl
theorem q476 : Cond.code yX3_fail cX3_fail 2 none ∈ wsL_law := mT_3 (List.mem_of_getElem? (i := 149) rfl) rfl
theorem kv_X3_68 : vz_cv RX3 68 yX3_fail cX3_fail 2 none 1 := ⟨q473, q474, q475, q28, q476, by decide +kernel⟩
theorem dX3_expect_0 : decode cX3_expect 0 = .ok (.aload_n 0, 1) := by decide +kernel
theorem dX3_expect_1 : decode cX3_expect 1 = .ok (.getfield 41, 3) := by decide +kernel
theorem dX3_expect_4 : decode cX3_expect 4 = .ok (.iload_n 1, 1) := by decide +kernel
theorem dX3_expect_5 : decode cX3_expect 5 = .ok (.if_icmp .ne 10, 3) := by decide +kernel
theorem dX3_expect_15 : decode cX3_expect 15 = .ok (.aload_n 0, 1) := by decide +kernel
theorem dX3_expect_16 : decode cX3_expect 16 = .ok (.iconst 1, 1) := by decide +kernel
theorem dX3_expect_17 : decode cX3_expect 17 = .ok (.invokevirtual 68, 3) := by decide +kernel
theorem dX3_expect_20 : decode cX3_expect 20 = .ok (.return_, 1) := by decide +kernel
set_option maxHeartbeats 4000000 in
set_option maxRecDepth 100000 in
theorem c_R_expect0 (l : Launch) (D : va_G) (g : Nat → ClassId) (h tk lo ca cp pg sz : Nat) (a_t to va le fp n : Int32) (hne : ¬ to = n) : vz_Mv l D (tyG g) yX3_expect cX3_expect 2 1 21 0 0 [.ref h, .int n] sz [(h, .inr (3, [.ref tk, .ref lo, .ref ca, .ref cp, .ref pg, .int a_t, .int to, .int va, .int 0, .int le, .int 0, .int fp]))] (fun u : Unit => True) (fun u => [(h, .inr (3, [.ref tk, .ref lo, .ref ca, .ref cp, .ref pg, .int a_t, .int 1, .int va, .int 0, .int le, .int 1, .int 0]))]) := by
  refine vz_sv (by decide) (Nat.le_of_ble_eq_true rfl) (fun p e s m args below meth c hx hb hr hml hts hown hlk hin hK hsz A hA H locs hP hD hS ls hl => ?_)
  have hl : lv_has ls 2 [(0, .ref h), (1, .int n)] := hl
  refine lv_aload_n hx hb dX3_expect_0 rfl (lv_at hl 0 rfl) ?_
  refine va_get (D := D) (ci := 3) (v := .int to) (C := RX3) (T := TX3) (N := 12) hx hb hts inlX3 hown hK hP 0 rfl rfl 6 (by decide) (hts _ q443) (fun _ h => h) rfl dX3_expect_1 ?_
  refine lv_iload_n hx hb dX3_expect_4 rfl (lv_at hl 1 rfl) ?_
  refine lv_icmp_ne (tgt := 15) hx hb dX3_expect_5 (by decide) (fun _ => ?_) (fun h9 => absurd h9 (hne))
  refine lv_aload_n hx hb dX3_expect_15 rfl (lv_at hl 0 rfl) ?_
  refine lv_iconst (v := 1) hx hb dX3_expect_16 (by decide) ?_
  refine vz_Vv (wr := []) (As := [.int 1]) (rest := []) hx hb hml hown hts hK hA hP hD hS (c_R_fail l D g h tk lo ca cp pg H.size a_t to va 0 le 0 fp 1) kv_X3_68 (⟨Nat.le_of_ble_eq_true rfl, Nat.le_of_ble_eq_true rfl⟩) (q0 := 0) (ci := 3) rfl rfl rfl [0] [] rfl rfl (by decide) hl.1 (Nat.le_of_ble_eq_true rfl) dX3_expect_17 (⟨Nat.le_of_ble_eq_true rfl, Nat.le_of_ble_eq_true rfl⟩) rfl (fun u1 H locs e2 _ hP hD hS => ?_)
  obtain ⟨-, e21⟩ | ⟨h9, -⟩ := e2
  case inr => exact absurd rfl h9
  subst e21
  have hP : va_P D vwCl [(h, .inr (3, [.ref tk, .ref lo, .ref ca, .ref cp, .ref pg, .int a_t, .int 1, .int va, .int 0, .int le, .int 1, .int 0]))] H := hP
  have hD : va_D A [(h, .inr (3, [.ref tk, .ref lo, .ref ca, .ref cp, .ref pg, .int a_t, .int 1, .int va, .int 0, .int le, .int 1, .int 0]))] := hD
  exact vz_vret hx hb hr hlk hK hP hD hS (()) (trivial) [0] rfl (by decide) (Nat.le_refl 0) (Nat.le_refl 0) dX3_expect_20
set_option maxHeartbeats 4000000 in
set_option maxRecDepth 100000 in
theorem c_R_expect1 (l : Launch) (D : va_G) (g : Nat → ClassId) (h tk lo ca cp pg sz : Nat) (a_t to va le fp n : Int32) (hne : ¬ to = n) : vz_Mv l D (tyG g) yX3_expect cX3_expect 2 1 21 0 0 [.ref h, .int n] sz [(h, .inr (3, [.ref tk, .ref lo, .ref ca, .ref cp, .ref pg, .int a_t, .int to, .int va, .int 0, .int le, .int 1, .int 0]))] (fun u : Unit => True) (fun u => [(h, .inr (3, [.ref tk, .ref lo, .ref ca, .ref cp, .ref pg, .int a_t, .int 1, .int va, .int 0, .int le, .int 1, .int 0]))]) := by
  refine vz_sv (by decide) (Nat.le_of_ble_eq_true rfl) (fun p e s m args below meth c hx hb hr hml hts hown hlk hin hK hsz A hA H locs hP hD hS ls hl => ?_)
  have hl : lv_has ls 2 [(0, .ref h), (1, .int n)] := hl
  refine lv_aload_n hx hb dX3_expect_0 rfl (lv_at hl 0 rfl) ?_
  refine va_get (D := D) (ci := 3) (v := .int to) (C := RX3) (T := TX3) (N := 12) hx hb hts inlX3 hown hK hP 0 rfl rfl 6 (by decide) (hts _ q443) (fun _ h => h) rfl dX3_expect_1 ?_
  refine lv_iload_n hx hb dX3_expect_4 rfl (lv_at hl 1 rfl) ?_
  refine lv_icmp_ne (tgt := 15) hx hb dX3_expect_5 (by decide) (fun _ => ?_) (fun h9 => absurd h9 (hne))
  refine lv_aload_n hx hb dX3_expect_15 rfl (lv_at hl 0 rfl) ?_
  refine lv_iconst (v := 1) hx hb dX3_expect_16 (by decide) ?_
  refine vz_Vv (wr := []) (As := [.int 1]) (rest := []) hx hb hml hown hts hK hA hP hD hS (c_R_fail l D g h tk lo ca cp pg H.size a_t to va 0 le 1 0 1) kv_X3_68 (⟨Nat.le_of_ble_eq_true rfl, Nat.le_of_ble_eq_true rfl⟩) (q0 := 0) (ci := 3) rfl rfl rfl [0] [] rfl rfl (by decide) hl.1 (Nat.le_of_ble_eq_true rfl) dX3_expect_17 (⟨Nat.le_of_ble_eq_true rfl, Nat.le_of_ble_eq_true rfl⟩) rfl (fun u1 H locs e2 _ hP hD hS => ?_)
  obtain ⟨h9, -⟩ | ⟨-, e21⟩ := e2
  case inl => exact absurd h9 (by decide)
  subst e21
  have hP : va_P D vwCl [(h, .inr (3, [.ref tk, .ref lo, .ref ca, .ref cp, .ref pg, .int a_t, .int 1, .int va, .int 0, .int le, .int 1, .int 0]))] H := hP
  have hD : va_D A [(h, .inr (3, [.ref tk, .ref lo, .ref ca, .ref cp, .ref pg, .int a_t, .int 1, .int va, .int 0, .int le, .int 1, .int 0]))] := hD
  exact vz_vret hx hb hr hlk hK hP hD hS (()) (trivial) [0] rfl (by decide) (Nat.le_refl 0) (Nat.le_refl 0) dX3_expect_20
theorem q451 : Cond.fieldLink RX3 86 "WaysAtlas$Reader" "at" "I" ∈ wsL_law := mT_1 (List.mem_of_getElem? (i := 129) rfl) rfl
theorem q466 : Cond.methodLink RX3 92 yX6_get ∈ wsL_law := mT_3 (List.mem_of_getElem? (i := 141) rfl) rfl
theorem q294 : Cond.instanceMethod yX6_get ∈ wsL_law := mT_2 (List.mem_of_getElem? (i := 215) rfl) rfl
theorem q295 : Cond.selects RX6 yX6_get yX6_get ∈ wsL_law := mT_2 (List.mem_of_getElem? (i := 216) rfl) rfl
theorem q296 : Cond.code yX6_get cX6_get 4 (some .int) ∈ wsL_law := mT_2 (List.mem_of_getElem? (i := 217) rfl) rfl
theorem kv_X3_92 : vz_cv RX3 92 yX6_get cX6_get 4 (some .int) 2 := ⟨q466, q294, q295, q15, q296, by decide +kernel⟩
theorem q464 : Cond.fieldLink RX3 95 "WaysAtlas$Reader" "value" "I" ∈ wsL_law := mT_1 (List.mem_of_getElem? (i := 131) rfl) rfl
theorem dX3_advance_0 : decode cX3_advance 0 = .ok (.aload_n 0, 1) := by decide +kernel
theorem dX3_advance_1 : decode cX3_advance 1 = .ok (.getfield 74, 3) := by decide +kernel
theorem dX3_advance_4 : decode cX3_advance 4 = .ok (.ifCond .eq 9, 3) := by decide +kernel
theorem dX3_advance_13 : decode cX3_advance 13 = .ok (.aload_n 0, 1) := by decide +kernel
theorem dX3_advance_14 : decode cX3_advance 14 = .ok (.dup, 1) := by decide +kernel
theorem dX3_advance_15 : decode cX3_advance 15 = .ok (.getfield 86, 3) := by decide +kernel
theorem dX3_advance_18 : decode cX3_advance 18 = .ok (.iconst 1, 1) := by decide +kernel
theorem dX3_advance_19 : decode cX3_advance 19 = .ok (.iadd, 1) := by decide +kernel
theorem dX3_advance_20 : decode cX3_advance 20 = .ok (.putfield 86, 3) := by decide +kernel
theorem dX3_advance_23 : decode cX3_advance 23 = .ok (.aload_n 0, 1) := by decide +kernel
theorem dX3_advance_24 : decode cX3_advance 24 = .ok (.aload_n 0, 1) := by decide +kernel
theorem dX3_advance_25 : decode cX3_advance 25 = .ok (.getfield 9, 3) := by decide +kernel
theorem dX3_advance_28 : decode cX3_advance 28 = .ok (.aload_n 0, 1) := by decide +kernel
theorem dX3_advance_29 : decode cX3_advance 29 = .ok (.getfield 86, 3) := by decide +kernel
theorem dX3_advance_32 : decode cX3_advance 32 = .ok (.iconst 0, 1) := by decide +kernel
theorem dX3_advance_33 : decode cX3_advance 33 = .ok (.invokevirtual 92, 3) := by decide +kernel
theorem dX3_advance_36 : decode cX3_advance 36 = .ok (.putfield 41, 3) := by decide +kernel
theorem dX3_advance_39 : decode cX3_advance 39 = .ok (.aload_n 0, 1) := by decide +kernel
theorem dX3_advance_40 : decode cX3_advance 40 = .ok (.aload_n 0, 1) := by decide +kernel
theorem dX3_advance_41 : decode cX3_advance 41 = .ok (.getfield 9, 3) := by decide +kernel
theorem dX3_advance_44 : decode cX3_advance 44 = .ok (.aload_n 0, 1) := by decide +kernel
theorem dX3_advance_45 : decode cX3_advance 45 = .ok (.getfield 86, 3) := by decide +kernel
theorem dX3_advance_48 : decode cX3_advance 48 = .ok (.iconst 1, 1) := by decide +kernel
theorem dX3_advance_49 : decode cX3_advance 49 = .ok (.invokevirtual 92, 3) := by decide +kernel
theorem dX3_advance_52 : decode cX3_advance 52 = .ok (.putfield 95, 3) := by decide +kernel
theorem dX3_advance_55 : decode cX3_advance 55 = .ok (.aload_n 0, 1) := by decide +kernel
theorem dX3_advance_56 : decode cX3_advance 56 = .ok (.aload_n 0, 1) := by decide +kernel
theorem dX3_advance_57 : decode cX3_advance 57 = .ok (.getfield 9, 3) := by decide +kernel
theorem dX3_advance_60 : decode cX3_advance 60 = .ok (.aload_n 0, 1) := by decide +kernel
theorem dX3_advance_61 : decode cX3_advance 61 = .ok (.getfield 86, 3) := by decide +kernel
theorem dX3_advance_64 : decode cX3_advance 64 = .ok (.iconst 2, 1) := by decide +kernel
theorem dX3_advance_65 : decode cX3_advance 65 = .ok (.invokevirtual 92, 3) := by decide +kernel
theorem dX3_advance_68 : decode cX3_advance 68 = .ok (.putfield 98, 3) := by decide +kernel
theorem dX3_advance_71 : decode cX3_advance 71 = .ok (.return_, 1) := by decide +kernel
set_option maxHeartbeats 4000000 in
set_option maxRecDepth 100000 in
theorem c_R_advance0 (l : Launch) (D : va_G) (g : Nat → ClassId) (h tk lo ca cp pg q sz : Nat) (to va pl le fp : Int32) (f : Nat → Int32) (hf0 : f 0 = 0) (hf1 : f 1 = 0) (hf2 : f 2 = 0) : vz_Mv l D (tyG g) yX3_advance cX3_advance 1 1 23 0 0 [.ref h] sz [(h, .inr (3, [.ref tk, .ref lo, .ref ca, .ref cp, .ref pg, .int (-1), .int to, .int va, .int pl, .int le, .int 0, .int fp])), tT tk q (nI 3) (nI 1001) (nI 1), tA g q 3003 f] (fun u : Unit => True) (fun u => [(h, .inr (3, [.ref tk, .ref lo, .ref ca, .ref cp, .ref pg, .int 0, .int 0, .int 0, .int 0, .int le, .int 0, .int fp])), tT tk q (nI 3) (nI 1001) (nI 1), tA g q 3003 f]) := by
  refine vz_sv (by decide) (Nat.le_of_ble_eq_true rfl) (fun p e s m args below meth c hx hb hr hml hts hown hlk hin hK hsz A hA H locs hP hD hS ls hl => ?_)
  have hl : lv_has ls 1 [(0, .ref h)] := hl
  refine lv_aload_n hx hb dX3_advance_0 rfl (lv_at hl 0 rfl) ?_
  refine va_get (D := D) (ci := 3) (v := .int 0) (C := RX3) (T := TX3) (N := 12) hx hb hts inlX3 hown hK hP 0 rfl rfl 10 (by decide) (hts _ q445) (fun _ h => h) rfl dX3_advance_1 ?_
  refine lv_if_eq (tgt := 13) hx hb dX3_advance_4 (by decide) (fun _ => ?_) (fun h9 => absurd (by decide) h9)
  refine lv_aload_n hx hb dX3_advance_13 rfl (lv_at hl 0 rfl) ?_
  refine lv_dup hx hb dX3_advance_14 rfl ?_
  refine va_get (D := D) (ci := 3) (v := .int (-1)) (C := RX3) (T := TX3) (N := 12) hx hb hts inlX3 hown hK hP 0 rfl rfl 5 (by decide) (hts _ q451) (fun _ h => h) rfl dX3_advance_15 ?_
  refine lv_iconst (v := 1) hx hb dX3_advance_18 (by decide) ?_
  refine lv_iadd hx hb dX3_advance_19 ?_
  refine lv_topi (nm_r (e' := 0) (by decide) ?_)
  refine va_put (D := D) (ci := 3) (v := .int 0) (ty := .int) (C := RX3) (T := TX3) (N := 12) hx hb hts inlX3 tyX3 tyX3_ok nmX3 hown hK hP hD hS 0 rfl rfl 5 (by decide) (hts _ q451) (fun _ h => h) rfl (by decide +kernel) rfl rfl (Nat.le_of_ble_eq_true rfl) dX3_advance_20 (fun H locs hP hD hS => ?_)
  have hP : va_P D vwCl [(h, .inr (3, [.ref tk, .ref lo, .ref ca, .ref cp, .ref pg, .int 0, .int to, .int va, .int pl, .int le, .int 0, .int fp])), tT tk q (nI 3) (nI 1001) (nI 1), tA g q 3003 f] H := hP
  have hD : va_D A [(h, .inr (3, [.ref tk, .ref lo, .ref ca, .ref cp, .ref pg, .int 0, .int to, .int va, .int pl, .int le, .int 0, .int fp])), tT tk q (nI 3) (nI 1001) (nI 1), tA g q 3003 f] := hD
  refine lv_aload_n hx hb dX3_advance_23 rfl (lv_at hl 0 rfl) ?_
  refine lv_aload_n hx hb dX3_advance_24 rfl (lv_at hl 0 rfl) ?_
  refine va_get (D := D) (ci := 3) (v := .ref tk) (C := RX3) (T := TX3) (N := 12) hx hb hts inlX3 hown hK hP 0 rfl rfl 0 (by decide) (hts _ q96) (fun _ h => h) rfl dX3_advance_25 ?_
  refine lv_aload_n hx hb dX3_advance_28 rfl (lv_at hl 0 rfl) ?_
  refine va_get (D := D) (ci := 3) (v := .int 0) (C := RX3) (T := TX3) (N := 12) hx hb hts inlX3 hown hK hP 0 rfl rfl 5 (by decide) (hts _ q451) (fun _ h => h) rfl dX3_advance_29 ?_
  refine lv_iconst (v := 0) hx hb dX3_advance_32 (by decide) ?_
  refine vz_Vi (wr := [(h, .inr (3, [.ref tk, .ref lo, .ref ca, .ref cp, .ref pg, .int 0, .int to, .int va, .int pl, .int le, .int 0, .int fp]))]) (As := [.int 0, .int 0]) (rest := [.ref h]) hx hb hml hown hts hK hA hP hD hS (c_T_get l D g tk q H.size 3 1001 1 3003 f 0 0 (by decide +kernel)) kv_X3_92 (⟨Nat.le_of_ble_eq_true rfl, Nat.le_of_ble_eq_true rfl⟩) (q0 := 1) (ci := 6) rfl rfl rfl [1, 2] [0] rfl rfl (by decide) hl.1 (Nat.le_of_ble_eq_true rfl) dX3_advance_33 (⟨Nat.le_of_ble_eq_true rfl, Nat.le_of_ble_eq_true rfl⟩) rfl (fun r1 _ H locs e2 _ hP hD hS => ?_)
  replace e2 := e2.trans ((tg_c 0 (by decide) (by decide)).trans hf0)
  subst e2
  have hP : va_P D vwCl [(h, .inr (3, [.ref tk, .ref lo, .ref ca, .ref cp, .ref pg, .int 0, .int to, .int va, .int pl, .int le, .int 0, .int fp])), tT tk q (nI 3) (nI 1001) (nI 1), tA g q 3003 f] H := hP
  have hD : va_D A [(h, .inr (3, [.ref tk, .ref lo, .ref ca, .ref cp, .ref pg, .int 0, .int to, .int va, .int pl, .int le, .int 0, .int fp])), tT tk q (nI 3) (nI 1001) (nI 1), tA g q 3003 f] := hD
  refine va_put (D := D) (ci := 3) (v := .int 0) (ty := .int) (C := RX3) (T := TX3) (N := 12) hx hb hts inlX3 tyX3 tyX3_ok nmX3 hown hK hP hD hS 0 rfl rfl 6 (by decide) (hts _ q443) (fun _ h => h) rfl (by decide +kernel) rfl rfl (Nat.le_of_ble_eq_true rfl) dX3_advance_36 (fun H locs hP hD hS => ?_)
  have hP : va_P D vwCl [(h, .inr (3, [.ref tk, .ref lo, .ref ca, .ref cp, .ref pg, .int 0, .int 0, .int va, .int pl, .int le, .int 0, .int fp])), tT tk q (nI 3) (nI 1001) (nI 1), tA g q 3003 f] H := hP
  have hD : va_D A [(h, .inr (3, [.ref tk, .ref lo, .ref ca, .ref cp, .ref pg, .int 0, .int 0, .int va, .int pl, .int le, .int 0, .int fp])), tT tk q (nI 3) (nI 1001) (nI 1), tA g q 3003 f] := hD
  refine lv_aload_n hx hb dX3_advance_39 rfl (lv_at hl 0 rfl) ?_
  refine lv_aload_n hx hb dX3_advance_40 rfl (lv_at hl 0 rfl) ?_
  refine va_get (D := D) (ci := 3) (v := .ref tk) (C := RX3) (T := TX3) (N := 12) hx hb hts inlX3 hown hK hP 0 rfl rfl 0 (by decide) (hts _ q96) (fun _ h => h) rfl dX3_advance_41 ?_
  refine lv_aload_n hx hb dX3_advance_44 rfl (lv_at hl 0 rfl) ?_
  refine va_get (D := D) (ci := 3) (v := .int 0) (C := RX3) (T := TX3) (N := 12) hx hb hts inlX3 hown hK hP 0 rfl rfl 5 (by decide) (hts _ q451) (fun _ h => h) rfl dX3_advance_45 ?_
  refine lv_iconst (v := 1) hx hb dX3_advance_48 (by decide) ?_
  refine vz_Vi (wr := [(h, .inr (3, [.ref tk, .ref lo, .ref ca, .ref cp, .ref pg, .int 0, .int 0, .int va, .int pl, .int le, .int 0, .int fp]))]) (As := [.int 0, .int 1]) (rest := [.ref h]) hx hb hml hown hts hK hA hP hD hS (c_T_get l D g tk q H.size 3 1001 1 3003 f 0 1 (by decide +kernel)) kv_X3_92 (⟨Nat.le_of_ble_eq_true rfl, Nat.le_of_ble_eq_true rfl⟩) (q0 := 1) (ci := 6) rfl rfl rfl [1, 2] [0] rfl rfl (by decide) hl.1 (Nat.le_of_ble_eq_true rfl) dX3_advance_49 (⟨Nat.le_of_ble_eq_true rfl, Nat.le_of_ble_eq_true rfl⟩) rfl (fun r3 _ H locs e4 _ hP hD hS => ?_)
  replace e4 := e4.trans ((tg_c 1 (by decide) (by decide)).trans hf1)
  subst e4
  have hP : va_P D vwCl [(h, .inr (3, [.ref tk, .ref lo, .ref ca, .ref cp, .ref pg, .int 0, .int 0, .int va, .int pl, .int le, .int 0, .int fp])), tT tk q (nI 3) (nI 1001) (nI 1), tA g q 3003 f] H := hP
  have hD : va_D A [(h, .inr (3, [.ref tk, .ref lo, .ref ca, .ref cp, .ref pg, .int 0, .int 0, .int va, .int pl, .int le, .int 0, .int fp])), tT tk q (nI 3) (nI 1001) (nI 1), tA g q 3003 f] := hD
  refine va_put (D := D) (ci := 3) (v := .int 0) (ty := .int) (C := RX3) (T := TX3) (N := 12) hx hb hts inlX3 tyX3 tyX3_ok nmX3 hown hK hP hD hS 0 rfl rfl 7 (by decide) (hts _ q464) (fun _ h => h) rfl (by decide +kernel) rfl rfl (Nat.le_of_ble_eq_true rfl) dX3_advance_52 (fun H locs hP hD hS => ?_)
  have hP : va_P D vwCl [(h, .inr (3, [.ref tk, .ref lo, .ref ca, .ref cp, .ref pg, .int 0, .int 0, .int 0, .int pl, .int le, .int 0, .int fp])), tT tk q (nI 3) (nI 1001) (nI 1), tA g q 3003 f] H := hP
  have hD : va_D A [(h, .inr (3, [.ref tk, .ref lo, .ref ca, .ref cp, .ref pg, .int 0, .int 0, .int 0, .int pl, .int le, .int 0, .int fp])), tT tk q (nI 3) (nI 1001) (nI 1), tA g q 3003 f] := hD
  refine lv_aload_n hx hb dX3_advance_55 rfl (lv_at hl 0 rfl) ?_
  refine lv_aload_n hx hb dX3_advance_56 rfl (lv_at hl 0 rfl) ?_
  refine va_get (D := D) (ci := 3) (v := .ref tk) (C := RX3) (T := TX3) (N := 12) hx hb hts inlX3 hown hK hP 0 rfl rfl 0 (by decide) (hts _ q96) (fun _ h => h) rfl dX3_advance_57 ?_
  refine lv_aload_n hx hb dX3_advance_60 rfl (lv_at hl 0 rfl) ?_
  refine va_get (D := D) (ci := 3) (v := .int 0) (C := RX3) (T := TX3) (N := 12) hx hb hts inlX3 hown hK hP 0 rfl rfl 5 (by decide) (hts _ q451) (fun _ h => h) rfl dX3_advance_61 ?_
  refine lv_iconst (v := 2) hx hb dX3_advance_64 (by decide) ?_
  refine vz_Vi (wr := [(h, .inr (3, [.ref tk, .ref lo, .ref ca, .ref cp, .ref pg, .int 0, .int 0, .int 0, .int pl, .int le, .int 0, .int fp]))]) (As := [.int 0, .int 2]) (rest := [.ref h]) hx hb hml hown hts hK hA hP hD hS (c_T_get l D g tk q H.size 3 1001 1 3003 f 0 2 (by decide +kernel)) kv_X3_92 (⟨Nat.le_of_ble_eq_true rfl, Nat.le_of_ble_eq_true rfl⟩) (q0 := 1) (ci := 6) rfl rfl rfl [1, 2] [0] rfl rfl (by decide) hl.1 (Nat.le_of_ble_eq_true rfl) dX3_advance_65 (⟨Nat.le_of_ble_eq_true rfl, Nat.le_of_ble_eq_true rfl⟩) rfl (fun r5 _ H locs e6 _ hP hD hS => ?_)
  replace e6 := e6.trans ((tg_c 2 (by decide) (by decide)).trans hf2)
  subst e6
  have hP : va_P D vwCl [(h, .inr (3, [.ref tk, .ref lo, .ref ca, .ref cp, .ref pg, .int 0, .int 0, .int 0, .int pl, .int le, .int 0, .int fp])), tT tk q (nI 3) (nI 1001) (nI 1), tA g q 3003 f] H := hP
  have hD : va_D A [(h, .inr (3, [.ref tk, .ref lo, .ref ca, .ref cp, .ref pg, .int 0, .int 0, .int 0, .int pl, .int le, .int 0, .int fp])), tT tk q (nI 3) (nI 1001) (nI 1), tA g q 3003 f] := hD
  refine va_put (D := D) (ci := 3) (v := .int 0) (ty := .int) (C := RX3) (T := TX3) (N := 12) hx hb hts inlX3 tyX3 tyX3_ok nmX3 hown hK hP hD hS 0 rfl rfl 8 (by decide) (hts _ q465) (fun _ h => h) rfl (by decide +kernel) rfl rfl (Nat.le_of_ble_eq_true rfl) dX3_advance_68 (fun H locs hP hD hS => ?_)
  have hP : va_P D vwCl [(h, .inr (3, [.ref tk, .ref lo, .ref ca, .ref cp, .ref pg, .int 0, .int 0, .int 0, .int 0, .int le, .int 0, .int fp])), tT tk q (nI 3) (nI 1001) (nI 1), tA g q 3003 f] H := hP
  have hD : va_D A [(h, .inr (3, [.ref tk, .ref lo, .ref ca, .ref cp, .ref pg, .int 0, .int 0, .int 0, .int 0, .int le, .int 0, .int fp])), tT tk q (nI 3) (nI 1001) (nI 1), tA g q 3003 f] := hD
  exact vz_vret hx hb hr hlk hK hP hD hS (()) (trivial) [0, 1, 2] rfl (by decide) (Nat.le_refl 0) (Nat.le_refl 0) dX3_advance_71
theorem dX3_readStatements_0 : decode cX3_readStatements 0 = .ok (.bipush (-9), 2) := by decide +kernel
theorem dX3_readStatements_2 : decode cX3_readStatements 2 = .ok (.istore_n 3, 1) := by decide +kernel
theorem dX3_readStatements_3 : decode cX3_readStatements 3 = .ok (.bipush (-9), 2) := by decide +kernel
theorem dX3_readStatements_5 : decode cX3_readStatements 5 = .ok (.istore 4, 2) := by decide +kernel
theorem dX3_readStatements_7 : decode cX3_readStatements 7 = .ok (.iconst 0, 1) := by decide +kernel
theorem dX3_readStatements_8 : decode cX3_readStatements 8 = .ok (.istore 5, 2) := by decide +kernel
theorem dX3_readStatements_10 : decode cX3_readStatements 10 = .ok (.iload 5, 2) := by decide +kernel
theorem dX3_readStatements_12 : decode cX3_readStatements 12 = .ok (.bipush 80, 2) := by decide +kernel
theorem dX3_readStatements_14 : decode cX3_readStatements 14 = .ok (.if_icmp .gt 64, 3) := by decide +kernel
theorem dX3_readStatements_17 : decode cX3_readStatements 17 = .ok (.aload_n 0, 1) := by decide +kernel
theorem dX3_readStatements_18 : decode cX3_readStatements 18 = .ok (.getfield 74, 3) := by decide +kernel
theorem dX3_readStatements_21 : decode cX3_readStatements 21 = .ok (.ifCond .ne 57, 3) := by decide +kernel
theorem dX3_readStatements_78 : decode cX3_readStatements 78 = .ok (.iload_n 3, 1) := by decide +kernel
theorem dX3_readStatements_79 : decode cX3_readStatements 79 = .ok (.ireturn, 1) := by decide +kernel
set_option maxHeartbeats 4000000 in
set_option maxRecDepth 100000 in
theorem c_R_readStatements1 (l : Launch) (D : va_G) (g : Nat → ClassId) (h tk lo ca cp pg sz : Nat) (a_t to va pl le fp n k : Int32)  : vz_Mi l D (tyG g) yX3_readStatements cX3_readStatements 7 0 0 0 0 .int [.ref h, .int n, .int k] sz [(h, .inr (3, [.ref tk, .ref lo, .ref ca, .ref cp, .ref pg, .int a_t, .int to, .int va, .int pl, .int le, .int 1, .int fp]))] (fun r (u : Unit) => r = -9) (fun u => [(h, .inr (3, [.ref tk, .ref lo, .ref ca, .ref cp, .ref pg, .int a_t, .int to, .int va, .int pl, .int le, .int 1, .int fp]))]) := by
  refine vz_si (by decide) (Nat.le_of_ble_eq_true rfl) (fun p e s m args below meth c hx hb hr hml hts hown hlk hin hK hsz A hA H locs hP hD hS ls hl => ?_)
  have hl : lv_has ls 7 [(0, .ref h), (1, .int n), (2, .int k)] := hl
  refine lv_bipush (v := (-9)) hx hb dX3_readStatements_0 (by decide) ?_
  refine lv_istore_n (lv' := [(3, .int (-9)), (0, .ref h), (1, .int n), (2, .int k)]) hx hb dX3_readStatements_2 rfl hl (by decide) rfl (fun ls hl => ?_)
  refine lv_bipush (v := (-9)) hx hb dX3_readStatements_3 (by decide) ?_
  refine lv_istore (lv' := [(4, .int (-9)), (3, .int (-9)), (0, .ref h), (1, .int n), (2, .int k)]) hx hb dX3_readStatements_5 hl (by decide) rfl (fun ls hl => ?_)
  refine lv_iconst (v := 0) hx hb dX3_readStatements_7 (by decide) ?_
  refine lv_istore (lv' := [(5, .int 0), (4, .int (-9)), (3, .int (-9)), (0, .ref h), (1, .int n), (2, .int k)]) hx hb dX3_readStatements_8 hl (by decide) rfl (fun ls hl => ?_)
  refine lv_iload hx hb dX3_readStatements_10 (lv_at hl 0 rfl) ?_
  refine lv_bipush (v := 80) hx hb dX3_readStatements_12 (by decide) ?_
  refine lv_icmp_gt (tgt := 78) hx hb dX3_readStatements_14 (by decide) (fun h9 => absurd h9 (by decide)) (fun _ => ?_)
  refine lv_aload_n hx hb dX3_readStatements_17 rfl (lv_at hl 3 rfl) ?_
  refine va_get (D := D) (ci := 3) (v := .int 1) (C := RX3) (T := TX3) (N := 12) hx hb hts inlX3 hown hK hP 0 rfl rfl 10 (by decide) (hts _ q445) (fun _ h => h) rfl dX3_readStatements_18 ?_
  refine lv_if_ne (tgt := 78) hx hb dX3_readStatements_21 (by decide) (fun _ => ?_) (fun h9 => absurd h9 (by decide))
  refine lv_iload_n hx hb dX3_readStatements_78 rfl (lv_at hl 2 rfl) ?_
  exact vz_iret hx hb hr hlk hK hP hD hS (()) (rfl) [0] rfl (by decide) (Nat.le_refl 0) (Nat.le_refl 0) dX3_readStatements_79
theorem q500 : Cond.fieldLink RX3 117 "WaysAtlas$Program" "statements" "LWaysAtlas$Table;" ∈ wsL_law := mT_1 (List.mem_of_getElem? (i := 85) rfl) rfl
theorem q472 : Cond.fieldLink RX3 104 "WaysAtlas$Table" "rows" "I" ∈ wsL_law := mT_1 (List.mem_of_getElem? (i := 45) rfl) rfl
theorem dX3_checkCalls_0 : decode cX3_checkCalls 0 = .ok (.iconst 0, 1) := by decide +kernel
theorem dX3_checkCalls_1 : decode cX3_checkCalls 1 = .ok (.istore_n 1, 1) := by decide +kernel
theorem dX3_checkCalls_2 : decode cX3_checkCalls 2 = .ok (.iload_n 1, 1) := by decide +kernel
theorem dX3_checkCalls_3 : decode cX3_checkCalls 3 = .ok (.aload_n 0, 1) := by decide +kernel
theorem dX3_checkCalls_4 : decode cX3_checkCalls 4 = .ok (.getfield 15, 3) := by decide +kernel
theorem dX3_checkCalls_7 : decode cX3_checkCalls 7 = .ok (.getfield 117, 3) := by decide +kernel
theorem dX3_checkCalls_10 : decode cX3_checkCalls 10 = .ok (.getfield 104, 3) := by decide +kernel
theorem dX3_checkCalls_13 : decode cX3_checkCalls 13 = .ok (.if_icmp .ge 63, 3) := by decide +kernel
theorem dX3_checkCalls_76 : decode cX3_checkCalls 76 = .ok (.return_, 1) := by decide +kernel
set_option maxHeartbeats 4000000 in
set_option maxRecDepth 100000 in
theorem c_R_checkCalls0 (l : Launch) (D : va_G) (g : Nat → ClassId) (h tk lo ca cp pg t0 t1 t2 t3 t4 q0 sz : Nat) (a_t to va pl le fa fp : Int32)  : vz_Mv l D (tyG g) yX3_checkCalls cX3_checkCalls 2 0 0 0 0 [.ref h] sz [(h, .inr (3, [.ref tk, .ref lo, .ref ca, .ref cp, .ref pg, .int a_t, .int to, .int va, .int pl, .int le, .int fa, .int fp])), (pg, .inr (2, [.ref t0, .ref t1, .ref t2, .ref t3, .ref t4])), tT t0 q0 (nI 12) (nI 80) 0] (fun u : Unit => True) (fun u => [(h, .inr (3, [.ref tk, .ref lo, .ref ca, .ref cp, .ref pg, .int a_t, .int to, .int va, .int pl, .int le, .int fa, .int fp])), (pg, .inr (2, [.ref t0, .ref t1, .ref t2, .ref t3, .ref t4])), tT t0 q0 (nI 12) (nI 80) 0]) := by
  refine vz_sv (by decide) (Nat.le_of_ble_eq_true rfl) (fun p e s m args below meth c hx hb hr hml hts hown hlk hin hK hsz A hA H locs hP hD hS ls hl => ?_)
  have hl : lv_has ls 2 [(0, .ref h)] := hl
  refine lv_iconst (v := 0) hx hb dX3_checkCalls_0 (by decide) ?_
  refine lv_istore_n (lv' := [(1, .int 0), (0, .ref h)]) hx hb dX3_checkCalls_1 rfl hl (by decide) rfl (fun ls hl => ?_)
  refine lv_iload_n hx hb dX3_checkCalls_2 rfl (lv_at hl 0 rfl) ?_
  refine lv_aload_n hx hb dX3_checkCalls_3 rfl (lv_at hl 1 rfl) ?_
  refine va_get (D := D) (ci := 3) (v := .ref pg) (C := RX3) (T := TX3) (N := 12) hx hb hts inlX3 hown hK hP 0 rfl rfl 4 (by decide) (hts _ q97) (fun _ h => h) rfl dX3_checkCalls_4 ?_
  refine va_get (D := D) (ci := 2) (v := .ref t0) (C := RX2) (T := TX2) (N := 5) hx hb hts inlX2 hown hK hP 1 rfl rfl 0 (by decide) (hts _ q500) (fun _ h => h) rfl dX3_checkCalls_7 ?_
  refine va_get (D := D) (ci := 6) (v := .int 0) (C := RX6) (T := TX6) (N := 4) hx hb hts inlX6 hown hK hP 2 rfl rfl 3 (by decide) (hts _ q472) (fun _ h => h) rfl dX3_checkCalls_10 ?_
  refine lv_icmp_ge (tgt := 76) hx hb dX3_checkCalls_13 (by decide) (fun _ => ?_) (fun h9 => absurd (by decide) h9)
  exact vz_vret hx hb hr hlk hK hP hD hS (()) (trivial) [0, 1, 2] rfl (by decide) (Nat.le_refl 0) (Nat.le_refl 0) dX3_checkCalls_76
theorem q477 : Cond.methodLink RX3 64 yX3_expect ∈ wsL_law := mT_3 (List.mem_of_getElem? (i := 150) rfl) rfl
theorem q478 : Cond.instanceMethod yX3_expect ∈ wsL_law := mT_3 (List.mem_of_getElem? (i := 152) rfl) rfl
theorem q479 : Cond.selects RX3 yX3_expect yX3_expect ∈ wsL_law := mS_1 (q := (yX3_expect, 12)) (List.mem_of_getElem? (i := 8) rfl) rfl
theorem q480 : Cond.code yX3_expect cX3_expect 2 none ∈ wsL_law := mT_3 (List.mem_of_getElem? (i := 153) rfl) rfl
theorem kv_X3_64 : vz_cv RX3 64 yX3_expect cX3_expect 2 none 1 := ⟨q477, q478, q479, q28, q480, by decide +kernel⟩
theorem q495 : Cond.methodLink RX3 116 yX6_reset ∈ wsL_law := mT_3 (List.mem_of_getElem? (i := 168) rfl) rfl
theorem kv_X3_116 : vz_cv RX3 116 yX6_reset cX6_reset 1 none 0 := ⟨q495, q290, q291, q15, q292, by decide +kernel⟩
theorem q444 : Cond.fieldLink RX3 51 "WaysAtlas$Program" "methods" "LWaysAtlas$Table;" ∈ wsL_law := mT_1 (List.mem_of_getElem? (i := 101) rfl) rfl
theorem q489 : Cond.methodLink RX3 110 yX6_add ∈ wsL_law := mT_3 (List.mem_of_getElem? (i := 162) rfl) rfl
theorem kv_X3_110 : vz_cv RX3 110 yX6_add cX6_add 2 (some .int) 0 := ⟨q489, q261, q262, q15, q263, by decide +kernel⟩
theorem dX3_beginMethod_0 : decode cX3_beginMethod 0 = .ok (.aload_n 0, 1) := by decide +kernel
theorem dX3_beginMethod_1 : decode cX3_beginMethod 1 = .ok (.getfield 41, 3) := by decide +kernel
theorem dX3_beginMethod_4 : decode cX3_beginMethod 4 = .ok (.sipush 130, 3) := by decide +kernel
theorem dX3_beginMethod_7 : decode cX3_beginMethod 7 = .ok (.if_icmp .ne 23, 3) := by decide +kernel
theorem dX3_beginMethod_30 : decode cX3_beginMethod 30 = .ok (.aload_n 0, 1) := by decide +kernel
theorem dX3_beginMethod_31 : decode cX3_beginMethod 31 = .ok (.sipush 130, 3) := by decide +kernel
theorem dX3_beginMethod_34 : decode cX3_beginMethod 34 = .ok (.invokevirtual 64, 3) := by decide +kernel
theorem dX3_beginMethod_37 : decode cX3_beginMethod 37 = .ok (.aload_n 0, 1) := by decide +kernel
theorem dX3_beginMethod_38 : decode cX3_beginMethod 38 = .ok (.bipush 123, 2) := by decide +kernel
theorem dX3_beginMethod_40 : decode cX3_beginMethod 40 = .ok (.invokevirtual 64, 3) := by decide +kernel
theorem dX3_beginMethod_43 : decode cX3_beginMethod 43 = .ok (.aload_n 0, 1) := by decide +kernel
theorem dX3_beginMethod_44 : decode cX3_beginMethod 44 = .ok (.getfield 24, 3) := by decide +kernel
theorem dX3_beginMethod_47 : decode cX3_beginMethod 47 = .ok (.invokevirtual 116, 3) := by decide +kernel
theorem dX3_beginMethod_50 : decode cX3_beginMethod 50 = .ok (.aload_n 0, 1) := by decide +kernel
theorem dX3_beginMethod_51 : decode cX3_beginMethod 51 = .ok (.getfield 27, 3) := by decide +kernel
theorem dX3_beginMethod_54 : decode cX3_beginMethod 54 = .ok (.invokevirtual 116, 3) := by decide +kernel
theorem dX3_beginMethod_57 : decode cX3_beginMethod 57 = .ok (.aload_n 0, 1) := by decide +kernel
theorem dX3_beginMethod_58 : decode cX3_beginMethod 58 = .ok (.getfield 15, 3) := by decide +kernel
theorem dX3_beginMethod_61 : decode cX3_beginMethod 61 = .ok (.getfield 51, 3) := by decide +kernel
theorem dX3_beginMethod_64 : decode cX3_beginMethod 64 = .ok (.invokevirtual 110, 3) := by decide +kernel
theorem dX3_beginMethod_67 : decode cX3_beginMethod 67 = .ok (.ireturn, 1) := by decide +kernel
set_option maxHeartbeats 4000000 in
set_option maxRecDepth 100000 in
theorem c_R_beginMethod0 (l : Launch) (D : va_G) (g : Nat → ClassId) (h tk lo ca cp pg t0 t1 t2 t3 t4 q4 ql qc sz : Nat) (a_t va le fp r1 r2 : Int32) (f : Nat → Int32)  : vz_Mi l D (tyG g) yX3_beginMethod cX3_beginMethod 1 2 42 0 0 .int [.ref h] sz [(h, .inr (3, [.ref tk, .ref lo, .ref ca, .ref cp, .ref pg, .int a_t, .int 0, .int va, .int 0, .int le, .int 0, .int fp])), tT lo ql (nI 1) (nI 6) r1, tT ca qc (nI 1) (nI 6) r2, (pg, .inr (2, [.ref t0, .ref t1, .ref t2, .ref t3, .ref t4])), tT t4 q4 (nI 2) (nI 8) 0, tA g q4 16 f] (fun r (u : Nat → Int32) => r = nI 0) (fun u => [(h, .inr (3, [.ref tk, .ref lo, .ref ca, .ref cp, .ref pg, .int a_t, .int 1, .int va, .int 0, .int le, .int 1, .int 0])), tT lo ql (nI 1) (nI 6) 0, tT ca qc (nI 1) (nI 6) 0, (pg, .inr (2, [.ref t0, .ref t1, .ref t2, .ref t3, .ref t4])), tT t4 q4 (nI 2) (nI 8) (nI 1), tA g q4 16 u]) := by
  refine vz_si (by decide) (Nat.le_of_ble_eq_true rfl) (fun p e s m args below meth c hx hb hr hml hts hown hlk hin hK hsz A hA H locs hP hD hS ls hl => ?_)
  have hl : lv_has ls 1 [(0, .ref h)] := hl
  refine lv_aload_n hx hb dX3_beginMethod_0 rfl (lv_at hl 0 rfl) ?_
  refine va_get (D := D) (ci := 3) (v := .int 0) (C := RX3) (T := TX3) (N := 12) hx hb hts inlX3 hown hK hP 0 rfl rfl 6 (by decide) (hts _ q443) (fun _ h => h) rfl dX3_beginMethod_1 ?_
  refine lv_sipush (v := 130) hx hb dX3_beginMethod_4 (by decide) ?_
  refine lv_icmp_ne (tgt := 30) hx hb dX3_beginMethod_7 (by decide) (fun _ => ?_) (fun h9 => absurd h9 (by decide))
  refine lv_aload_n hx hb dX3_beginMethod_30 rfl (lv_at hl 0 rfl) ?_
  refine lv_sipush (v := 130) hx hb dX3_beginMethod_31 (by decide) ?_
  refine vz_Vv (wr := [tT lo ql (nI 1) (nI 6) r1, tT ca qc (nI 1) (nI 6) r2, (pg, .inr (2, [.ref t0, .ref t1, .ref t2, .ref t3, .ref t4])), tT t4 q4 (nI 2) (nI 8) 0, tA g q4 16 f]) (As := [.int 130]) (rest := []) hx hb hml hown hts hK hA hP hD hS (c_R_expect0 l D g h tk lo ca cp pg H.size a_t 0 va le fp 130 (by decide)) kv_X3_64 (⟨Nat.le_of_ble_eq_true rfl, Nat.le_of_ble_eq_true rfl⟩) (q0 := 0) (ci := 3) rfl rfl rfl [0] [1, 2, 3, 4, 5] rfl rfl (by decide) hl.1 (Nat.le_of_ble_eq_true rfl) dX3_beginMethod_34 (⟨Nat.le_of_ble_eq_true rfl, Nat.le_of_ble_eq_true rfl⟩) rfl (fun _ H locs _ _ hP hD hS => ?_)
  have hP : va_P D vwCl [tT lo ql (nI 1) (nI 6) r1, tT ca qc (nI 1) (nI 6) r2, (pg, .inr (2, [.ref t0, .ref t1, .ref t2, .ref t3, .ref t4])), tT t4 q4 (nI 2) (nI 8) 0, tA g q4 16 f, (h, .inr (3, [.ref tk, .ref lo, .ref ca, .ref cp, .ref pg, .int a_t, .int 1, .int va, .int 0, .int le, .int 1, .int 0]))] H := hP
  have hD : va_D A [tT lo ql (nI 1) (nI 6) r1, tT ca qc (nI 1) (nI 6) r2, (pg, .inr (2, [.ref t0, .ref t1, .ref t2, .ref t3, .ref t4])), tT t4 q4 (nI 2) (nI 8) 0, tA g q4 16 f, (h, .inr (3, [.ref tk, .ref lo, .ref ca, .ref cp, .ref pg, .int a_t, .int 1, .int va, .int 0, .int le, .int 1, .int 0]))] := hD
  refine lv_aload_n hx hb dX3_beginMethod_37 rfl (lv_at hl 0 rfl) ?_
  refine lv_bipush (v := 123) hx hb dX3_beginMethod_38 (by decide) ?_
  refine vz_Vv (wr := [tT lo ql (nI 1) (nI 6) r1, tT ca qc (nI 1) (nI 6) r2, (pg, .inr (2, [.ref t0, .ref t1, .ref t2, .ref t3, .ref t4])), tT t4 q4 (nI 2) (nI 8) 0, tA g q4 16 f]) (As := [.int 123]) (rest := []) hx hb hml hown hts hK hA hP hD hS (c_R_expect1 l D g h tk lo ca cp pg H.size a_t 1 va le 0 123 (by decide)) kv_X3_64 (⟨Nat.le_of_ble_eq_true rfl, Nat.le_of_ble_eq_true rfl⟩) (q0 := 5) (ci := 3) rfl rfl rfl [5] [0, 1, 2, 3, 4] rfl rfl (by decide) hl.1 (Nat.le_of_ble_eq_true rfl) dX3_beginMethod_40 (⟨Nat.le_of_ble_eq_true rfl, Nat.le_of_ble_eq_true rfl⟩) rfl (fun _ H locs _ _ hP hD hS => ?_)
  have hP : va_P D vwCl [tT lo ql (nI 1) (nI 6) r1, tT ca qc (nI 1) (nI 6) r2, (pg, .inr (2, [.ref t0, .ref t1, .ref t2, .ref t3, .ref t4])), tT t4 q4 (nI 2) (nI 8) 0, tA g q4 16 f, (h, .inr (3, [.ref tk, .ref lo, .ref ca, .ref cp, .ref pg, .int a_t, .int 1, .int va, .int 0, .int le, .int 1, .int 0]))] H := hP
  have hD : va_D A [tT lo ql (nI 1) (nI 6) r1, tT ca qc (nI 1) (nI 6) r2, (pg, .inr (2, [.ref t0, .ref t1, .ref t2, .ref t3, .ref t4])), tT t4 q4 (nI 2) (nI 8) 0, tA g q4 16 f, (h, .inr (3, [.ref tk, .ref lo, .ref ca, .ref cp, .ref pg, .int a_t, .int 1, .int va, .int 0, .int le, .int 1, .int 0]))] := hD
  refine lv_aload_n hx hb dX3_beginMethod_43 rfl (lv_at hl 0 rfl) ?_
  refine va_get (D := D) (ci := 3) (v := .ref lo) (C := RX3) (T := TX3) (N := 12) hx hb hts inlX3 hown hK hP 5 rfl rfl 1 (by decide) (hts _ q99) (fun _ h => h) rfl dX3_beginMethod_44 ?_
  refine vz_Vv (wr := [tT ca qc (nI 1) (nI 6) r2, (pg, .inr (2, [.ref t0, .ref t1, .ref t2, .ref t3, .ref t4])), tT t4 q4 (nI 2) (nI 8) 0, tA g q4 16 f, (h, .inr (3, [.ref tk, .ref lo, .ref ca, .ref cp, .ref pg, .int a_t, .int 1, .int va, .int 0, .int le, .int 1, .int 0]))]) (As := []) (rest := []) hx hb hml hown hts hK hA hP hD hS (c_T_reset l D g lo ql H.size (nI 1) (nI 6) r1) kv_X3_116 (⟨Nat.le_of_ble_eq_true rfl, Nat.le_of_ble_eq_true rfl⟩) (q0 := 0) (ci := 6) rfl rfl rfl [0] [1, 2, 3, 4, 5] rfl rfl (by decide) hl.1 (Nat.le_of_ble_eq_true rfl) dX3_beginMethod_47 (⟨Nat.le_of_ble_eq_true rfl, Nat.le_of_ble_eq_true rfl⟩) rfl (fun _ H locs _ _ hP hD hS => ?_)
  have hP : va_P D vwCl [tT ca qc (nI 1) (nI 6) r2, (pg, .inr (2, [.ref t0, .ref t1, .ref t2, .ref t3, .ref t4])), tT t4 q4 (nI 2) (nI 8) 0, tA g q4 16 f, (h, .inr (3, [.ref tk, .ref lo, .ref ca, .ref cp, .ref pg, .int a_t, .int 1, .int va, .int 0, .int le, .int 1, .int 0])), tT lo ql (nI 1) (nI 6) 0] H := hP
  have hD : va_D A [tT ca qc (nI 1) (nI 6) r2, (pg, .inr (2, [.ref t0, .ref t1, .ref t2, .ref t3, .ref t4])), tT t4 q4 (nI 2) (nI 8) 0, tA g q4 16 f, (h, .inr (3, [.ref tk, .ref lo, .ref ca, .ref cp, .ref pg, .int a_t, .int 1, .int va, .int 0, .int le, .int 1, .int 0])), tT lo ql (nI 1) (nI 6) 0] := hD
  refine lv_aload_n hx hb dX3_beginMethod_50 rfl (lv_at hl 0 rfl) ?_
  refine va_get (D := D) (ci := 3) (v := .ref ca) (C := RX3) (T := TX3) (N := 12) hx hb hts inlX3 hown hK hP 4 rfl rfl 2 (by decide) (hts _ q100) (fun _ h => h) rfl dX3_beginMethod_51 ?_
  refine vz_Vv (wr := [(pg, .inr (2, [.ref t0, .ref t1, .ref t2, .ref t3, .ref t4])), tT t4 q4 (nI 2) (nI 8) 0, tA g q4 16 f, (h, .inr (3, [.ref tk, .ref lo, .ref ca, .ref cp, .ref pg, .int a_t, .int 1, .int va, .int 0, .int le, .int 1, .int 0])), tT lo ql (nI 1) (nI 6) 0]) (As := []) (rest := []) hx hb hml hown hts hK hA hP hD hS (c_T_reset l D g ca qc H.size (nI 1) (nI 6) r2) kv_X3_116 (⟨Nat.le_of_ble_eq_true rfl, Nat.le_of_ble_eq_true rfl⟩) (q0 := 0) (ci := 6) rfl rfl rfl [0] [1, 2, 3, 4, 5] rfl rfl (by decide) hl.1 (Nat.le_of_ble_eq_true rfl) dX3_beginMethod_54 (⟨Nat.le_of_ble_eq_true rfl, Nat.le_of_ble_eq_true rfl⟩) rfl (fun _ H locs _ _ hP hD hS => ?_)
  have hP : va_P D vwCl [(pg, .inr (2, [.ref t0, .ref t1, .ref t2, .ref t3, .ref t4])), tT t4 q4 (nI 2) (nI 8) 0, tA g q4 16 f, (h, .inr (3, [.ref tk, .ref lo, .ref ca, .ref cp, .ref pg, .int a_t, .int 1, .int va, .int 0, .int le, .int 1, .int 0])), tT lo ql (nI 1) (nI 6) 0, tT ca qc (nI 1) (nI 6) 0] H := hP
  have hD : va_D A [(pg, .inr (2, [.ref t0, .ref t1, .ref t2, .ref t3, .ref t4])), tT t4 q4 (nI 2) (nI 8) 0, tA g q4 16 f, (h, .inr (3, [.ref tk, .ref lo, .ref ca, .ref cp, .ref pg, .int a_t, .int 1, .int va, .int 0, .int le, .int 1, .int 0])), tT lo ql (nI 1) (nI 6) 0, tT ca qc (nI 1) (nI 6) 0] := hD
  refine lv_aload_n hx hb dX3_beginMethod_57 rfl (lv_at hl 0 rfl) ?_
  refine va_get (D := D) (ci := 3) (v := .ref pg) (C := RX3) (T := TX3) (N := 12) hx hb hts inlX3 hown hK hP 3 rfl rfl 4 (by decide) (hts _ q97) (fun _ h => h) rfl dX3_beginMethod_58 ?_
  refine va_get (D := D) (ci := 2) (v := .ref t4) (C := RX2) (T := TX2) (N := 5) hx hb hts inlX2 hown hK hP 0 rfl rfl 4 (by decide) (hts _ q444) (fun _ h => h) rfl dX3_beginMethod_61 ?_
  refine vz_Vi (wr := [(pg, .inr (2, [.ref t0, .ref t1, .ref t2, .ref t3, .ref t4])), (h, .inr (3, [.ref tk, .ref lo, .ref ca, .ref cp, .ref pg, .int a_t, .int 1, .int va, .int 0, .int le, .int 1, .int 0])), tT lo ql (nI 1) (nI 6) 0, tT ca qc (nI 1) (nI 6) 0]) (As := []) (rest := []) hx hb hml hown hts hK hA hP hD hS (c_T_add l D g t4 q4 H.size 2 8 0 16 f (by decide +kernel)) kv_X3_110 (⟨Nat.le_of_ble_eq_true rfl, Nat.le_of_ble_eq_true rfl⟩) (q0 := 1) (ci := 6) rfl rfl rfl [1, 2] [0, 3, 4, 5] rfl rfl (by decide) hl.1 (Nat.le_of_ble_eq_true rfl) dX3_beginMethod_64 (⟨Nat.le_of_ble_eq_true rfl, Nat.le_of_ble_eq_true rfl⟩) rfl (fun r1 ⟨u2R, u2f⟩ H locs e3 _ hP hD hS => ?_)
  obtain ⟨-, e31, e32, e33⟩ | ⟨h9, -⟩ := e3
  case inr => exact absurd h9 (by decide)
  dsimp only at e32 e33 hP hD
  subst e31 e32 e33
  have hP : va_P D vwCl [(pg, .inr (2, [.ref t0, .ref t1, .ref t2, .ref t3, .ref t4])), (h, .inr (3, [.ref tk, .ref lo, .ref ca, .ref cp, .ref pg, .int a_t, .int 1, .int va, .int 0, .int le, .int 1, .int 0])), tT lo ql (nI 1) (nI 6) 0, tT ca qc (nI 1) (nI 6) 0, tT t4 q4 (nI 2) (nI 8) (nI 1), tA g q4 16 (tf f (0 * 2) ((0 + 1) * 2) (-9))] H := hP
  have hD : va_D A [(pg, .inr (2, [.ref t0, .ref t1, .ref t2, .ref t3, .ref t4])), (h, .inr (3, [.ref tk, .ref lo, .ref ca, .ref cp, .ref pg, .int a_t, .int 1, .int va, .int 0, .int le, .int 1, .int 0])), tT lo ql (nI 1) (nI 6) 0, tT ca qc (nI 1) (nI 6) 0, tT t4 q4 (nI 2) (nI 8) (nI 1), tA g q4 16 (tf f (0 * 2) ((0 + 1) * 2) (-9))] := hD
  exact vz_iret hx hb hr hlk hK hP hD hS ((tf f (0 * 2) ((0 + 1) * 2) (-9))) (rfl) [1, 2, 3, 0, 4, 5] rfl (by decide) (Nat.le_refl 0) (Nat.le_refl 0) dX3_beginMethod_67
theorem q452 : Cond.methodLink RX3 80 yX2_reset ∈ wsL_law := mT_3 (List.mem_of_getElem? (i := 129) rfl) rfl
theorem q453 : Cond.instanceMethod yX2_reset ∈ wsL_law := mT_3 (List.mem_of_getElem? (i := 130) rfl) rfl
theorem q454 : Cond.selects RX2 yX2_reset yX2_reset ∈ wsL_law := mT_3 (List.mem_of_getElem? (i := 131) rfl) rfl
theorem q23 : Cond.initialized RX2 ∈ wsL_law := mT_1 (List.mem_of_getElem? (i := 5) rfl) rfl
theorem q455 : Cond.code yX2_reset cX2_reset 3 none ∈ wsL_law := mT_3 (List.mem_of_getElem? (i := 132) rfl) rfl
theorem kv_X3_80 : vz_cv RX3 80 yX2_reset cX2_reset 3 none 0 := ⟨q452, q453, q454, q23, q455, by decide +kernel⟩
theorem q459 : Cond.methodLink RX3 83 yX6_fill ∈ wsL_law := mT_3 (List.mem_of_getElem? (i := 136) rfl) rfl
theorem kv_X3_83 : vz_cv RX3 83 yX6_fill cX6_fill 4 none 2 := ⟨q459, q142, q143, q15, q144, by decide +kernel⟩
theorem q460 : Cond.methodLink RX3 89 yX3_advance ∈ wsL_law := mT_3 (List.mem_of_getElem? (i := 137) rfl) rfl
theorem q461 : Cond.instanceMethod yX3_advance ∈ wsL_law := mT_3 (List.mem_of_getElem? (i := 139) rfl) rfl
theorem q462 : Cond.selects RX3 yX3_advance yX3_advance ∈ wsL_law := mS_1 (q := (yX3_advance, 12)) (List.mem_of_getElem? (i := 5) rfl) rfl
theorem q463 : Cond.code yX3_advance cX3_advance 1 none ∈ wsL_law := mT_3 (List.mem_of_getElem? (i := 140) rfl) rfl
theorem kv_X3_89 : vz_cv RX3 89 yX3_advance cX3_advance 1 none 0 := ⟨q460, q461, q462, q28, q463, by decide +kernel⟩
theorem dX3_start_0 : decode cX3_start 0 = .ok (.aload_n 0, 1) := by decide +kernel
theorem dX3_start_1 : decode cX3_start 1 = .ok (.aload_n 1, 1) := by decide +kernel
theorem dX3_start_2 : decode cX3_start 2 = .ok (.putfield 15, 3) := by decide +kernel
theorem dX3_start_5 : decode cX3_start 5 = .ok (.aload_n 0, 1) := by decide +kernel
theorem dX3_start_6 : decode cX3_start 6 = .ok (.getfield 15, 3) := by decide +kernel
theorem dX3_start_9 : decode cX3_start 9 = .ok (.invokevirtual 80, 3) := by decide +kernel
theorem dX3_start_12 : decode cX3_start 12 = .ok (.aload_n 0, 1) := by decide +kernel
theorem dX3_start_13 : decode cX3_start 13 = .ok (.getfield 30, 3) := by decide +kernel
theorem dX3_start_16 : decode cX3_start 16 = .ok (.bipush 80, 2) := by decide +kernel
theorem dX3_start_18 : decode cX3_start 18 = .ok (.bipush (-9), 2) := by decide +kernel
theorem dX3_start_20 : decode cX3_start 20 = .ok (.invokevirtual 83, 3) := by decide +kernel
theorem dX3_start_23 : decode cX3_start 23 = .ok (.aload_n 0, 1) := by decide +kernel
theorem dX3_start_24 : decode cX3_start 24 = .ok (.iconst 0, 1) := by decide +kernel
theorem dX3_start_25 : decode cX3_start 25 = .ok (.putfield 74, 3) := by decide +kernel
theorem dX3_start_28 : decode cX3_start 28 = .ok (.aload_n 0, 1) := by decide +kernel
theorem dX3_start_29 : decode cX3_start 29 = .ok (.iconst 0, 1) := by decide +kernel
theorem dX3_start_30 : decode cX3_start 30 = .ok (.putfield 77, 3) := by decide +kernel
theorem dX3_start_33 : decode cX3_start 33 = .ok (.aload_n 0, 1) := by decide +kernel
theorem dX3_start_34 : decode cX3_start 34 = .ok (.bipush (-9), 2) := by decide +kernel
theorem dX3_start_36 : decode cX3_start 36 = .ok (.putfield 33, 3) := by decide +kernel
theorem dX3_start_39 : decode cX3_start 39 = .ok (.aload_n 0, 1) := by decide +kernel
theorem dX3_start_40 : decode cX3_start 40 = .ok (.iconst (-1), 1) := by decide +kernel
theorem dX3_start_41 : decode cX3_start 41 = .ok (.putfield 86, 3) := by decide +kernel
theorem dX3_start_44 : decode cX3_start 44 = .ok (.aload_n 0, 1) := by decide +kernel
theorem dX3_start_45 : decode cX3_start 45 = .ok (.invokevirtual 89, 3) := by decide +kernel
theorem dX3_start_48 : decode cX3_start 48 = .ok (.return_, 1) := by decide +kernel
set_option maxHeartbeats 4000000 in
set_option maxRecDepth 100000 in
theorem c_R_start0 (l : Launch) (D : va_G) (g : Nat → ClassId) (h tk lo ca cp pg p9 q qp t0 t1 t2 t3 t4 q0 q1 q2 q3 q4 sz : Nat) (a_t to va pl le fa fp : Int32) (f fc fk : Nat → Int32) (hf0 : f 0 = 0) (hf1 : f 1 = 0) (hf2 : f 2 = 0) : vz_Mv l D (tyG g) yX3_start cX3_start 2 3 60 0 0 [.ref h, .ref pg] sz [(h, .inr (3, [.ref tk, .ref lo, .ref ca, .ref cp, .ref p9, .int a_t, .int to, .int va, .int pl, .int le, .int fa, .int fp])), tT tk q (nI 3) (nI 1001) (nI 1), tA g q 3003 f, tT cp qp (nI 1) (nI 80) 0, tA g qp 80 fc, (pg, .inr (2, [.ref t0, .ref t1, .ref t2, .ref t3, .ref t4])), tT t0 q0 (nI 12) (nI 80) 0, tT t1 q1 (nI 5) (nI 1000) 0, tT t2 q2 (nI 5) (nI 112) 0, tT t3 q3 (nI 1) (nI 16) 0, tT t4 q4 (nI 2) (nI 8) 0, tA g q3 16 fk] (fun u : Nat → Nat → Int32 => True) (fun u => [(h, .inr (3, [.ref tk, .ref lo, .ref ca, .ref cp, .ref pg, .int 0, .int 0, .int 0, .int 0, .int (-9), .int 0, .int 0])), tT tk q (nI 3) (nI 1001) (nI 1), tA g q 3003 f, tT cp qp (nI 1) (nI 80) (nI 80), tA g qp 80 (u 0), (pg, .inr (2, [.ref t0, .ref t1, .ref t2, .ref t3, .ref t4])), tT t0 q0 (nI 12) (nI 80) 0, tT t1 q1 (nI 5) (nI 1000) 0, tT t2 q2 (nI 5) (nI 112) 0, tT t3 q3 (nI 1) (nI 16) (nI 7), tT t4 q4 (nI 2) (nI 8) 0, tA g q3 16 (u 1)]) := by
  refine vz_sv (by decide) (Nat.le_of_ble_eq_true rfl) (fun p e s m args below meth c hx hb hr hml hts hown hlk hin hK hsz A hA H locs hP hD hS ls hl => ?_)
  have hl : lv_has ls 2 [(0, .ref h), (1, .ref pg)] := hl
  refine lv_aload_n hx hb dX3_start_0 rfl (lv_at hl 0 rfl) ?_
  refine lv_aload_n hx hb dX3_start_1 rfl (lv_at hl 1 rfl) ?_
  refine va_put (D := D) (ci := 3) (v := .ref pg) (ty := .object "WaysAtlas$Program") (C := RX3) (T := TX3) (N := 12) hx hb hts inlX3 tyX3 tyX3_ok nmX3 hown hK hP hD hS 0 rfl rfl 4 (by decide) (hts _ q97) (fun _ h => h) rfl (by decide +kernel) rfl rfl (Nat.le_of_ble_eq_true rfl) dX3_start_2 (fun H locs hP hD hS => ?_)
  have hP : va_P D vwCl [(h, .inr (3, [.ref tk, .ref lo, .ref ca, .ref cp, .ref pg, .int a_t, .int to, .int va, .int pl, .int le, .int fa, .int fp])), tT tk q (nI 3) (nI 1001) (nI 1), tA g q 3003 f, tT cp qp (nI 1) (nI 80) 0, tA g qp 80 fc, (pg, .inr (2, [.ref t0, .ref t1, .ref t2, .ref t3, .ref t4])), tT t0 q0 (nI 12) (nI 80) 0, tT t1 q1 (nI 5) (nI 1000) 0, tT t2 q2 (nI 5) (nI 112) 0, tT t3 q3 (nI 1) (nI 16) 0, tT t4 q4 (nI 2) (nI 8) 0, tA g q3 16 fk] H := hP
  have hD : va_D A [(h, .inr (3, [.ref tk, .ref lo, .ref ca, .ref cp, .ref pg, .int a_t, .int to, .int va, .int pl, .int le, .int fa, .int fp])), tT tk q (nI 3) (nI 1001) (nI 1), tA g q 3003 f, tT cp qp (nI 1) (nI 80) 0, tA g qp 80 fc, (pg, .inr (2, [.ref t0, .ref t1, .ref t2, .ref t3, .ref t4])), tT t0 q0 (nI 12) (nI 80) 0, tT t1 q1 (nI 5) (nI 1000) 0, tT t2 q2 (nI 5) (nI 112) 0, tT t3 q3 (nI 1) (nI 16) 0, tT t4 q4 (nI 2) (nI 8) 0, tA g q3 16 fk] := hD
  refine lv_aload_n hx hb dX3_start_5 rfl (lv_at hl 0 rfl) ?_
  refine va_get (D := D) (ci := 3) (v := .ref pg) (C := RX3) (T := TX3) (N := 12) hx hb hts inlX3 hown hK hP 0 rfl rfl 4 (by decide) (hts _ q97) (fun _ h => h) rfl dX3_start_6 ?_
  refine vz_Vv (wr := [(h, .inr (3, [.ref tk, .ref lo, .ref ca, .ref cp, .ref pg, .int a_t, .int to, .int va, .int pl, .int le, .int fa, .int fp])), tT tk q (nI 3) (nI 1001) (nI 1), tA g q 3003 f, tT cp qp (nI 1) (nI 80) 0, tA g qp 80 fc]) (As := []) (rest := []) hx hb hml hown hts hK hA hP hD hS (c_P_reset l D g pg t0 t1 t2 t3 t4 q0 q1 q2 q3 q4 H.size 0 0 0 0 0 fk) kv_X3_80 (⟨Nat.le_of_ble_eq_true rfl, Nat.le_of_ble_eq_true rfl⟩) (q0 := 5) (ci := 2) rfl rfl rfl [5, 6, 7, 8, 9, 10, 11] [0, 1, 2, 3, 4] rfl rfl (by decide) hl.1 (Nat.le_of_ble_eq_true rfl) dX3_start_9 (⟨Nat.le_of_ble_eq_true rfl, Nat.le_of_ble_eq_true rfl⟩) rfl (fun f1 H locs _ _ hP hD hS => ?_)
  have hP : va_P D vwCl [(h, .inr (3, [.ref tk, .ref lo, .ref ca, .ref cp, .ref pg, .int a_t, .int to, .int va, .int pl, .int le, .int fa, .int fp])), tT tk q (nI 3) (nI 1001) (nI 1), tA g q 3003 f, tT cp qp (nI 1) (nI 80) 0, tA g qp 80 fc, (pg, .inr (2, [.ref t0, .ref t1, .ref t2, .ref t3, .ref t4])), tT t0 q0 (nI 12) (nI 80) 0, tT t1 q1 (nI 5) (nI 1000) 0, tT t2 q2 (nI 5) (nI 112) 0, tT t3 q3 (nI 1) (nI 16) (nI 7), tT t4 q4 (nI 2) (nI 8) 0, tA g q3 16 f1] H := hP
  have hD : va_D A [(h, .inr (3, [.ref tk, .ref lo, .ref ca, .ref cp, .ref pg, .int a_t, .int to, .int va, .int pl, .int le, .int fa, .int fp])), tT tk q (nI 3) (nI 1001) (nI 1), tA g q 3003 f, tT cp qp (nI 1) (nI 80) 0, tA g qp 80 fc, (pg, .inr (2, [.ref t0, .ref t1, .ref t2, .ref t3, .ref t4])), tT t0 q0 (nI 12) (nI 80) 0, tT t1 q1 (nI 5) (nI 1000) 0, tT t2 q2 (nI 5) (nI 112) 0, tT t3 q3 (nI 1) (nI 16) (nI 7), tT t4 q4 (nI 2) (nI 8) 0, tA g q3 16 f1] := hD
  refine lv_aload_n hx hb dX3_start_12 rfl (lv_at hl 0 rfl) ?_
  refine va_get (D := D) (ci := 3) (v := .ref cp) (C := RX3) (T := TX3) (N := 12) hx hb hts inlX3 hown hK hP 0 rfl rfl 3 (by decide) (hts _ q101) (fun _ h => h) rfl dX3_start_13 ?_
  refine lv_bipush (v := 80) hx hb dX3_start_16 (by decide) ?_
  refine lv_bipush (v := (-9)) hx hb dX3_start_18 (by decide) ?_
  refine vz_Vv (wr := [(h, .inr (3, [.ref tk, .ref lo, .ref ca, .ref cp, .ref pg, .int a_t, .int to, .int va, .int pl, .int le, .int fa, .int fp])), tT tk q (nI 3) (nI 1001) (nI 1), tA g q 3003 f, (pg, .inr (2, [.ref t0, .ref t1, .ref t2, .ref t3, .ref t4])), tT t0 q0 (nI 12) (nI 80) 0, tT t1 q1 (nI 5) (nI 1000) 0, tT t2 q2 (nI 5) (nI 112) 0, tT t3 q3 (nI 1) (nI 16) (nI 7), tT t4 q4 (nI 2) (nI 8) 0, tA g q3 16 f1]) (As := [.int 80, .int (-9)]) (rest := []) hx hb hml hown hts hK hA hP hD hS (c_T_fill l D g cp qp H.size 1 80 0 80 fc 80 (-9) (by decide) (by decide +kernel)) kv_X3_83 (⟨Nat.le_of_ble_eq_true rfl, Nat.le_of_ble_eq_true rfl⟩) (q0 := 3) (ci := 6) rfl rfl rfl [3, 4] [0, 1, 2, 5, 6, 7, 8, 9, 10, 11] rfl rfl (by decide) hl.1 (Nat.le_of_ble_eq_true rfl) dX3_start_20 (⟨Nat.le_of_ble_eq_true rfl, Nat.le_of_ble_eq_true rfl⟩) rfl (fun f2 H locs e3 _ hP hD hS => ?_)
  subst e3
  have hP : va_P D vwCl [(h, .inr (3, [.ref tk, .ref lo, .ref ca, .ref cp, .ref pg, .int a_t, .int to, .int va, .int pl, .int le, .int fa, .int fp])), tT tk q (nI 3) (nI 1001) (nI 1), tA g q 3003 f, (pg, .inr (2, [.ref t0, .ref t1, .ref t2, .ref t3, .ref t4])), tT t0 q0 (nI 12) (nI 80) 0, tT t1 q1 (nI 5) (nI 1000) 0, tT t2 q2 (nI 5) (nI 112) 0, tT t3 q3 (nI 1) (nI 16) (nI 7), tT t4 q4 (nI 2) (nI 8) 0, tA g q3 16 f1, tT cp qp (nI 1) (nI 80) (nI 80), tA g qp 80 (tf fc 0 (80 * 1) (-9))] H := hP
  have hD : va_D A [(h, .inr (3, [.ref tk, .ref lo, .ref ca, .ref cp, .ref pg, .int a_t, .int to, .int va, .int pl, .int le, .int fa, .int fp])), tT tk q (nI 3) (nI 1001) (nI 1), tA g q 3003 f, (pg, .inr (2, [.ref t0, .ref t1, .ref t2, .ref t3, .ref t4])), tT t0 q0 (nI 12) (nI 80) 0, tT t1 q1 (nI 5) (nI 1000) 0, tT t2 q2 (nI 5) (nI 112) 0, tT t3 q3 (nI 1) (nI 16) (nI 7), tT t4 q4 (nI 2) (nI 8) 0, tA g q3 16 f1, tT cp qp (nI 1) (nI 80) (nI 80), tA g qp 80 (tf fc 0 (80 * 1) (-9))] := hD
  refine lv_aload_n hx hb dX3_start_23 rfl (lv_at hl 0 rfl) ?_
  refine lv_iconst (v := 0) hx hb dX3_start_24 (by decide) ?_
  refine va_put (D := D) (ci := 3) (v := .int 0) (ty := .int) (C := RX3) (T := TX3) (N := 12) hx hb hts inlX3 tyX3 tyX3_ok nmX3 hown hK hP hD hS 0 rfl rfl 10 (by decide) (hts _ q445) (fun _ h => h) rfl (by decide +kernel) rfl rfl (Nat.le_of_ble_eq_true rfl) dX3_start_25 (fun H locs hP hD hS => ?_)
  have hP : va_P D vwCl [(h, .inr (3, [.ref tk, .ref lo, .ref ca, .ref cp, .ref pg, .int a_t, .int to, .int va, .int pl, .int le, .int 0, .int fp])), tT tk q (nI 3) (nI 1001) (nI 1), tA g q 3003 f, (pg, .inr (2, [.ref t0, .ref t1, .ref t2, .ref t3, .ref t4])), tT t0 q0 (nI 12) (nI 80) 0, tT t1 q1 (nI 5) (nI 1000) 0, tT t2 q2 (nI 5) (nI 112) 0, tT t3 q3 (nI 1) (nI 16) (nI 7), tT t4 q4 (nI 2) (nI 8) 0, tA g q3 16 f1, tT cp qp (nI 1) (nI 80) (nI 80), tA g qp 80 (tf fc 0 (80 * 1) (-9))] H := hP
  have hD : va_D A [(h, .inr (3, [.ref tk, .ref lo, .ref ca, .ref cp, .ref pg, .int a_t, .int to, .int va, .int pl, .int le, .int 0, .int fp])), tT tk q (nI 3) (nI 1001) (nI 1), tA g q 3003 f, (pg, .inr (2, [.ref t0, .ref t1, .ref t2, .ref t3, .ref t4])), tT t0 q0 (nI 12) (nI 80) 0, tT t1 q1 (nI 5) (nI 1000) 0, tT t2 q2 (nI 5) (nI 112) 0, tT t3 q3 (nI 1) (nI 16) (nI 7), tT t4 q4 (nI 2) (nI 8) 0, tA g q3 16 f1, tT cp qp (nI 1) (nI 80) (nI 80), tA g qp 80 (tf fc 0 (80 * 1) (-9))] := hD
  refine lv_aload_n hx hb dX3_start_28 rfl (lv_at hl 0 rfl) ?_
  refine lv_iconst (v := 0) hx hb dX3_start_29 (by decide) ?_
  refine va_put (D := D) (ci := 3) (v := .int 0) (ty := .int) (C := RX3) (T := TX3) (N := 12) hx hb hts inlX3 tyX3 tyX3_ok nmX3 hown hK hP hD hS 0 rfl rfl 11 (by decide) (hts _ q446) (fun _ h => h) rfl (by decide +kernel) rfl rfl (Nat.le_of_ble_eq_true rfl) dX3_start_30 (fun H locs hP hD hS => ?_)
  have hP : va_P D vwCl [(h, .inr (3, [.ref tk, .ref lo, .ref ca, .ref cp, .ref pg, .int a_t, .int to, .int va, .int pl, .int le, .int 0, .int 0])), tT tk q (nI 3) (nI 1001) (nI 1), tA g q 3003 f, (pg, .inr (2, [.ref t0, .ref t1, .ref t2, .ref t3, .ref t4])), tT t0 q0 (nI 12) (nI 80) 0, tT t1 q1 (nI 5) (nI 1000) 0, tT t2 q2 (nI 5) (nI 112) 0, tT t3 q3 (nI 1) (nI 16) (nI 7), tT t4 q4 (nI 2) (nI 8) 0, tA g q3 16 f1, tT cp qp (nI 1) (nI 80) (nI 80), tA g qp 80 (tf fc 0 (80 * 1) (-9))] H := hP
  have hD : va_D A [(h, .inr (3, [.ref tk, .ref lo, .ref ca, .ref cp, .ref pg, .int a_t, .int to, .int va, .int pl, .int le, .int 0, .int 0])), tT tk q (nI 3) (nI 1001) (nI 1), tA g q 3003 f, (pg, .inr (2, [.ref t0, .ref t1, .ref t2, .ref t3, .ref t4])), tT t0 q0 (nI 12) (nI 80) 0, tT t1 q1 (nI 5) (nI 1000) 0, tT t2 q2 (nI 5) (nI 112) 0, tT t3 q3 (nI 1) (nI 16) (nI 7), tT t4 q4 (nI 2) (nI 8) 0, tA g q3 16 f1, tT cp qp (nI 1) (nI 80) (nI 80), tA g qp 80 (tf fc 0 (80 * 1) (-9))] := hD
  refine lv_aload_n hx hb dX3_start_33 rfl (lv_at hl 0 rfl) ?_
  refine lv_bipush (v := (-9)) hx hb dX3_start_34 (by decide) ?_
  refine va_put (D := D) (ci := 3) (v := .int (-9)) (ty := .int) (C := RX3) (T := TX3) (N := 12) hx hb hts inlX3 tyX3 tyX3_ok nmX3 hown hK hP hD hS 0 rfl rfl 9 (by decide) (hts _ q102) (fun _ h => h) rfl (by decide +kernel) rfl rfl (Nat.le_of_ble_eq_true rfl) dX3_start_36 (fun H locs hP hD hS => ?_)
  have hP : va_P D vwCl [(h, .inr (3, [.ref tk, .ref lo, .ref ca, .ref cp, .ref pg, .int a_t, .int to, .int va, .int pl, .int (-9), .int 0, .int 0])), tT tk q (nI 3) (nI 1001) (nI 1), tA g q 3003 f, (pg, .inr (2, [.ref t0, .ref t1, .ref t2, .ref t3, .ref t4])), tT t0 q0 (nI 12) (nI 80) 0, tT t1 q1 (nI 5) (nI 1000) 0, tT t2 q2 (nI 5) (nI 112) 0, tT t3 q3 (nI 1) (nI 16) (nI 7), tT t4 q4 (nI 2) (nI 8) 0, tA g q3 16 f1, tT cp qp (nI 1) (nI 80) (nI 80), tA g qp 80 (tf fc 0 (80 * 1) (-9))] H := hP
  have hD : va_D A [(h, .inr (3, [.ref tk, .ref lo, .ref ca, .ref cp, .ref pg, .int a_t, .int to, .int va, .int pl, .int (-9), .int 0, .int 0])), tT tk q (nI 3) (nI 1001) (nI 1), tA g q 3003 f, (pg, .inr (2, [.ref t0, .ref t1, .ref t2, .ref t3, .ref t4])), tT t0 q0 (nI 12) (nI 80) 0, tT t1 q1 (nI 5) (nI 1000) 0, tT t2 q2 (nI 5) (nI 112) 0, tT t3 q3 (nI 1) (nI 16) (nI 7), tT t4 q4 (nI 2) (nI 8) 0, tA g q3 16 f1, tT cp qp (nI 1) (nI 80) (nI 80), tA g qp 80 (tf fc 0 (80 * 1) (-9))] := hD
  refine lv_aload_n hx hb dX3_start_39 rfl (lv_at hl 0 rfl) ?_
  refine lv_iconst (v := (-1)) hx hb dX3_start_40 (by decide) ?_
  refine va_put (D := D) (ci := 3) (v := .int (-1)) (ty := .int) (C := RX3) (T := TX3) (N := 12) hx hb hts inlX3 tyX3 tyX3_ok nmX3 hown hK hP hD hS 0 rfl rfl 5 (by decide) (hts _ q451) (fun _ h => h) rfl (by decide +kernel) rfl rfl (Nat.le_of_ble_eq_true rfl) dX3_start_41 (fun H locs hP hD hS => ?_)
  have hP : va_P D vwCl [(h, .inr (3, [.ref tk, .ref lo, .ref ca, .ref cp, .ref pg, .int (-1), .int to, .int va, .int pl, .int (-9), .int 0, .int 0])), tT tk q (nI 3) (nI 1001) (nI 1), tA g q 3003 f, (pg, .inr (2, [.ref t0, .ref t1, .ref t2, .ref t3, .ref t4])), tT t0 q0 (nI 12) (nI 80) 0, tT t1 q1 (nI 5) (nI 1000) 0, tT t2 q2 (nI 5) (nI 112) 0, tT t3 q3 (nI 1) (nI 16) (nI 7), tT t4 q4 (nI 2) (nI 8) 0, tA g q3 16 f1, tT cp qp (nI 1) (nI 80) (nI 80), tA g qp 80 (tf fc 0 (80 * 1) (-9))] H := hP
  have hD : va_D A [(h, .inr (3, [.ref tk, .ref lo, .ref ca, .ref cp, .ref pg, .int (-1), .int to, .int va, .int pl, .int (-9), .int 0, .int 0])), tT tk q (nI 3) (nI 1001) (nI 1), tA g q 3003 f, (pg, .inr (2, [.ref t0, .ref t1, .ref t2, .ref t3, .ref t4])), tT t0 q0 (nI 12) (nI 80) 0, tT t1 q1 (nI 5) (nI 1000) 0, tT t2 q2 (nI 5) (nI 112) 0, tT t3 q3 (nI 1) (nI 16) (nI 7), tT t4 q4 (nI 2) (nI 8) 0, tA g q3 16 f1, tT cp qp (nI 1) (nI 80) (nI 80), tA g qp 80 (tf fc 0 (80 * 1) (-9))] := hD
  refine lv_aload_n hx hb dX3_start_44 rfl (lv_at hl 0 rfl) ?_
  refine vz_Vv (wr := [(pg, .inr (2, [.ref t0, .ref t1, .ref t2, .ref t3, .ref t4])), tT t0 q0 (nI 12) (nI 80) 0, tT t1 q1 (nI 5) (nI 1000) 0, tT t2 q2 (nI 5) (nI 112) 0, tT t3 q3 (nI 1) (nI 16) (nI 7), tT t4 q4 (nI 2) (nI 8) 0, tA g q3 16 f1, tT cp qp (nI 1) (nI 80) (nI 80), tA g qp 80 (tf fc 0 (80 * 1) (-9))]) (As := []) (rest := []) hx hb hml hown hts hK hA hP hD hS (c_R_advance0 l D g h tk lo ca cp pg q H.size to va pl (-9) 0 f hf0 hf1 hf2) kv_X3_89 (⟨Nat.le_of_ble_eq_true rfl, Nat.le_of_ble_eq_true rfl⟩) (q0 := 0) (ci := 3) rfl rfl rfl [0, 1, 2] [3, 4, 5, 6, 7, 8, 9, 10, 11] rfl rfl (by decide) hl.1 (Nat.le_of_ble_eq_true rfl) dX3_start_45 (⟨Nat.le_of_ble_eq_true rfl, Nat.le_of_ble_eq_true rfl⟩) rfl (fun _ H locs _ _ hP hD hS => ?_)
  have hP : va_P D vwCl [(pg, .inr (2, [.ref t0, .ref t1, .ref t2, .ref t3, .ref t4])), tT t0 q0 (nI 12) (nI 80) 0, tT t1 q1 (nI 5) (nI 1000) 0, tT t2 q2 (nI 5) (nI 112) 0, tT t3 q3 (nI 1) (nI 16) (nI 7), tT t4 q4 (nI 2) (nI 8) 0, tA g q3 16 f1, tT cp qp (nI 1) (nI 80) (nI 80), tA g qp 80 (tf fc 0 (80 * 1) (-9)), (h, .inr (3, [.ref tk, .ref lo, .ref ca, .ref cp, .ref pg, .int 0, .int 0, .int 0, .int 0, .int (-9), .int 0, .int 0])), tT tk q (nI 3) (nI 1001) (nI 1), tA g q 3003 f] H := hP
  have hD : va_D A [(pg, .inr (2, [.ref t0, .ref t1, .ref t2, .ref t3, .ref t4])), tT t0 q0 (nI 12) (nI 80) 0, tT t1 q1 (nI 5) (nI 1000) 0, tT t2 q2 (nI 5) (nI 112) 0, tT t3 q3 (nI 1) (nI 16) (nI 7), tT t4 q4 (nI 2) (nI 8) 0, tA g q3 16 f1, tT cp qp (nI 1) (nI 80) (nI 80), tA g qp 80 (tf fc 0 (80 * 1) (-9)), (h, .inr (3, [.ref tk, .ref lo, .ref ca, .ref cp, .ref pg, .int 0, .int 0, .int 0, .int 0, .int (-9), .int 0, .int 0])), tT tk q (nI 3) (nI 1001) (nI 1), tA g q 3003 f] := hD
  exact vz_vret hx hb hr hlk hK hP hD hS (fun k => if k = 0 then (tf fc 0 (80 * 1) (-9)) else f1) (trivial) [9, 10, 11, 7, 8, 0, 1, 2, 3, 4, 5, 6] rfl (by decide) (Nat.le_refl 0) (Nat.le_refl 0) dX3_start_48
theorem q447 : Cond.methodLink RX3 37 yX3_start ∈ wsL_law := mT_3 (List.mem_of_getElem? (i := 125) rfl) rfl
theorem q448 : Cond.instanceMethod yX3_start ∈ wsL_law := mT_3 (List.mem_of_getElem? (i := 127) rfl) rfl
theorem q449 : Cond.selects RX3 yX3_start yX3_start ∈ wsL_law := mS_1 (q := (yX3_start, 12)) (List.mem_of_getElem? (i := 4) rfl) rfl
theorem q450 : Cond.code yX3_start cX3_start 2 none ∈ wsL_law := mT_3 (List.mem_of_getElem? (i := 128) rfl) rfl
theorem kv_X3_37 : vz_cv RX3 37 yX3_start cX3_start 2 none 1 := ⟨q447, q448, q449, q28, q450, by decide +kernel⟩
theorem q491 : Cond.methodLink RX3 47 yX3_beginMethod ∈ wsL_law := mT_3 (List.mem_of_getElem? (i := 164) rfl) rfl
theorem q492 : Cond.instanceMethod yX3_beginMethod ∈ wsL_law := mT_3 (List.mem_of_getElem? (i := 166) rfl) rfl
theorem q493 : Cond.selects RX3 yX3_beginMethod yX3_beginMethod ∈ wsL_law := mS_1 (q := (yX3_beginMethod, 12)) (List.mem_of_getElem? (i := 11) rfl) rfl
theorem q494 : Cond.code yX3_beginMethod cX3_beginMethod 1 (some .int) ∈ wsL_law := mT_3 (List.mem_of_getElem? (i := 167) rfl) rfl
theorem kv_X3_47 : vz_cv RX3 47 yX3_beginMethod cX3_beginMethod 1 (some .int) 0 := ⟨q491, q492, q493, q28, q494, by decide +kernel⟩
theorem q496 : Cond.methodLink RX3 56 yX3_readStatements ∈ wsL_law := mT_3 (List.mem_of_getElem? (i := 169) rfl) rfl
theorem q497 : Cond.instanceMethod yX3_readStatements ∈ wsL_law := mT_3 (List.mem_of_getElem? (i := 171) rfl) rfl
theorem q498 : Cond.selects RX3 yX3_readStatements yX3_readStatements ∈ wsL_law := mS_1 (q := (yX3_readStatements, 12)) (List.mem_of_getElem? (i := 12) rfl) rfl
theorem q499 : Cond.code yX3_readStatements cX3_readStatements 7 (some .int) ∈ wsL_law := mT_3 (List.mem_of_getElem? (i := 172) rfl) rfl
theorem kv_X3_56 : vz_cv RX3 56 yX3_readStatements cX3_readStatements 7 (some .int) 2 := ⟨q496, q497, q498, q28, q499, by decide +kernel⟩
theorem q490 : Cond.methodLink RX3 60 yX6_set ∈ wsL_law := mT_3 (List.mem_of_getElem? (i := 163) rfl) rfl
theorem kv_X3_60 : vz_cv RX3 60 yX6_set cX6_set 5 none 3 := ⟨q490, q265, q266, q15, q267, by decide +kernel⟩
theorem q606 : Cond.methodLink RX3 71 yX3_checkCalls ∈ wsL_law := mT_4 (List.mem_of_getElem? (i := 36) rfl) rfl
theorem q607 : Cond.instanceMethod yX3_checkCalls ∈ wsL_law := mT_4 (List.mem_of_getElem? (i := 38) rfl) rfl
theorem q608 : Cond.selects RX3 yX3_checkCalls yX3_checkCalls ∈ wsL_law := mS_3 (q := (yX3_checkCalls, 12)) (List.mem_of_getElem? (i := 2) rfl) rfl
theorem q609 : Cond.code yX3_checkCalls cX3_checkCalls 2 none ∈ wsL_law := mT_4 (List.mem_of_getElem? (i := 39) rfl) rfl
theorem kv_X3_71 : vz_cv RX3 71 yX3_checkCalls cX3_checkCalls 2 none 0 := ⟨q606, q607, q608, q28, q609, by decide +kernel⟩
theorem dX3_read_0 : decode cX3_read 0 = .ok (.aload_n 0, 1) := by decide +kernel
theorem dX3_read_1 : decode cX3_read 1 = .ok (.aload_n 1, 1) := by decide +kernel
theorem dX3_read_2 : decode cX3_read 2 = .ok (.invokevirtual 37, 3) := by decide +kernel
theorem dX3_read_5 : decode cX3_read 5 = .ok (.iconst 0, 1) := by decide +kernel
theorem dX3_read_6 : decode cX3_read 6 = .ok (.istore_n 2, 1) := by decide +kernel
theorem dX3_read_7 : decode cX3_read 7 = .ok (.iload_n 2, 1) := by decide +kernel
theorem dX3_read_8 : decode cX3_read 8 = .ok (.bipush 16, 2) := by decide +kernel
theorem dX3_read_10 : decode cX3_read 10 = .ok (.if_icmp .gt 23, 3) := by decide +kernel
theorem dX3_read_13 : decode cX3_read 13 = .ok (.aload_n 0, 1) := by decide +kernel
theorem dX3_read_14 : decode cX3_read 14 = .ok (.getfield 41, 3) := by decide +kernel
theorem dX3_read_17 : decode cX3_read 17 = .ok (.sipush 128, 3) := by decide +kernel
theorem dX3_read_20 : decode cX3_read 20 = .ok (.if_icmp .ne 13, 3) := by decide +kernel
theorem dX3_read_33 : decode cX3_read 33 = .ok (.iconst 1, 1) := by decide +kernel
theorem dX3_read_34 : decode cX3_read 34 = .ok (.istore_n 2, 1) := by decide +kernel
theorem dX3_read_35 : decode cX3_read 35 = .ok (.iconst 0, 1) := by decide +kernel
theorem dX3_read_36 : decode cX3_read 36 = .ok (.istore_n 3, 1) := by decide +kernel
theorem dX3_read_37 : decode cX3_read 37 = .ok (.iload_n 3, 1) := by decide +kernel
theorem dX3_read_38 : decode cX3_read 38 = .ok (.bipush 8, 2) := by decide +kernel
theorem dX3_read_40 : decode cX3_read 40 = .ok (.if_icmp .gt 61, 3) := by decide +kernel
theorem dX3_read_43 : decode cX3_read 43 = .ok (.iload_n 2, 1) := by decide +kernel
theorem dX3_read_44 : decode cX3_read 44 = .ok (.ifCond .eq 57, 3) := by decide +kernel
theorem dX3_read_47 : decode cX3_read 47 = .ok (.aload_n 0, 1) := by decide +kernel
theorem dX3_read_48 : decode cX3_read 48 = .ok (.invokevirtual 47, 3) := by decide +kernel
theorem dX3_read_51 : decode cX3_read 51 = .ok (.istore 4, 2) := by decide +kernel
theorem dX3_read_53 : decode cX3_read 53 = .ok (.aload_n 0, 1) := by decide +kernel
theorem dX3_read_54 : decode cX3_read 54 = .ok (.getfield 15, 3) := by decide +kernel
theorem dX3_read_57 : decode cX3_read 57 = .ok (.getfield 51, 3) := by decide +kernel
theorem dX3_read_60 : decode cX3_read 60 = .ok (.iload 4, 2) := by decide +kernel
theorem dX3_read_62 : decode cX3_read 62 = .ok (.iconst 0, 1) := by decide +kernel
theorem dX3_read_63 : decode cX3_read 63 = .ok (.aload_n 0, 1) := by decide +kernel
theorem dX3_read_64 : decode cX3_read 64 = .ok (.bipush (-9), 2) := by decide +kernel
theorem dX3_read_66 : decode cX3_read 66 = .ok (.iconst 0, 1) := by decide +kernel
theorem dX3_read_67 : decode cX3_read 67 = .ok (.invokevirtual 56, 3) := by decide +kernel
theorem dX3_read_70 : decode cX3_read 70 = .ok (.invokevirtual 60, 3) := by decide +kernel
theorem dX3_read_73 : decode cX3_read 73 = .ok (.aload_n 0, 1) := by decide +kernel
theorem dX3_read_74 : decode cX3_read 74 = .ok (.bipush 125, 2) := by decide +kernel
theorem dX3_read_76 : decode cX3_read 76 = .ok (.invokevirtual 64, 3) := by decide +kernel
theorem dX3_read_79 : decode cX3_read 79 = .ok (.aload_n 0, 1) := by decide +kernel
theorem dX3_read_80 : decode cX3_read 80 = .ok (.getfield 41, 3) := by decide +kernel
theorem dX3_read_83 : decode cX3_read 83 = .ok (.sipush 130, 3) := by decide +kernel
theorem dX3_read_86 : decode cX3_read 86 = .ok (.if_icmp .ne 7, 3) := by decide +kernel
theorem dX3_read_93 : decode cX3_read 93 = .ok (.iconst 0, 1) := by decide +kernel
theorem dX3_read_94 : decode cX3_read 94 = .ok (.istore_n 2, 1) := by decide +kernel
theorem dX3_read_95 : decode cX3_read 95 = .ok (.iinc 3 1, 3) := by decide +kernel
theorem dX3_read_98 : decode cX3_read 98 = .ok (.goto (-61), 3) := by decide +kernel
theorem dX3_read_101 : decode cX3_read 101 = .ok (.aload_n 0, 1) := by decide +kernel
theorem dX3_read_102 : decode cX3_read 102 = .ok (.getfield 41, 3) := by decide +kernel
theorem dX3_read_105 : decode cX3_read 105 = .ok (.ifCond .eq 8, 3) := by decide +kernel
theorem dX3_read_108 : decode cX3_read 108 = .ok (.aload_n 0, 1) := by decide +kernel
theorem dX3_read_109 : decode cX3_read 109 = .ok (.iconst 1, 1) := by decide +kernel
theorem dX3_read_110 : decode cX3_read 110 = .ok (.invokevirtual 68, 3) := by decide +kernel
theorem dX3_read_113 : decode cX3_read 113 = .ok (.aload_n 0, 1) := by decide +kernel
theorem dX3_read_114 : decode cX3_read 114 = .ok (.invokevirtual 71, 3) := by decide +kernel
theorem dX3_read_117 : decode cX3_read 117 = .ok (.aload_n 0, 1) := by decide +kernel
theorem dX3_read_118 : decode cX3_read 118 = .ok (.getfield 74, 3) := by decide +kernel
theorem dX3_read_121 : decode cX3_read 121 = .ok (.ifCond .ne 25, 3) := by decide +kernel
theorem dX3_read_146 : decode cX3_read 146 = .ok (.return_, 1) := by decide +kernel
set_option maxHeartbeats 4000000 in
set_option maxRecDepth 100000 in
theorem c_R_read0 (l : Launch) (D : va_G) (g : Nat → ClassId) (h tk lo ca cp pg p9 q ql qc qp t0 t1 t2 t3 t4 q0 q1 q2 q3 q4 sz : Nat) (a_t to va pl le fa fp : Int32) (f fc fk fm : Nat → Int32) (hf0 : f 0 = 0) (hf1 : f 1 = 0) (hf2 : f 2 = 0) : vz_Mv l D (tyG g) yX3_read cX3_read 5 4 90 0 0 [.ref h, .ref pg] sz [(h, .inr (3, [.ref tk, .ref lo, .ref ca, .ref cp, .ref p9, .int a_t, .int to, .int va, .int pl, .int le, .int fa, .int fp])), tT tk q (nI 3) (nI 1001) (nI 1), tA g q 3003 f, tT lo ql (nI 1) (nI 6) 0, tT ca qc (nI 1) (nI 6) 0, tT cp qp (nI 1) (nI 80) 0, tA g qp 80 fc, (pg, .inr (2, [.ref t0, .ref t1, .ref t2, .ref t3, .ref t4])), tT t0 q0 (nI 12) (nI 80) 0, tT t1 q1 (nI 5) (nI 1000) 0, tT t2 q2 (nI 5) (nI 112) 0, tT t3 q3 (nI 1) (nI 16) 0, tT t4 q4 (nI 2) (nI 8) 0, tA g q3 16 fk, tA g q4 16 fm] (fun u : Unit => True) (fun u => [(h, .inr (3, [.ref tk, .ref lo, .ref ca, .ref cp, .ref pg, .int 0, .int 1, .int 0, .int 0, .int (-9), .int 1, .int 0]))]) := by
  refine vz_sv (by decide) (Nat.le_of_ble_eq_true rfl) (fun p e s m args below meth c hx hb hr hml hts hown hlk hin hK hsz A hA H locs hP hD hS ls hl => ?_)
  have hl : lv_has ls 5 [(0, .ref h), (1, .ref pg)] := hl
  refine lv_aload_n hx hb dX3_read_0 rfl (lv_at hl 0 rfl) ?_
  refine lv_aload_n hx hb dX3_read_1 rfl (lv_at hl 1 rfl) ?_
  refine vz_Vv (wr := [tT lo ql (nI 1) (nI 6) 0, tT ca qc (nI 1) (nI 6) 0, tA g q4 16 fm]) (As := [.ref pg]) (rest := []) hx hb hml hown hts hK hA hP hD hS (c_R_start0 l D g h tk lo ca cp pg p9 q qp t0 t1 t2 t3 t4 q0 q1 q2 q3 q4 H.size a_t to va pl le fa fp f fc fk hf0 hf1 hf2) kv_X3_37 (⟨Nat.le_of_ble_eq_true rfl, Nat.le_of_ble_eq_true rfl⟩) (q0 := 0) (ci := 3) rfl rfl rfl [0, 1, 2, 5, 6, 7, 8, 9, 10, 11, 12, 13] [3, 4, 14] rfl rfl (by decide) hl.1 (Nat.le_of_ble_eq_true rfl) dX3_read_2 (⟨Nat.le_of_ble_eq_true rfl, Nat.le_of_ble_eq_true rfl⟩) rfl (fun us H locs _ _ hP hD hS => ?_)
  have hP : va_P D vwCl [tT lo ql (nI 1) (nI 6) 0, tT ca qc (nI 1) (nI 6) 0, tA g q4 16 fm, (h, .inr (3, [.ref tk, .ref lo, .ref ca, .ref cp, .ref pg, .int 0, .int 0, .int 0, .int 0, .int (-9), .int 0, .int 0])), tT tk q (nI 3) (nI 1001) (nI 1), tA g q 3003 f, tT cp qp (nI 1) (nI 80) (nI 80), tA g qp 80 (us 0), (pg, .inr (2, [.ref t0, .ref t1, .ref t2, .ref t3, .ref t4])), tT t0 q0 (nI 12) (nI 80) 0, tT t1 q1 (nI 5) (nI 1000) 0, tT t2 q2 (nI 5) (nI 112) 0, tT t3 q3 (nI 1) (nI 16) (nI 7), tT t4 q4 (nI 2) (nI 8) 0, tA g q3 16 (us 1)] H := hP
  have hD : va_D A [tT lo ql (nI 1) (nI 6) 0, tT ca qc (nI 1) (nI 6) 0, tA g q4 16 fm, (h, .inr (3, [.ref tk, .ref lo, .ref ca, .ref cp, .ref pg, .int 0, .int 0, .int 0, .int 0, .int (-9), .int 0, .int 0])), tT tk q (nI 3) (nI 1001) (nI 1), tA g q 3003 f, tT cp qp (nI 1) (nI 80) (nI 80), tA g qp 80 (us 0), (pg, .inr (2, [.ref t0, .ref t1, .ref t2, .ref t3, .ref t4])), tT t0 q0 (nI 12) (nI 80) 0, tT t1 q1 (nI 5) (nI 1000) 0, tT t2 q2 (nI 5) (nI 112) 0, tT t3 q3 (nI 1) (nI 16) (nI 7), tT t4 q4 (nI 2) (nI 8) 0, tA g q3 16 (us 1)] := hD
  refine lv_iconst (v := 0) hx hb dX3_read_5 (by decide) ?_
  refine lv_istore_n (lv' := [(2, .int 0), (0, .ref h), (1, .ref pg)]) hx hb dX3_read_6 rfl hl (by decide) rfl (fun ls hl => ?_)
  refine lv_iload_n hx hb dX3_read_7 rfl (lv_at hl 0 rfl) ?_
  refine lv_bipush (v := 16) hx hb dX3_read_8 (by decide) ?_
  refine lv_icmp_gt (tgt := 33) hx hb dX3_read_10 (by decide) (fun h9 => absurd h9 (by decide)) (fun _ => ?_)
  refine lv_aload_n hx hb dX3_read_13 rfl (lv_at hl 1 rfl) ?_
  refine va_get (D := D) (ci := 3) (v := .int 0) (C := RX3) (T := TX3) (N := 12) hx hb hts inlX3 hown hK hP 3 rfl rfl 6 (by decide) (hts _ q443) (fun _ h => h) rfl dX3_read_14 ?_
  refine lv_sipush (v := 128) hx hb dX3_read_17 (by decide) ?_
  refine lv_icmp_ne (tgt := 33) hx hb dX3_read_20 (by decide) (fun _ => ?_) (fun h9 => absurd h9 (by decide))
  refine lv_iconst (v := 1) hx hb dX3_read_33 (by decide) ?_
  refine lv_istore_n (lv' := [(2, .int 1), (0, .ref h), (1, .ref pg)]) hx hb dX3_read_34 rfl hl (by decide) rfl (fun ls hl => ?_)
  refine lv_iconst (v := 0) hx hb dX3_read_35 (by decide) ?_
  refine lv_istore_n (lv' := [(3, .int 0), (2, .int 1), (0, .ref h), (1, .ref pg)]) hx hb dX3_read_36 rfl hl (by decide) rfl (fun ls hl => ?_)
  refine lv_iload_n hx hb dX3_read_37 rfl (lv_at hl 0 rfl) ?_
  refine lv_bipush (v := 8) hx hb dX3_read_38 (by decide) ?_
  refine lv_icmp_gt (tgt := 101) hx hb dX3_read_40 (by decide) (fun h9 => absurd h9 (by decide)) (fun _ => ?_)
  refine lv_iload_n hx hb dX3_read_43 rfl (lv_at hl 1 rfl) ?_
  refine lv_if_eq (tgt := 101) hx hb dX3_read_44 (by decide) (fun h9 => absurd h9 (by decide)) (fun _ => ?_)
  refine lv_aload_n hx hb dX3_read_47 rfl (lv_at hl 2 rfl) ?_
  refine vz_Vi (wr := [tT tk q (nI 3) (nI 1001) (nI 1), tA g q 3003 f, tT cp qp (nI 1) (nI 80) (nI 80), tA g qp 80 (us 0), tT t0 q0 (nI 12) (nI 80) 0, tT t1 q1 (nI 5) (nI 1000) 0, tT t2 q2 (nI 5) (nI 112) 0, tT t3 q3 (nI 1) (nI 16) (nI 7), tA g q3 16 (us 1)]) (As := []) (rest := []) hx hb hml hown hts hK hA hP hD hS (c_R_beginMethod0 l D g h tk lo ca cp pg t0 t1 t2 t3 t4 q4 ql qc H.size 0 0 (-9) 0 0 0 fm) kv_X3_47 (⟨Nat.le_of_ble_eq_true rfl, Nat.le_of_ble_eq_true rfl⟩) (q0 := 3) (ci := 3) rfl rfl rfl [3, 0, 1, 8, 13, 2] [4, 5, 6, 7, 9, 10, 11, 12, 14] rfl rfl (by decide) hl.1 (Nat.le_of_ble_eq_true rfl) dX3_read_48 (⟨Nat.le_of_ble_eq_true rfl, Nat.le_of_ble_eq_true rfl⟩) rfl (fun rb fb H locs eb _ hP hD hS => ?_)
  subst eb
  have hP : va_P D vwCl [tT tk q (nI 3) (nI 1001) (nI 1), tA g q 3003 f, tT cp qp (nI 1) (nI 80) (nI 80), tA g qp 80 (us 0), tT t0 q0 (nI 12) (nI 80) 0, tT t1 q1 (nI 5) (nI 1000) 0, tT t2 q2 (nI 5) (nI 112) 0, tT t3 q3 (nI 1) (nI 16) (nI 7), tA g q3 16 (us 1), (h, .inr (3, [.ref tk, .ref lo, .ref ca, .ref cp, .ref pg, .int 0, .int 1, .int 0, .int 0, .int (-9), .int 1, .int 0])), tT lo ql (nI 1) (nI 6) 0, tT ca qc (nI 1) (nI 6) 0, (pg, .inr (2, [.ref t0, .ref t1, .ref t2, .ref t3, .ref t4])), tT t4 q4 (nI 2) (nI 8) (nI 1), tA g q4 16 fb] H := hP
  have hD : va_D A [tT tk q (nI 3) (nI 1001) (nI 1), tA g q 3003 f, tT cp qp (nI 1) (nI 80) (nI 80), tA g qp 80 (us 0), tT t0 q0 (nI 12) (nI 80) 0, tT t1 q1 (nI 5) (nI 1000) 0, tT t2 q2 (nI 5) (nI 112) 0, tT t3 q3 (nI 1) (nI 16) (nI 7), tA g q3 16 (us 1), (h, .inr (3, [.ref tk, .ref lo, .ref ca, .ref cp, .ref pg, .int 0, .int 1, .int 0, .int 0, .int (-9), .int 1, .int 0])), tT lo ql (nI 1) (nI 6) 0, tT ca qc (nI 1) (nI 6) 0, (pg, .inr (2, [.ref t0, .ref t1, .ref t2, .ref t3, .ref t4])), tT t4 q4 (nI 2) (nI 8) (nI 1), tA g q4 16 fb] := hD
  refine lv_istore (lv' := [(4, .int (nI 0)), (3, .int 0), (2, .int 1), (0, .ref h), (1, .ref pg)]) hx hb dX3_read_51 hl (by decide) rfl (fun ls hl => ?_)
  refine lv_aload_n hx hb dX3_read_53 rfl (lv_at hl 3 rfl) ?_
  refine va_get (D := D) (ci := 3) (v := .ref pg) (C := RX3) (T := TX3) (N := 12) hx hb hts inlX3 hown hK hP 9 rfl rfl 4 (by decide) (hts _ q97) (fun _ h => h) rfl dX3_read_54 ?_
  refine va_get (D := D) (ci := 2) (v := .ref t4) (C := RX2) (T := TX2) (N := 5) hx hb hts inlX2 hown hK hP 12 rfl rfl 4 (by decide) (hts _ q444) (fun _ h => h) rfl dX3_read_57 ?_
  refine lv_iload hx hb dX3_read_60 (lv_at hl 0 rfl) ?_
  refine lv_iconst (v := 0) hx hb dX3_read_62 (by decide) ?_
  refine lv_aload_n hx hb dX3_read_63 rfl (lv_at hl 3 rfl) ?_
  refine lv_bipush (v := (-9)) hx hb dX3_read_64 (by decide) ?_
  refine lv_iconst (v := 0) hx hb dX3_read_66 (by decide) ?_
  refine vz_Vi (wr := [tT tk q (nI 3) (nI 1001) (nI 1), tA g q 3003 f, tT cp qp (nI 1) (nI 80) (nI 80), tA g qp 80 (us 0), tT t0 q0 (nI 12) (nI 80) 0, tT t1 q1 (nI 5) (nI 1000) 0, tT t2 q2 (nI 5) (nI 112) 0, tT t3 q3 (nI 1) (nI 16) (nI 7), tA g q3 16 (us 1), tT lo ql (nI 1) (nI 6) 0, tT ca qc (nI 1) (nI 6) 0, (pg, .inr (2, [.ref t0, .ref t1, .ref t2, .ref t3, .ref t4])), tT t4 q4 (nI 2) (nI 8) (nI 1), tA g q4 16 fb]) (As := [.int (-9), .int 0]) (rest := [.int 0, .int (nI 0), .ref t4]) hx hb hml hown hts hK hA hP hD hS (c_R_readStatements1 l D g h tk lo ca cp pg H.size 0 1 0 0 (-9) 0 (-9) 0) kv_X3_56 (⟨Nat.le_of_ble_eq_true rfl, Nat.le_of_ble_eq_true rfl⟩) (q0 := 9) (ci := 3) rfl rfl rfl [9] [0, 1, 2, 3, 4, 5, 6, 7, 8, 10, 11, 12, 13, 14] rfl rfl (by decide) hl.1 (Nat.le_of_ble_eq_true rfl) dX3_read_67 (⟨Nat.le_of_ble_eq_true rfl, Nat.le_of_ble_eq_true rfl⟩) rfl (fun rs _ H locs es _ hP hD hS => ?_)
  subst es
  have hP : va_P D vwCl [tT tk q (nI 3) (nI 1001) (nI 1), tA g q 3003 f, tT cp qp (nI 1) (nI 80) (nI 80), tA g qp 80 (us 0), tT t0 q0 (nI 12) (nI 80) 0, tT t1 q1 (nI 5) (nI 1000) 0, tT t2 q2 (nI 5) (nI 112) 0, tT t3 q3 (nI 1) (nI 16) (nI 7), tA g q3 16 (us 1), tT lo ql (nI 1) (nI 6) 0, tT ca qc (nI 1) (nI 6) 0, (pg, .inr (2, [.ref t0, .ref t1, .ref t2, .ref t3, .ref t4])), tT t4 q4 (nI 2) (nI 8) (nI 1), tA g q4 16 fb, (h, .inr (3, [.ref tk, .ref lo, .ref ca, .ref cp, .ref pg, .int 0, .int 1, .int 0, .int 0, .int (-9), .int 1, .int 0]))] H := hP
  have hD : va_D A [tT tk q (nI 3) (nI 1001) (nI 1), tA g q 3003 f, tT cp qp (nI 1) (nI 80) (nI 80), tA g qp 80 (us 0), tT t0 q0 (nI 12) (nI 80) 0, tT t1 q1 (nI 5) (nI 1000) 0, tT t2 q2 (nI 5) (nI 112) 0, tT t3 q3 (nI 1) (nI 16) (nI 7), tA g q3 16 (us 1), tT lo ql (nI 1) (nI 6) 0, tT ca qc (nI 1) (nI 6) 0, (pg, .inr (2, [.ref t0, .ref t1, .ref t2, .ref t3, .ref t4])), tT t4 q4 (nI 2) (nI 8) (nI 1), tA g q4 16 fb, (h, .inr (3, [.ref tk, .ref lo, .ref ca, .ref cp, .ref pg, .int 0, .int 1, .int 0, .int 0, .int (-9), .int 1, .int 0]))] := hD
  refine vz_Vv (wr := [tT tk q (nI 3) (nI 1001) (nI 1), tA g q 3003 f, tT cp qp (nI 1) (nI 80) (nI 80), tA g qp 80 (us 0), tT t0 q0 (nI 12) (nI 80) 0, tT t1 q1 (nI 5) (nI 1000) 0, tT t2 q2 (nI 5) (nI 112) 0, tT t3 q3 (nI 1) (nI 16) (nI 7), tA g q3 16 (us 1), tT lo ql (nI 1) (nI 6) 0, tT ca qc (nI 1) (nI 6) 0, (pg, .inr (2, [.ref t0, .ref t1, .ref t2, .ref t3, .ref t4])), (h, .inr (3, [.ref tk, .ref lo, .ref ca, .ref cp, .ref pg, .int 0, .int 1, .int 0, .int 0, .int (-9), .int 1, .int 0]))]) (As := [.int (nI 0), .int 0, .int (-9)]) (rest := []) hx hb hml hown hts hK hA hP hD hS (c_T_set l D g t4 q4 H.size 2 8 1 16 fb (nI 0) 0 (-9) (by decide +kernel)) kv_X3_60 (⟨Nat.le_of_ble_eq_true rfl, Nat.le_of_ble_eq_true rfl⟩) (q0 := 12) (ci := 6) rfl rfl rfl [12, 13] [0, 1, 2, 3, 4, 5, 6, 7, 8, 9, 10, 11, 14] rfl rfl (by decide) hl.1 (Nat.le_of_ble_eq_true rfl) dX3_read_70 (⟨Nat.le_of_ble_eq_true rfl, Nat.le_of_ble_eq_true rfl⟩) rfl (fun f1 H locs e2 _ hP hD hS => ?_)
  rw [ts_c 0 (by decide) (by decide)] at e2
  subst e2
  have hP : va_P D vwCl [tT tk q (nI 3) (nI 1001) (nI 1), tA g q 3003 f, tT cp qp (nI 1) (nI 80) (nI 80), tA g qp 80 (us 0), tT t0 q0 (nI 12) (nI 80) 0, tT t1 q1 (nI 5) (nI 1000) 0, tT t2 q2 (nI 5) (nI 112) 0, tT t3 q3 (nI 1) (nI 16) (nI 7), tA g q3 16 (us 1), tT lo ql (nI 1) (nI 6) 0, tT ca qc (nI 1) (nI 6) 0, (pg, .inr (2, [.ref t0, .ref t1, .ref t2, .ref t3, .ref t4])), (h, .inr (3, [.ref tk, .ref lo, .ref ca, .ref cp, .ref pg, .int 0, .int 1, .int 0, .int 0, .int (-9), .int 1, .int 0])), tT t4 q4 (nI 2) (nI 8) (nI 1), tA g q4 16 (upd fb 0 (-9))] H := hP
  have hD : va_D A [tT tk q (nI 3) (nI 1001) (nI 1), tA g q 3003 f, tT cp qp (nI 1) (nI 80) (nI 80), tA g qp 80 (us 0), tT t0 q0 (nI 12) (nI 80) 0, tT t1 q1 (nI 5) (nI 1000) 0, tT t2 q2 (nI 5) (nI 112) 0, tT t3 q3 (nI 1) (nI 16) (nI 7), tA g q3 16 (us 1), tT lo ql (nI 1) (nI 6) 0, tT ca qc (nI 1) (nI 6) 0, (pg, .inr (2, [.ref t0, .ref t1, .ref t2, .ref t3, .ref t4])), (h, .inr (3, [.ref tk, .ref lo, .ref ca, .ref cp, .ref pg, .int 0, .int 1, .int 0, .int 0, .int (-9), .int 1, .int 0])), tT t4 q4 (nI 2) (nI 8) (nI 1), tA g q4 16 (upd fb 0 (-9))] := hD
  refine lv_aload_n hx hb dX3_read_73 rfl (lv_at hl 3 rfl) ?_
  refine lv_bipush (v := 125) hx hb dX3_read_74 (by decide) ?_
  refine vz_Vv (wr := [tT tk q (nI 3) (nI 1001) (nI 1), tA g q 3003 f, tT cp qp (nI 1) (nI 80) (nI 80), tA g qp 80 (us 0), tT t0 q0 (nI 12) (nI 80) 0, tT t1 q1 (nI 5) (nI 1000) 0, tT t2 q2 (nI 5) (nI 112) 0, tT t3 q3 (nI 1) (nI 16) (nI 7), tA g q3 16 (us 1), tT lo ql (nI 1) (nI 6) 0, tT ca qc (nI 1) (nI 6) 0, (pg, .inr (2, [.ref t0, .ref t1, .ref t2, .ref t3, .ref t4])), tT t4 q4 (nI 2) (nI 8) (nI 1), tA g q4 16 (upd fb 0 (-9))]) (As := [.int 125]) (rest := []) hx hb hml hown hts hK hA hP hD hS (c_R_expect1 l D g h tk lo ca cp pg H.size 0 1 0 (-9) 0 125 (by decide)) kv_X3_64 (⟨Nat.le_of_ble_eq_true rfl, Nat.le_of_ble_eq_true rfl⟩) (q0 := 12) (ci := 3) rfl rfl rfl [12] [0, 1, 2, 3, 4, 5, 6, 7, 8, 9, 10, 11, 13, 14] rfl rfl (by decide) hl.1 (Nat.le_of_ble_eq_true rfl) dX3_read_76 (⟨Nat.le_of_ble_eq_true rfl, Nat.le_of_ble_eq_true rfl⟩) rfl (fun _ H locs _ _ hP hD hS => ?_)
  have hP : va_P D vwCl [tT tk q (nI 3) (nI 1001) (nI 1), tA g q 3003 f, tT cp qp (nI 1) (nI 80) (nI 80), tA g qp 80 (us 0), tT t0 q0 (nI 12) (nI 80) 0, tT t1 q1 (nI 5) (nI 1000) 0, tT t2 q2 (nI 5) (nI 112) 0, tT t3 q3 (nI 1) (nI 16) (nI 7), tA g q3 16 (us 1), tT lo ql (nI 1) (nI 6) 0, tT ca qc (nI 1) (nI 6) 0, (pg, .inr (2, [.ref t0, .ref t1, .ref t2, .ref t3, .ref t4])), tT t4 q4 (nI 2) (nI 8) (nI 1), tA g q4 16 (upd fb 0 (-9)), (h, .inr (3, [.ref tk, .ref lo, .ref ca, .ref cp, .ref pg, .int 0, .int 1, .int 0, .int 0, .int (-9), .int 1, .int 0]))] H := hP
  have hD : va_D A [tT tk q (nI 3) (nI 1001) (nI 1), tA g q 3003 f, tT cp qp (nI 1) (nI 80) (nI 80), tA g qp 80 (us 0), tT t0 q0 (nI 12) (nI 80) 0, tT t1 q1 (nI 5) (nI 1000) 0, tT t2 q2 (nI 5) (nI 112) 0, tT t3 q3 (nI 1) (nI 16) (nI 7), tA g q3 16 (us 1), tT lo ql (nI 1) (nI 6) 0, tT ca qc (nI 1) (nI 6) 0, (pg, .inr (2, [.ref t0, .ref t1, .ref t2, .ref t3, .ref t4])), tT t4 q4 (nI 2) (nI 8) (nI 1), tA g q4 16 (upd fb 0 (-9)), (h, .inr (3, [.ref tk, .ref lo, .ref ca, .ref cp, .ref pg, .int 0, .int 1, .int 0, .int 0, .int (-9), .int 1, .int 0]))] := hD
  refine lv_aload_n hx hb dX3_read_79 rfl (lv_at hl 3 rfl) ?_
  refine va_get (D := D) (ci := 3) (v := .int 1) (C := RX3) (T := TX3) (N := 12) hx hb hts inlX3 hown hK hP 14 rfl rfl 6 (by decide) (hts _ q443) (fun _ h => h) rfl dX3_read_80 ?_
  refine lv_sipush (v := 130) hx hb dX3_read_83 (by decide) ?_
  refine lv_icmp_ne (tgt := 93) hx hb dX3_read_86 (by decide) (fun _ => ?_) (fun h9 => absurd h9 (by decide))
  refine lv_iconst (v := 0) hx hb dX3_read_93 (by decide) ?_
  refine lv_istore_n (lv' := [(2, .int 0), (4, .int (nI 0)), (3, .int 0), (0, .ref h), (1, .ref pg)]) hx hb dX3_read_94 rfl hl (by decide) rfl (fun ls hl => ?_)
  refine lv_iinc (v := 1) (lv' := [(3, .int 1), (2, .int 0), (4, .int (nI 0)), (0, .ref h), (1, .ref pg)]) hx hb dX3_read_95 hl (k := 2) rfl (by decide) (by decide) rfl (fun ls hl => ?_)
  refine lv_goto (tgt := 37) hx hb dX3_read_98 (by decide) ?_
  refine lv_iload_n hx hb dX3_read_37 rfl (lv_at hl 0 rfl) ?_
  refine lv_bipush (v := 8) hx hb dX3_read_38 (by decide) ?_
  refine lv_icmp_gt (tgt := 101) hx hb dX3_read_40 (by decide) (fun h9 => absurd h9 (by decide)) (fun _ => ?_)
  refine lv_iload_n hx hb dX3_read_43 rfl (lv_at hl 1 rfl) ?_
  refine lv_if_eq (tgt := 101) hx hb dX3_read_44 (by decide) (fun _ => ?_) (fun h9 => absurd (by decide) h9)
  refine lv_aload_n hx hb dX3_read_101 rfl (lv_at hl 3 rfl) ?_
  refine va_get (D := D) (ci := 3) (v := .int 1) (C := RX3) (T := TX3) (N := 12) hx hb hts inlX3 hown hK hP 14 rfl rfl 6 (by decide) (hts _ q443) (fun _ h => h) rfl dX3_read_102 ?_
  refine lv_if_eq (tgt := 113) hx hb dX3_read_105 (by decide) (fun h9 => absurd h9 (by decide)) (fun _ => ?_)
  refine lv_aload_n hx hb dX3_read_108 rfl (lv_at hl 3 rfl) ?_
  refine lv_iconst (v := 1) hx hb dX3_read_109 (by decide) ?_
  refine vz_Vv (wr := [tT tk q (nI 3) (nI 1001) (nI 1), tA g q 3003 f, tT cp qp (nI 1) (nI 80) (nI 80), tA g qp 80 (us 0), tT t0 q0 (nI 12) (nI 80) 0, tT t1 q1 (nI 5) (nI 1000) 0, tT t2 q2 (nI 5) (nI 112) 0, tT t3 q3 (nI 1) (nI 16) (nI 7), tA g q3 16 (us 1), tT lo ql (nI 1) (nI 6) 0, tT ca qc (nI 1) (nI 6) 0, (pg, .inr (2, [.ref t0, .ref t1, .ref t2, .ref t3, .ref t4])), tT t4 q4 (nI 2) (nI 8) (nI 1), tA g q4 16 (upd fb 0 (-9))]) (As := [.int 1]) (rest := []) hx hb hml hown hts hK hA hP hD hS (c_R_fail l D g h tk lo ca cp pg H.size 0 1 0 0 (-9) 1 0 1) kv_X3_68 (⟨Nat.le_of_ble_eq_true rfl, Nat.le_of_ble_eq_true rfl⟩) (q0 := 14) (ci := 3) rfl rfl rfl [14] [0, 1, 2, 3, 4, 5, 6, 7, 8, 9, 10, 11, 12, 13] rfl rfl (by decide) hl.1 (Nat.le_of_ble_eq_true rfl) dX3_read_110 (⟨Nat.le_of_ble_eq_true rfl, Nat.le_of_ble_eq_true rfl⟩) rfl (fun u3 H locs e4 _ hP hD hS => ?_)
  obtain ⟨h9, -⟩ | ⟨-, e41⟩ := e4
  case inl => exact absurd h9 (by decide)
  subst e41
  have hP : va_P D vwCl [tT tk q (nI 3) (nI 1001) (nI 1), tA g q 3003 f, tT cp qp (nI 1) (nI 80) (nI 80), tA g qp 80 (us 0), tT t0 q0 (nI 12) (nI 80) 0, tT t1 q1 (nI 5) (nI 1000) 0, tT t2 q2 (nI 5) (nI 112) 0, tT t3 q3 (nI 1) (nI 16) (nI 7), tA g q3 16 (us 1), tT lo ql (nI 1) (nI 6) 0, tT ca qc (nI 1) (nI 6) 0, (pg, .inr (2, [.ref t0, .ref t1, .ref t2, .ref t3, .ref t4])), tT t4 q4 (nI 2) (nI 8) (nI 1), tA g q4 16 (upd fb 0 (-9)), (h, .inr (3, [.ref tk, .ref lo, .ref ca, .ref cp, .ref pg, .int 0, .int 1, .int 0, .int 0, .int (-9), .int 1, .int 0]))] H := hP
  have hD : va_D A [tT tk q (nI 3) (nI 1001) (nI 1), tA g q 3003 f, tT cp qp (nI 1) (nI 80) (nI 80), tA g qp 80 (us 0), tT t0 q0 (nI 12) (nI 80) 0, tT t1 q1 (nI 5) (nI 1000) 0, tT t2 q2 (nI 5) (nI 112) 0, tT t3 q3 (nI 1) (nI 16) (nI 7), tA g q3 16 (us 1), tT lo ql (nI 1) (nI 6) 0, tT ca qc (nI 1) (nI 6) 0, (pg, .inr (2, [.ref t0, .ref t1, .ref t2, .ref t3, .ref t4])), tT t4 q4 (nI 2) (nI 8) (nI 1), tA g q4 16 (upd fb 0 (-9)), (h, .inr (3, [.ref tk, .ref lo, .ref ca, .ref cp, .ref pg, .int 0, .int 1, .int 0, .int 0, .int (-9), .int 1, .int 0]))] := hD
  refine lv_aload_n hx hb dX3_read_113 rfl (lv_at hl 3 rfl) ?_
  refine vz_Vv (wr := [tT tk q (nI 3) (nI 1001) (nI 1), tA g q 3003 f, tT cp qp (nI 1) (nI 80) (nI 80), tA g qp 80 (us 0), tT t1 q1 (nI 5) (nI 1000) 0, tT t2 q2 (nI 5) (nI 112) 0, tT t3 q3 (nI 1) (nI 16) (nI 7), tA g q3 16 (us 1), tT lo ql (nI 1) (nI 6) 0, tT ca qc (nI 1) (nI 6) 0, tT t4 q4 (nI 2) (nI 8) (nI 1), tA g q4 16 (upd fb 0 (-9))]) (As := []) (rest := []) hx hb hml hown hts hK hA hP hD hS (c_R_checkCalls0 l D g h tk lo ca cp pg t0 t1 t2 t3 t4 q0 H.size 0 1 0 0 (-9) 1 0) kv_X3_71 (⟨Nat.le_of_ble_eq_true rfl, Nat.le_of_ble_eq_true rfl⟩) (q0 := 14) (ci := 3) rfl rfl rfl [14, 11, 4] [0, 1, 2, 3, 5, 6, 7, 8, 9, 10, 12, 13] rfl rfl (by decide) hl.1 (Nat.le_of_ble_eq_true rfl) dX3_read_114 (⟨Nat.le_of_ble_eq_true rfl, Nat.le_of_ble_eq_true rfl⟩) rfl (fun _ H locs _ _ hP hD hS => ?_)
  have hP : va_P D vwCl [tT tk q (nI 3) (nI 1001) (nI 1), tA g q 3003 f, tT cp qp (nI 1) (nI 80) (nI 80), tA g qp 80 (us 0), tT t1 q1 (nI 5) (nI 1000) 0, tT t2 q2 (nI 5) (nI 112) 0, tT t3 q3 (nI 1) (nI 16) (nI 7), tA g q3 16 (us 1), tT lo ql (nI 1) (nI 6) 0, tT ca qc (nI 1) (nI 6) 0, tT t4 q4 (nI 2) (nI 8) (nI 1), tA g q4 16 (upd fb 0 (-9)), (h, .inr (3, [.ref tk, .ref lo, .ref ca, .ref cp, .ref pg, .int 0, .int 1, .int 0, .int 0, .int (-9), .int 1, .int 0])), (pg, .inr (2, [.ref t0, .ref t1, .ref t2, .ref t3, .ref t4])), tT t0 q0 (nI 12) (nI 80) 0] H := hP
  have hD : va_D A [tT tk q (nI 3) (nI 1001) (nI 1), tA g q 3003 f, tT cp qp (nI 1) (nI 80) (nI 80), tA g qp 80 (us 0), tT t1 q1 (nI 5) (nI 1000) 0, tT t2 q2 (nI 5) (nI 112) 0, tT t3 q3 (nI 1) (nI 16) (nI 7), tA g q3 16 (us 1), tT lo ql (nI 1) (nI 6) 0, tT ca qc (nI 1) (nI 6) 0, tT t4 q4 (nI 2) (nI 8) (nI 1), tA g q4 16 (upd fb 0 (-9)), (h, .inr (3, [.ref tk, .ref lo, .ref ca, .ref cp, .ref pg, .int 0, .int 1, .int 0, .int 0, .int (-9), .int 1, .int 0])), (pg, .inr (2, [.ref t0, .ref t1, .ref t2, .ref t3, .ref t4])), tT t0 q0 (nI 12) (nI 80) 0] := hD
  refine lv_aload_n hx hb dX3_read_117 rfl (lv_at hl 3 rfl) ?_
  refine va_get (D := D) (ci := 3) (v := .int 1) (C := RX3) (T := TX3) (N := 12) hx hb hts inlX3 hown hK hP 12 rfl rfl 10 (by decide) (hts _ q445) (fun _ h => h) rfl dX3_read_118 ?_
  refine lv_if_ne (tgt := 146) hx hb dX3_read_121 (by decide) (fun _ => ?_) (fun h9 => absurd h9 (by decide))
  exact vz_vret hx hb hr hlk hK hP hD hS (()) (trivial) [12] rfl (by decide) (Nat.le_refl 0) (Nat.le_refl 0) dX3_read_146
