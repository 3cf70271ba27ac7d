theorem q84 : Cond.methodLink RX2 3 objectInit ∈ wsL_law := mT_1 (List.mem_of_getElem? (i := 77) rfl) rfl
theorem q85 : Cond.classLink RX2 9 RX6 ∈ wsL_law := mT_1 (List.mem_of_getElem? (i := 78) rfl) rfl
theorem q14 : Cond.instantiable RX6 4 ∈ wsL_law := mT_1 (List.mem_of_getElem? (i := 27) rfl) rfl
theorem q91 : Cond.methodLink RX2 11 yX6_init ∈ wsL_law := mT_1 (List.mem_of_getElem? (i := 79) rfl) rfl
theorem q61 : Cond.instanceMethod yX6_init ∈ wsL_law := mT_1 (List.mem_of_getElem? (i := 29) rfl) rfl
theorem q62 : Cond.code yX6_init cX6_init 3 none ∈ wsL_law := mT_1 (List.mem_of_getElem? (i := 30) rfl) rfl
theorem ki_X2_11 : vz_ci RX2 11 yX6_init cX6_init 3 2 := ⟨q91, q61, q15, q62, by decide +kernel⟩
theorem dX2_init_0 : decode cX2_init 0 = .ok (.aload_n 0, 1) := by decide +kernel
theorem dX2_init_1 : decode cX2_init 1 = .ok (.invokespecial 3, 3) := by decide +kernel
theorem dX2_init_4 : decode cX2_init 4 = .ok (.aload_n 0, 1) := by decide +kernel
theorem dX2_init_5 : decode cX2_init 5 = .ok (.new 9, 3) := by decide +kernel
theorem dX2_init_8 : decode cX2_init 8 = .ok (.dup, 1) := by decide +kernel
theorem dX2_init_9 : decode cX2_init 9 = .ok (.bipush 80, 2) := by decide +kernel
theorem dX2_init_11 : decode cX2_init 11 = .ok (.bipush 12, 2) := by decide +kernel
theorem dX2_init_13 : decode cX2_init 13 = .ok (.invokespecial 11, 3) := by decide +kernel
theorem dX2_init_16 : decode cX2_init 16 = .ok (.putfield 14, 3) := by decide +kernel
theorem dX2_init_19 : decode cX2_init 19 = .ok (.aload_n 0, 1) := by decide +kernel
theorem dX2_init_20 : decode cX2_init 20 = .ok (.new 9, 3) := by decide +kernel
theorem dX2_init_23 : decode cX2_init 23 = .ok (.dup, 1) := by decide +kernel
theorem dX2_init_24 : decode cX2_init 24 = .ok (.sipush 1000, 3) := by decide +kernel
theorem dX2_init_27 : decode cX2_init 27 = .ok (.iconst 5, 1) := by decide +kernel
theorem dX2_init_28 : decode cX2_init 28 = .ok (.invokespecial 11, 3) := by decide +kernel
theorem dX2_init_31 : decode cX2_init 31 = .ok (.putfield 20, 3) := by decide +kernel
theorem dX2_init_34 : decode cX2_init 34 = .ok (.aload_n 0, 1) := by decide +kernel
theorem dX2_init_35 : decode cX2_init 35 = .ok (.new 9, 3) := by decide +kernel
theorem dX2_init_38 : decode cX2_init 38 = .ok (.dup, 1) := by decide +kernel
theorem dX2_init_39 : decode cX2_init 39 = .ok (.bipush 112, 2) := by decide +kernel
theorem dX2_init_41 : decode cX2_init 41 = .ok (.iconst 5, 1) := by decide +kernel
theorem dX2_init_42 : decode cX2_init 42 = .ok (.invokespecial 11, 3) := by decide +kernel
theorem dX2_init_45 : decode cX2_init 45 = .ok (.putfield 23, 3) := by decide +kernel
theorem dX2_init_48 : decode cX2_init 48 = .ok (.aload_n 0, 1) := by decide +kernel
theorem dX2_init_49 : decode cX2_init 49 = .ok (.new 9, 3) := by decide +kernel
theorem dX2_init_52 : decode cX2_init 52 = .ok (.dup, 1) := by decide +kernel
theorem dX2_init_53 : decode cX2_init 53 = .ok (.bipush 16, 2) := by decide +kernel
theorem dX2_init_55 : decode cX2_init 55 = .ok (.iconst 1, 1) := by decide +kernel
theorem dX2_init_56 : decode cX2_init 56 = .ok (.invokespecial 11, 3) := by decide +kernel
theorem dX2_init_59 : decode cX2_init 59 = .ok (.putfield 26, 3) := by decide +kernel
theorem dX2_init_62 : decode cX2_init 62 = .ok (.aload_n 0, 1) := by decide +kernel
theorem dX2_init_63 : decode cX2_init 63 = .ok (.new 9, 3) := by decide +kernel
theorem dX2_init_66 : decode cX2_init 66 = .ok (.dup, 1) := by decide +kernel
theorem dX2_init_67 : decode cX2_init 67 = .ok (.bipush 8, 2) := by decide +kernel
theorem dX2_init_69 : decode cX2_init 69 = .ok (.iconst 2, 1) := by decide +kernel
theorem dX2_init_70 : decode cX2_init 70 = .ok (.invokespecial 11, 3) := by decide +kernel
theorem dX2_init_73 : decode cX2_init 73 = .ok (.putfield 29, 3) := by decide +kernel
theorem dX2_init_76 : decode cX2_init 76 = .ok (.return_, 1) := by decide +kernel
set_option maxHeartbeats 4000000 in
set_option maxRecDepth 100000 in
theorem c_P_init (l : Launch) (D : va_G) (g : Nat → ClassId) (h sz : Nat) : vz_Mv l D (tyG g) yX2_init cX2_init 1 2 40 10 6572 [.ref h] sz [(h, .inr (2, [.null, .null, .null, .null, .null]))] (fun _ : Nat → Nat => True) (fun a => [(h, .inr (2, [.ref (a 0), .ref (a 2), .ref (a 4), .ref (a 6), .ref (a 8)])), tT (a 0) (a 1) (nI 12) (nI 80) 0, tA g (a 1) 960 (fun _ => 0), tT (a 2) (a 3) (nI 5) (nI 1000) 0, tA g (a 3) 5000 (fun _ => 0), tT (a 4) (a 5) (nI 5) (nI 112) 0, tA g (a 5) 560 (fun _ => 0), tT (a 6) (a 7) (nI 1) (nI 16) 0, tA g (a 7) 16 (fun _ => 0), tT (a 8) (a 9) (nI 2) (nI 8) 0, tA g (a 9) 16 (fun _ => 0)]) := by
  refine vz_sv (by decide) (Nat.le_of_ble_eq_true rfl) (fun p e s m args below meth c hx hb hr hml hts hown hlk hin hK hsz A hA H locs hP hD hS ls hl => ?_)
  have hl : lv_has ls 1 [(0, .ref h)] := hl
  refine lv_aload_n hx hb dX2_init_0 rfl (lv_at hl 0 rfl) ?_
  refine W.objInit hx hb hown (hts _ q84) (hts _ q11) (hts _ q12) rfl (hl.1.trans hml.symm) rfl dX2_init_1 (Nat.le_of_ble_eq_true rfl) (Nat.le_of_ble_eq_true rfl) ?_
  refine W.eq (g2 := F0 m 4 ls []) rfl ?_
  refine lv_aload_n hx hb dX2_init_4 rfl (lv_at hl 0 rfl) ?_
  refine va_new (ci := 6) (fs := [.null, .int 0, .int 0, .int 0]) (C := RX6) (T := TX6) (N := 4) hx hb hts inlX6 tyX6 tyX6_ok hown (hts _ q85) (hts _ q14) (hts _ q15) hK hP hD hS hA rfl (lt_s (lt_s (lt_s (lt_s (lt_0) rfl) rfl) rfl) rfl) (Nat.le_of_ble_eq_true rfl) (Nat.le_of_ble_eq_true rfl) dX2_init_5 (fun qq1 H hP hD hS => ?_)
  refine W.cs (cells' := 1) (slots' := 4) rfl rfl ?_
  have hP : va_P D vwCl [(h, .inr (2, [.null, .null, .null, .null, .null])), (qq1, .inr (6, [.null, .int 0, .int 0, .int 0]))] H := hP
  have hD : va_D A [(h, .inr (2, [.null, .null, .null, .null, .null])), (qq1, .inr (6, [.null, .int 0, .int 0, .int 0]))] := hD
  refine lv_dup hx hb dX2_init_8 rfl ?_
  refine lv_bipush (v := 80) hx hb dX2_init_9 (by decide) ?_
  refine lv_bipush (v := 12) hx hb dX2_init_11 (by decide) ?_
  refine vz_Iv (wr := [(h, .inr (2, [.null, .null, .null, .null, .null]))]) (As := [.int 80, .int 12]) (rest := [.ref qq1, .ref h]) hx hb hml hown hts hK hA hP hD hS (c_T_init l D g qq1 H.size 12 80 960 (by decide +kernel)) ki_X2_11 (⟨Nat.le_of_ble_eq_true rfl, Nat.le_of_ble_eq_true rfl⟩) [1] [0] rfl rfl (by decide) hl.1 (Nat.le_of_ble_eq_true rfl) dX2_init_13 (⟨Nat.le_of_ble_eq_true rfl, Nat.le_of_ble_eq_true rfl⟩) rfl (fun aq2 H locs _ _ hP hD hS => ?_)
  refine W.cs (cells' := 2) (slots' := 964) rfl rfl ?_
  have hP : va_P D vwCl [(h, .inr (2, [.null, .null, .null, .null, .null])), tT qq1 aq2 (nI 12) (nI 80) 0, tA g aq2 960 (fun _ => 0)] H := hP
  have hD : va_D A [(h, .inr (2, [.null, .null, .null, .null, .null])), tT qq1 aq2 (nI 12) (nI 80) 0, tA g aq2 960 (fun _ => 0)] := hD
  refine va_putF (D := D) (ci := 2) (v := .ref qq1) (ty := .object "WaysAtlas$Table") (C := RX2) (T := TX2) (N := 5) hx hb hts inlX2 tyX2 tyX2_ok nmX2 hown hK hP hD hS 0 rfl rfl 0 (by decide) (hts _ q86) (fun _ h => h) rfl hin rfl (by decide +kernel) rfl rfl (Nat.le_of_ble_eq_true rfl) dX2_init_16 (fun H locs hP hD hS => ?_)
  have hP : va_P D vwCl [(h, .inr (2, [.ref qq1, .null, .null, .null, .null])), tT qq1 aq2 (nI 12) (nI 80) 0, tA g aq2 960 (fun _ => 0)] H := hP
  have hD : va_D A [(h, .inr (2, [.ref qq1, .null, .null, .null, .null])), tT qq1 aq2 (nI 12) (nI 80) 0, tA g aq2 960 (fun _ => 0)] := hD
  refine lv_aload_n hx hb dX2_init_19 rfl (lv_at hl 0 rfl) ?_
  refine va_new (ci := 6) (fs := [.null, .int 0, .int 0, .int 0]) (C := RX6) (T := TX6) (N := 4) hx hb hts inlX6 tyX6 tyX6_ok hown (hts _ q85) (hts _ q14) (hts _ q15) hK hP hD hS hA rfl (lt_s (lt_s (lt_s (lt_s (lt_0) rfl) rfl) rfl) rfl) (Nat.le_of_ble_eq_true rfl) (Nat.le_of_ble_eq_true rfl) dX2_init_20 (fun qq3 H hP hD hS => ?_)
  refine W.cs (cells' := 3) (slots' := 968) rfl rfl ?_
  have hP : va_P D vwCl [(h, .inr (2, [.ref qq1, .null, .null, .null, .null])), tT qq1 aq2 (nI 12) (nI 80) 0, tA g aq2 960 (fun _ => 0), (qq3, .inr (6, [.null, .int 0, .int 0, .int 0]))] H := hP
  have hD : va_D A [(h, .inr (2, [.ref qq1, .null, .null, .null, .null])), tT qq1 aq2 (nI 12) (nI 80) 0, tA g aq2 960 (fun _ => 0), (qq3, .inr (6, [.null, .int 0, .int 0, .int 0]))] := hD
  refine lv_dup hx hb dX2_init_23 rfl ?_
  refine lv_sipush (v := 1000) hx hb dX2_init_24 (by decide) ?_
  refine lv_iconst (v := 5) hx hb dX2_init_27 (by decide) ?_
  refine vz_Iv (wr := [(h, .inr (2, [.ref qq1, .null, .null, .null, .null])), tT qq1 aq2 (nI 12) (nI 80) 0, tA g aq2 960 (fun _ => 0)]) (As := [.int 1000, .int 5]) (rest := [.ref qq3, .ref h]) hx hb hml hown hts hK hA hP hD hS (c_T_init l D g qq3 H.size 5 1000 5000 (by decide +kernel)) ki_X2_11 (⟨Nat.le_of_ble_eq_true rfl, Nat.le_of_ble_eq_true rfl⟩) [3] [0, 1, 2] rfl rfl (by decide) hl.1 (Nat.le_of_ble_eq_true rfl) dX2_init_28 (⟨Nat.le_of_ble_eq_true rfl, Nat.le_of_ble_eq_true rfl⟩) rfl (fun aq4 H locs _ _ hP hD hS => ?_)
  refine W.cs (cells' := 4) (slots' := 5968) rfl rfl ?_
  have hP : va_P D vwCl [(h, .inr (2, [.ref qq1, .null, .null, .null, .null])), tT qq1 aq2 (nI 12) (nI 80) 0, tA g aq2 960 (fun _ => 0), tT qq3 aq4 (nI 5) (nI 1000) 0, tA g aq4 5000 (fun _ => 0)] H := hP
  have hD : va_D A [(h, .inr (2, [.ref qq1, .null, .null, .null, .null])), tT qq1 aq2 (nI 12) (nI 80) 0, tA g aq2 960 (fun _ => 0), tT qq3 aq4 (nI 5) (nI 1000) 0, tA g aq4 5000 (fun _ => 0)] := hD
  refine va_putF (D := D) (ci := 2) (v := .ref qq3) (ty := .object "WaysAtlas$Table") (C := RX2) (T := TX2) (N := 5) hx hb hts inlX2 tyX2 tyX2_ok nmX2 hown hK hP hD hS 0 rfl rfl 1 (by decide) (hts _ q87) (fun _ h => h) rfl hin rfl (by decide +kernel) rfl rfl (Nat.le_of_ble_eq_true rfl) dX2_init_31 (fun H locs hP hD hS => ?_)
  have hP : va_P D vwCl [(h, .inr (2, [.ref qq1, .ref qq3, .null, .null, .null])), tT qq1 aq2 (nI 12) (nI 80) 0, tA g aq2 960 (fun _ => 0), tT qq3 aq4 (nI 5) (nI 1000) 0, tA g aq4 5000 (fun _ => 0)] H := hP
  have hD : va_D A [(h, .inr (2, [.ref qq1, .ref qq3, .null, .null, .null])), tT qq1 aq2 (nI 12) (nI 80) 0, tA g aq2 960 (fun _ => 0), tT qq3 aq4 (nI 5) (nI 1000) 0, tA g aq4 5000 (fun _ => 0)] := hD
  refine lv_aload_n hx hb dX2_init_34 rfl (lv_at hl 0 rfl) ?_
  refine va_new (ci := 6) (fs := [.null, .int 0, .int 0, .int 0]) (C := RX6) (T := TX6) (N := 4) hx hb hts inlX6 tyX6 tyX6_ok hown (hts _ q85) (hts _ q14) (hts _ q15) hK hP hD hS hA rfl (lt_s (lt_s (lt_s (lt_s (lt_0) rfl) rfl) rfl) rfl) (Nat.le_of_ble_eq_true rfl) (Nat.le_of_ble_eq_true rfl) dX2_init_35 (fun qq5 H hP hD hS => ?_)
  refine W.cs (cells' := 5) (slots' := 5972) rfl rfl ?_
  have hP : va_P D vwCl [(h, .inr (2, [.ref qq1, .ref qq3, .null, .null, .null])), tT qq1 aq2 (nI 12) (nI 80) 0, tA g aq2 960 (fun _ => 0), tT qq3 aq4 (nI 5) (nI 1000) 0, tA g aq4 5000 (fun _ => 0), (qq5, .inr (6, [.null, .int 0, .int 0, .int 0]))] H := hP
  have hD : va_D A [(h, .inr (2, [.ref qq1, .ref qq3, .null, .null, .null])), tT qq1 aq2 (nI 12) (nI 80) 0, tA g aq2 960 (fun _ => 0), tT qq3 aq4 (nI 5) (nI 1000) 0, tA g aq4 5000 (fun _ => 0), (qq5, .inr (6, [.null, .int 0, .int 0, .int 0]))] := hD
  refine lv_dup hx hb dX2_init_38 rfl ?_
  refine lv_bipush (v := 112) hx hb dX2_init_39 (by decide) ?_
  refine lv_iconst (v := 5) hx hb dX2_init_41 (by decide) ?_
  refine vz_Iv (wr := [(h, .inr (2, [.ref qq1, .ref qq3, .null, .null, .null])), tT qq1 aq2 (nI 12) (nI 80) 0, tA g aq2 960 (fun _ => 0), tT qq3 aq4 (nI 5) (nI 1000) 0, tA g aq4 5000 (fun _ => 0)]) (As := [.int 112, .int 5]) (rest := [.ref qq5, .ref h]) hx hb hml hown hts hK hA hP hD hS (c_T_init l D g qq5 H.size 5 112 560 (by decide +kernel)) ki_X2_11 (⟨Nat.le_of_ble_eq_true rfl, Nat.le_of_ble_eq_true rfl⟩) [5] [0, 1, 2, 3, 4] rfl rfl (by decide) hl.1 (Nat.le_of_ble_eq_true rfl) dX2_init_42 (⟨Nat.le_of_ble_eq_true rfl, Nat.le_of_ble_eq_true rfl⟩) rfl (fun aq6 H locs _ _ hP hD hS => ?_)
  refine W.cs (cells' := 6) (slots' := 6532) rfl rfl ?_
  have hP : va_P D vwCl [(h, .inr (2, [.ref qq1, .ref qq3, .null, .null, .null])), tT qq1 aq2 (nI 12) (nI 80) 0, tA g aq2 960 (fun _ => 0), tT qq3 aq4 (nI 5) (nI 1000) 0, tA g aq4 5000 (fun _ => 0), tT qq5 aq6 (nI 5) (nI 112) 0, tA g aq6 560 (fun _ => 0)] H := hP
  have hD : va_D A [(h, .inr (2, [.ref qq1, .ref qq3, .null, .null, .null])), tT qq1 aq2 (nI 12) (nI 80) 0, tA g aq2 960 (fun _ => 0), tT qq3 aq4 (nI 5) (nI 1000) 0, tA g aq4 5000 (fun _ => 0), tT qq5 aq6 (nI 5) (nI 112) 0, tA g aq6 560 (fun _ => 0)] := hD
  refine va_putF (D := D) (ci := 2) (v := .ref qq5) (ty := .object "WaysAtlas$Table") (C := RX2) (T := TX2) (N := 5) hx hb hts inlX2 tyX2 tyX2_ok nmX2 hown hK hP hD hS 0 rfl rfl 2 (by decide) (hts _ q88) (fun _ h => h) rfl hin rfl (by decide +kernel) rfl rfl (Nat.le_of_ble_eq_true rfl) dX2_init_45 (fun H locs hP hD hS => ?_)
  have hP : va_P D vwCl [(h, .inr (2, [.ref qq1, .ref qq3, .ref qq5, .null, .null])), tT qq1 aq2 (nI 12) (nI 80) 0, tA g aq2 960 (fun _ => 0), tT qq3 aq4 (nI 5) (nI 1000) 0, tA g aq4 5000 (fun _ => 0), tT qq5 aq6 (nI 5) (nI 112) 0, tA g aq6 560 (fun _ => 0)] H := hP
  have hD : va_D A [(h, .inr (2, [.ref qq1, .ref qq3, .ref qq5, .null, .null])), tT qq1 aq2 (nI 12) (nI 80) 0, tA g aq2 960 (fun _ => 0), tT qq3 aq4 (nI 5) (nI 1000) 0, tA g aq4 5000 (fun _ => 0), tT qq5 aq6 (nI 5) (nI 112) 0, tA g aq6 560 (fun _ => 0)] := hD
  refine lv_aload_n hx hb dX2_init_48 rfl (lv_at hl 0 rfl) ?_
  refine va_new (ci := 6) (fs := [.null, .int 0, .int 0, .int 0]) (C := RX6) (T := TX6) (N := 4) hx hb hts inlX6 tyX6 tyX6_ok hown (hts _ q85) (hts _ q14) (hts _ q15) hK hP hD hS hA rfl (lt_s (lt_s (lt_s (lt_s (lt_0) rfl) rfl) rfl) rfl) (Nat.le_of_ble_eq_true rfl) (Nat.le_of_ble_eq_true rfl) dX2_init_49 (fun qq7 H hP hD hS => ?_)
  refine W.cs (cells' := 7) (slots' := 6536) rfl rfl ?_
  have hP : va_P D vwCl [(h, .inr (2, [.ref qq1, .ref qq3, .ref qq5, .null, .null])), tT qq1 aq2 (nI 12) (nI 80) 0, tA g aq2 960 (fun _ => 0), tT qq3 aq4 (nI 5) (nI 1000) 0, tA g aq4 5000 (fun _ => 0), tT qq5 aq6 (nI 5) (nI 112) 0, tA g aq6 560 (fun _ => 0), (qq7, .inr (6, [.null, .int 0, .int 0, .int 0]))] H := hP
  have hD : va_D A [(h, .inr (2, [.ref qq1, .ref qq3, .ref qq5, .null, .null])), tT qq1 aq2 (nI 12) (nI 80) 0, tA g aq2 960 (fun _ => 0), tT qq3 aq4 (nI 5) (nI 1000) 0, tA g aq4 5000 (fun _ => 0), tT qq5 aq6 (nI 5) (nI 112) 0, tA g aq6 560 (fun _ => 0), (qq7, .inr (6, [.null, .int 0, .int 0, .int 0]))] := hD
  refine lv_dup hx hb dX2_init_52 rfl ?_
  refine lv_bipush (v := 16) hx hb dX2_init_53 (by decide) ?_
  refine lv_iconst (v := 1) hx hb dX2_init_55 (by decide) ?_
  refine vz_Iv (wr := [(h, .inr (2, [.ref qq1, .ref qq3, .ref qq5, .null, .null])), tT qq1 aq2 (nI 12) (nI 80) 0, tA g aq2 960 (fun _ => 0), tT qq3 aq4 (nI 5) (nI 1000) 0, tA g aq4 5000 (fun _ => 0), tT qq5 aq6 (nI 5) (nI 112) 0, tA g aq6 560 (fun _ => 0)]) (As := [.int 16, .int 1]) (rest := [.ref qq7, .ref h]) hx hb hml hown hts hK hA hP hD hS (c_T_init l D g qq7 H.size 1 16 16 (by decide +kernel)) ki_X2_11 (⟨Nat.le_of_ble_eq_true rfl, Nat.le_of_ble_eq_true rfl⟩) [7] [0, 1, 2, 3, 4, 5, 6] rfl rfl (by decide) hl.1 (Nat.le_of_ble_eq_true rfl) dX2_init_56 (⟨Nat.le_of_ble_eq_true rfl, Nat.le_of_ble_eq_true rfl⟩) rfl (fun aq8 H locs _ _ hP hD hS => ?_)
  refine W.cs (cells' := 8) (slots' := 6552) rfl rfl ?_
  have hP : va_P D vwCl [(h, .inr (2, [.ref qq1, .ref qq3, .ref qq5, .null, .null])), tT qq1 aq2 (nI 12) (nI 80) 0, tA g aq2 960 (fun _ => 0), tT qq3 aq4 (nI 5) (nI 1000) 0, tA g aq4 5000 (fun _ => 0), tT qq5 aq6 (nI 5) (nI 112) 0, tA g aq6 560 (fun _ => 0), tT qq7 aq8 (nI 1) (nI 16) 0, tA g aq8 16 (fun _ => 0)] H := hP
  have hD : va_D A [(h, .inr (2, [.ref qq1, .ref qq3, .ref qq5, .null, .null])), tT qq1 aq2 (nI 12) (nI 80) 0, tA g aq2 960 (fun _ => 0), tT qq3 aq4 (nI 5) (nI 1000) 0, tA g aq4 5000 (fun _ => 0), tT qq5 aq6 (nI 5) (nI 112) 0, tA g aq6 560 (fun _ => 0), tT qq7 aq8 (nI 1) (nI 16) 0, tA g aq8 16 (fun _ => 0)] := hD
  refine va_putF (D := D) (ci := 2) (v := .ref qq7) (ty := .object "WaysAtlas$Table") (C := RX2) (T := TX2) (N := 5) hx hb hts inlX2 tyX2 tyX2_ok nmX2 hown hK hP hD hS 0 rfl rfl 3 (by decide) (hts _ q89) (fun _ h => h) rfl hin rfl (by decide +kernel) rfl rfl (Nat.le_of_ble_eq_true rfl) dX2_init_59 (fun H locs hP hD hS => ?_)
  have hP : va_P D vwCl [(h, .inr (2, [.ref qq1, .ref qq3, .ref qq5, .ref qq7, .null])), tT qq1 aq2 (nI 12) (nI 80) 0, tA g aq2 960 (fun _ => 0), tT qq3 aq4 (nI 5) (nI 1000) 0, tA g aq4 5000 (fun _ => 0), tT qq5 aq6 (nI 5) (nI 112) 0, tA g aq6 560 (fun _ => 0), tT qq7 aq8 (nI 1) (nI 16) 0, tA g aq8 16 (fun _ => 0)] H := hP
  have hD : va_D A [(h, .inr (2, [.ref qq1, .ref qq3, .ref qq5, .ref qq7, .null])), tT qq1 aq2 (nI 12) (nI 80) 0, tA g aq2 960 (fun _ => 0), tT qq3 aq4 (nI 5) (nI 1000) 0, tA g aq4 5000 (fun _ => 0), tT qq5 aq6 (nI 5) (nI 112) 0, tA g aq6 560 (fun _ => 0), tT qq7 aq8 (nI 1) (nI 16) 0, tA g aq8 16 (fun _ => 0)] := hD
  refine lv_aload_n hx hb dX2_init_62 rfl (lv_at hl 0 rfl) ?_
  refine va_new (ci := 6) (fs := [.null, .int 0, .int 0, .int 0]) (C := RX6) (T := TX6) (N := 4) hx hb hts inlX6 tyX6 tyX6_ok hown (hts _ q85) (hts _ q14) (hts _ q15) hK hP hD hS hA rfl (lt_s (lt_s (lt_s (lt_s (lt_0) rfl) rfl) rfl) rfl) (Nat.le_of_ble_eq_true rfl) (Nat.le_of_ble_eq_true rfl) dX2_init_63 (fun qq9 H hP hD hS => ?_)
  refine W.cs (cells' := 9) (slots' := 6556) rfl rfl ?_
  have hP : va_P D vwCl [(h, .inr (2, [.ref qq1, .ref qq3, .ref qq5, .ref qq7, .null])), tT qq1 aq2 (nI 12) (nI 80) 0, tA g aq2 960 (fun _ => 0), tT qq3 aq4 (nI 5) (nI 1000) 0, tA g aq4 5000 (fun _ => 0), tT qq5 aq6 (nI 5) (nI 112) 0, tA g aq6 560 (fun _ => 0), tT qq7 aq8 (nI 1) (nI 16) 0, tA g aq8 16 (fun _ => 0), (qq9, .inr (6, [.null, .int 0, .int 0, .int 0]))] H := hP
  have hD : va_D A [(h, .inr (2, [.ref qq1, .ref qq3, .ref qq5, .ref qq7, .null])), tT qq1 aq2 (nI 12) (nI 80) 0, tA g aq2 960 (fun _ => 0), tT qq3 aq4 (nI 5) (nI 1000) 0, tA g aq4 5000 (fun _ => 0), tT qq5 aq6 (nI 5) (nI 112) 0, tA g aq6 560 (fun _ => 0), tT qq7 aq8 (nI 1) (nI 16) 0, tA g aq8 16 (fun _ => 0), (qq9, .inr (6, [.null, .int 0, .int 0, .int 0]))] := hD
  refine lv_dup hx hb dX2_init_66 rfl ?_
  refine lv_bipush (v := 8) hx hb dX2_init_67 (by decide) ?_
  refine lv_iconst (v := 2) hx hb dX2_init_69 (by decide) ?_
  refine vz_Iv (wr := [(h, .inr (2, [.ref qq1, .ref qq3, .ref qq5, .ref qq7, .null])), tT qq1 aq2 (nI 12) (nI 80) 0, tA g aq2 960 (fun _ => 0), tT qq3 aq4 (nI 5) (nI 1000) 0, tA g aq4 5000 (fun _ => 0), tT qq5 aq6 (nI 5) (nI 112) 0, tA g aq6 560 (fun _ => 0), tT qq7 aq8 (nI 1) (nI 16) 0, tA g aq8 16 (fun _ => 0)]) (As := [.int 8, .int 2]) (rest := [.ref qq9, .ref h]) hx hb hml hown hts hK hA hP hD hS (c_T_init l D g qq9 H.size 2 8 16 (by decide +kernel)) ki_X2_11 (⟨Nat.le_of_ble_eq_true rfl, Nat.le_of_ble_eq_true rfl⟩) [9] [0, 1, 2, 3, 4, 5, 6, 7, 8] rfl rfl (by decide) hl.1 (Nat.le_of_ble_eq_true rfl) dX2_init_70 (⟨Nat.le_of_ble_eq_true rfl, Nat.le_of_ble_eq_true rfl⟩) rfl (fun aq10 H locs _ _ hP hD hS => ?_)
  refine W.cs (cells' := 10) (slots' := 6572) rfl rfl ?_
  have hP : va_P D vwCl [(h, .inr (2, [.ref qq1, .ref qq3, .ref qq5, .ref qq7, .null])), tT qq1 aq2 (nI 12) (nI 80) 0, tA g aq2 960 (fun _ => 0), tT qq3 aq4 (nI 5) (nI 1000) 0, tA g aq4 5000 (fun _ => 0), tT qq5 aq6 (nI 5) (nI 112) 0, tA g aq6 560 (fun _ => 0), tT qq7 aq8 (nI 1) (nI 16) 0, tA g aq8 16 (fun _ => 0), tT qq9 aq10 (nI 2) (nI 8) 0, tA g aq10 16 (fun _ => 0)] H := hP
  have hD : va_D A [(h, .inr (2, [.ref qq1, .ref qq3, .ref qq5, .ref qq7, .null])), tT qq1 aq2 (nI 12) (nI 80) 0, tA g aq2 960 (fun _ => 0), tT qq3 aq4 (nI 5) (nI 1000) 0, tA g aq4 5000 (fun _ => 0), tT qq5 aq6 (nI 5) (nI 112) 0, tA g aq6 560 (fun _ => 0), tT qq7 aq8 (nI 1) (nI 16) 0, tA g aq8 16 (fun _ => 0), tT qq9 aq10 (nI 2) (nI 8) 0, tA g aq10 16 (fun _ => 0)] := hD
  refine va_putF (D := D) (ci := 2) (v := .ref qq9) (ty := .object "WaysAtlas$Table") (C := RX2) (T := TX2) (N := 5) hx hb hts inlX2 tyX2 tyX2_ok nmX2 hown hK hP hD hS 0 rfl rfl 4 (by decide) (hts _ q90) (fun _ h => h) rfl hin rfl (by decide +kernel) rfl rfl (Nat.le_of_ble_eq_true rfl) dX2_init_73 (fun H locs hP hD hS => ?_)
  have hP : va_P D vwCl [(h, .inr (2, [.ref qq1, .ref qq3, .ref qq5, .ref qq7, .ref qq9])), tT qq1 aq2 (nI 12) (nI 80) 0, tA g aq2 960 (fun _ => 0), tT qq3 aq4 (nI 5) (nI 1000) 0, tA g aq4 5000 (fun _ => 0), tT qq5 aq6 (nI 5) (nI 112) 0, tA g aq6 560 (fun _ => 0), tT qq7 aq8 (nI 1) (nI 16) 0, tA g aq8 16 (fun _ => 0), tT qq9 aq10 (nI 2) (nI 8) 0, tA g aq10 16 (fun _ => 0)] H := hP
  have hD : va_D A [(h, .inr (2, [.ref qq1, .ref qq3, .ref qq5, .ref qq7, .ref qq9])), tT qq1 aq2 (nI 12) (nI 80) 0, tA g aq2 960 (fun _ => 0), tT qq3 aq4 (nI 5) (nI 1000) 0, tA g aq4 5000 (fun _ => 0), tT qq5 aq6 (nI 5) (nI 112) 0, tA g aq6 560 (fun _ => 0), tT qq7 aq8 (nI 1) (nI 16) 0, tA g aq8 16 (fun _ => 0), tT qq9 aq10 (nI 2) (nI 8) 0, tA g aq10 16 (fun _ => 0)] := hD
  exact vz_vret hx hb hr hlk hK hP hD hS (fun k => [qq1, aq2, qq3, aq4, qq5, aq6, qq7, aq8, qq9, aq10].getD k 0) (trivial) [0, 1, 2, 3, 4, 5, 6, 7, 8, 9, 10] rfl (by decide) (Nat.le_of_ble_eq_true rfl) (Nat.le_of_ble_eq_true rfl) dX2_init_76
theorem q117 : Cond.methodLink RX4 3 objectInit ∈ wsL_law := mT_1 (List.mem_of_getElem? (i := 203) rfl) rfl
theorem q118 : Cond.classLink RX4 9 RX6 ∈ wsL_law := mT_1 (List.mem_of_getElem? (i := 204) rfl) rfl
theorem q125 : Cond.methodLink RX4 11 yX6_init ∈ wsL_law := mT_1 (List.mem_of_getElem? (i := 205) rfl) rfl
theorem ki_X4_11 : vz_ci RX4 11 yX6_init cX6_init 3 2 := ⟨q125, q61, q15, q62, by decide +kernel⟩
theorem dX4_init_0 : decode cX4_init 0 = .ok (.aload_n 0, 1) := by decide +kernel
theorem dX4_init_1 : decode cX4_init 1 = .ok (.invokespecial 3, 3) := by decide +kernel
theorem dX4_init_4 : decode cX4_init 4 = .ok (.aload_n 0, 1) := by decide +kernel
theorem dX4_init_5 : decode cX4_init 5 = .ok (.new 9, 3) := by decide +kernel
theorem dX4_init_8 : decode cX4_init 8 = .ok (.dup, 1) := by decide +kernel
theorem dX4_init_9 : decode cX4_init 9 = .ok (.sipush 400, 3) := by decide +kernel
theorem dX4_init_12 : decode cX4_init 12 = .ok (.iconst 1, 1) := by decide +kernel
theorem dX4_init_13 : decode cX4_init 13 = .ok (.invokespecial 11, 3) := by decide +kernel
theorem dX4_init_16 : decode cX4_init 16 = .ok (.putfield 14, 3) := by decide +kernel
theorem dX4_init_19 : decode cX4_init 19 = .ok (.aload_n 0, 1) := by decide +kernel
theorem dX4_init_20 : decode cX4_init 20 = .ok (.new 9, 3) := by decide +kernel
theorem dX4_init_23 : decode cX4_init 23 = .ok (.dup, 1) := by decide +kernel
theorem dX4_init_24 : decode cX4_init 24 = .ok (.sipush 400, 3) := by decide +kernel
theorem dX4_init_27 : decode cX4_init 27 = .ok (.bipush 7, 2) := by decide +kernel
theorem dX4_init_29 : decode cX4_init 29 = .ok (.invokespecial 11, 3) := by decide +kernel
theorem dX4_init_32 : decode cX4_init 32 = .ok (.putfield 20, 3) := by decide +kernel
theorem dX4_init_35 : decode cX4_init 35 = .ok (.aload_n 0, 1) := by decide +kernel
theorem dX4_init_36 : decode cX4_init 36 = .ok (.new 9, 3) := by decide +kernel
theorem dX4_init_39 : decode cX4_init 39 = .ok (.dup, 1) := by decide +kernel
theorem dX4_init_40 : decode cX4_init 40 = .ok (.sipush 401, 3) := by decide +kernel
theorem dX4_init_43 : decode cX4_init 43 = .ok (.iconst 3, 1) := by decide +kernel
theorem dX4_init_44 : decode cX4_init 44 = .ok (.invokespecial 11, 3) := by decide +kernel
theorem dX4_init_47 : decode cX4_init 47 = .ok (.putfield 23, 3) := by decide +kernel
theorem dX4_init_50 : decode cX4_init 50 = .ok (.aload_n 0, 1) := by decide +kernel
theorem dX4_init_51 : decode cX4_init 51 = .ok (.new 9, 3) := by decide +kernel
theorem dX4_init_54 : decode cX4_init 54 = .ok (.dup, 1) := by decide +kernel
theorem dX4_init_55 : decode cX4_init 55 = .ok (.sipush 400, 3) := by decide +kernel
theorem dX4_init_58 : decode cX4_init 58 = .ok (.iconst 1, 1) := by decide +kernel
theorem dX4_init_59 : decode cX4_init 59 = .ok (.invokespecial 11, 3) := by decide +kernel
theorem dX4_init_62 : decode cX4_init 62 = .ok (.putfield 26, 3) := by decide +kernel
theorem dX4_init_65 : decode cX4_init 65 = .ok (.aload_n 0, 1) := by decide +kernel
theorem dX4_init_66 : decode cX4_init 66 = .ok (.new 9, 3) := by decide +kernel
theorem dX4_init_69 : decode cX4_init 69 = .ok (.dup, 1) := by decide +kernel
theorem dX4_init_70 : decode cX4_init 70 = .ok (.bipush 80, 2) := by decide +kernel
theorem dX4_init_72 : decode cX4_init 72 = .ok (.iconst 1, 1) := by decide +kernel
theorem dX4_init_73 : decode cX4_init 73 = .ok (.invokespecial 11, 3) := by decide +kernel
theorem dX4_init_76 : decode cX4_init 76 = .ok (.putfield 29, 3) := by decide +kernel
theorem dX4_init_79 : decode cX4_init 79 = .ok (.aload_n 0, 1) := by decide +kernel
theorem dX4_init_80 : decode cX4_init 80 = .ok (.bipush (-9), 2) := by decide +kernel
theorem dX4_init_82 : decode cX4_init 82 = .ok (.putfield 32, 3) := by decide +kernel
theorem dX4_init_85 : decode cX4_init 85 = .ok (.return_, 1) := by decide +kernel
set_option maxHeartbeats 4000000 in
set_option maxRecDepth 100000 in
theorem c_C_rec (l : Launch) (D : va_G) (g : Nat → ClassId) (h sz : Nat) : vz_Mv l D (tyG g) yX4_init cX4_init 1 2 40 10 4903 [.ref h] sz [(h, .inr (4, [.null, .null, .null, .null, .null, .int 0, .int 0, .int 0, .int 0, .int 0, .int 0, .int 0]))] (fun _ : Nat → Nat => True) (fun a => [(h, .inr (4, [.ref (a 0), .ref (a 2), .ref (a 4), .ref (a 6), .ref (a 8), .int (-9), .int 0, .int 0, .int 0, .int 0, .int 0, .int 0])), tT (a 0) (a 1) (nI 1) (nI 400) 0, tA g (a 1) 400 (fun _ => 0), tT (a 2) (a 3) (nI 7) (nI 400) 0, tA g (a 3) 2800 (fun _ => 0), tT (a 4) (a 5) (nI 3) (nI 401) 0, tA g (a 5) 1203 (fun _ => 0), tT (a 6) (a 7) (nI 1) (nI 400) 0, tA g (a 7) 400 (fun _ => 0), tT (a 8) (a 9) (nI 1) (nI 80) 0, tA g (a 9) 80 (fun _ => 0)]) := by
  refine vz_sv (by decide) (Nat.le_of_ble_eq_true rfl) (fun p e s m args below meth c hx hb hr hml hts hown hlk hin hK hsz A hA H locs hP hD hS ls hl => ?_)
  have hl : lv_has ls 1 [(0, .ref h)] := hl
  refine lv_aload_n hx hb dX4_init_0 rfl (lv_at hl 0 rfl) ?_
  refine W.objInit hx hb hown (hts _ q117) (hts _ q11) (hts _ q12) rfl (hl.1.trans hml.symm) rfl dX4_init_1 (Nat.le_of_ble_eq_true rfl) (Nat.le_of_ble_eq_true rfl) ?_
  refine W.eq (g2 := F0 m 4 ls []) rfl ?_
  refine lv_aload_n hx hb dX4_init_4 rfl (lv_at hl 0 rfl) ?_
  refine va_new (ci := 6) (fs := [.null, .int 0, .int 0, .int 0]) (C := RX6) (T := TX6) (N := 4) hx hb hts inlX6 tyX6 tyX6_ok hown (hts _ q118) (hts _ q14) (hts _ q15) hK hP hD hS hA rfl (lt_s (lt_s (lt_s (lt_s (lt_0) rfl) rfl) rfl) rfl) (Nat.le_of_ble_eq_true rfl) (Nat.le_of_ble_eq_true rfl) dX4_init_5 (fun qq1 H hP hD hS => ?_)
  refine W.cs (cells' := 1) (slots' := 4) rfl rfl ?_
  have hP : va_P D vwCl [(h, .inr (4, [.null, .null, .null, .null, .null, .int 0, .int 0, .int 0, .int 0, .int 0, .int 0, .int 0])), (qq1, .inr (6, [.null, .int 0, .int 0, .int 0]))] H := hP
  have hD : va_D A [(h, .inr (4, [.null, .null, .null, .null, .null, .int 0, .int 0, .int 0, .int 0, .int 0, .int 0, .int 0])), (qq1, .inr (6, [.null, .int 0, .int 0, .int 0]))] := hD
  refine lv_dup hx hb dX4_init_8 rfl ?_
  refine lv_sipush (v := 400) hx hb dX4_init_9 (by decide) ?_
  refine lv_iconst (v := 1) hx hb dX4_init_12 (by decide) ?_
  refine vz_Iv (wr := [(h, .inr (4, [.null, .null, .null, .null, .null, .int 0, .int 0, .int 0, .int 0, .int 0, .int 0, .int 0]))]) (As := [.int 400, .int 1]) (rest := [.ref qq1, .ref h]) hx hb hml hown hts hK hA hP hD hS (c_T_init l D g qq1 H.size 1 400 400 (by decide +kernel)) ki_X4_11 (⟨Nat.le_of_ble_eq_true rfl, Nat.le_of_ble_eq_true rfl⟩) [1] [0] rfl rfl (by decide) hl.1 (Nat.le_of_ble_eq_true rfl) dX4_init_13 (⟨Nat.le_of_ble_eq_true rfl, Nat.le_of_ble_eq_true rfl⟩) rfl (fun aq2 H locs _ _ hP hD hS => ?_)
  refine W.cs (cells' := 2) (slots' := 404) rfl rfl ?_
  have hP : va_P D vwCl [(h, .inr (4, [.null, .null, .null, .null, .null, .int 0, .int 0, .int 0, .int 0, .int 0, .int 0, .int 0])), tT qq1 aq2 (nI 1) (nI 400) 0, tA g aq2 400 (fun _ => 0)] H := hP
  have hD : va_D A [(h, .inr (4, [.null, .null, .null, .null, .null, .int 0, .int 0, .int 0, .int 0, .int 0, .int 0, .int 0])), tT qq1 aq2 (nI 1) (nI 400) 0, tA g aq2 400 (fun _ => 0)] := hD
  refine va_putF (D := D) (ci := 4) (v := .ref qq1) (ty := .object "WaysAtlas$Table") (C := RX4) (T := TX4) (N := 12) hx hb hts inlX4 tyX4 tyX4_ok nmX4 hown hK hP hD hS 0 rfl rfl 0 (by decide) (hts _ q119) (fun _ h => h) rfl hin rfl (by decide +kernel) rfl rfl (Nat.le_of_ble_eq_true rfl) dX4_init_16 (fun H locs hP hD hS => ?_)
  have hP : va_P D vwCl [(h, .inr (4, [.ref qq1, .null, .null, .null, .null, .int 0, .int 0, .int 0, .int 0, .int 0, .int 0, .int 0])), tT qq1 aq2 (nI 1) (nI 400) 0, tA g aq2 400 (fun _ => 0)] H := hP
  have hD : va_D A [(h, .inr (4, [.ref qq1, .null, .null, .null, .null, .int 0, .int 0, .int 0, .int 0, .int 0, .int 0, .int 0])), tT qq1 aq2 (nI 1) (nI 400) 0, tA g aq2 400 (fun _ => 0)] := hD
  refine lv_aload_n hx hb dX4_init_19 rfl (lv_at hl 0 rfl) ?_
  refine va_new (ci := 6) (fs := [.null, .int 0, .int 0, .int 0]) (C := RX6) (T := TX6) (N := 4) hx hb hts inlX6 tyX6 tyX6_ok hown (hts _ q118) (hts _ q14) (hts _ q15) hK hP hD hS hA rfl (lt_s (lt_s (lt_s (lt_s (lt_0) rfl) rfl) rfl) rfl) (Nat.le_of_ble_eq_true rfl) (Nat.le_of_ble_eq_true rfl) dX4_init_20 (fun qq3 H hP hD hS => ?_)
  refine W.cs (cells' := 3) (slots' := 408) rfl rfl ?_
  have hP : va_P D vwCl [(h, .inr (4, [.ref qq1, .null, .null, .null, .null, .int 0, .int 0, .int 0, .int 0, .int 0, .int 0, .int 0])), tT qq1 aq2 (nI 1) (nI 400) 0, tA g aq2 400 (fun _ => 0), (qq3, .inr (6, [.null, .int 0, .int 0, .int 0]))] H := hP
  have hD : va_D A [(h, .inr (4, [.ref qq1, .null, .null, .null, .null, .int 0, .int 0, .int 0, .int 0, .int 0, .int 0, .int 0])), tT qq1 aq2 (nI 1) (nI 400) 0, tA g aq2 400 (fun _ => 0), (qq3, .inr (6, [.null, .int 0, .int 0, .int 0]))] := hD
  refine lv_dup hx hb dX4_init_23 rfl ?_
  refine lv_sipush (v := 400) hx hb dX4_init_24 (by decide) ?_
  refine lv_bipush (v := 7) hx hb dX4_init_27 (by decide) ?_
  refine vz_Iv (wr := [(h, .inr (4, [.ref qq1, .null, .null, .null, .null, .int 0, .int 0, .int 0, .int 0, .int 0, .int 0, .int 0])), tT qq1 aq2 (nI 1) (nI 400) 0, tA g aq2 400 (fun _ => 0)]) (As := [.int 400, .int 7]) (rest := [.ref qq3, .ref h]) hx hb hml hown hts hK hA hP hD hS (c_T_init l D g qq3 H.size 7 400 2800 (by decide +kernel)) ki_X4_11 (⟨Nat.le_of_ble_eq_true rfl, Nat.le_of_ble_eq_true rfl⟩) [3] [0, 1, 2] rfl rfl (by decide) hl.1 (Nat.le_of_ble_eq_true rfl) dX4_init_29 (⟨Nat.le_of_ble_eq_true rfl, Nat.le_of_ble_eq_true rfl⟩) rfl (fun aq4 H locs _ _ hP hD hS => ?_)
  refine W.cs (cells' := 4) (slots' := 3208) rfl rfl ?_
  have hP : va_P D vwCl [(h, .inr (4, [.ref qq1, .null, .null, .null, .null, .int 0, .int 0, .int 0, .int 0, .int 0, .int 0, .int 0])), tT qq1 aq2 (nI 1) (nI 400) 0, tA g aq2 400 (fun _ => 0), tT qq3 aq4 (nI 7) (nI 400) 0, tA g aq4 2800 (fun _ => 0)] H := hP
  have hD : va_D A [(h, .inr (4, [.ref qq1, .null, .null, .null, .null, .int 0, .int 0, .int 0, .int 0, .int 0, .int 0, .int 0])), tT qq1 aq2 (nI 1) (nI 400) 0, tA g aq2 400 (fun _ => 0), tT qq3 aq4 (nI 7) (nI 400) 0, tA g aq4 2800 (fun _ => 0)] := hD
  refine va_putF (D := D) (ci := 4) (v := .ref qq3) (ty := .object "WaysAtlas$Table") (C := RX4) (T := TX4) (N := 12) hx hb hts inlX4 tyX4 tyX4_ok nmX4 hown hK hP hD hS 0 rfl rfl 1 (by decide) (hts _ q120) (fun _ h => h) rfl hin rfl (by decide +kernel) rfl rfl (Nat.le_of_ble_eq_true rfl) dX4_init_32 (fun H locs hP hD hS => ?_)
  have hP : va_P D vwCl [(h, .inr (4, [.ref qq1, .ref qq3, .null, .null, .null, .int 0, .int 0, .int 0, .int 0, .int 0, .int 0, .int 0])), tT qq1 aq2 (nI 1) (nI 400) 0, tA g aq2 400 (fun _ => 0), tT qq3 aq4 (nI 7) (nI 400) 0, tA g aq4 2800 (fun _ => 0)] H := hP
  have hD : va_D A [(h, .inr (4, [.ref qq1, .ref qq3, .null, .null, .null, .int 0, .int 0, .int 0, .int 0, .int 0, .int 0, .int 0])), tT qq1 aq2 (nI 1) (nI 400) 0, tA g aq2 400 (fun _ => 0), tT qq3 aq4 (nI 7) (nI 400) 0, tA g aq4 2800 (fun _ => 0)] := hD
  refine lv_aload_n hx hb dX4_init_35 rfl (lv_at hl 0 rfl) ?_
  refine va_new (ci := 6) (fs := [.null, .int 0, .int 0, .int 0]) (C := RX6) (T := TX6) (N := 4) hx hb hts inlX6 tyX6 tyX6_ok hown (hts _ q118) (hts _ q14) (hts _ q15) hK hP hD hS hA rfl (lt_s (lt_s (lt_s (lt_s (lt_0) rfl) rfl) rfl) rfl) (Nat.le_of_ble_eq_true rfl) (Nat.le_of_ble_eq_true rfl) dX4_init_36 (fun qq5 H hP hD hS => ?_)
  refine W.cs (cells' := 5) (slots' := 3212) rfl rfl ?_
  have hP : va_P D vwCl [(h, .inr (4, [.ref qq1, .ref qq3, .null, .null, .null, .int 0, .int 0, .int 0, .int 0, .int 0, .int 0, .int 0])), tT qq1 aq2 (nI 1) (nI 400) 0, tA g aq2 400 (fun _ => 0), tT qq3 aq4 (nI 7) (nI 400) 0, tA g aq4 2800 (fun _ => 0), (qq5, .inr (6, [.null, .int 0, .int 0, .int 0]))] H := hP
  have hD : va_D A [(h, .inr (4, [.ref qq1, .ref qq3, .null, .null, .null, .int 0, .int 0, .int 0, .int 0, .int 0, .int 0, .int 0])), tT qq1 aq2 (nI 1) (nI 400) 0, tA g aq2 400 (fun _ => 0), tT qq3 aq4 (nI 7) (nI 400) 0, tA g aq4 2800 (fun _ => 0), (qq5, .inr (6, [.null, .int 0, .int 0, .int 0]))] := hD
  refine lv_dup hx hb dX4_init_39 rfl ?_
  refine lv_sipush (v := 401) hx hb dX4_init_40 (by decide) ?_
  refine lv_iconst (v := 3) hx hb dX4_init_43 (by decide) ?_
  refine vz_Iv (wr := [(h, .inr (4, [.ref qq1, .ref qq3, .null, .null, .null, .int 0, .int 0, .int 0, .int 0, .int 0, .int 0, .int 0])), tT qq1 aq2 (nI 1) (nI 400) 0, tA g aq2 400 (fun _ => 0), tT qq3 aq4 (nI 7) (nI 400) 0, tA g aq4 2800 (fun _ => 0)]) (As := [.int 401, .int 3]) (rest := [.ref qq5, .ref h]) hx hb hml hown hts hK hA hP hD hS (c_T_init l D g qq5 H.size 3 401 1203 (by decide +kernel)) ki_X4_11 (⟨Nat.le_of_ble_eq_true rfl, Nat.le_of_ble_eq_true rfl⟩) [5] [0, 1, 2, 3, 4] rfl rfl (by decide) hl.1 (Nat.le_of_ble_eq_true rfl) dX4_init_44 (⟨Nat.le_of_ble_eq_true rfl, Nat.le_of_ble_eq_true rfl⟩) rfl (fun aq6 H locs _ _ hP hD hS => ?_)
  refine W.cs (cells' := 6) (slots' := 4415) rfl rfl ?_
  have hP : va_P D vwCl [(h, .inr (4, [.ref qq1, .ref qq3, .null, .null, .null, .int 0, .int 0, .int 0, .int 0, .int 0, .int 0, .int 0])), tT qq1 aq2 (nI 1) (nI 400) 0, tA g aq2 400 (fun _ => 0), tT qq3 aq4 (nI 7) (nI 400) 0, tA g aq4 2800 (fun _ => 0), tT qq5 aq6 (nI 3) (nI 401) 0, tA g aq6 1203 (fun _ => 0)] H := hP
  have hD : va_D A [(h, .inr (4, [.ref qq1, .ref qq3, .null, .null, .null, .int 0, .int 0, .int 0, .int 0, .int 0, .int 0, .int 0])), tT qq1 aq2 (nI 1) (nI 400) 0, tA g aq2 400 (fun _ => 0), tT qq3 aq4 (nI 7) (nI 400) 0, tA g aq4 2800 (fun _ => 0), tT qq5 aq6 (nI 3) (nI 401) 0, tA g aq6 1203 (fun _ => 0)] := hD
  refine va_putF (D := D) (ci := 4) (v := .ref qq5) (ty := .object "WaysAtlas$Table") (C := RX4) (T := TX4) (N := 12) hx hb hts inlX4 tyX4 tyX4_ok nmX4 hown hK hP hD hS 0 rfl rfl 2 (by decide) (hts _ q121) (fun _ h => h) rfl hin rfl (by decide +kernel) rfl rfl (Nat.le_of_ble_eq_true rfl) dX4_init_47 (fun H locs hP hD hS => ?_)
  have hP : va_P D vwCl [(h, .inr (4, [.ref qq1, .ref qq3, .ref qq5, .null, .null, .int 0, .int 0, .int 0, .int 0, .int 0, .int 0, .int 0])), tT qq1 aq2 (nI 1) (nI 400) 0, tA g aq2 400 (fun _ => 0), tT qq3 aq4 (nI 7) (nI 400) 0, tA g aq4 2800 (fun _ => 0), tT qq5 aq6 (nI 3) (nI 401) 0, tA g aq6 1203 (fun _ => 0)] H := hP
  have hD : va_D A [(h, .inr (4, [.ref qq1, .ref qq3, .ref qq5, .null, .null, .int 0, .int 0, .int 0, .int 0, .int 0, .int 0, .int 0])), tT qq1 aq2 (nI 1) (nI 400) 0, tA g aq2 400 (fun _ => 0), tT qq3 aq4 (nI 7) (nI 400) 0, tA g aq4 2800 (fun _ => 0), tT qq5 aq6 (nI 3) (nI 401) 0, tA g aq6 1203 (fun _ => 0)] := hD
  refine lv_aload_n hx hb dX4_init_50 rfl (lv_at hl 0 rfl) ?_
  refine va_new (ci := 6) (fs := [.null, .int 0, .int 0, .int 0]) (C := RX6) (T := TX6) (N := 4) hx hb hts inlX6 tyX6 tyX6_ok hown (hts _ q118) (hts _ q14) (hts _ q15) hK hP hD hS hA rfl (lt_s (lt_s (lt_s (lt_s (lt_0) rfl) rfl) rfl) rfl) (Nat.le_of_ble_eq_true rfl) (Nat.le_of_ble_eq_true rfl) dX4_init_51 (fun qq7 H hP hD hS => ?_)
  refine W.cs (cells' := 7) (slots' := 4419) rfl rfl ?_
  have hP : va_P D vwCl [(h, .inr (4, [.ref qq1, .ref qq3, .ref qq5, .null, .null, .int 0, .int 0, .int 0, .int 0, .int 0, .int 0, .int 0])), tT qq1 aq2 (nI 1) (nI 400) 0, tA g aq2 400 (fun _ => 0), tT qq3 aq4 (nI 7) (nI 400) 0, tA g aq4 2800 (fun _ => 0), tT qq5 aq6 (nI 3) (nI 401) 0, tA g aq6 1203 (fun _ => 0), (qq7, .inr (6, [.null, .int 0, .int 0, .int 0]))] H := hP
  have hD : va_D A [(h, .inr (4, [.ref qq1, .ref qq3, .ref qq5, .null, .null, .int 0, .int 0, .int 0, .int 0, .int 0, .int 0, .int 0])), tT qq1 aq2 (nI 1) (nI 400) 0, tA g aq2 400 (fun _ => 0), tT qq3 aq4 (nI 7) (nI 400) 0, tA g aq4 2800 (fun _ => 0), tT qq5 aq6 (nI 3) (nI 401) 0, tA g aq6 1203 (fun _ => 0), (qq7, .inr (6, [.null, .int 0, .int 0, .int 0]))] := hD
  refine lv_dup hx hb dX4_init_54 rfl ?_
  refine lv_sipush (v := 400) hx hb dX4_init_55 (by decide) ?_
  refine lv_iconst (v := 1) hx hb dX4_init_58 (by decide) ?_
  refine vz_Iv (wr := [(h, .inr (4, [.ref qq1, .ref qq3, .ref qq5, .null, .null, .int 0, .int 0, .int 0, .int 0, .int 0, .int 0, .int 0])), tT qq1 aq2 (nI 1) (nI 400) 0, tA g aq2 400 (fun _ => 0), tT qq3 aq4 (nI 7) (nI 400) 0, tA g aq4 2800 (fun _ => 0), tT qq5 aq6 (nI 3) (nI 401) 0, tA g aq6 1203 (fun _ => 0)]) (As := [.int 400, .int 1]) (rest := [.ref qq7, .ref h]) hx hb hml hown hts hK hA hP hD hS (c_T_init l D g qq7 H.size 1 400 400 (by decide +kernel)) ki_X4_11 (⟨Nat.le_of_ble_eq_true rfl, Nat.le_of_ble_eq_true rfl⟩) [7] [0, 1, 2, 3, 4, 5, 6] rfl rfl (by decide) hl.1 (Nat.le_of_ble_eq_true rfl) dX4_init_59 (⟨Nat.le_of_ble_eq_true rfl, Nat.le_of_ble_eq_true rfl⟩) rfl (fun aq8 H locs _ _ hP hD hS => ?_)
  refine W.cs (cells' := 8) (slots' := 4819) rfl rfl ?_
  have hP : va_P D vwCl [(h, .inr (4, [.ref qq1, .ref qq3, .ref qq5, .null, .null, .int 0, .int 0, .int 0, .int 0, .int 0, .int 0, .int 0])), tT qq1 aq2 (nI 1) (nI 400) 0, tA g aq2 400 (fun _ => 0), tT qq3 aq4 (nI 7) (nI 400) 0, tA g aq4 2800 (fun _ => 0), tT qq5 aq6 (nI 3) (nI 401) 0, tA g aq6 1203 (fun _ => 0), tT qq7 aq8 (nI 1) (nI 400) 0, tA g aq8 400 (fun _ => 0)] H := hP
  have hD : va_D A [(h, .inr (4, [.ref qq1, .ref qq3, .ref qq5, .null, .null, .int 0, .int 0, .int 0, .int 0, .int 0, .int 0, .int 0])), tT qq1 aq2 (nI 1) (nI 400) 0, tA g aq2 400 (fun _ => 0), tT qq3 aq4 (nI 7) (nI 400) 0, tA g aq4 2800 (fun _ => 0), tT qq5 aq6 (nI 3) (nI 401) 0, tA g aq6 1203 (fun _ => 0), tT qq7 aq8 (nI 1) (nI 400) 0, tA g aq8 400 (fun _ => 0)] := hD
  refine va_putF (D := D) (ci := 4) (v := .ref qq7) (ty := .object "WaysAtlas$Table") (C := RX4) (T := TX4) (N := 12) hx hb hts inlX4 tyX4 tyX4_ok nmX4 hown hK hP hD hS 0 rfl rfl 3 (by decide) (hts _ q122) (fun _ h => h) rfl hin rfl (by decide +kernel) rfl rfl (Nat.le_of_ble_eq_true rfl) dX4_init_62 (fun H locs hP hD hS => ?_)
  have hP : va_P D vwCl [(h, .inr (4, [.ref qq1, .ref qq3, .ref qq5, .ref qq7, .null, .int 0, .int 0, .int 0, .int 0, .int 0, .int 0, .int 0])), tT qq1 aq2 (nI 1) (nI 400) 0, tA g aq2 400 (fun _ => 0), tT qq3 aq4 (nI 7) (nI 400) 0, tA g aq4 2800 (fun _ => 0), tT qq5 aq6 (nI 3) (nI 401) 0, tA g aq6 1203 (fun _ => 0), tT qq7 aq8 (nI 1) (nI 400) 0, tA g aq8 400 (fun _ => 0)] H := hP
  have hD : va_D A [(h, .inr (4, [.ref qq1, .ref qq3, .ref qq5, .ref qq7, .null, .int 0, .int 0, .int 0, .int 0, .int 0, .int 0, .int 0])), tT qq1 aq2 (nI 1) (nI 400) 0, tA g aq2 400 (fun _ => 0), tT qq3 aq4 (nI 7) (nI 400) 0, tA g aq4 2800 (fun _ => 0), tT qq5 aq6 (nI 3) (nI 401) 0, tA g aq6 1203 (fun _ => 0), tT qq7 aq8 (nI 1) (nI 400) 0, tA g aq8 400 (fun _ => 0)] := hD
  refine lv_aload_n hx hb dX4_init_65 rfl (lv_at hl 0 rfl) ?_
  refine va_new (ci := 6) (fs := [.null, .int 0, .int 0, .int 0]) (C := RX6) (T := TX6) (N := 4) hx hb hts inlX6 tyX6 tyX6_ok hown (hts _ q118) (hts _ q14) (hts _ q15) hK hP hD hS hA rfl (lt_s (lt_s (lt_s (lt_s (lt_0) rfl) rfl) rfl) rfl) (Nat.le_of_ble_eq_true rfl) (Nat.le_of_ble_eq_true rfl) dX4_init_66 (fun qq9 H hP hD hS => ?_)
  refine W.cs (cells' := 9) (slots' := 4823) rfl rfl ?_
  have hP : va_P D vwCl [(h, .inr (4, [.ref qq1, .ref qq3, .ref qq5, .ref qq7, .null, .int 0, .int 0, .int 0, .int 0, .int 0, .int 0, .int 0])), tT qq1 aq2 (nI 1) (nI 400) 0, tA g aq2 400 (fun _ => 0), tT qq3 aq4 (nI 7) (nI 400) 0, tA g aq4 2800 (fun _ => 0), tT qq5 aq6 (nI 3) (nI 401) 0, tA g aq6 1203 (fun _ => 0), tT qq7 aq8 (nI 1) (nI 400) 0, tA g aq8 400 (fun _ => 0), (qq9, .inr (6, [.null, .int 0, .int 0, .int 0]))] H := hP
  have hD : va_D A [(h, .inr (4, [.ref qq1, .ref qq3, .ref qq5, .ref qq7, .null, .int 0, .int 0, .int 0, .int 0, .int 0, .int 0, .int 0])), tT qq1 aq2 (nI 1) (nI 400) 0, tA g aq2 400 (fun _ => 0), tT qq3 aq4 (nI 7) (nI 400) 0, tA g aq4 2800 (fun _ => 0), tT qq5 aq6 (nI 3) (nI 401) 0, tA g aq6 1203 (fun _ => 0), tT qq7 aq8 (nI 1) (nI 400) 0, tA g aq8 400 (fun _ => 0), (qq9, .inr (6, [.null, .int 0, .int 0, .int 0]))] := hD
  refine lv_dup hx hb dX4_init_69 rfl ?_
  refine lv_bipush (v := 80) hx hb dX4_init_70 (by decide) ?_
  refine lv_iconst (v := 1) hx hb dX4_init_72 (by decide) ?_
  refine vz_Iv (wr := [(h, .inr (4, [.ref qq1, .ref qq3, .ref qq5, .ref qq7, .null, .int 0, .int 0, .int 0, .int 0, .int 0, .int 0, .int 0])), tT qq1 aq2 (nI 1) (nI 400) 0, tA g aq2 400 (fun _ => 0), tT qq3 aq4 (nI 7) (nI 400) 0, tA g aq4 2800 (fun _ => 0), tT qq5 aq6 (nI 3) (nI 401) 0, tA g aq6 1203 (fun _ => 0), tT qq7 aq8 (nI 1) (nI 400) 0, tA g aq8 400 (fun _ => 0)]) (As := [.int 80, .int 1]) (rest := [.ref qq9, .ref h]) hx hb hml hown hts hK hA hP hD hS (c_T_init l D g qq9 H.size 1 80 80 (by decide +kernel)) ki_X4_11 (⟨Nat.le_of_ble_eq_true rfl, Nat.le_of_ble_eq_true rfl⟩) [9] [0, 1, 2, 3, 4, 5, 6, 7, 8] rfl rfl (by decide) hl.1 (Nat.le_of_ble_eq_true rfl) dX4_init_73 (⟨Nat.le_of_ble_eq_true rfl, Nat.le_of_ble_eq_true rfl⟩) rfl (fun aq10 H locs _ _ hP hD hS => ?_)
  refine W.cs (cells' := 10) (slots' := 4903) rfl rfl ?_
  have hP : va_P D vwCl [(h, .inr (4, [.ref qq1, .ref qq3, .ref qq5, .ref qq7, .null, .int 0, .int 0, .int 0, .int 0, .int 0, .int 0, .int 0])), tT qq1 aq2 (nI 1) (nI 400) 0, tA g aq2 400 (fun _ => 0), tT qq3 aq4 (nI 7) (nI 400) 0, tA g aq4 2800 (fun _ => 0), tT qq5 aq6 (nI 3) (nI 401) 0, tA g aq6 1203 (fun _ => 0), tT qq7 aq8 (nI 1) (nI 400) 0, tA g aq8 400 (fun _ => 0), tT qq9 aq10 (nI 1) (nI 80) 0, tA g aq10 80 (fun _ => 0)] H := hP
  have hD : va_D A [(h, .inr (4, [.ref qq1, .ref qq3, .ref qq5, .ref qq7, .null, .int 0, .int 0, .int 0, .int 0, .int 0, .int 0, .int 0])), tT qq1 aq2 (nI 1) (nI 400) 0, tA g aq2 400 (fun _ => 0), tT qq3 aq4 (nI 7) (nI 400) 0, tA g aq4 2800 (fun _ => 0), tT qq5 aq6 (nI 3) (nI 401) 0, tA g aq6 1203 (fun _ => 0), tT qq7 aq8 (nI 1) (nI 400) 0, tA g aq8 400 (fun _ => 0), tT qq9 aq10 (nI 1) (nI 80) 0, tA g aq10 80 (fun _ => 0)] := hD
  refine va_putF (D := D) (ci := 4) (v := .ref qq9) (ty := .object "WaysAtlas$Table") (C := RX4) (T := TX4) (N := 12) hx hb hts inlX4 tyX4 tyX4_ok nmX4 hown hK hP hD hS 0 rfl rfl 4 (by decide) (hts _ q123) (fun _ h => h) rfl hin rfl (by decide +kernel) rfl rfl (Nat.le_of_ble_eq_true rfl) dX4_init_76 (fun H locs hP hD hS => ?_)
  have hP : va_P D vwCl [(h, .inr (4, [.ref qq1, .ref qq3, .ref qq5, .ref qq7, .ref qq9, .int 0, .int 0, .int 0, .int 0, .int 0, .int 0, .int 0])), tT qq1 aq2 (nI 1) (nI 400) 0, tA g aq2 400 (fun _ => 0), tT qq3 aq4 (nI 7) (nI 400) 0, tA g aq4 2800 (fun _ => 0), tT qq5 aq6 (nI 3) (nI 401) 0, tA g aq6 1203 (fun _ => 0), tT qq7 aq8 (nI 1) (nI 400) 0, tA g aq8 400 (fun _ => 0), tT qq9 aq10 (nI 1) (nI 80) 0, tA g aq10 80 (fun _ => 0)] H := hP
  have hD : va_D A [(h, .inr (4, [.ref qq1, .ref qq3, .ref qq5, .ref qq7, .ref qq9, .int 0, .int 0, .int 0, .int 0, .int 0, .int 0, .int 0])), tT qq1 aq2 (nI 1) (nI 400) 0, tA g aq2 400 (fun _ => 0), tT qq3 aq4 (nI 7) (nI 400) 0, tA g aq4 2800 (fun _ => 0), tT qq5 aq6 (nI 3) (nI 401) 0, tA g aq6 1203 (fun _ => 0), tT qq7 aq8 (nI 1) (nI 400) 0, tA g aq8 400 (fun _ => 0), tT qq9 aq10 (nI 1) (nI 80) 0, tA g aq10 80 (fun _ => 0)] := hD
  refine lv_aload_n hx hb dX4_init_79 rfl (lv_at hl 0 rfl) ?_
  refine lv_bipush (v := (-9)) hx hb dX4_init_80 (by decide) ?_
  refine va_put (D := D) (ci := 4) (v := .int (-9)) (ty := .int) (C := RX4) (T := TX4) (N := 12) hx hb hts inlX4 tyX4 tyX4_ok nmX4 hown hK hP hD hS 0 rfl rfl 5 (by decide) (hts _ q124) (fun _ h => h) rfl (by decide +kernel) rfl rfl (Nat.le_of_ble_eq_true rfl) dX4_init_82 (fun H locs hP hD hS => ?_)
  have hP : va_P D vwCl [(h, .inr (4, [.ref qq1, .ref qq3, .ref qq5, .ref qq7, .ref qq9, .int (-9), .int 0, .int 0, .int 0, .int 0, .int 0, .int 0])), tT qq1 aq2 (nI 1) (nI 400) 0, tA g aq2 400 (fun _ => 0), tT qq3 aq4 (nI 7) (nI 400) 0, tA g aq4 2800 (fun _ => 0), tT qq5 aq6 (nI 3) (nI 401) 0, tA g aq6 1203 (fun _ => 0), tT qq7 aq8 (nI 1) (nI 400) 0, tA g aq8 400 (fun _ => 0), tT qq9 aq10 (nI 1) (nI 80) 0, tA g aq10 80 (fun _ => 0)] H := hP
  have hD : va_D A [(h, .inr (4, [.ref qq1, .ref qq3, .ref qq5, .ref qq7, .ref qq9, .int (-9), .int 0, .int 0, .int 0, .int 0, .int 0, .int 0])), tT qq1 aq2 (nI 1) (nI 400) 0, tA g aq2 400 (fun _ => 0), tT qq3 aq4 (nI 7) (nI 400) 0, tA g aq4 2800 (fun _ => 0), tT qq5 aq6 (nI 3) (nI 401) 0, tA g aq6 1203 (fun _ => 0), tT qq7 aq8 (nI 1) (nI 400) 0, tA g aq8 400 (fun _ => 0), tT qq9 aq10 (nI 1) (nI 80) 0, tA g aq10 80 (fun _ => 0)] := hD
  exact vz_vret hx hb hr hlk hK hP hD hS (fun k => [qq1, aq2, qq3, aq4, qq5, aq6, qq7, aq8, qq9, aq10].getD k 0) (trivial) [0, 1, 2, 3, 4, 5, 6, 7, 8, 9, 10] rfl (by decide) (Nat.le_of_ble_eq_true rfl) (Nat.le_of_ble_eq_true rfl) dX4_init_85
theorem q76 : Cond.methodLink RX5 3 objectInit ∈ wsL_law := mT_1 (List.mem_of_getElem? (i := 61) rfl) rfl
theorem q77 : Cond.classLink RX5 9 RX6 ∈ wsL_law := mT_1 (List.mem_of_getElem? (i := 62) rfl) rfl
theorem q80 : Cond.methodLink RX5 11 yX6_init ∈ wsL_law := mT_1 (List.mem_of_getElem? (i := 63) rfl) rfl
theorem ki_X5_11 : vz_ci RX5 11 yX6_init cX6_init 3 2 := ⟨q80, q61, q15, q62, by decide +kernel⟩
theorem dX5_init_0 : decode cX5_init 0 = .ok (.aload_n 0, 1) := by decide +kernel
theorem dX5_init_1 : decode cX5_init 1 = .ok (.invokespecial 3, 3) := by decide +kernel
theorem dX5_init_4 : decode cX5_init 4 = .ok (.aload_n 0, 1) := by decide +kernel
theorem dX5_init_5 : decode cX5_init 5 = .ok (.new 9, 3) := by decide +kernel
theorem dX5_init_8 : decode cX5_init 8 = .ok (.dup, 1) := by decide +kernel
theorem dX5_init_9 : decode cX5_init 9 = .ok (.sipush 1001, 3) := by decide +kernel
theorem dX5_init_12 : decode cX5_init 12 = .ok (.iconst 3, 1) := by decide +kernel
theorem dX5_init_13 : decode cX5_init 13 = .ok (.invokespecial 11, 3) := by decide +kernel
theorem dX5_init_16 : decode cX5_init 16 = .ok (.putfield 14, 3) := by decide +kernel
theorem dX5_init_19 : decode cX5_init 19 = .ok (.aload_n 0, 1) := by decide +kernel
theorem dX5_init_20 : decode cX5_init 20 = .ok (.iconst 0, 1) := by decide +kernel
theorem dX5_init_21 : decode cX5_init 21 = .ok (.putfield 20, 3) := by decide +kernel
theorem dX5_init_24 : decode cX5_init 24 = .ok (.return_, 1) := by decide +kernel
set_option maxHeartbeats 4000000 in
set_option maxRecDepth 100000 in
theorem c_S_init (l : Launch) (D : va_G) (g : Nat → ClassId) (h sz : Nat) : vz_Mv l D (tyG g) yX5_init cX5_init 1 2 40 2 3007 [.ref h] sz [(h, .inr (5, [.null, .int 0]))] (fun _ : Nat → Nat => True) (fun a => [(h, .inr (5, [.ref (a 0), .int 0])), tT (a 0) (a 1) (nI 3) (nI 1001) 0, tA g (a 1) 3003 (fun _ => 0)]) := by
  refine vz_sv (by decide) (Nat.le_of_ble_eq_true rfl) (fun p e s m args below meth c hx hb hr hml hts hown hlk hin hK hsz A hA H locs hP hD hS ls hl => ?_)
  have hl : lv_has ls 1 [(0, .ref h)] := hl
  refine lv_aload_n hx hb dX5_init_0 rfl (lv_at hl 0 rfl) ?_
  refine W.objInit hx hb hown (hts _ q76) (hts _ q11) (hts _ q12) rfl (hl.1.trans hml.symm) rfl dX5_init_1 (Nat.le_of_ble_eq_true rfl) (Nat.le_of_ble_eq_true rfl) ?_
  refine W.eq (g2 := F0 m 4 ls []) rfl ?_
  refine lv_aload_n hx hb dX5_init_4 rfl (lv_at hl 0 rfl) ?_
  refine va_new (ci := 6) (fs := [.null, .int 0, .int 0, .int 0]) (C := RX6) (T := TX6) (N := 4) hx hb hts inlX6 tyX6 tyX6_ok hown (hts _ q77) (hts _ q14) (hts _ q15) hK hP hD hS hA rfl (lt_s (lt_s (lt_s (lt_s (lt_0) rfl) rfl) rfl) rfl) (Nat.le_of_ble_eq_true rfl) (Nat.le_of_ble_eq_true rfl) dX5_init_5 (fun qq1 H hP hD hS => ?_)
  refine W.cs (cells' := 1) (slots' := 4) rfl rfl ?_
  have hP : va_P D vwCl [(h, .inr (5, [.null, .int 0])), (qq1, .inr (6, [.null, .int 0, .int 0, .int 0]))] H := hP
  have hD : va_D A [(h, .inr (5, [.null, .int 0])), (qq1, .inr (6, [.null, .int 0, .int 0, .int 0]))] := hD
  refine lv_dup hx hb dX5_init_8 rfl ?_
  refine lv_sipush (v := 1001) hx hb dX5_init_9 (by decide) ?_
  refine lv_iconst (v := 3) hx hb dX5_init_12 (by decide) ?_
  refine vz_Iv (wr := [(h, .inr (5, [.null, .int 0]))]) (As := [.int 1001, .int 3]) (rest := [.ref qq1, .ref h]) hx hb hml hown hts hK hA hP hD hS (c_T_init l D g qq1 H.size 3 1001 3003 (by decide +kernel)) ki_X5_11 (⟨Nat.le_of_ble_eq_true rfl, Nat.le_of_ble_eq_true rfl⟩) [1] [0] rfl rfl (by decide) hl.1 (Nat.le_of_ble_eq_true rfl) dX5_init_13 (⟨Nat.le_of_ble_eq_true rfl, Nat.le_of_ble_eq_true rfl⟩) rfl (fun aq2 H locs _ _ hP hD hS => ?_)
  refine W.cs (cells' := 2) (slots' := 3007) rfl rfl ?_
  have hP : va_P D vwCl [(h, .inr (5, [.null, .int 0])), tT qq1 aq2 (nI 3) (nI 1001) 0, tA g aq2 3003 (fun _ => 0)] H := hP
  have hD : va_D A [(h, .inr (5, [.null, .int 0])), tT qq1 aq2 (nI 3) (nI 1001) 0, tA g aq2 3003 (fun _ => 0)] := hD
  refine va_putF (D := D) (ci := 5) (v := .ref qq1) (ty := .object "WaysAtlas$Table") (C := RX5) (T := TX5) (N := 2) hx hb hts inlX5 tyX5 tyX5_ok nmX5 hown hK hP hD hS 0 rfl rfl 0 (by decide) (hts _ q78) (fun _ h => h) rfl hin rfl (by decide +kernel) rfl rfl (Nat.le_of_ble_eq_true rfl) dX5_init_16 (fun H locs hP hD hS => ?_)
  have hP : va_P D vwCl [(h, .inr (5, [.ref qq1, .int 0])), tT qq1 aq2 (nI 3) (nI 1001) 0, tA g aq2 3003 (fun _ => 0)] H := hP
  have hD : va_D A [(h, .inr (5, [.ref qq1, .int 0])), tT qq1 aq2 (nI 3) (nI 1001) 0, tA g aq2 3003 (fun _ => 0)] := hD
  refine lv_aload_n hx hb dX5_init_19 rfl (lv_at hl 0 rfl) ?_
  refine lv_iconst (v := 0) hx hb dX5_init_20 (by decide) ?_
  refine va_put (D := D) (ci := 5) (v := .int 0) (ty := .int) (C := RX5) (T := TX5) (N := 2) hx hb hts inlX5 tyX5 tyX5_ok nmX5 hown hK hP hD hS 0 rfl rfl 1 (by decide) (hts _ q79) (fun _ h => h) rfl (by decide +kernel) rfl rfl (Nat.le_of_ble_eq_true rfl) dX5_init_21 (fun H locs hP hD hS => ?_)
  have hP : va_P D vwCl [(h, .inr (5, [.ref qq1, .int 0])), tT qq1 aq2 (nI 3) (nI 1001) 0, tA g aq2 3003 (fun _ => 0)] H := hP
  have hD : va_D A [(h, .inr (5, [.ref qq1, .int 0])), tT qq1 aq2 (nI 3) (nI 1001) 0, tA g aq2 3003 (fun _ => 0)] := hD
  exact vz_vret hx hb hr hlk hK hP hD hS (fun k => [qq1, aq2].getD k 0) (trivial) [0, 1, 2] rfl (by decide) (Nat.le_of_ble_eq_true rfl) (Nat.le_of_ble_eq_true rfl) dX5_init_24
theorem q95 : Cond.methodLink RX3 3 objectInit ∈ wsL_law := mT_1 (List.mem_of_getElem? (i := 121) rfl) rfl
theorem q98 : Cond.classLink RX3 19 RX6 ∈ wsL_law := mT_1 (List.mem_of_getElem? (i := 122) rfl) rfl
theorem q103 : Cond.methodLink RX3 21 yX6_init ∈ wsL_law := mT_1 (List.mem_of_getElem? (i := 123) rfl) rfl
theorem ki_X3_21 : vz_ci RX3 21 yX6_init cX6_init 3 2 := ⟨q103, q61, q15, q62, by decide +kernel⟩
theorem dX3_init_0 : decode cX3_init 0 = .ok (.aload_n 0, 1) := by decide +kernel
theorem dX3_init_1 : decode cX3_init 1 = .ok (.invokespecial 3, 3) := by decide +kernel
theorem dX3_init_4 : decode cX3_init 4 = .ok (.aload_n 0, 1) := by decide +kernel
theorem dX3_init_5 : decode cX3_init 5 = .ok (.aload_n 1, 1) := by decide +kernel
theorem dX3_init_6 : decode cX3_init 6 = .ok (.putfield 9, 3) := by decide +kernel
theorem dX3_init_9 : decode cX3_init 9 = .ok (.aload_n 0, 1) := by decide +kernel
theorem dX3_init_10 : decode cX3_init 10 = .ok (.aload_n 2, 1) := by decide +kernel
theorem dX3_init_11 : decode cX3_init 11 = .ok (.putfield 15, 3) := by decide +kernel
theorem dX3_init_14 : decode cX3_init 14 = .ok (.aload_n 0, 1) := by decide +kernel
theorem dX3_init_15 : decode cX3_init 15 = .ok (.new 19, 3) := by decide +kernel
theorem dX3_init_18 : decode cX3_init 18 = .ok (.dup, 1) := by decide +kernel
theorem dX3_init_19 : decode cX3_init 19 = .ok (.bipush 6, 2) := by decide +kernel
theorem dX3_init_21 : decode cX3_init 21 = .ok (.iconst 1, 1) := by decide +kernel
theorem dX3_init_22 : decode cX3_init 22 = .ok (.invokespecial 21, 3) := by decide +kernel
theorem dX3_init_25 : decode cX3_init 25 = .ok (.putfield 24, 3) := by decide +kernel
theorem dX3_init_28 : decode cX3_init 28 = .ok (.aload_n 0, 1) := by decide +kernel
theorem dX3_init_29 : decode cX3_init 29 = .ok (.new 19, 3) := by decide +kernel
theorem dX3_init_32 : decode cX3_init 32 = .ok (.dup, 1) := by decide +kernel
theorem dX3_init_33 : decode cX3_init 33 = .ok (.bipush 6, 2) := by decide +kernel
theorem dX3_init_35 : decode cX3_init 35 = .ok (.iconst 1, 1) := by decide +kernel
theorem dX3_init_36 : decode cX3_init 36 = .ok (.invokespecial 21, 3) := by decide +kernel
theorem dX3_init_39 : decode cX3_init 39 = .ok (.putfield 27, 3) := by decide +kernel
theorem dX3_init_42 : decode cX3_init 42 = .ok (.aload_n 0, 1) := by decide +kernel
theorem dX3_init_43 : decode cX3_init 43 = .ok (.new 19, 3) := by decide +kernel
theorem dX3_init_46 : decode cX3_init 46 = .ok (.dup, 1) := by decide +kernel
theorem dX3_init_47 : decode cX3_init 47 = .ok (.bipush 80, 2) := by decide +kernel
theorem dX3_init_49 : decode cX3_init 49 = .ok (.iconst 1, 1) := by decide +kernel
theorem dX3_init_50 : decode cX3_init 50 = .ok (.invokespecial 21, 3) := by decide +kernel
theorem dX3_init_53 : decode cX3_init 53 = .ok (.putfield 30, 3) := by decide +kernel
theorem dX3_init_56 : decode cX3_init 56 = .ok (.aload_n 0, 1) := by decide +kernel
theorem dX3_init_57 : decode cX3_init 57 = .ok (.bipush (-9), 2) := by decide +kernel
theorem dX3_init_59 : decode cX3_init 59 = .ok (.putfield 33, 3) := by decide +kernel
theorem dX3_init_62 : decode cX3_init 62 = .ok (.return_, 1) := by decide +kernel
set_option maxHeartbeats 4000000 in
set_option maxRecDepth 100000 in
theorem c_R_init (l : Launch) (D : va_G) (g : Nat → ClassId) (h sz : Nat) (tk pg : Nat) : vz_Mv l D (tyG g) yX3_init cX3_init 3 2 40 6 104 [.ref h, .ref tk, .ref pg] sz [(h, .inr (3, [.null, .null, .null, .null, .null, .int 0, .int 0, .int 0, .int 0, .int 0, .int 0, .int 0]))] (fun _ : Nat → Nat => True) (fun a => [(h, .inr (3, [.ref tk, .ref (a 0), .ref (a 2), .ref (a 4), .ref pg, .int 0, .int 0, .int 0, .int 0, .int (-9), .int 0, .int 0])), tT (a 0) (a 1) (nI 1) (nI 6) 0, tA g (a 1) 6 (fun _ => 0), tT (a 2) (a 3) (nI 1) (nI 6) 0, tA g (a 3) 6 (fun _ => 0), tT (a 4) (a 5) (nI 1) (nI 80) 0, tA g (a 5) 80 (fun _ => 0)]) := by
  refine vz_sv (by decide) (Nat.le_of_ble_eq_true rfl) (fun p e s m args below meth c hx hb hr hml hts hown hlk hin hK hsz A hA H locs hP hD hS ls hl => ?_)
  have hl : lv_has ls 3 [(0, .ref h), (1, .ref tk), (2, .ref pg)] := hl
  refine lv_aload_n hx hb dX3_init_0 rfl (lv_at hl 0 rfl) ?_
  refine W.objInit hx hb hown (hts _ q95) (hts _ q11) (hts _ q12) rfl (hl.1.trans hml.symm) rfl dX3_init_1 (Nat.le_of_ble_eq_true rfl) (Nat.le_of_ble_eq_true rfl) ?_
  refine W.eq (g2 := F0 m 4 ls []) rfl ?_
  refine lv_aload_n hx hb dX3_init_4 rfl (lv_at hl 0 rfl) ?_
  refine lv_aload_n hx hb dX3_init_5 rfl (lv_at hl 1 rfl) ?_
  refine va_putF (D := D) (ci := 3) (v := .ref tk) (ty := .object "WaysAtlas$Table") (C := RX3) (T := TX3) (N := 12) hx hb hts inlX3 tyX3 tyX3_ok nmX3 hown hK hP hD hS 0 rfl rfl 0 (by decide) (hts _ q96) (fun _ h => h) rfl hin rfl (by decide +kernel) rfl rfl (Nat.le_of_ble_eq_true rfl) dX3_init_6 (fun H locs hP hD hS => ?_)
  have hP : va_P D vwCl [(h, .inr (3, [.ref tk, .null, .null, .null, .null, .int 0, .int 0, .int 0, .int 0, .int 0, .int 0, .int 0]))] H := hP
  have hD : va_D A [(h, .inr (3, [.ref tk, .null, .null, .null, .null, .int 0, .int 0, .int 0, .int 0, .int 0, .int 0, .int 0]))] := hD
  refine lv_aload_n hx hb dX3_init_9 rfl (lv_at hl 0 rfl) ?_
  refine lv_aload_n hx hb dX3_init_10 rfl (lv_at hl 2 rfl) ?_
  refine va_put (D := D) (ci := 3) (v := .ref pg) (ty := .object "WaysAtlas$Program") (C := RX3) (T := TX3) (N := 12) hx hb hts inlX3 tyX3 tyX3_ok nmX3 hown hK hP hD hS 0 rfl rfl 4 (by decide) (hts _ q97) (fun _ h => h) rfl (by decide +kernel) rfl rfl (Nat.le_of_ble_eq_true rfl) dX3_init_11 (fun H locs hP hD hS => ?_)
  have hP : va_P D vwCl [(h, .inr (3, [.ref tk, .null, .null, .null, .ref pg, .int 0, .int 0, .int 0, .int 0, .int 0, .int 0, .int 0]))] H := hP
  have hD : va_D A [(h, .inr (3, [.ref tk, .null, .null, .null, .ref pg, .int 0, .int 0, .int 0, .int 0, .int 0, .int 0, .int 0]))] := hD
  refine lv_aload_n hx hb dX3_init_14 rfl (lv_at hl 0 rfl) ?_
  refine va_new (ci := 6) (fs := [.null, .int 0, .int 0, .int 0]) (C := RX6) (T := TX6) (N := 4) hx hb hts inlX6 tyX6 tyX6_ok hown (hts _ q98) (hts _ q14) (hts _ q15) hK hP hD hS hA rfl (lt_s (lt_s (lt_s (lt_s (lt_0) rfl) rfl) rfl) rfl) (Nat.le_of_ble_eq_true rfl) (Nat.le_of_ble_eq_true rfl) dX3_init_15 (fun qq1 H hP hD hS => ?_)
  refine W.cs (cells' := 1) (slots' := 4) rfl rfl ?_
  have hP : va_P D vwCl [(h, .inr (3, [.ref tk, .null, .null, .null, .ref pg, .int 0, .int 0, .int 0, .int 0, .int 0, .int 0, .int 0])), (qq1, .inr (6, [.null, .int 0, .int 0, .int 0]))] H := hP
  have hD : va_D A [(h, .inr (3, [.ref tk, .null, .null, .null, .ref pg, .int 0, .int 0, .int 0, .int 0, .int 0, .int 0, .int 0])), (qq1, .inr (6, [.null, .int 0, .int 0, .int 0]))] := hD
  refine lv_dup hx hb dX3_init_18 rfl ?_
  refine lv_bipush (v := 6) hx hb dX3_init_19 (by decide) ?_
  refine lv_iconst (v := 1) hx hb dX3_init_21 (by decide) ?_
  refine vz_Iv (wr := [(h, .inr (3, [.ref tk, .null, .null, .null, .ref pg, .int 0, .int 0, .int 0, .int 0, .int 0, .int 0, .int 0]))]) (As := [.int 6, .int 1]) (rest := [.ref qq1, .ref h]) hx hb hml hown hts hK hA hP hD hS (c_T_init l D g qq1 H.size 1 6 6 (by decide +kernel)) ki_X3_21 (⟨Nat.le_of_ble_eq_true rfl, Nat.le_of_ble_eq_true rfl⟩) [1] [0] rfl rfl (by decide) hl.1 (Nat.le_of_ble_eq_true rfl) dX3_init_22 (⟨Nat.le_of_ble_eq_true rfl, Nat.le_of_ble_eq_true rfl⟩) rfl (fun aq2 H locs _ _ hP hD hS => ?_)
  refine W.cs (cells' := 2) (slots' := 10) rfl rfl ?_
  have hP : va_P D vwCl [(h, .inr (3, [.ref tk, .null, .null, .null, .ref pg, .int 0, .int 0, .int 0, .int 0, .int 0, .int 0, .int 0])), tT qq1 aq2 (nI 1) (nI 6) 0, tA g aq2 6 (fun _ => 0)] H := hP
  have hD : va_D A [(h, .inr (3, [.ref tk, .null, .null, .null, .ref pg, .int 0, .int 0, .int 0, .int 0, .int 0, .int 0, .int 0])), tT qq1 aq2 (nI 1) (nI 6) 0, tA g aq2 6 (fun _ => 0)] := hD
  refine va_putF (D := D) (ci := 3) (v := .ref qq1) (ty := .object "WaysAtlas$Table") (C := RX3) (T := TX3) (N := 12) hx hb hts inlX3 tyX3 tyX3_ok nmX3 hown hK hP hD hS 0 rfl rfl 1 (by decide) (hts _ q99) (fun _ h => h) rfl hin rfl (by decide +kernel) rfl rfl (Nat.le_of_ble_eq_true rfl) dX3_init_25 (fun H locs hP hD hS => ?_)
  have hP : va_P D vwCl [(h, .inr (3, [.ref tk, .ref qq1, .null, .null, .ref pg, .int 0, .int 0, .int 0, .int 0, .int 0, .int 0, .int 0])), tT qq1 aq2 (nI 1) (nI 6) 0, tA g aq2 6 (fun _ => 0)] H := hP
  have hD : va_D A [(h, .inr (3, [.ref tk, .ref qq1, .null, .null, .ref pg, .int 0, .int 0, .int 0, .int 0, .int 0, .int 0, .int 0])), tT qq1 aq2 (nI 1) (nI 6) 0, tA g aq2 6 (fun _ => 0)] := hD
  refine lv_aload_n hx hb dX3_init_28 rfl (lv_at hl 0 rfl) ?_
  refine va_new (ci := 6) (fs := [.null, .int 0, .int 0, .int 0]) (C := RX6) (T := TX6) (N := 4) hx hb hts inlX6 tyX6 tyX6_ok hown (hts _ q98) (hts _ q14) (hts _ q15) hK hP hD hS hA rfl (lt_s (lt_s (lt_s (lt_s (lt_0) rfl) rfl) rfl) rfl) (Nat.le_of_ble_eq_true rfl) (Nat.le_of_ble_eq_true rfl) dX3_init_29 (fun qq3 H hP hD hS => ?_)
  refine W.cs (cells' := 3) (slots' := 14) rfl rfl ?_
  have hP : va_P D vwCl [(h, .inr (3, [.ref tk, .ref qq1, .null, .null, .ref pg, .int 0, .int 0, .int 0, .int 0, .int 0, .int 0, .int 0])), tT qq1 aq2 (nI 1) (nI 6) 0, tA g aq2 6 (fun _ => 0), (qq3, .inr (6, [.null, .int 0, .int 0, .int 0]))] H := hP
  have hD : va_D A [(h, .inr (3, [.ref tk, .ref qq1, .null, .null, .ref pg, .int 0, .int 0, .int 0, .int 0, .int 0, .int 0, .int 0])), tT qq1 aq2 (nI 1) (nI 6) 0, tA g aq2 6 (fun _ => 0), (qq3, .inr (6, [.null, .int 0, .int 0, .int 0]))] := hD
  refine lv_dup hx hb dX3_init_32 rfl ?_
  refine lv_bipush (v := 6) hx hb dX3_init_33 (by decide) ?_
  refine lv_iconst (v := 1) hx hb dX3_init_35 (by decide) ?_
  refine vz_Iv (wr := [(h, .inr (3, [.ref tk, .ref qq1, .null, .null, .ref pg, .int 0, .int 0, .int 0, .int 0, .int 0, .int 0, .int 0])), tT qq1 aq2 (nI 1) (nI 6) 0, tA g aq2 6 (fun _ => 0)]) (As := [.int 6, .int 1]) (rest := [.ref qq3, .ref h]) hx hb hml hown hts hK hA hP hD hS (c_T_init l D g qq3 H.size 1 6 6 (by decide +kernel)) ki_X3_21 (⟨Nat.le_of_ble_eq_true rfl, Nat.le_of_ble_eq_true rfl⟩) [3] [0, 1, 2] rfl rfl (by decide) hl.1 (Nat.le_of_ble_eq_true rfl) dX3_init_36 (⟨Nat.le_of_ble_eq_true rfl, Nat.le_of_ble_eq_true rfl⟩) rfl (fun aq4 H locs _ _ hP hD hS => ?_)
  refine W.cs (cells' := 4) (slots' := 20) rfl rfl ?_
  have hP : va_P D vwCl [(h, .inr (3, [.ref tk, .ref qq1, .null, .null, .ref pg, .int 0, .int 0, .int 0, .int 0, .int 0, .int 0, .int 0])), tT qq1 aq2 (nI 1) (nI 6) 0, tA g aq2 6 (fun _ => 0), tT qq3 aq4 (nI 1) (nI 6) 0, tA g aq4 6 (fun _ => 0)] H := hP
  have hD : va_D A [(h, .inr (3, [.ref tk, .ref qq1, .null, .null, .ref pg, .int 0, .int 0, .int 0, .int 0, .int 0, .int 0, .int 0])), tT qq1 aq2 (nI 1) (nI 6) 0, tA g aq2 6 (fun _ => 0), tT qq3 aq4 (nI 1) (nI 6) 0, tA g aq4 6 (fun _ => 0)] := hD
  refine va_putF (D := D) (ci := 3) (v := .ref qq3) (ty := .object "WaysAtlas$Table") (C := RX3) (T := TX3) (N := 12) hx hb hts inlX3 tyX3 tyX3_ok nmX3 hown hK hP hD hS 0 rfl rfl 2 (by decide) (hts _ q100) (fun _ h => h) rfl hin rfl (by decide +kernel) rfl rfl (Nat.le_of_ble_eq_true rfl) dX3_init_39 (fun H locs hP hD hS => ?_)
  have hP : va_P D vwCl [(h, .inr (3, [.ref tk, .ref qq1, .ref qq3, .null, .ref pg, .int 0, .int 0, .int 0, .int 0, .int 0, .int 0, .int 0])), tT qq1 aq2 (nI 1) (nI 6) 0, tA g aq2 6 (fun _ => 0), tT qq3 aq4 (nI 1) (nI 6) 0, tA g aq4 6 (fun _ => 0)] H := hP
  have hD : va_D A [(h, .inr (3, [.ref tk, .ref qq1, .ref qq3, .null, .ref pg, .int 0, .int 0, .int 0, .int 0, .int 0, .int 0, .int 0])), tT qq1 aq2 (nI 1) (nI 6) 0, tA g aq2 6 (fun _ => 0), tT qq3 aq4 (nI 1) (nI 6) 0, tA g aq4 6 (fun _ => 0)] := hD
  refine lv_aload_n hx hb dX3_init_42 rfl (lv_at hl 0 rfl) ?_
  refine va_new (ci := 6) (fs := [.null, .int 0, .int 0, .int 0]) (C := RX6) (T := TX6) (N := 4) hx hb hts inlX6 tyX6 tyX6_ok hown (hts _ q98) (hts _ q14) (hts _ q15) hK hP hD hS hA rfl (lt_s (lt_s (lt_s (lt_s (lt_0) rfl) rfl) rfl) rfl) (Nat.le_of_ble_eq_true rfl) (Nat.le_of_ble_eq_true rfl) dX3_init_43 (fun qq5 H hP hD hS => ?_)
  refine W.cs (cells' := 5) (slots' := 24) rfl rfl ?_
  have hP : va_P D vwCl [(h, .inr (3, [.ref tk, .ref qq1, .ref qq3, .null, .ref pg, .int 0, .int 0, .int 0, .int 0, .int 0, .int 0, .int 0])), tT qq1 aq2 (nI 1) (nI 6) 0, tA g aq2 6 (fun _ => 0), tT qq3 aq4 (nI 1) (nI 6) 0, tA g aq4 6 (fun _ => 0), (qq5, .inr (6, [.null, .int 0, .int 0, .int 0]))] H := hP
  have hD : va_D A [(h, .inr (3, [.ref tk, .ref qq1, .ref qq3, .null, .ref pg, .int 0, .int 0, .int 0, .int 0, .int 0, .int 0, .int 0])), tT qq1 aq2 (nI 1) (nI 6) 0, tA g aq2 6 (fun _ => 0), tT qq3 aq4 (nI 1) (nI 6) 0, tA g aq4 6 (fun _ => 0), (qq5, .inr (6, [.null, .int 0, .int 0, .int 0]))] := hD
  refine lv_dup hx hb dX3_init_46 rfl ?_
  refine lv_bipush (v := 80) hx hb dX3_init_47 (by decide) ?_
  refine lv_iconst (v := 1) hx hb dX3_init_49 (by decide) ?_
  refine vz_Iv (wr := [(h, .inr (3, [.ref tk, .ref qq1, .ref qq3, .null, .ref pg, .int 0, .int 0, .int 0, .int 0, .int 0, .int 0, .int 0])), tT qq1 aq2 (nI 1) (nI 6) 0, tA g aq2 6 (fun _ => 0), tT qq3 aq4 (nI 1) (nI 6) 0, tA g aq4 6 (fun _ => 0)]) (As := [.int 80, .int 1]) (rest := [.ref qq5, .ref h]) hx hb hml hown hts hK hA hP hD hS (c_T_init l D g qq5 H.size 1 80 80 (by decide +kernel)) ki_X3_21 (⟨Nat.le_of_ble_eq_true rfl, Nat.le_of_ble_eq_true rfl⟩) [5] [0, 1, 2, 3, 4] rfl rfl (by decide) hl.1 (Nat.le_of_ble_eq_true rfl) dX3_init_50 (⟨Nat.le_of_ble_eq_true rfl, Nat.le_of_ble_eq_true rfl⟩) rfl (fun aq6 H locs _ _ hP hD hS => ?_)
  refine W.cs (cells' := 6) (slots' := 104) rfl rfl ?_
  have hP : va_P D vwCl [(h, .inr (3, [.ref tk, .ref qq1, .ref qq3, .null, .ref pg, .int 0, .int 0, .int 0, .int 0, .int 0, .int 0, .int 0])), tT qq1 aq2 (nI 1) (nI 6) 0, tA g aq2 6 (fun _ => 0), tT qq3 aq4 (nI 1) (nI 6) 0, tA g aq4 6 (fun _ => 0), tT qq5 aq6 (nI 1) (nI 80) 0, tA g aq6 80 (fun _ => 0)] H := hP
  have hD : va_D A [(h, .inr (3, [.ref tk, .ref qq1, .ref qq3, .null, .ref pg, .int 0, .int 0, .int 0, .int 0, .int 0, .int 0, .int 0])), tT qq1 aq2 (nI 1) (nI 6) 0, tA g aq2 6 (fun _ => 0), tT qq3 aq4 (nI 1) (nI 6) 0, tA g aq4 6 (fun _ => 0), tT qq5 aq6 (nI 1) (nI 80) 0, tA g aq6 80 (fun _ => 0)] := hD
  refine va_putF (D := D) (ci := 3) (v := .ref qq5) (ty := .object "WaysAtlas$Table") (C := RX3) (T := TX3) (N := 12) hx hb hts inlX3 tyX3 tyX3_ok nmX3 hown hK hP hD hS 0 rfl rfl 3 (by decide) (hts _ q101) (fun _ h => h) rfl hin rfl (by decide +kernel) rfl rfl (Nat.le_of_ble_eq_true rfl) dX3_init_53 (fun H locs hP hD hS => ?_)
  have hP : va_P D vwCl [(h, .inr (3, [.ref tk, .ref qq1, .ref qq3, .ref qq5, .ref pg, .int 0, .int 0, .int 0, .int 0, .int 0, .int 0, .int 0])), tT qq1 aq2 (nI 1) (nI 6) 0, tA g aq2 6 (fun _ => 0), tT qq3 aq4 (nI 1) (nI 6) 0, tA g aq4 6 (fun _ => 0), tT qq5 aq6 (nI 1) (nI 80) 0, tA g aq6 80 (fun _ => 0)] H := hP
  have hD : va_D A [(h, .inr (3, [.ref tk, .ref qq1, .ref qq3, .ref qq5, .ref pg, .int 0, .int 0, .int 0, .int 0, .int 0, .int 0, .int 0])), tT qq1 aq2 (nI 1) (nI 6) 0, tA g aq2 6 (fun _ => 0), tT qq3 aq4 (nI 1) (nI 6) 0, tA g aq4 6 (fun _ => 0), tT qq5 aq6 (nI 1) (nI 80) 0, tA g aq6 80 (fun _ => 0)] := hD
  refine lv_aload_n hx hb dX3_init_56 rfl (lv_at hl 0 rfl) ?_
  refine lv_bipush (v := (-9)) hx hb dX3_init_57 (by decide) ?_
  refine va_put (D := D) (ci := 3) (v := .int (-9)) (ty := .int) (C := RX3) (T := TX3) (N := 12) hx hb hts inlX3 tyX3 tyX3_ok nmX3 hown hK hP hD hS 0 rfl rfl 9 (by decide) (hts _ q102) (fun _ h => h) rfl (by decide +kernel) rfl rfl (Nat.le_of_ble_eq_true rfl) dX3_init_59 (fun H locs hP hD hS => ?_)
  have hP : va_P D vwCl [(h, .inr (3, [.ref tk, .ref qq1, .ref qq3, .ref qq5, .ref pg, .int 0, .int 0, .int 0, .int 0, .int (-9), .int 0, .int 0])), tT qq1 aq2 (nI 1) (nI 6) 0, tA g aq2 6 (fun _ => 0), tT qq3 aq4 (nI 1) (nI 6) 0, tA g aq4 6 (fun _ => 0), tT qq5 aq6 (nI 1) (nI 80) 0, tA g aq6 80 (fun _ => 0)] H := hP
  have hD : va_D A [(h, .inr (3, [.ref tk, .ref qq1, .ref qq3, .ref qq5, .ref pg, .int 0, .int 0, .int 0, .int 0, .int (-9), .int 0, .int 0])), tT qq1 aq2 (nI 1) (nI 6) 0, tA g aq2 6 (fun _ => 0), tT qq3 aq4 (nI 1) (nI 6) 0, tA g aq4 6 (fun _ => 0), tT qq5 aq6 (nI 1) (nI 80) 0, tA g aq6 80 (fun _ => 0)] := hD
  exact vz_vret hx hb hr hlk hK hP hD hS (fun k => [qq1, aq2, qq3, aq4, qq5, aq6].getD k 0) (trivial) [0, 1, 2, 3, 4, 5, 6] rfl (by decide) (Nat.le_of_ble_eq_true rfl) (Nat.le_of_ble_eq_true rfl) dX3_init_62
theorem q107 : Cond.methodLink RX0 3 objectInit ∈ wsL_law := mT_1 (List.mem_of_getElem? (i := 168) rfl) rfl
theorem q109 : Cond.classLink RX0 15 RX6 ∈ wsL_law := mT_1 (List.mem_of_getElem? (i := 169) rfl) rfl
theorem q113 : Cond.methodLink RX0 17 yX6_init ∈ wsL_law := mT_1 (List.mem_of_getElem? (i := 170) rfl) rfl
theorem ki_X0_17 : vz_ci RX0 17 yX6_init cX6_init 3 2 := ⟨q113, q61, q15, q62, by decide +kernel⟩
theorem dX0_init_0 : decode cX0_init 0 = .ok (.aload_n 0, 1) := by decide +kernel
theorem dX0_init_1 : decode cX0_init 1 = .ok (.invokespecial 3, 3) := by decide +kernel
theorem dX0_init_4 : decode cX0_init 4 = .ok (.aload_n 0, 1) := by decide +kernel
theorem dX0_init_5 : decode cX0_init 5 = .ok (.aload_n 1, 1) := by decide +kernel
theorem dX0_init_6 : decode cX0_init 6 = .ok (.putfield 9, 3) := by decide +kernel
theorem dX0_init_9 : decode cX0_init 9 = .ok (.aload_n 0, 1) := by decide +kernel
theorem dX0_init_10 : decode cX0_init 10 = .ok (.new 15, 3) := by decide +kernel
theorem dX0_init_13 : decode cX0_init 13 = .ok (.dup, 1) := by decide +kernel
theorem dX0_init_14 : decode cX0_init 14 = .ok (.sipush 4500, 3) := by decide +kernel
theorem dX0_init_17 : decode cX0_init 17 = .ok (.iconst 4, 1) := by decide +kernel
theorem dX0_init_18 : decode cX0_init 18 = .ok (.invokespecial 17, 3) := by decide +kernel
theorem dX0_init_21 : decode cX0_init 21 = .ok (.putfield 20, 3) := by decide +kernel
theorem dX0_init_24 : decode cX0_init 24 = .ok (.aload_n 0, 1) := by decide +kernel
theorem dX0_init_25 : decode cX0_init 25 = .ok (.new 15, 3) := by decide +kernel
theorem dX0_init_28 : decode cX0_init 28 = .ok (.dup, 1) := by decide +kernel
theorem dX0_init_29 : decode cX0_init 29 = .ok (.sipush 500, 3) := by decide +kernel
theorem dX0_init_32 : decode cX0_init 32 = .ok (.iconst 3, 1) := by decide +kernel
theorem dX0_init_33 : decode cX0_init 33 = .ok (.invokespecial 17, 3) := by decide +kernel
theorem dX0_init_36 : decode cX0_init 36 = .ok (.putfield 24, 3) := by decide +kernel
theorem dX0_init_39 : decode cX0_init 39 = .ok (.aload_n 0, 1) := by decide +kernel
theorem dX0_init_40 : decode cX0_init 40 = .ok (.new 15, 3) := by decide +kernel
theorem dX0_init_43 : decode cX0_init 43 = .ok (.dup, 1) := by decide +kernel
theorem dX0_init_44 : decode cX0_init 44 = .ok (.bipush 64, 2) := by decide +kernel
theorem dX0_init_46 : decode cX0_init 46 = .ok (.bipush 6, 2) := by decide +kernel
theorem dX0_init_48 : decode cX0_init 48 = .ok (.invokespecial 17, 3) := by decide +kernel
theorem dX0_init_51 : decode cX0_init 51 = .ok (.putfield 27, 3) := by decide +kernel
theorem dX0_init_54 : decode cX0_init 54 = .ok (.return_, 1) := by decide +kernel
set_option maxHeartbeats 4000000 in
set_option maxRecDepth 100000 in
theorem c_D_init (l : Launch) (D : va_G) (g : Nat → ClassId) (h sz : Nat) (pg : Nat) : vz_Mv l D (tyG g) yX0_init cX0_init 2 2 40 6 19896 [.ref h, .ref pg] sz [(h, .inr (0, [.null, .null, .null, .null, .int 0, .int 0, .int 0, .int 0]))] (fun _ : Nat → Nat => True) (fun a => [(h, .inr (0, [.ref (a 0), .ref (a 2), .ref (a 4), .ref pg, .int 0, .int 0, .int 0, .int 0])), tT (a 0) (a 1) (nI 4) (nI 4500) 0, tA g (a 1) 18000 (fun _ => 0), tT (a 2) (a 3) (nI 3) (nI 500) 0, tA g (a 3) 1500 (fun _ => 0), tT (a 4) (a 5) (nI 6) (nI 64) 0, tA g (a 5) 384 (fun _ => 0)]) := by
  refine vz_sv (by decide) (Nat.le_of_ble_eq_true rfl) (fun p e s m args below meth c hx hb hr hml hts hown hlk hin hK hsz A hA H locs hP hD hS ls hl => ?_)
  have hl : lv_has ls 2 [(0, .ref h), (1, .ref pg)] := hl
  refine lv_aload_n hx hb dX0_init_0 rfl (lv_at hl 0 rfl) ?_
  refine W.objInit hx hb hown (hts _ q107) (hts _ q11) (hts _ q12) rfl (hl.1.trans hml.symm) rfl dX0_init_1 (Nat.le_of_ble_eq_true rfl) (Nat.le_of_ble_eq_true rfl) ?_
  refine W.eq (g2 := F0 m 4 ls []) rfl ?_
  refine lv_aload_n hx hb dX0_init_4 rfl (lv_at hl 0 rfl) ?_
  refine lv_aload_n hx hb dX0_init_5 rfl (lv_at hl 1 rfl) ?_
  refine va_put (D := D) (ci := 0) (v := .ref pg) (ty := .object "WaysAtlas$Program") (C := RX0) (T := TX0) (N := 8) hx hb hts inlX0 tyX0 tyX0_ok nmX0 hown hK hP hD hS 0 rfl rfl 3 (by decide) (hts _ q108) (fun _ h => h) rfl (by decide +kernel) rfl rfl (Nat.le_of_ble_eq_true rfl) dX0_init_6 (fun H locs hP hD hS => ?_)
  have hP : va_P D vwCl [(h, .inr (0, [.null, .null, .null, .ref pg, .int 0, .int 0, .int 0, .int 0]))] H := hP
  have hD : va_D A [(h, .inr (0, [.null, .null, .null, .ref pg, .int 0, .int 0, .int 0, .int 0]))] := hD
  refine lv_aload_n hx hb dX0_init_9 rfl (lv_at hl 0 rfl) ?_
  refine va_new (ci := 6) (fs := [.null, .int 0, .int 0, .int 0]) (C := RX6) (T := TX6) (N := 4) hx hb hts inlX6 tyX6 tyX6_ok hown (hts _ q109) (hts _ q14) (hts _ q15) hK hP hD hS hA rfl (lt_s (lt_s (lt_s (lt_s (lt_0) rfl) rfl) rfl) rfl) (Nat.le_of_ble_eq_true rfl) (Nat.le_of_ble_eq_true rfl) dX0_init_10 (fun qq1 H hP hD hS => ?_)
  refine W.cs (cells' := 1) (slots' := 4) rfl rfl ?_
  have hP : va_P D vwCl [(h, .inr (0, [.null, .null, .null, .ref pg, .int 0, .int 0, .int 0, .int 0])), (qq1, .inr (6, [.null, .int 0, .int 0, .int 0]))] H := hP
  have hD : va_D A [(h, .inr (0, [.null, .null, .null, .ref pg, .int 0, .int 0, .int 0, .int 0])), (qq1, .inr (6, [.null, .int 0, .int 0, .int 0]))] := hD
  refine lv_dup hx hb dX0_init_13 rfl ?_
  refine lv_sipush (v := 4500) hx hb dX0_init_14 (by decide) ?_
  refine lv_iconst (v := 4) hx hb dX0_init_17 (by decide) ?_
  refine vz_Iv (wr := [(h, .inr (0, [.null, .null, .null, .ref pg, .int 0, .int 0, .int 0, .int 0]))]) (As := [.int 4500, .int 4]) (rest := [.ref qq1, .ref h]) hx hb hml hown hts hK hA hP hD hS (c_T_init l D g qq1 H.size 4 4500 18000 (by decide +kernel)) ki_X0_17 (⟨Nat.le_of_ble_eq_true rfl, Nat.le_of_ble_eq_true rfl⟩) [1] [0] rfl rfl (by decide) hl.1 (Nat.le_of_ble_eq_true rfl) dX0_init_18 (⟨Nat.le_of_ble_eq_true rfl, Nat.le_of_ble_eq_true rfl⟩) rfl (fun aq2 H locs _ _ hP hD hS => ?_)
  refine W.cs (cells' := 2) (slots' := 18004) rfl rfl ?_
  have hP : va_P D vwCl [(h, .inr (0, [.null, .null, .null, .ref pg, .int 0, .int 0, .int 0, .int 0])), tT qq1 aq2 (nI 4) (nI 4500) 0, tA g aq2 18000 (fun _ => 0)] H := hP
  have hD : va_D A [(h, .inr (0, [.null, .null, .null, .ref pg, .int 0, .int 0, .int 0, .int 0])), tT qq1 aq2 (nI 4) (nI 4500) 0, tA g aq2 18000 (fun _ => 0)] := hD
  refine va_putF (D := D) (ci := 0) (v := .ref qq1) (ty := .object "WaysAtlas$Table") (C := RX0) (T := TX0) (N := 8) hx hb hts inlX0 tyX0 tyX0_ok nmX0 hown hK hP hD hS 0 rfl rfl 0 (by decide) (hts _ q110) (fun _ h => h) rfl hin rfl (by decide +kernel) rfl rfl (Nat.le_of_ble_eq_true rfl) dX0_init_21 (fun H locs hP hD hS => ?_)
  have hP : va_P D vwCl [(h, .inr (0, [.ref qq1, .null, .null, .ref pg, .int 0, .int 0, .int 0, .int 0])), tT qq1 aq2 (nI 4) (nI 4500) 0, tA g aq2 18000 (fun _ => 0)] H := hP
  have hD : va_D A [(h, .inr (0, [.ref qq1, .null, .null, .ref pg, .int 0, .int 0, .int 0, .int 0])), tT qq1 aq2 (nI 4) (nI 4500) 0, tA g aq2 18000 (fun _ => 0)] := hD
  refine lv_aload_n hx hb dX0_init_24 rfl (lv_at hl 0 rfl) ?_
  refine va_new (ci := 6) (fs := [.null, .int 0, .int 0, .int 0]) (C := RX6) (T := TX6) (N := 4) hx hb hts inlX6 tyX6 tyX6_ok hown (hts _ q109) (hts _ q14) (hts _ q15) hK hP hD hS hA rfl (lt_s (lt_s (lt_s (lt_s (lt_0) rfl) rfl) rfl) rfl) (Nat.le_of_ble_eq_true rfl) (Nat.le_of_ble_eq_true rfl) dX0_init_25 (fun qq3 H hP hD hS => ?_)
  refine W.cs (cells' := 3) (slots' := 18008) rfl rfl ?_
  have hP : va_P D vwCl [(h, .inr (0, [.ref qq1, .null, .null, .ref pg, .int 0, .int 0, .int 0, .int 0])), tT qq1 aq2 (nI 4) (nI 4500) 0, tA g aq2 18000 (fun _ => 0), (qq3, .inr (6, [.null, .int 0, .int 0, .int 0]))] H := hP
  have hD : va_D A [(h, .inr (0, [.ref qq1, .null, .null, .ref pg, .int 0, .int 0, .int 0, .int 0])), tT qq1 aq2 (nI 4) (nI 4500) 0, tA g aq2 18000 (fun _ => 0), (qq3, .inr (6, [.null, .int 0, .int 0, .int 0]))] := hD
  refine lv_dup hx hb dX0_init_28 rfl ?_
  refine lv_sipush (v := 500) hx hb dX0_init_29 (by decide) ?_
  refine lv_iconst (v := 3) hx hb dX0_init_32 (by decide) ?_
  refine vz_Iv (wr := [(h, .inr (0, [.ref qq1, .null, .null, .ref pg, .int 0, .int 0, .int 0, .int 0])), tT qq1 aq2 (nI 4) (nI 4500) 0, tA g aq2 18000 (fun _ => 0)]) (As := [.int 500, .int 3]) (rest := [.ref qq3, .ref h]) hx hb hml hown hts hK hA hP hD hS (c_T_init l D g qq3 H.size 3 500 1500 (by decide +kernel)) ki_X0_17 (⟨Nat.le_of_ble_eq_true rfl, Nat.le_of_ble_eq_true rfl⟩) [3] [0, 1, 2] rfl rfl (by decide) hl.1 (Nat.le_of_ble_eq_true rfl) dX0_init_33 (⟨Nat.le_of_ble_eq_true rfl, Nat.le_of_ble_eq_true rfl⟩) rfl (fun aq4 H locs _ _ hP hD hS => ?_)
  refine W.cs (cells' := 4) (slots' := 19508) rfl rfl ?_
  have hP : va_P D vwCl [(h, .inr (0, [.ref qq1, .null, .null, .ref pg, .int 0, .int 0, .int 0, .int 0])), tT qq1 aq2 (nI 4) (nI 4500) 0, tA g aq2 18000 (fun _ => 0), tT qq3 aq4 (nI 3) (nI 500) 0, tA g aq4 1500 (fun _ => 0)] H := hP
  have hD : va_D A [(h, .inr (0, [.ref qq1, .null, .null, .ref pg, .int 0, .int 0, .int 0, .int 0])), tT qq1 aq2 (nI 4) (nI 4500) 0, tA g aq2 18000 (fun _ => 0), tT qq3 aq4 (nI 3) (nI 500) 0, tA g aq4 1500 (fun _ => 0)] := hD
  refine va_putF (D := D) (ci := 0) (v := .ref qq3) (ty := .object "WaysAtlas$Table") (C := RX0) (T := TX0) (N := 8) hx hb hts inlX0 tyX0 tyX0_ok nmX0 hown hK hP hD hS 0 rfl rfl 1 (by decide) (hts _ q111) (fun _ h => h) rfl hin rfl (by decide +kernel) rfl rfl (Nat.le_of_ble_eq_true rfl) dX0_init_36 (fun H locs hP hD hS => ?_)
  have hP : va_P D vwCl [(h, .inr (0, [.ref qq1, .ref qq3, .null, .ref pg, .int 0, .int 0, .int 0, .int 0])), tT qq1 aq2 (nI 4) (nI 4500) 0, tA g aq2 18000 (fun _ => 0), tT qq3 aq4 (nI 3) (nI 500) 0, tA g aq4 1500 (fun _ => 0)] H := hP
  have hD : va_D A [(h, .inr (0, [.ref qq1, .ref qq3, .null, .ref pg, .int 0, .int 0, .int 0, .int 0])), tT qq1 aq2 (nI 4) (nI 4500) 0, tA g aq2 18000 (fun _ => 0), tT qq3 aq4 (nI 3) (nI 500) 0, tA g aq4 1500 (fun _ => 0)] := hD
  refine lv_aload_n hx hb dX0_init_39 rfl (lv_at hl 0 rfl) ?_
  refine va_new (ci := 6) (fs := [.null, .int 0, .int 0, .int 0]) (C := RX6) (T := TX6) (N := 4) hx hb hts inlX6 tyX6 tyX6_ok hown (hts _ q109) (hts _ q14) (hts _ q15) hK hP hD hS hA rfl (lt_s (lt_s (lt_s (lt_s (lt_0) rfl) rfl) rfl) rfl) (Nat.le_of_ble_eq_true rfl) (Nat.le_of_ble_eq_true rfl) dX0_init_40 (fun qq5 H hP hD hS => ?_)
  refine W.cs (cells' := 5) (slots' := 19512) rfl rfl ?_
  have hP : va_P D vwCl [(h, .inr (0, [.ref qq1, .ref qq3, .null, .ref pg, .int 0, .int 0, .int 0, .int 0])), tT qq1 aq2 (nI 4) (nI 4500) 0, tA g aq2 18000 (fun _ => 0), tT qq3 aq4 (nI 3) (nI 500) 0, tA g aq4 1500 (fun _ => 0), (qq5, .inr (6, [.null, .int 0, .int 0, .int 0]))] H := hP
  have hD : va_D A [(h, .inr (0, [.ref qq1, .ref qq3, .null, .ref pg, .int 0, .int 0, .int 0, .int 0])), tT qq1 aq2 (nI 4) (nI 4500) 0, tA g aq2 18000 (fun _ => 0), tT qq3 aq4 (nI 3) (nI 500) 0, tA g aq4 1500 (fun _ => 0), (qq5, .inr (6, [.null, .int 0, .int 0, .int 0]))] := hD
  refine lv_dup hx hb dX0_init_43 rfl ?_
  refine lv_bipush (v := 64) hx hb dX0_init_44 (by decide) ?_
  refine lv_bipush (v := 6) hx hb dX0_init_46 (by decide) ?_
  refine vz_Iv (wr := [(h, .inr (0, [.ref qq1, .ref qq3, .null, .ref pg, .int 0, .int 0, .int 0, .int 0])), tT qq1 aq2 (nI 4) (nI 4500) 0, tA g aq2 18000 (fun _ => 0), tT qq3 aq4 (nI 3) (nI 500) 0, tA g aq4 1500 (fun _ => 0)]) (As := [.int 64, .int 6]) (rest := [.ref qq5, .ref h]) hx hb hml hown hts hK hA hP hD hS (c_T_init l D g qq5 H.size 6 64 384 (by decide +kernel)) ki_X0_17 (⟨Nat.le_of_ble_eq_true rfl, Nat.le_of_ble_eq_true rfl⟩) [5] [0, 1, 2, 3, 4] rfl rfl (by decide) hl.1 (Nat.le_of_ble_eq_true rfl) dX0_init_48 (⟨Nat.le_of_ble_eq_true rfl, Nat.le_of_ble_eq_true rfl⟩) rfl (fun aq6 H locs _ _ hP hD hS => ?_)
  refine W.cs (cells' := 6) (slots' := 19896) rfl rfl ?_
  have hP : va_P D vwCl [(h, .inr (0, [.ref qq1, .ref qq3, .null, .ref pg, .int 0, .int 0, .int 0, .int 0])), tT qq1 aq2 (nI 4) (nI 4500) 0, tA g aq2 18000 (fun _ => 0), tT qq3 aq4 (nI 3) (nI 500) 0, tA g aq4 1500 (fun _ => 0), tT qq5 aq6 (nI 6) (nI 64) 0, tA g aq6 384 (fun _ => 0)] H := hP
  have hD : va_D A [(h, .inr (0, [.ref qq1, .ref qq3, .null, .ref pg, .int 0, .int 0, .int 0, .int 0])), tT qq1 aq2 (nI 4) (nI 4500) 0, tA g aq2 18000 (fun _ => 0), tT qq3 aq4 (nI 3) (nI 500) 0, tA g aq4 1500 (fun _ => 0), tT qq5 aq6 (nI 6) (nI 64) 0, tA g aq6 384 (fun _ => 0)] := hD
  refine va_putF (D := D) (ci := 0) (v := .ref qq5) (ty := .object "WaysAtlas$Table") (C := RX0) (T := TX0) (N := 8) hx hb hts inlX0 tyX0 tyX0_ok nmX0 hown hK hP hD hS 0 rfl rfl 2 (by decide) (hts _ q112) (fun _ h => h) rfl hin rfl (by decide +kernel) rfl rfl (Nat.le_of_ble_eq_true rfl) dX0_init_51 (fun H locs hP hD hS => ?_)
  have hP : va_P D vwCl [(h, .inr (0, [.ref qq1, .ref qq3, .ref qq5, .ref pg, .int 0, .int 0, .int 0, .int 0])), tT qq1 aq2 (nI 4) (nI 4500) 0, tA g aq2 18000 (fun _ => 0), tT qq3 aq4 (nI 3) (nI 500) 0, tA g aq4 1500 (fun _ => 0), tT qq5 aq6 (nI 6) (nI 64) 0, tA g aq6 384 (fun _ => 0)] H := hP
  have hD : va_D A [(h, .inr (0, [.ref qq1, .ref qq3, .ref qq5, .ref pg, .int 0, .int 0, .int 0, .int 0])), tT qq1 aq2 (nI 4) (nI 4500) 0, tA g aq2 18000 (fun _ => 0), tT qq3 aq4 (nI 3) (nI 500) 0, tA g aq4 1500 (fun _ => 0), tT qq5 aq6 (nI 6) (nI 64) 0, tA g aq6 384 (fun _ => 0)] := hD
  exact vz_vret hx hb hr hlk hK hP hD hS (fun k => [qq1, aq2, qq3, aq4, qq5, aq6].getD k 0) (trivial) [0, 1, 2, 3, 4, 5, 6] rfl (by decide) (Nat.le_of_ble_eq_true rfl) (Nat.le_of_ble_eq_true rfl) dX0_init_54
theorem q129 : Cond.methodLink RX8 3 objectInit ∈ wsL_law := mT_2 (List.mem_of_getElem? (i := 28) rfl) rfl
theorem q133 : Cond.classLink RX8 23 RX6 ∈ wsL_law := mT_2 (List.mem_of_getElem? (i := 29) rfl) rfl
theorem q140 : Cond.methodLink RX8 25 yX6_init ∈ wsL_law := mT_2 (List.mem_of_getElem? (i := 30) rfl) rfl
theorem ki_X8_25 : vz_ci RX8 25 yX6_init cX6_init 3 2 := ⟨q140, q61, q15, q62, by decide +kernel⟩
theorem dX8_init_0 : decode cX8_init 0 = .ok (.aload_n 0, 1) := by decide +kernel
theorem dX8_init_1 : decode cX8_init 1 = .ok (.invokespecial 3, 3) := by decide +kernel
theorem dX8_init_4 : decode cX8_init 4 = .ok (.aload_n 0, 1) := by decide +kernel
theorem dX8_init_5 : decode cX8_init 5 = .ok (.aload_n 1, 1) := by decide +kernel
theorem dX8_init_6 : decode cX8_init 6 = .ok (.putfield 9, 3) := by decide +kernel
theorem dX8_init_9 : decode cX8_init 9 = .ok (.aload_n 0, 1) := by decide +kernel
theorem dX8_init_10 : decode cX8_init 10 = .ok (.aload_n 2, 1) := by decide +kernel
theorem dX8_init_11 : decode cX8_init 11 = .ok (.putfield 15, 3) := by decide +kernel
theorem dX8_init_14 : decode cX8_init 14 = .ok (.aload_n 0, 1) := by decide +kernel
theorem dX8_init_15 : decode cX8_init 15 = .ok (.aload_n 3, 1) := by decide +kernel
theorem dX8_init_16 : decode cX8_init 16 = .ok (.putfield 19, 3) := by decide +kernel
theorem dX8_init_19 : decode cX8_init 19 = .ok (.aload_n 0, 1) := by decide +kernel
theorem dX8_init_20 : decode cX8_init 20 = .ok (.new 23, 3) := by decide +kernel
theorem dX8_init_23 : decode cX8_init 23 = .ok (.dup, 1) := by decide +kernel
theorem dX8_init_24 : decode cX8_init 24 = .ok (.bipush 60, 2) := by decide +kernel
theorem dX8_init_26 : decode cX8_init 26 = .ok (.iconst 3, 1) := by decide +kernel
theorem dX8_init_27 : decode cX8_init 27 = .ok (.invokespecial 25, 3) := by decide +kernel
theorem dX8_init_30 : decode cX8_init 30 = .ok (.putfield 28, 3) := by decide +kernel
theorem dX8_init_33 : decode cX8_init 33 = .ok (.aload_n 0, 1) := by decide +kernel
theorem dX8_init_34 : decode cX8_init 34 = .ok (.new 23, 3) := by decide +kernel
theorem dX8_init_37 : decode cX8_init 37 = .ok (.dup, 1) := by decide +kernel
theorem dX8_init_38 : decode cX8_init 38 = .ok (.bipush 12, 2) := by decide +kernel
theorem dX8_init_40 : decode cX8_init 40 = .ok (.bipush 12, 2) := by decide +kernel
theorem dX8_init_42 : decode cX8_init 42 = .ok (.invokespecial 25, 3) := by decide +kernel
theorem dX8_init_45 : decode cX8_init 45 = .ok (.putfield 31, 3) := by decide +kernel
theorem dX8_init_48 : decode cX8_init 48 = .ok (.aload_n 0, 1) := by decide +kernel
theorem dX8_init_49 : decode cX8_init 49 = .ok (.new 23, 3) := by decide +kernel
theorem dX8_init_52 : decode cX8_init 52 = .ok (.dup, 1) := by decide +kernel
theorem dX8_init_53 : decode cX8_init 53 = .ok (.bipush 72, 2) := by decide +kernel
theorem dX8_init_55 : decode cX8_init 55 = .ok (.bipush 11, 2) := by decide +kernel
theorem dX8_init_57 : decode cX8_init 57 = .ok (.invokespecial 25, 3) := by decide +kernel
theorem dX8_init_60 : decode cX8_init 60 = .ok (.putfield 34, 3) := by decide +kernel
theorem dX8_init_63 : decode cX8_init 63 = .ok (.aload_n 0, 1) := by decide +kernel
theorem dX8_init_64 : decode cX8_init 64 = .ok (.new 23, 3) := by decide +kernel
theorem dX8_init_67 : decode cX8_init 67 = .ok (.dup, 1) := by decide +kernel
theorem dX8_init_68 : decode cX8_init 68 = .ok (.sipush 400, 3) := by decide +kernel
theorem dX8_init_71 : decode cX8_init 71 = .ok (.bipush 9, 2) := by decide +kernel
theorem dX8_init_73 : decode cX8_init 73 = .ok (.invokespecial 25, 3) := by decide +kernel
theorem dX8_init_76 : decode cX8_init 76 = .ok (.putfield 37, 3) := by decide +kernel
theorem dX8_init_79 : decode cX8_init 79 = .ok (.aload_n 0, 1) := by decide +kernel
theorem dX8_init_80 : decode cX8_init 80 = .ok (.new 23, 3) := by decide +kernel
theorem dX8_init_83 : decode cX8_init 83 = .ok (.dup, 1) := by decide +kernel
theorem dX8_init_84 : decode cX8_init 84 = .ok (.bipush 80, 2) := by decide +kernel
theorem dX8_init_86 : decode cX8_init 86 = .ok (.bipush 7, 2) := by decide +kernel
theorem dX8_init_88 : decode cX8_init 88 = .ok (.invokespecial 25, 3) := by decide +kernel
theorem dX8_init_91 : decode cX8_init 91 = .ok (.putfield 40, 3) := by decide +kernel
theorem dX8_init_94 : decode cX8_init 94 = .ok (.aload_n 0, 1) := by decide +kernel
theorem dX8_init_95 : decode cX8_init 95 = .ok (.getfield 34, 3) := by decide +kernel
theorem dX8_init_98 : decode cX8_init 98 = .ok (.bipush 72, 2) := by decide +kernel
theorem dX8_init_100 : decode cX8_init 100 = .ok (.bipush (-9), 2) := by decide +kernel
theorem dX8_init_102 : decode cX8_init 102 = .ok (.invokevirtual 43, 3) := by decide +kernel
theorem dX8_init_105 : decode cX8_init 105 = .ok (.aload_n 0, 1) := by decide +kernel
theorem dX8_init_106 : decode cX8_init 106 = .ok (.bipush (-9), 2) := by decide +kernel
theorem dX8_init_108 : decode cX8_init 108 = .ok (.putfield 46, 3) := by decide +kernel
theorem dX8_init_111 : decode cX8_init 111 = .ok (.return_, 1) := by decide +kernel
set_option maxHeartbeats 4000000 in
set_option maxRecDepth 100000 in
theorem c_W_init (l : Launch) (D : va_G) (g : Nat → ClassId) (h sz : Nat) (pg pl rc : Nat) : vz_Mv l D (tyG g) yX8_init cX8_init 4 2 40 10 5296 [.ref h, .ref pg, .ref pl, .ref rc] sz [(h, .inr (8, [.null, .null, .null, .null, .null, .null, .null, .null, .int 0, .int 0, .int 0]))] (fun _ : Nat → Nat => True) (fun a => [(h, .inr (8, [.ref (a 0), .ref (a 2), .ref (a 4), .ref (a 6), .ref (a 8), .ref pg, .ref rc, .ref pl, .int 0, .int (-9), .int 0])), tT (a 0) (a 1) (nI 3) (nI 60) 0, tA g (a 1) 180 (fun _ => 0), tT (a 2) (a 3) (nI 12) (nI 12) 0, tA g (a 3) 144 (fun _ => 0), tT (a 4) (a 5) (nI 11) (nI 72) (nI 72), tA g (a 5) 792 (tf (fun _ => 0) 0 (72 * 11) (-9)), tT (a 6) (a 7) (nI 9) (nI 400) 0, tA g (a 7) 3600 (fun _ => 0), tT (a 8) (a 9) (nI 7) (nI 80) 0, tA g (a 9) 560 (fun _ => 0)]) := by
  refine vz_sv (by decide) (Nat.le_of_ble_eq_true rfl) (fun p e s m args below meth c hx hb hr hml hts hown hlk hin hK hsz A hA H locs hP hD hS ls hl => ?_)
  have hl : lv_has ls 4 [(0, .ref h), (1, .ref pg), (2, .ref pl), (3, .ref rc)] := hl
  refine lv_aload_n hx hb dX8_init_0 rfl (lv_at hl 0 rfl) ?_
  refine W.objInit hx hb hown (hts _ q129) (hts _ q11) (hts _ q12) rfl (hl.1.trans hml.symm) rfl dX8_init_1 (Nat.le_of_ble_eq_true rfl) (Nat.le_of_ble_eq_true rfl) ?_
  refine W.eq (g2 := F0 m 4 ls []) rfl ?_
  refine lv_aload_n hx hb dX8_init_4 rfl (lv_at hl 0 rfl) ?_
  refine lv_aload_n hx hb dX8_init_5 rfl (lv_at hl 1 rfl) ?_
  refine va_put (D := D) (ci := 8) (v := .ref pg) (ty := .object "WaysAtlas$Program") (C := RX8) (T := TX8) (N := 11) hx hb hts inlX8 tyX8 tyX8_ok nmX8 hown hK hP hD hS 0 rfl rfl 5 (by decide) (hts _ q130) (fun _ h => h) rfl (by decide +kernel) rfl rfl (Nat.le_of_ble_eq_true rfl) dX8_init_6 (fun H locs hP hD hS => ?_)
  have hP : va_P D vwCl [(h, .inr (8, [.null, .null, .null, .null, .null, .ref pg, .null, .null, .int 0, .int 0, .int 0]))] H := hP
  have hD : va_D A [(h, .inr (8, [.null, .null, .null, .null, .null, .ref pg, .null, .null, .int 0, .int 0, .int 0]))] := hD
  refine lv_aload_n hx hb dX8_init_9 rfl (lv_at hl 0 rfl) ?_
  refine lv_aload_n hx hb dX8_init_10 rfl (lv_at hl 2 rfl) ?_
  refine va_put (D := D) (ci := 8) (v := .ref pl) (ty := .object "WaysAtlas$Table") (C := RX8) (T := TX8) (N := 11) hx hb hts inlX8 tyX8 tyX8_ok nmX8 hown hK hP hD hS 0 rfl rfl 7 (by decide) (hts _ q131) (fun _ h => h) rfl (by decide +kernel) rfl rfl (Nat.le_of_ble_eq_true rfl) dX8_init_11 (fun H locs hP hD hS => ?_)
  have hP : va_P D vwCl [(h, .inr (8, [.null, .null, .null, .null, .null, .ref pg, .null, .ref pl, .int 0, .int 0, .int 0]))] H := hP
  have hD : va_D A [(h, .inr (8, [.null, .null, .null, .null, .null, .ref pg, .null, .ref pl, .int 0, .int 0, .int 0]))] := hD
  refine lv_aload_n hx hb dX8_init_14 rfl (lv_at hl 0 rfl) ?_
  refine lv_aload_n hx hb dX8_init_15 rfl (lv_at hl 3 rfl) ?_
  refine va_put (D := D) (ci := 8) (v := .ref rc) (ty := .object "WaysAtlas$RunRecord") (C := RX8) (T := TX8) (N := 11) hx hb hts inlX8 tyX8 tyX8_ok nmX8 hown hK hP hD hS 0 rfl rfl 6 (by decide) (hts _ q132) (fun _ h => h) rfl (by decide +kernel) rfl rfl (Nat.le_of_ble_eq_true rfl) dX8_init_16 (fun H locs hP hD hS => ?_)
  have hP : va_P D vwCl [(h, .inr (8, [.null, .null, .null, .null, .null, .ref pg, .ref rc, .ref pl, .int 0, .int 0, .int 0]))] H := hP
  have hD : va_D A [(h, .inr (8, [.null, .null, .null, .null, .null, .ref pg, .ref rc, .ref pl, .int 0, .int 0, .int 0]))] := hD
  refine lv_aload_n hx hb dX8_init_19 rfl (lv_at hl 0 rfl) ?_
  refine va_new (ci := 6) (fs := [.null, .int 0, .int 0, .int 0]) (C := RX6) (T := TX6) (N := 4) hx hb hts inlX6 tyX6 tyX6_ok hown (hts _ q133) (hts _ q14) (hts _ q15) hK hP hD hS hA rfl (lt_s (lt_s (lt_s (lt_s (lt_0) rfl) rfl) rfl) rfl) (Nat.le_of_ble_eq_true rfl) (Nat.le_of_ble_eq_true rfl) dX8_init_20 (fun qq1 H hP hD hS => ?_)
  refine W.cs (cells' := 1) (slots' := 4) rfl rfl ?_
  have hP : va_P D vwCl [(h, .inr (8, [.null, .null, .null, .null, .null, .ref pg, .ref rc, .ref pl, .int 0, .int 0, .int 0])), (qq1, .inr (6, [.null, .int 0, .int 0, .int 0]))] H := hP
  have hD : va_D A [(h, .inr (8, [.null, .null, .null, .null, .null, .ref pg, .ref rc, .ref pl, .int 0, .int 0, .int 0])), (qq1, .inr (6, [.null, .int 0, .int 0, .int 0]))] := hD
  refine lv_dup hx hb dX8_init_23 rfl ?_
  refine lv_bipush (v := 60) hx hb dX8_init_24 (by decide) ?_
  refine lv_iconst (v := 3) hx hb dX8_init_26 (by decide) ?_
  refine vz_Iv (wr := [(h, .inr (8, [.null, .null, .null, .null, .null, .ref pg, .ref rc, .ref pl, .int 0, .int 0, .int 0]))]) (As := [.int 60, .int 3]) (rest := [.ref qq1, .ref h]) hx hb hml hown hts hK hA hP hD hS (c_T_init l D g qq1 H.size 3 60 180 (by decide +kernel)) ki_X8_25 (⟨Nat.le_of_ble_eq_true rfl, Nat.le_of_ble_eq_true rfl⟩) [1] [0] rfl rfl (by decide) hl.1 (Nat.le_of_ble_eq_true rfl) dX8_init_27 (⟨Nat.le_of_ble_eq_true rfl, Nat.le_of_ble_eq_true rfl⟩) rfl (fun aq2 H locs _ _ hP hD hS => ?_)
  refine W.cs (cells' := 2) (slots' := 184) rfl rfl ?_
  have hP : va_P D vwCl [(h, .inr (8, [.null, .null, .null, .null, .null, .ref pg, .ref rc, .ref pl, .int 0, .int 0, .int 0])), tT qq1 aq2 (nI 3) (nI 60) 0, tA g aq2 180 (fun _ => 0)] H := hP
  have hD : va_D A [(h, .inr (8, [.null, .null, .null, .null, .null, .ref pg, .ref rc, .ref pl, .int 0, .int 0, .int 0])), tT qq1 aq2 (nI 3) (nI 60) 0, tA g aq2 180 (fun _ => 0)] := hD
  refine va_putF (D := D) (ci := 8) (v := .ref qq1) (ty := .object "WaysAtlas$Table") (C := RX8) (T := TX8) (N := 11) hx hb hts inlX8 tyX8 tyX8_ok nmX8 hown hK hP hD hS 0 rfl rfl 0 (by decide) (hts _ q134) (fun _ h => h) rfl hin rfl (by decide +kernel) rfl rfl (Nat.le_of_ble_eq_true rfl) dX8_init_30 (fun H locs hP hD hS => ?_)
  have hP : va_P D vwCl [(h, .inr (8, [.ref qq1, .null, .null, .null, .null, .ref pg, .ref rc, .ref pl, .int 0, .int 0, .int 0])), tT qq1 aq2 (nI 3) (nI 60) 0, tA g aq2 180 (fun _ => 0)] H := hP
  have hD : va_D A [(h, .inr (8, [.ref qq1, .null, .null, .null, .null, .ref pg, .ref rc, .ref pl, .int 0, .int 0, .int 0])), tT qq1 aq2 (nI 3) (nI 60) 0, tA g aq2 180 (fun _ => 0)] := hD
  refine lv_aload_n hx hb dX8_init_33 rfl (lv_at hl 0 rfl) ?_
  refine va_new (ci := 6) (fs := [.null, .int 0, .int 0, .int 0]) (C := RX6) (T := TX6) (N := 4) hx hb hts inlX6 tyX6 tyX6_ok hown (hts _ q133) (hts _ q14) (hts _ q15) hK hP hD hS hA rfl (lt_s (lt_s (lt_s (lt_s (lt_0) rfl) rfl) rfl) rfl) (Nat.le_of_ble_eq_true rfl) (Nat.le_of_ble_eq_true rfl) dX8_init_34 (fun qq3 H hP hD hS => ?_)
  refine W.cs (cells' := 3) (slots' := 188) rfl rfl ?_
  have hP : va_P D vwCl [(h, .inr (8, [.ref qq1, .null, .null, .null, .null, .ref pg, .ref rc, .ref pl, .int 0, .int 0, .int 0])), tT qq1 aq2 (nI 3) (nI 60) 0, tA g aq2 180 (fun _ => 0), (qq3, .inr (6, [.null, .int 0, .int 0, .int 0]))] H := hP
  have hD : va_D A [(h, .inr (8, [.ref qq1, .null, .null, .null, .null, .ref pg, .ref rc, .ref pl, .int 0, .int 0, .int 0])), tT qq1 aq2 (nI 3) (nI 60) 0, tA g aq2 180 (fun _ => 0), (qq3, .inr (6, [.null, .int 0, .int 0, .int 0]))] := hD
  refine lv_dup hx hb dX8_init_37 rfl ?_
  refine lv_bipush (v := 12) hx hb dX8_init_38 (by decide) ?_
  refine lv_bipush (v := 12) hx hb dX8_init_40 (by decide) ?_
  refine vz_Iv (wr := [(h, .inr (8, [.ref qq1, .null, .null, .null, .null, .ref pg, .ref rc, .ref pl, .int 0, .int 0, .int 0])), tT qq1 aq2 (nI 3) (nI 60) 0, tA g aq2 180 (fun _ => 0)]) (As := [.int 12, .int 12]) (rest := [.ref qq3, .ref h]) hx hb hml hown hts hK hA hP hD hS (c_T_init l D g qq3 H.size 12 12 144 (by decide +kernel)) ki_X8_25 (⟨Nat.le_of_ble_eq_true rfl, Nat.le_of_ble_eq_true rfl⟩) [3] [0, 1, 2] rfl rfl (by decide) hl.1 (Nat.le_of_ble_eq_true rfl) dX8_init_42 (⟨Nat.le_of_ble_eq_true rfl, Nat.le_of_ble_eq_true rfl⟩) rfl (fun aq4 H locs _ _ hP hD hS => ?_)
  refine W.cs (cells' := 4) (slots' := 332) rfl rfl ?_
  have hP : va_P D vwCl [(h, .inr (8, [.ref qq1, .null, .null, .null, .null, .ref pg, .ref rc, .ref pl, .int 0, .int 0, .int 0])), tT qq1 aq2 (nI 3) (nI 60) 0, tA g aq2 180 (fun _ => 0), tT qq3 aq4 (nI 12) (nI 12) 0, tA g aq4 144 (fun _ => 0)] H := hP
  have hD : va_D A [(h, .inr (8, [.ref qq1, .null, .null, .null, .null, .ref pg, .ref rc, .ref pl, .int 0, .int 0, .int 0])), tT qq1 aq2 (nI 3) (nI 60) 0, tA g aq2 180 (fun _ => 0), tT qq3 aq4 (nI 12) (nI 12) 0, tA g aq4 144 (fun _ => 0)] := hD
  refine va_putF (D := D) (ci := 8) (v := .ref qq3) (ty := .object "WaysAtlas$Table") (C := RX8) (T := TX8) (N := 11) hx hb hts inlX8 tyX8 tyX8_ok nmX8 hown hK hP hD hS 0 rfl rfl 1 (by decide) (hts _ q135) (fun _ h => h) rfl hin rfl (by decide +kernel) rfl rfl (Nat.le_of_ble_eq_true rfl) dX8_init_45 (fun H locs hP hD hS => ?_)
  have hP : va_P D vwCl [(h, .inr (8, [.ref qq1, .ref qq3, .null, .null, .null, .ref pg, .ref rc, .ref pl, .int 0, .int 0, .int 0])), tT qq1 aq2 (nI 3) (nI 60) 0, tA g aq2 180 (fun _ => 0), tT qq3 aq4 (nI 12) (nI 12) 0, tA g aq4 144 (fun _ => 0)] H := hP
  have hD : va_D A [(h, .inr (8, [.ref qq1, .ref qq3, .null, .null, .null, .ref pg, .ref rc, .ref pl, .int 0, .int 0, .int 0])), tT qq1 aq2 (nI 3) (nI 60) 0, tA g aq2 180 (fun _ => 0), tT qq3 aq4 (nI 12) (nI 12) 0, tA g aq4 144 (fun _ => 0)] := hD
  refine lv_aload_n hx hb dX8_init_48 rfl (lv_at hl 0 rfl) ?_
  refine va_new (ci := 6) (fs := [.null, .int 0, .int 0, .int 0]) (C := RX6) (T := TX6) (N := 4) hx hb hts inlX6 tyX6 tyX6_ok hown (hts _ q133) (hts _ q14) (hts _ q15) hK hP hD hS hA rfl (lt_s (lt_s (lt_s (lt_s (lt_0) rfl) rfl) rfl) rfl) (Nat.le_of_ble_eq_true rfl) (Nat.le_of_ble_eq_true rfl) dX8_init_49 (fun qq5 H hP hD hS => ?_)
  refine W.cs (cells' := 5) (slots' := 336) rfl rfl ?_
  have hP : va_P D vwCl [(h, .inr (8, [.ref qq1, .ref qq3, .null, .null, .null, .ref pg, .ref rc, .ref pl, .int 0, .int 0, .int 0])), tT qq1 aq2 (nI 3) (nI 60) 0, tA g aq2 180 (fun _ => 0), tT qq3 aq4 (nI 12) (nI 12) 0, tA g aq4 144 (fun _ => 0), (qq5, .inr (6, [.null, .int 0, .int 0, .int 0]))] H := hP
  have hD : va_D A [(h, .inr (8, [.ref qq1, .ref qq3, .null, .null, .null, .ref pg, .ref rc, .ref pl, .int 0, .int 0, .int 0])), tT qq1 aq2 (nI 3) (nI 60) 0, tA g aq2 180 (fun _ => 0), tT qq3 aq4 (nI 12) (nI 12) 0, tA g aq4 144 (fun _ => 0), (qq5, .inr (6, [.null, .int 0, .int 0, .int 0]))] := hD
  refine lv_dup hx hb dX8_init_52 rfl ?_
  refine lv_bipush (v := 72) hx hb dX8_init_53 (by decide) ?_
  refine lv_bipush (v := 11) hx hb dX8_init_55 (by decide) ?_
  refine vz_Iv (wr := [(h, .inr (8, [.ref qq1, .ref qq3, .null, .null, .null, .ref pg, .ref rc, .ref pl, .int 0, .int 0, .int 0])), tT qq1 aq2 (nI 3) (nI 60) 0, tA g aq2 180 (fun _ => 0), tT qq3 aq4 (nI 12) (nI 12) 0, tA g aq4 144 (fun _ => 0)]) (As := [.int 72, .int 11]) (rest := [.ref qq5, .ref h]) hx hb hml hown hts hK hA hP hD hS (c_T_init l D g qq5 H.size 11 72 792 (by decide +kernel)) ki_X8_25 (⟨Nat.le_of_ble_eq_true rfl, Nat.le_of_ble_eq_true rfl⟩) [5] [0, 1, 2, 3, 4] rfl rfl (by decide) hl.1 (Nat.le_of_ble_eq_true rfl) dX8_init_57 (⟨Nat.le_of_ble_eq_true rfl, Nat.le_of_ble_eq_true rfl⟩) rfl (fun aq6 H locs _ _ hP hD hS => ?_)
  refine W.cs (cells' := 6) (slots' := 1128) rfl rfl ?_
  have hP : va_P D vwCl [(h, .inr (8, [.ref qq1, .ref qq3, .null, .null, .null, .ref pg, .ref rc, .ref pl, .int 0, .int 0, .int 0])), tT qq1 aq2 (nI 3) (nI 60) 0, tA g aq2 180 (fun _ => 0), tT qq3 aq4 (nI 12) (nI 12) 0, tA g aq4 144 (fun _ => 0), tT qq5 aq6 (nI 11) (nI 72) 0, tA g aq6 792 (fun _ => 0)] H := hP
  have hD : va_D A [(h, .inr (8, [.ref qq1, .ref qq3, .null, .null, .null, .ref pg, .ref rc, .ref pl, .int 0, .int 0, .int 0])), tT qq1 aq2 (nI 3) (nI 60) 0, tA g aq2 180 (fun _ => 0), tT qq3 aq4 (nI 12) (nI 12) 0, tA g aq4 144 (fun _ => 0), tT qq5 aq6 (nI 11) (nI 72) 0, tA g aq6 792 (fun _ => 0)] := hD
  refine va_putF (D := D) (ci := 8) (v := .ref qq5) (ty := .object "WaysAtlas$Table") (C := RX8) (T := TX8) (N := 11) hx hb hts inlX8 tyX8 tyX8_ok nmX8 hown hK hP hD hS 0 rfl rfl 2 (by decide) (hts _ q136) (fun _ h => h) rfl hin rfl (by decide +kernel) rfl rfl (Nat.le_of_ble_eq_true rfl) dX8_init_60 (fun H locs hP hD hS => ?_)
  have hP : va_P D vwCl [(h, .inr (8, [.ref qq1, .ref qq3, .ref qq5, .null, .null, .ref pg, .ref rc, .ref pl, .int 0, .int 0, .int 0])), tT qq1 aq2 (nI 3) (nI 60) 0, tA g aq2 180 (fun _ => 0), tT qq3 aq4 (nI 12) (nI 12) 0, tA g aq4 144 (fun _ => 0), tT qq5 aq6 (nI 11) (nI 72) 0, tA g aq6 792 (fun _ => 0)] H := hP
  have hD : va_D A [(h, .inr (8, [.ref qq1, .ref qq3, .ref qq5, .null, .null, .ref pg, .ref rc, .ref pl, .int 0, .int 0, .int 0])), tT qq1 aq2 (nI 3) (nI 60) 0, tA g aq2 180 (fun _ => 0), tT qq3 aq4 (nI 12) (nI 12) 0, tA g aq4 144 (fun _ => 0), tT qq5 aq6 (nI 11) (nI 72) 0, tA g aq6 792 (fun _ => 0)] := hD
  refine lv_aload_n hx hb dX8_init_63 rfl (lv_at hl 0 rfl) ?_
  refine va_new (ci := 6) (fs := [.null, .int 0, .int 0, .int 0]) (C := RX6) (T := TX6) (N := 4) hx hb hts inlX6 tyX6 tyX6_ok hown (hts _ q133) (hts _ q14) (hts _ q15) hK hP hD hS hA rfl (lt_s (lt_s (lt_s (lt_s (lt_0) rfl) rfl) rfl) rfl) (Nat.le_of_ble_eq_true rfl) (Nat.le_of_ble_eq_true rfl) dX8_init_64 (fun qq7 H hP hD hS => ?_)
  refine W.cs (cells' := 7) (slots' := 1132) rfl rfl ?_
  have hP : va_P D vwCl [(h, .inr (8, [.ref qq1, .ref qq3, .ref qq5, .null, .null, .ref pg, .ref rc, .ref pl, .int 0, .int 0, .int 0])), tT qq1 aq2 (nI 3) (nI 60) 0, tA g aq2 180 (fun _ => 0), tT qq3 aq4 (nI 12) (nI 12) 0, tA g aq4 144 (fun _ => 0), tT qq5 aq6 (nI 11) (nI 72) 0, tA g aq6 792 (fun _ => 0), (qq7, .inr (6, [.null, .int 0, .int 0, .int 0]))] H := hP
  have hD : va_D A [(h, .inr (8, [.ref qq1, .ref qq3, .ref qq5, .null, .null, .ref pg, .ref rc, .ref pl, .int 0, .int 0, .int 0])), tT qq1 aq2 (nI 3) (nI 60) 0, tA g aq2 180 (fun _ => 0), tT qq3 aq4 (nI 12) (nI 12) 0, tA g aq4 144 (fun _ => 0), tT qq5 aq6 (nI 11) (nI 72) 0, tA g aq6 792 (fun _ => 0), (qq7, .inr (6, [.null, .int 0, .int 0, .int 0]))] := hD
  refine lv_dup hx hb dX8_init_67 rfl ?_
  refine lv_sipush (v := 400) hx hb dX8_init_68 (by decide) ?_
  refine lv_bipush (v := 9) hx hb dX8_init_71 (by decide) ?_
  refine vz_Iv (wr := [(h, .inr (8, [.ref qq1, .ref qq3, .ref qq5, .null, .null, .ref pg, .ref rc, .ref pl, .int 0, .int 0, .int 0])), tT qq1 aq2 (nI 3) (nI 60) 0, tA g aq2 180 (fun _ => 0), tT qq3 aq4 (nI 12) (nI 12) 0, tA g aq4 144 (fun _ => 0), tT qq5 aq6 (nI 11) (nI 72) 0, tA g aq6 792 (fun _ => 0)]) (As := [.int 400, .int 9]) (rest := [.ref qq7, .ref h]) hx hb hml hown hts hK hA hP hD hS (c_T_init l D g qq7 H.size 9 400 3600 (by decide +kernel)) ki_X8_25 (⟨Nat.le_of_ble_eq_true rfl, Nat.le_of_ble_eq_true rfl⟩) [7] [0, 1, 2, 3, 4, 5, 6] rfl rfl (by decide) hl.1 (Nat.le_of_ble_eq_true rfl) dX8_init_73 (⟨Nat.le_of_ble_eq_true rfl, Nat.le_of_ble_eq_true rfl⟩) rfl (fun aq8 H locs _ _ hP hD hS => ?_)
  refine W.cs (cells' := 8) (slots' := 4732) rfl rfl ?_
  have hP : va_P D vwCl [(h, .inr (8, [.ref qq1, .ref qq3, .ref qq5, .null, .null, .ref pg, .ref rc, .ref pl, .int 0, .int 0, .int 0])), tT qq1 aq2 (nI 3) (nI 60) 0, tA g aq2 180 (fun _ => 0), tT qq3 aq4 (nI 12) (nI 12) 0, tA g aq4 144 (fun _ => 0), tT qq5 aq6 (nI 11) (nI 72) 0, tA g aq6 792 (fun _ => 0), tT qq7 aq8 (nI 9) (nI 400) 0, tA g aq8 3600 (fun _ => 0)] H := hP
  have hD : va_D A [(h, .inr (8, [.ref qq1, .ref qq3, .ref qq5, .null, .null, .ref pg, .ref rc, .ref pl, .int 0, .int 0, .int 0])), tT qq1 aq2 (nI 3) (nI 60) 0, tA g aq2 180 (fun _ => 0), tT qq3 aq4 (nI 12) (nI 12) 0, tA g aq4 144 (fun _ => 0), tT qq5 aq6 (nI 11) (nI 72) 0, tA g aq6 792 (fun _ => 0), tT qq7 aq8 (nI 9) (nI 400) 0, tA g aq8 3600 (fun _ => 0)] := hD
  refine va_putF (D := D) (ci := 8) (v := .ref qq7) (ty := .object "WaysAtlas$Table") (C := RX8) (T := TX8) (N := 11) hx hb hts inlX8 tyX8 tyX8_ok nmX8 hown hK hP hD hS 0 rfl rfl 3 (by decide) (hts _ q137) (fun _ h => h) rfl hin rfl (by decide +kernel) rfl rfl (Nat.le_of_ble_eq_true rfl) dX8_init_76 (fun H locs hP hD hS => ?_)
  have hP : va_P D vwCl [(h, .inr (8, [.ref qq1, .ref qq3, .ref qq5, .ref qq7, .null, .ref pg, .ref rc, .ref pl, .int 0, .int 0, .int 0])), tT qq1 aq2 (nI 3) (nI 60) 0, tA g aq2 180 (fun _ => 0), tT qq3 aq4 (nI 12) (nI 12) 0, tA g aq4 144 (fun _ => 0), tT qq5 aq6 (nI 11) (nI 72) 0, tA g aq6 792 (fun _ => 0), tT qq7 aq8 (nI 9) (nI 400) 0, tA g aq8 3600 (fun _ => 0)] H := hP
  have hD : va_D A [(h, .inr (8, [.ref qq1, .ref qq3, .ref qq5, .ref qq7, .null, .ref pg, .ref rc, .ref pl, .int 0, .int 0, .int 0])), tT qq1 aq2 (nI 3) (nI 60) 0, tA g aq2 180 (fun _ => 0), tT qq3 aq4 (nI 12) (nI 12) 0, tA g aq4 144 (fun _ => 0), tT qq5 aq6 (nI 11) (nI 72) 0, tA g aq6 792 (fun _ => 0), tT qq7 aq8 (nI 9) (nI 400) 0, tA g aq8 3600 (fun _ => 0)] := hD
  refine lv_aload_n hx hb dX8_init_79 rfl (lv_at hl 0 rfl) ?_
  refine va_new (ci := 6) (fs := [.null, .int 0, .int 0, .int 0]) (C := RX6) (T := TX6) (N := 4) hx hb hts inlX6 tyX6 tyX6_ok hown (hts _ q133) (hts _ q14) (hts _ q15) hK hP hD hS hA rfl (lt_s (lt_s (lt_s (lt_s (lt_0) rfl) rfl) rfl) rfl) (Nat.le_of_ble_eq_true rfl) (Nat.le_of_ble_eq_true rfl) dX8_init_80 (fun qq9 H hP hD hS => ?_)
  refine W.cs (cells' := 9) (slots' := 4736) rfl rfl ?_
  have hP : va_P D vwCl [(h, .inr (8, [.ref qq1, .ref qq3, .ref qq5, .ref qq7, .null, .ref pg, .ref rc, .ref pl, .int 0, .int 0, .int 0])), tT qq1 aq2 (nI 3) (nI 60) 0, tA g aq2 180 (fun _ => 0), tT qq3 aq4 (nI 12) (nI 12) 0, tA g aq4 144 (fun _ => 0), tT qq5 aq6 (nI 11) (nI 72) 0, tA g aq6 792 (fun _ => 0), tT qq7 aq8 (nI 9) (nI 400) 0, tA g aq8 3600 (fun _ => 0), (qq9, .inr (6, [.null, .int 0, .int 0, .int 0]))] H := hP
  have hD : va_D A [(h, .inr (8, [.ref qq1, .ref qq3, .ref qq5, .ref qq7, .null, .ref pg, .ref rc, .ref pl, .int 0, .int 0, .int 0])), tT qq1 aq2 (nI 3) (nI 60) 0, tA g aq2 180 (fun _ => 0), tT qq3 aq4 (nI 12) (nI 12) 0, tA g aq4 144 (fun _ => 0), tT qq5 aq6 (nI 11) (nI 72) 0, tA g aq6 792 (fun _ => 0), tT qq7 aq8 (nI 9) (nI 400) 0, tA g aq8 3600 (fun _ => 0), (qq9, .inr (6, [.null, .int 0, .int 0, .int 0]))] := hD
  refine lv_dup hx hb dX8_init_83 rfl ?_
  refine lv_bipush (v := 80) hx hb dX8_init_84 (by decide) ?_
  refine lv_bipush (v := 7) hx hb dX8_init_86 (by decide) ?_
  refine vz_Iv (wr := [(h, .inr (8, [.ref qq1, .ref qq3, .ref qq5, .ref qq7, .null, .ref pg, .ref rc, .ref pl, .int 0, .int 0, .int 0])), tT qq1 aq2 (nI 3) (nI 60) 0, tA g aq2 180 (fun _ => 0), tT qq3 aq4 (nI 12) (nI 12) 0, tA g aq4 144 (fun _ => 0), tT qq5 aq6 (nI 11) (nI 72) 0, tA g aq6 792 (fun _ => 0), tT qq7 aq8 (nI 9) (nI 400) 0, tA g aq8 3600 (fun _ => 0)]) (As := [.int 80, .int 7]) (rest := [.ref qq9, .ref h]) hx hb hml hown hts hK hA hP hD hS (c_T_init l D g qq9 H.size 7 80 560 (by decide +kernel)) ki_X8_25 (⟨Nat.le_of_ble_eq_true rfl, Nat.le_of_ble_eq_true rfl⟩) [9] [0, 1, 2, 3, 4, 5, 6, 7, 8] rfl rfl (by decide) hl.1 (Nat.le_of_ble_eq_true rfl) dX8_init_88 (⟨Nat.le_of_ble_eq_true rfl, Nat.le_of_ble_eq_true rfl⟩) rfl (fun aq10 H locs _ _ hP hD hS => ?_)
  refine W.cs (cells' := 10) (slots' := 5296) rfl rfl ?_
  have hP : va_P D vwCl [(h, .inr (8, [.ref qq1, .ref qq3, .ref qq5, .ref qq7, .null, .ref pg, .ref rc, .ref pl, .int 0, .int 0, .int 0])), tT qq1 aq2 (nI 3) (nI 60) 0, tA g aq2 180 (fun _ => 0), tT qq3 aq4 (nI 12) (nI 12) 0, tA g aq4 144 (fun _ => 0), tT qq5 aq6 (nI 11) (nI 72) 0, tA g aq6 792 (fun _ => 0), tT qq7 aq8 (nI 9) (nI 400) 0, tA g aq8 3600 (fun _ => 0), tT qq9 aq10 (nI 7) (nI 80) 0, tA g aq10 560 (fun _ => 0)] H := hP
  have hD : va_D A [(h, .inr (8, [.ref qq1, .ref qq3, .ref qq5, .ref qq7, .null, .ref pg, .ref rc, .ref pl, .int 0, .int 0, .int 0])), tT qq1 aq2 (nI 3) (nI 60) 0, tA g aq2 180 (fun _ => 0), tT qq3 aq4 (nI 12) (nI 12) 0, tA g aq4 144 (fun _ => 0), tT qq5 aq6 (nI 11) (nI 72) 0, tA g aq6 792 (fun _ => 0), tT qq7 aq8 (nI 9) (nI 400) 0, tA g aq8 3600 (fun _ => 0), tT qq9 aq10 (nI 7) (nI 80) 0, tA g aq10 560 (fun _ => 0)] := hD
  refine va_putF (D := D) (ci := 8) (v := .ref qq9) (ty := .object "WaysAtlas$Table") (C := RX8) (T := TX8) (N := 11) hx hb hts inlX8 tyX8 tyX8_ok nmX8 hown hK hP hD hS 0 rfl rfl 4 (by decide) (hts _ q138) (fun _ h => h) rfl hin rfl (by decide +kernel) rfl rfl (Nat.le_of_ble_eq_true rfl) dX8_init_91 (fun H locs hP hD hS => ?_)
  have hP : va_P D vwCl [(h, .inr (8, [.ref qq1, .ref qq3, .ref qq5, .ref qq7, .ref qq9, .ref pg, .ref rc, .ref pl, .int 0, .int 0, .int 0])), tT qq1 aq2 (nI 3) (nI 60) 0, tA g aq2 180 (fun _ => 0), tT qq3 aq4 (nI 12) (nI 12) 0, tA g aq4 144 (fun _ => 0), tT qq5 aq6 (nI 11) (nI 72) 0, tA g aq6 792 (fun _ => 0), tT qq7 aq8 (nI 9) (nI 400) 0, tA g aq8 3600 (fun _ => 0), tT qq9 aq10 (nI 7) (nI 80) 0, tA g aq10 560 (fun _ => 0)] H := hP
  have hD : va_D A [(h, .inr (8, [.ref qq1, .ref qq3, .ref qq5, .ref qq7, .ref qq9, .ref pg, .ref rc, .ref pl, .int 0, .int 0, .int 0])), tT qq1 aq2 (nI 3) (nI 60) 0, tA g aq2 180 (fun _ => 0), tT qq3 aq4 (nI 12) (nI 12) 0, tA g aq4 144 (fun _ => 0), tT qq5 aq6 (nI 11) (nI 72) 0, tA g aq6 792 (fun _ => 0), tT qq7 aq8 (nI 9) (nI 400) 0, tA g aq8 3600 (fun _ => 0), tT qq9 aq10 (nI 7) (nI 80) 0, tA g aq10 560 (fun _ => 0)] := hD
  refine lv_aload_n hx hb dX8_init_94 rfl (lv_at hl 0 rfl) ?_
  refine va_get (D := D) (ci := 8) (v := .ref qq5) (C := RX8) (T := TX8) (N := 11) hx hb hts inlX8 hown hK hP 0 rfl rfl 2 (by decide) (hts _ q136) (fun _ h => h) rfl dX8_init_95 ?_
  refine lv_bipush (v := 72) hx hb dX8_init_98 (by decide) ?_
  refine lv_bipush (v := (-9)) hx hb dX8_init_100 (by decide) ?_
  refine vz_Vv (wr := [(h, .inr (8, [.ref qq1, .ref qq3, .ref qq5, .ref qq7, .ref qq9, .ref pg, .ref rc, .ref pl, .int 0, .int 0, .int 0])), tT qq1 aq2 (nI 3) (nI 60) 0, tA g aq2 180 (fun _ => 0), tT qq3 aq4 (nI 12) (nI 12) 0, tA g aq4 144 (fun _ => 0), tT qq7 aq8 (nI 9) (nI 400) 0, tA g aq8 3600 (fun _ => 0), tT qq9 aq10 (nI 7) (nI 80) 0, tA g aq10 560 (fun _ => 0)]) (As := [.int 72, .int (-9)]) (rest := []) hx hb hml hown hts hK hA hP hD hS (c_T_fill l D g qq5 aq6 H.size 11 72 0 792 (fun _ => 0) 72 (-9) (by decide) (by decide +kernel)) kv_X8_43 (⟨Nat.le_of_ble_eq_true rfl, Nat.le_of_ble_eq_true rfl⟩) (q0 := 5) (ci := 6) rfl rfl rfl [5, 6] [0, 1, 2, 3, 4, 7, 8, 9, 10] rfl rfl (by decide) hl.1 (Nat.le_of_ble_eq_true rfl) dX8_init_102 (⟨Nat.le_of_ble_eq_true rfl, Nat.le_of_ble_eq_true rfl⟩) rfl (fun f1 H locs e1 _ hP hD hS => ?_)
  subst e1
  have hP : va_P D vwCl [(h, .inr (8, [.ref qq1, .ref qq3, .ref qq5, .ref qq7, .ref qq9, .ref pg, .ref rc, .ref pl, .int 0, .int 0, .int 0])), tT qq1 aq2 (nI 3) (nI 60) 0, tA g aq2 180 (fun _ => 0), tT qq3 aq4 (nI 12) (nI 12) 0, tA g aq4 144 (fun _ => 0), tT qq7 aq8 (nI 9) (nI 400) 0, tA g aq8 3600 (fun _ => 0), tT qq9 aq10 (nI 7) (nI 80) 0, tA g aq10 560 (fun _ => 0), tT qq5 aq6 (nI 11) (nI 72) (nI 72), tA g aq6 792 (tf (fun _ => 0) 0 (72 * 11) (-9))] H := hP
  have hD : va_D A [(h, .inr (8, [.ref qq1, .ref qq3, .ref qq5, .ref qq7, .ref qq9, .ref pg, .ref rc, .ref pl, .int 0, .int 0, .int 0])), tT qq1 aq2 (nI 3) (nI 60) 0, tA g aq2 180 (fun _ => 0), tT qq3 aq4 (nI 12) (nI 12) 0, tA g aq4 144 (fun _ => 0), tT qq7 aq8 (nI 9) (nI 400) 0, tA g aq8 3600 (fun _ => 0), tT qq9 aq10 (nI 7) (nI 80) 0, tA g aq10 560 (fun _ => 0), tT qq5 aq6 (nI 11) (nI 72) (nI 72), tA g aq6 792 (tf (fun _ => 0) 0 (72 * 11) (-9))] := hD
  refine lv_aload_n hx hb dX8_init_105 rfl (lv_at hl 0 rfl) ?_
  refine lv_bipush (v := (-9)) hx hb dX8_init_106 (by decide) ?_
  refine va_put (D := D) (ci := 8) (v := .int (-9)) (ty := .int) (C := RX8) (T := TX8) (N := 11) hx hb hts inlX8 tyX8 tyX8_ok nmX8 hown hK hP hD hS 0 rfl rfl 9 (by decide) (hts _ q139) (fun _ h => h) rfl (by decide +kernel) rfl rfl (Nat.le_of_ble_eq_true rfl) dX8_init_108 (fun H locs hP hD hS => ?_)
  have hP : va_P D vwCl [(h, .inr (8, [.ref qq1, .ref qq3, .ref qq5, .ref qq7, .ref qq9, .ref pg, .ref rc, .ref pl, .int 0, .int (-9), .int 0])), tT qq1 aq2 (nI 3) (nI 60) 0, tA g aq2 180 (fun _ => 0), tT qq3 aq4 (nI 12) (nI 12) 0, tA g aq4 144 (fun _ => 0), tT qq7 aq8 (nI 9) (nI 400) 0, tA g aq8 3600 (fun _ => 0), tT qq9 aq10 (nI 7) (nI 80) 0, tA g aq10 560 (fun _ => 0), tT qq5 aq6 (nI 11) (nI 72) (nI 72), tA g aq6 792 (tf (fun _ => 0) 0 (72 * 11) (-9))] H := hP
  have hD : va_D A [(h, .inr (8, [.ref qq1, .ref qq3, .ref qq5, .ref qq7, .ref qq9, .ref pg, .ref rc, .ref pl, .int 0, .int (-9), .int 0])), tT qq1 aq2 (nI 3) (nI 60) 0, tA g aq2 180 (fun _ => 0), tT qq3 aq4 (nI 12) (nI 12) 0, tA g aq4 144 (fun _ => 0), tT qq7 aq8 (nI 9) (nI 400) 0, tA g aq8 3600 (fun _ => 0), tT qq9 aq10 (nI 7) (nI 80) 0, tA g aq10 560 (fun _ => 0), tT qq5 aq6 (nI 11) (nI 72) (nI 72), tA g aq6 792 (tf (fun _ => 0) 0 (72 * 11) (-9))] := hD
  exact vz_vret hx hb hr hlk hK hP hD hS (fun k => [qq1, aq2, qq3, aq4, qq5, aq6, qq7, aq8, qq9, aq10].getD k 0) (trivial) [0, 1, 2, 3, 4, 9, 10, 5, 6, 7, 8] rfl (by decide) (Nat.le_of_ble_eq_true rfl) (Nat.le_of_ble_eq_true rfl) dX8_init_111
theorem q151 : Cond.methodLink RX7 3 objectInit ∈ wsL_law := mT_2 (List.mem_of_getElem? (i := 85) rfl) rfl
theorem dX7_init_0 : decode cX7_init 0 = .ok (.aload_n 0, 1) := by decide +kernel
theorem dX7_init_1 : decode cX7_init 1 = .ok (.invokespecial 3, 3) := by decide +kernel
theorem dX7_init_4 : decode cX7_init 4 = .ok (.aload_n 0, 1) := by decide +kernel
theorem dX7_init_5 : decode cX7_init 5 = .ok (.aload_n 1, 1) := by decide +kernel
theorem dX7_init_6 : decode cX7_init 6 = .ok (.putfield 9, 3) := by decide +kernel
theorem dX7_init_9 : decode cX7_init 9 = .ok (.aload_n 0, 1) := by decide +kernel
theorem dX7_init_10 : decode cX7_init 10 = .ok (.bipush (-9), 2) := by decide +kernel
theorem dX7_init_12 : decode cX7_init 12 = .ok (.putfield 15, 3) := by decide +kernel
theorem dX7_init_15 : decode cX7_init 15 = .ok (.aload_n 0, 1) := by decide +kernel
theorem dX7_init_16 : decode cX7_init 16 = .ok (.bipush (-9), 2) := by decide +kernel
theorem dX7_init_18 : decode cX7_init 18 = .ok (.putfield 19, 3) := by decide +kernel
theorem dX7_init_21 : decode cX7_init 21 = .ok (.return_, 1) := by decide +kernel
set_option maxHeartbeats 4000000 in
set_option maxRecDepth 100000 in
theorem c_K_init (l : Launch) (D : va_G) (g : Nat → ClassId) (h sz : Nat) (wo : Nat) : vz_Mv l D (tyG g) yX7_init cX7_init 2 1 12 0 0 [.ref h, .ref wo] sz [(h, .inr (7, [.null, .int 0, .int 0, .int 0, .int 0, .int 0, .int 0]))] (fun _ : Unit => True) (fun a => [(h, .inr (7, [.ref wo, .int (-9), .int (-9), .int 0, .int 0, .int 0, .int 0]))]) := by
  refine vz_sv (by decide) (Nat.le_of_ble_eq_true rfl) (fun p e s m args below meth c hx hb hr hml hts hown hlk hin hK hsz A hA H locs hP hD hS ls hl => ?_)
  have hl : lv_has ls 2 [(0, .ref h), (1, .ref wo)] := hl
  refine lv_aload_n hx hb dX7_init_0 rfl (lv_at hl 0 rfl) ?_
  refine W.objInit hx hb hown (hts _ q151) (hts _ q11) (hts _ q12) rfl (hl.1.trans hml.symm) rfl dX7_init_1 (Nat.le_of_ble_eq_true rfl) (Nat.le_of_ble_eq_true rfl) ?_
  refine W.eq (g2 := F0 m 4 ls []) rfl ?_
  refine lv_aload_n hx hb dX7_init_4 rfl (lv_at hl 0 rfl) ?_
  refine lv_aload_n hx hb dX7_init_5 rfl (lv_at hl 1 rfl) ?_
  refine va_putF (D := D) (ci := 7) (v := .ref wo) (ty := .object "WaysAtlas$World") (C := RX7) (T := TX7) (N := 7) hx hb hts inlX7 tyX7 tyX7_ok nmX7 hown hK hP hD hS 0 rfl rfl 0 (by decide) (hts _ q152) (fun _ h => h) rfl hin rfl (by decide +kernel) rfl rfl (Nat.le_of_ble_eq_true rfl) dX7_init_6 (fun H locs hP hD hS => ?_)
  have hP : va_P D vwCl [(h, .inr (7, [.ref wo, .int 0, .int 0, .int 0, .int 0, .int 0, .int 0]))] H := hP
  have hD : va_D A [(h, .inr (7, [.ref wo, .int 0, .int 0, .int 0, .int 0, .int 0, .int 0]))] := hD
  refine lv_aload_n hx hb dX7_init_9 rfl (lv_at hl 0 rfl) ?_
  refine lv_bipush (v := (-9)) hx hb dX7_init_10 (by decide) ?_
  refine va_put (D := D) (ci := 7) (v := .int (-9)) (ty := .int) (C := RX7) (T := TX7) (N := 7) hx hb hts inlX7 tyX7 tyX7_ok nmX7 hown hK hP hD hS 0 rfl rfl 1 (by decide) (hts _ q153) (fun _ h => h) rfl (by decide +kernel) rfl rfl (Nat.le_of_ble_eq_true rfl) dX7_init_12 (fun H locs hP hD hS => ?_)
  have hP : va_P D vwCl [(h, .inr (7, [.ref wo, .int (-9), .int 0, .int 0, .int 0, .int 0, .int 0]))] H := hP
  have hD : va_D A [(h, .inr (7, [.ref wo, .int (-9), .int 0, .int 0, .int 0, .int 0, .int 0]))] := hD
  refine lv_aload_n hx hb dX7_init_15 rfl (lv_at hl 0 rfl) ?_
  refine lv_bipush (v := (-9)) hx hb dX7_init_16 (by decide) ?_
  refine va_put (D := D) (ci := 7) (v := .int (-9)) (ty := .int) (C := RX7) (T := TX7) (N := 7) hx hb hts inlX7 tyX7 tyX7_ok nmX7 hown hK hP hD hS 0 rfl rfl 2 (by decide) (hts _ q154) (fun _ h => h) rfl (by decide +kernel) rfl rfl (Nat.le_of_ble_eq_true rfl) dX7_init_18 (fun H locs hP hD hS => ?_)
  have hP : va_P D vwCl [(h, .inr (7, [.ref wo, .int (-9), .int (-9), .int 0, .int 0, .int 0, .int 0]))] H := hP
  have hD : va_D A [(h, .inr (7, [.ref wo, .int (-9), .int (-9), .int 0, .int 0, .int 0, .int 0]))] := hD
  exact vz_vret hx hb hr hlk hK hP hD hS (()) (trivial) [0] rfl (by decide) (Nat.le_of_ble_eq_true rfl) (Nat.le_of_ble_eq_true rfl) dX7_init_21
theorem q158 : Cond.methodLink RX1 3 objectInit ∈ wsL_law := mT_2 (List.mem_of_getElem? (i := 113) rfl) rfl
theorem q162 : Cond.classLink RX1 22 RX6 ∈ wsL_law := mT_2 (List.mem_of_getElem? (i := 114) rfl) rfl
theorem q165 : Cond.methodLink RX1 24 yX6_init ∈ wsL_law := mT_2 (List.mem_of_getElem? (i := 115) rfl) rfl
theorem ki_X1_24 : vz_ci RX1 24 yX6_init cX6_init 3 2 := ⟨q165, q61, q15, q62, by decide +kernel⟩
theorem dX1_init_0 : decode cX1_init 0 = .ok (.aload_n 0, 1) := by decide +kernel
theorem dX1_init_1 : decode cX1_init 1 = .ok (.invokespecial 3, 3) := by decide +kernel
theorem dX1_init_4 : decode cX1_init 4 = .ok (.aload_n 0, 1) := by decide +kernel
theorem dX1_init_5 : decode cX1_init 5 = .ok (.aload_n 1, 1) := by decide +kernel
theorem dX1_init_6 : decode cX1_init 6 = .ok (.putfield 9, 3) := by decide +kernel
theorem dX1_init_9 : decode cX1_init 9 = .ok (.aload_n 0, 1) := by decide +kernel
theorem dX1_init_10 : decode cX1_init 10 = .ok (.aload_n 2, 1) := by decide +kernel
theorem dX1_init_11 : decode cX1_init 11 = .ok (.putfield 15, 3) := by decide +kernel
theorem dX1_init_14 : decode cX1_init 14 = .ok (.aload_n 0, 1) := by decide +kernel
theorem dX1_init_15 : decode cX1_init 15 = .ok (.aload_n 3, 1) := by decide +kernel
theorem dX1_init_16 : decode cX1_init 16 = .ok (.putfield 19, 3) := by decide +kernel
theorem dX1_init_19 : decode cX1_init 19 = .ok (.aload_n 0, 1) := by decide +kernel
theorem dX1_init_20 : decode cX1_init 20 = .ok (.new 22, 3) := by decide +kernel
theorem dX1_init_23 : decode cX1_init 23 = .ok (.dup, 1) := by decide +kernel
theorem dX1_init_24 : decode cX1_init 24 = .ok (.bipush 64, 2) := by decide +kernel
theorem dX1_init_26 : decode cX1_init 26 = .ok (.iconst 1, 1) := by decide +kernel
theorem dX1_init_27 : decode cX1_init 27 = .ok (.invokespecial 24, 3) := by decide +kernel
theorem dX1_init_30 : decode cX1_init 30 = .ok (.putfield 27, 3) := by decide +kernel
theorem dX1_init_33 : decode cX1_init 33 = .ok (.aload_n 0, 1) := by decide +kernel
theorem dX1_init_34 : decode cX1_init 34 = .ok (.bipush (-9), 2) := by decide +kernel
theorem dX1_init_36 : decode cX1_init 36 = .ok (.putfield 30, 3) := by decide +kernel
theorem dX1_init_39 : decode cX1_init 39 = .ok (.return_, 1) := by decide +kernel
set_option maxHeartbeats 4000000 in
set_option maxRecDepth 100000 in
theorem c_M_init (l : Launch) (D : va_G) (g : Nat → ClassId) (h sz : Nat) (wo cd hd : Nat) : vz_Mv l D (tyG g) yX1_init cX1_init 4 2 40 2 68 [.ref h, .ref wo, .ref cd, .ref hd] sz [(h, .inr (1, [.null, .null, .null, .null, .int 0, .int 0, .int 0]))] (fun _ : Nat → Nat => True) (fun a => [(h, .inr (1, [.ref wo, .ref cd, .ref hd, .ref (a 0), .int 0, .int 0, .int (-9)])), tT (a 0) (a 1) (nI 1) (nI 64) 0, tA g (a 1) 64 (fun _ => 0)]) := by
  refine vz_sv (by decide) (Nat.le_of_ble_eq_true rfl) (fun p e s m args below meth c hx hb hr hml hts hown hlk hin hK hsz A hA H locs hP hD hS ls hl => ?_)
  have hl : lv_has ls 4 [(0, .ref h), (1, .ref wo), (2, .ref cd), (3, .ref hd)] := hl
  refine lv_aload_n hx hb dX1_init_0 rfl (lv_at hl 0 rfl) ?_
  refine W.objInit hx hb hown (hts _ q158) (hts _ q11) (hts _ q12) rfl (hl.1.trans hml.symm) rfl dX1_init_1 (Nat.le_of_ble_eq_true rfl) (Nat.le_of_ble_eq_true rfl) ?_
  refine W.eq (g2 := F0 m 4 ls []) rfl ?_
  refine lv_aload_n hx hb dX1_init_4 rfl (lv_at hl 0 rfl) ?_
  refine lv_aload_n hx hb dX1_init_5 rfl (lv_at hl 1 rfl) ?_
  refine va_putF (D := D) (ci := 1) (v := .ref wo) (ty := .object "WaysAtlas$World") (C := RX1) (T := TX1) (N := 7) hx hb hts inlX1 tyX1 tyX1_ok nmX1 hown hK hP hD hS 0 rfl rfl 0 (by decide) (hts _ q159) (fun _ h => h) rfl hin rfl (by decide +kernel) rfl rfl (Nat.le_of_ble_eq_true rfl) dX1_init_6 (fun H locs hP hD hS => ?_)
  have hP : va_P D vwCl [(h, .inr (1, [.ref wo, .null, .null, .null, .int 0, .int 0, .int 0]))] H := hP
  have hD : va_D A [(h, .inr (1, [.ref wo, .null, .null, .null, .int 0, .int 0, .int 0]))] := hD
  refine lv_aload_n hx hb dX1_init_9 rfl (lv_at hl 0 rfl) ?_
  refine lv_aload_n hx hb dX1_init_10 rfl (lv_at hl 2 rfl) ?_
  refine va_putF (D := D) (ci := 1) (v := .ref cd) (ty := .object "WaysAtlas$Table") (C := RX1) (T := TX1) (N := 7) hx hb hts inlX1 tyX1 tyX1_ok nmX1 hown hK hP hD hS 0 rfl rfl 1 (by decide) (hts _ q160) (fun _ h => h) rfl hin rfl (by decide +kernel) rfl rfl (Nat.le_of_ble_eq_true rfl) dX1_init_11 (fun H locs hP hD hS => ?_)
  have hP : va_P D vwCl [(h, .inr (1, [.ref wo, .ref cd, .null, .null, .int 0, .int 0, .int 0]))] H := hP
  have hD : va_D A [(h, .inr (1, [.ref wo, .ref cd, .null, .null, .int 0, .int 0, .int 0]))] := hD
  refine lv_aload_n hx hb dX1_init_14 rfl (lv_at hl 0 rfl) ?_
  refine lv_aload_n hx hb dX1_init_15 rfl (lv_at hl 3 rfl) ?_
  refine va_putF (D := D) (ci := 1) (v := .ref hd) (ty := .object "WaysAtlas$Table") (C := RX1) (T := TX1) (N := 7) hx hb hts inlX1 tyX1 tyX1_ok nmX1 hown hK hP hD hS 0 rfl rfl 2 (by decide) (hts _ q161) (fun _ h => h) rfl hin rfl (by decide +kernel) rfl rfl (Nat.le_of_ble_eq_true rfl) dX1_init_16 (fun H locs hP hD hS => ?_)
  have hP : va_P D vwCl [(h, .inr (1, [.ref wo, .ref cd, .ref hd, .null, .int 0, .int 0, .int 0]))] H := hP
  have hD : va_D A [(h, .inr (1, [.ref wo, .ref cd, .ref hd, .null, .int 0, .int 0, .int 0]))] := hD
  refine lv_aload_n hx hb dX1_init_19 rfl (lv_at hl 0 rfl) ?_
  refine va_new (ci := 6) (fs := [.null, .int 0, .int 0, .int 0]) (C := RX6) (T := TX6) (N := 4) hx hb hts inlX6 tyX6 tyX6_ok hown (hts _ q162) (hts _ q14) (hts _ q15) hK hP hD hS hA rfl (lt_s (lt_s (lt_s (lt_s (lt_0) rfl) rfl) rfl) rfl) (Nat.le_of_ble_eq_true rfl) (Nat.le_of_ble_eq_true rfl) dX1_init_20 (fun qq1 H hP hD hS => ?_)
  refine W.cs (cells' := 1) (slots' := 4) rfl rfl ?_
  have hP : va_P D vwCl [(h, .inr (1, [.ref wo, .ref cd, .ref hd, .null, .int 0, .int 0, .int 0])), (qq1, .inr (6, [.null, .int 0, .int 0, .int 0]))] H := hP
  have hD : va_D A [(h, .inr (1, [.ref wo, .ref cd, .ref hd, .null, .int 0, .int 0, .int 0])), (qq1, .inr (6, [.null, .int 0, .int 0, .int 0]))] := hD
  refine lv_dup hx hb dX1_init_23 rfl ?_
  refine lv_bipush (v := 64) hx hb dX1_init_24 (by decide) ?_
  refine lv_iconst (v := 1) hx hb dX1_init_26 (by decide) ?_
  refine vz_Iv (wr := [(h, .inr (1, [.ref wo, .ref cd, .ref hd, .null, .int 0, .int 0, .int 0]))]) (As := [.int 64, .int 1]) (rest := [.ref qq1, .ref h]) hx hb hml hown hts hK hA hP hD hS (c_T_init l D g qq1 H.size 1 64 64 (by decide +kernel)) ki_X1_24 (⟨Nat.le_of_ble_eq_true rfl, Nat.le_of_ble_eq_true rfl⟩) [1] [0] rfl rfl (by decide) hl.1 (Nat.le_of_ble_eq_true rfl) dX1_init_27 (⟨Nat.le_of_ble_eq_true rfl, Nat.le_of_ble_eq_true rfl⟩) rfl (fun aq2 H locs _ _ hP hD hS => ?_)
  refine W.cs (cells' := 2) (slots' := 68) rfl rfl ?_
  have hP : va_P D vwCl [(h, .inr (1, [.ref wo, .ref cd, .ref hd, .null, .int 0, .int 0, .int 0])), tT qq1 aq2 (nI 1) (nI 64) 0, tA g aq2 64 (fun _ => 0)] H := hP
  have hD : va_D A [(h, .inr (1, [.ref wo, .ref cd, .ref hd, .null, .int 0, .int 0, .int 0])), tT qq1 aq2 (nI 1) (nI 64) 0, tA g aq2 64 (fun _ => 0)] := hD
  refine va_putF (D := D) (ci := 1) (v := .ref qq1) (ty := .object "WaysAtlas$Table") (C := RX1) (T := TX1) (N := 7) hx hb hts inlX1 tyX1 tyX1_ok nmX1 hown hK hP hD hS 0 rfl rfl 3 (by decide) (hts _ q163) (fun _ h => h) rfl hin rfl (by decide +kernel) rfl rfl (Nat.le_of_ble_eq_true rfl) dX1_init_30 (fun H locs hP hD hS => ?_)
  have hP : va_P D vwCl [(h, .inr (1, [.ref wo, .ref cd, .ref hd, .ref qq1, .int 0, .int 0, .int 0])), tT qq1 aq2 (nI 1) (nI 64) 0, tA g aq2 64 (fun _ => 0)] H := hP
  have hD : va_D A [(h, .inr (1, [.ref wo, .ref cd, .ref hd, .ref qq1, .int 0, .int 0, .int 0])), tT qq1 aq2 (nI 1) (nI 64) 0, tA g aq2 64 (fun _ => 0)] := hD
  refine lv_aload_n hx hb dX1_init_33 rfl (lv_at hl 0 rfl) ?_
  refine lv_bipush (v := (-9)) hx hb dX1_init_34 (by decide) ?_
  refine va_put (D := D) (ci := 1) (v := .int (-9)) (ty := .int) (C := RX1) (T := TX1) (N := 7) hx hb hts inlX1 tyX1 tyX1_ok nmX1 hown hK hP hD hS 0 rfl rfl 6 (by decide) (hts _ q164) (fun _ h => h) rfl (by decide +kernel) rfl rfl (Nat.le_of_ble_eq_true rfl) dX1_init_36 (fun H locs hP hD hS => ?_)
  have hP : va_P D vwCl [(h, .inr (1, [.ref wo, .ref cd, .ref hd, .ref qq1, .int 0, .int 0, .int (-9)])), tT qq1 aq2 (nI 1) (nI 64) 0, tA g aq2 64 (fun _ => 0)] H := hP
  have hD : va_D A [(h, .inr (1, [.ref wo, .ref cd, .ref hd, .ref qq1, .int 0, .int 0, .int (-9)])), tT qq1 aq2 (nI 1) (nI 64) 0, tA g aq2 64 (fun _ => 0)] := hD
  exact vz_vret hx hb hr hlk hK hP hD hS (fun k => [qq1, aq2].getD k 0) (trivial) [0, 1, 2] rfl (by decide) (Nat.le_of_ble_eq_true rfl) (Nat.le_of_ble_eq_true rfl) dX1_init_39
