theorem q63 : Cond.methodLink RX6 3 objectInit ∈ wsL_law := mT_1 (List.mem_of_getElem? (i := 31) rfl) rfl
theorem q11 : Cond.instanceMethod objectInit ∈ wsL_law := mT_1 (List.mem_of_getElem? (i := 24) rfl) rfl
theorem q12 : Cond.code objectInit ⟨#[0xb1]⟩ 1 none ∈ wsL_law := mT_1 (List.mem_of_getElem? (i := 25) rfl) rfl
theorem q64 : Cond.methodLink RX6 9 Lib.Math.max.name ∈ wsL_law := mT_1 (List.mem_of_getElem? (i := 32) rfl) rfl
theorem q65 : Cond.static Lib.Math.max.name ∈ wsL_law := mT_1 (List.mem_of_getElem? (i := 33) rfl) rfl
theorem q66 : Cond.initialized "java/lang/Math" ∈ wsL_law := mT_1 (List.mem_of_getElem? (i := 3) rfl) rfl
theorem q67 : Cond.code Lib.Math.max.name Lib.Math.max.code 2 (some .int) ∈ wsL_law := mT_1 (List.mem_of_getElem? (i := 34) rfl) rfl
theorem q68 : Cond.fieldLink RX6 15 "WaysAtlas$Table" "most" "I" ∈ wsL_law := mT_1 (List.mem_of_getElem? (i := 37) rfl) rfl
theorem q69 : Cond.fieldLink RX6 21 "WaysAtlas$Table" "width" "I" ∈ wsL_law := mT_1 (List.mem_of_getElem? (i := 36) rfl) rfl
theorem q70 : Cond.arrayClass .int ∈ wsL_law := mT_1 (List.mem_of_getElem? (i := 55) rfl) rfl
theorem q71 : Cond.fieldLink RX6 24 "WaysAtlas$Table" "cells" "[I" ∈ wsL_law := mT_1 (List.mem_of_getElem? (i := 35) rfl) rfl
theorem q72 : Cond.fieldLink RX6 28 "WaysAtlas$Table" "rows" "I" ∈ wsL_law := mT_1 (List.mem_of_getElem? (i := 38) rfl) rfl
theorem dX6_init_0 : decode cX6_init 0 = .ok (.aload_n 0, 1) := by decide +kernel
theorem dX6_init_1 : decode cX6_init 1 = .ok (.invokespecial 3, 3) := by decide +kernel
theorem dX6_init_4 : decode cX6_init 4 = .ok (.aload_n 0, 1) := by decide +kernel
theorem dX6_init_5 : decode cX6_init 5 = .ok (.iconst 0, 1) := by decide +kernel
theorem dX6_init_6 : decode cX6_init 6 = .ok (.iload_n 1, 1) := by decide +kernel
theorem dX6_init_7 : decode cX6_init 7 = .ok (.invokestatic 9, 3) := by decide +kernel
theorem dX6_init_10 : decode cX6_init 10 = .ok (.putfield 15, 3) := by decide +kernel
theorem dX6_init_13 : decode cX6_init 13 = .ok (.aload_n 0, 1) := by decide +kernel
theorem dX6_init_14 : decode cX6_init 14 = .ok (.iconst 1, 1) := by decide +kernel
theorem dX6_init_15 : decode cX6_init 15 = .ok (.iload_n 2, 1) := by decide +kernel
theorem dX6_init_16 : decode cX6_init 16 = .ok (.invokestatic 9, 3) := by decide +kernel
theorem dX6_init_19 : decode cX6_init 19 = .ok (.putfield 21, 3) := by decide +kernel
theorem dX6_init_22 : decode cX6_init 22 = .ok (.aload_n 0, 1) := by decide +kernel
theorem dX6_init_23 : decode cX6_init 23 = .ok (.iconst 0, 1) := by decide +kernel
theorem dX6_init_24 : decode cX6_init 24 = .ok (.aload_n 0, 1) := by decide +kernel
theorem dX6_init_25 : decode cX6_init 25 = .ok (.getfield 15, 3) := by decide +kernel
theorem dX6_init_28 : decode cX6_init 28 = .ok (.aload_n 0, 1) := by decide +kernel
theorem dX6_init_29 : decode cX6_init 29 = .ok (.getfield 21, 3) := by decide +kernel
theorem dX6_init_32 : decode cX6_init 32 = .ok (.imul, 1) := by decide +kernel
theorem dX6_init_33 : decode cX6_init 33 = .ok (.invokestatic 9, 3) := by decide +kernel
theorem dX6_init_36 : decode cX6_init 36 = .ok (.newarray .int, 2) := by decide +kernel
theorem dX6_init_38 : decode cX6_init 38 = .ok (.putfield 24, 3) := by decide +kernel
theorem dX6_init_41 : decode cX6_init 41 = .ok (.aload_n 0, 1) := by decide +kernel
theorem dX6_init_42 : decode cX6_init 42 = .ok (.iconst 0, 1) := by decide +kernel
theorem dX6_init_43 : decode cX6_init 43 = .ok (.putfield 28, 3) := by decide +kernel
theorem dX6_init_46 : decode cX6_init 46 = .ok (.return_, 1) := by decide +kernel
set_option maxHeartbeats 4000000 in
set_option maxRecDepth 100000 in
theorem c_T_init (l : Launch) (D : va_G) (g : Nat → ClassId) (h sz Wi M N : Nat) (ht : tok Wi M 0 N) : vz_Mv l D (tyG g) yX6_init cX6_init 3 1 14 1 N [.ref h, .int (nI M), .int (nI Wi)] sz [(h, .inr (6, [.null, .int 0, .int 0, .int 0]))] (fun _ : Nat => True) (fun q => [tT h q (nI Wi) (nI M) 0, tA g q N (fun _ => 0)]) := by
  obtain ⟨h1, h2, h3, h4, h5, h6⟩ := ht
  refine vz_sv (by decide) (Nat.le_of_ble_eq_true rfl) (fun p e s m args below meth c hx hb hr hml hts hown hlk hin hK hsz A hA H locs hP hD hS ls hl => ?_)
  have hl : lv_has ls 3 [(0, .ref h), (1, .int (nI M)), (2, .int (nI Wi))] := hl
  refine lv_aload_n hx hb dX6_init_0 rfl (lv_at hl 0 rfl) ?_
  refine W.objInit hx hb hown (hts _ q63) (hts _ q11) (hts _ q12) rfl (hl.1.trans hml.symm) rfl dX6_init_1 (Nat.le_of_ble_eq_true rfl) (Nat.le_of_ble_eq_true rfl) ?_
  refine W.eq (g2 := F0 m 4 ls []) rfl ?_
  refine lv_aload_n hx hb dX6_init_4 rfl (lv_at hl 0 rfl) ?_
  refine lv_iconst (v := 0) hx hb dX6_init_5 (by decide) ?_
  refine lv_iload_n hx hb dX6_init_6 rfl (lv_at hl 1 rfl) ?_
  refine va_mmax hx hb (hml.trans hl.1.symm) hown (hts _ q64) (hts _ q65) (hts _ q66) (hts _ q67) (Nat.le_of_ble_eq_true rfl) (Nat.le_of_ble_eq_true rfl) (Nat.le_of_ble_eq_true rfl) (Nat.le_of_ble_eq_true rfl) dX6_init_7 ?_
  refine lv_topi (nm_r (e' := nI M) (vz_max0 (by omega)) ?_)
  refine va_putF (D := D) (ci := 6) (v := .int (nI M)) (ty := .int) (C := RX6) (T := TX6) (N := 4) hx hb hts inlX6 tyX6 tyX6_ok nmX6 hown hK hP hD hS 0 rfl rfl 2 (by decide) (hts _ q68) (fun _ h => h) rfl hin rfl (by decide +kernel) rfl rfl (Nat.le_of_ble_eq_true rfl) dX6_init_10 (fun H locs hP hD hS => ?_)
  have hP : va_P D vwCl [(h, .inr (6, [.null, .int 0, .int (nI M), .int 0]))] H := hP
  have hD : va_D A [(h, .inr (6, [.null, .int 0, .int (nI M), .int 0]))] := hD
  refine lv_aload_n hx hb dX6_init_13 rfl (lv_at hl 0 rfl) ?_
  refine lv_iconst (v := 1) hx hb dX6_init_14 (by decide) ?_
  refine lv_iload_n hx hb dX6_init_15 rfl (lv_at hl 2 rfl) ?_
  refine va_mmax hx hb (hml.trans hl.1.symm) hown (hts _ q64) (hts _ q65) (hts _ q66) (hts _ q67) (Nat.le_of_ble_eq_true rfl) (Nat.le_of_ble_eq_true rfl) (Nat.le_of_ble_eq_true rfl) (Nat.le_of_ble_eq_true rfl) dX6_init_16 ?_
  refine lv_topi (nm_r (e' := nI Wi) (vz_max1 h5 (by omega)) ?_)
  refine va_putF (D := D) (ci := 6) (v := .int (nI Wi)) (ty := .int) (C := RX6) (T := TX6) (N := 4) hx hb hts inlX6 tyX6 tyX6_ok nmX6 hown hK hP hD hS 0 rfl rfl 1 (by decide) (hts _ q69) (fun _ h => h) rfl hin rfl (by decide +kernel) rfl rfl (Nat.le_of_ble_eq_true rfl) dX6_init_19 (fun H locs hP hD hS => ?_)
  have hP : va_P D vwCl [(h, .inr (6, [.null, .int (nI Wi), .int (nI M), .int 0]))] H := hP
  have hD : va_D A [(h, .inr (6, [.null, .int (nI Wi), .int (nI M), .int 0]))] := hD
  refine lv_aload_n hx hb dX6_init_22 rfl (lv_at hl 0 rfl) ?_
  refine lv_iconst (v := 0) hx hb dX6_init_23 (by decide) ?_
  refine lv_aload_n hx hb dX6_init_24 rfl (lv_at hl 0 rfl) ?_
  refine va_get (D := D) (ci := 6) (v := .int (nI M)) (C := RX6) (T := TX6) (N := 4) hx hb hts inlX6 hown hK hP 0 rfl rfl 2 (by decide) (hts _ q68) (fun _ h => h) rfl dX6_init_25 ?_
  refine lv_aload_n hx hb dX6_init_28 rfl (lv_at hl 0 rfl) ?_
  refine va_get (D := D) (ci := 6) (v := .int (nI Wi)) (C := RX6) (T := TX6) (N := 4) hx hb hts inlX6 hown hK hP 0 rfl rfl 1 (by decide) (hts _ q69) (fun _ h => h) rfl dX6_init_29 ?_
  refine lv_imul hx hb dX6_init_32 ?_
  refine lv_topi (nm_r (e' := nI N) (by rw [vz_mul, h1]) ?_)
  refine va_mmax hx hb (hml.trans hl.1.symm) hown (hts _ q64) (hts _ q65) (hts _ q66) (hts _ q67) (Nat.le_of_ble_eq_true rfl) (Nat.le_of_ble_eq_true rfl) (Nat.le_of_ble_eq_true rfl) (Nat.le_of_ble_eq_true rfl) dX6_init_33 ?_
  refine lv_topi (nm_r (e' := nI N) (vz_max0 (by omega)) ?_)
  refine vz_newa (t0 := 0) (atype := .int) (ty := .int) (a0 := (N, .inl (fun _ => 0))) hx hb (hts _ q70) rfl rfl (fun _ _ h => h) hK hP hD hS hA (fun _ => rfl) (nI_pos (by omega)) (nI_clamp (by omega)) (by show N * 4 ≤ 536870912; omega) (Nat.le_of_ble_eq_true rfl) (Nat.le_of_eq (Nat.zero_add N)) dX6_init_36 (fun qq1 H hP hD hS => ?_)
  have hP : va_P D vwCl [(h, .inr (6, [.null, .int (nI Wi), .int (nI M), .int 0])), tA g qq1 N (fun _ => 0)] H := hP
  have hD : va_D A [(h, .inr (6, [.null, .int (nI Wi), .int (nI M), .int 0])), tA g qq1 N (fun _ => 0)] := hD
  refine va_putF (D := D) (ci := 6) (v := .ref qq1) (ty := .array .int) (C := RX6) (T := TX6) (N := 4) hx hb hts inlX6 tyX6 tyX6_ok nmX6 hown hK hP hD hS 0 rfl rfl 0 (by decide) (hts _ q71) (fun _ h => h) rfl hin rfl (by decide +kernel) rfl rfl (Nat.le_of_ble_eq_true rfl) dX6_init_38 (fun H locs hP hD hS => ?_)
  have hP : va_P D vwCl [tT h qq1 (nI Wi) (nI M) 0, tA g qq1 N (fun _ => 0)] H := hP
  have hD : va_D A [tT h qq1 (nI Wi) (nI M) 0, tA g qq1 N (fun _ => 0)] := hD
  refine lv_aload_n hx hb dX6_init_41 rfl (lv_at hl 0 rfl) ?_
  refine lv_iconst (v := 0) hx hb dX6_init_42 (by decide) ?_
  refine va_put (D := D) (ci := 6) (v := .int 0) (ty := .int) (C := RX6) (T := TX6) (N := 4) hx hb hts inlX6 tyX6 tyX6_ok nmX6 hown hK hP hD hS 0 rfl rfl 3 (by decide) (hts _ q72) (fun _ h => h) rfl (by decide +kernel) rfl rfl (Nat.le_of_ble_eq_true rfl) dX6_init_43 (fun H locs hP hD hS => ?_)
  have hP : va_P D vwCl [tT h qq1 (nI Wi) (nI M) 0, tA g qq1 N (fun _ => 0)] H := hP
  have hD : va_D A [tT h qq1 (nI Wi) (nI M) 0, tA g qq1 N (fun _ => 0)] := hD
  exact vz_vret hx hb hr hlk hK hP hD hS (qq1) (trivial) [0, 1] rfl (by decide) (Nat.le_refl 1) (Nat.le_of_eq (Nat.zero_add N)) dX6_init_46
theorem dX6_get_0 : decode cX6_get 0 = .ok (.iload_n 1, 1) := by decide +kernel
theorem dX6_get_1 : decode cX6_get 1 = .ok (.ifCond .lt 23, 3) := by decide +kernel
theorem dX6_get_4 : decode cX6_get 4 = .ok (.iload_n 1, 1) := by decide +kernel
theorem dX6_get_5 : decode cX6_get 5 = .ok (.aload_n 0, 1) := by decide +kernel
theorem dX6_get_6 : decode cX6_get 6 = .ok (.getfield 28, 3) := by decide +kernel
theorem dX6_get_9 : decode cX6_get 9 = .ok (.if_icmp .ge 15, 3) := by decide +kernel
theorem dX6_get_12 : decode cX6_get 12 = .ok (.iload_n 2, 1) := by decide +kernel
theorem dX6_get_13 : decode cX6_get 13 = .ok (.ifCond .lt 11, 3) := by decide +kernel
theorem dX6_get_16 : decode cX6_get 16 = .ok (.iload_n 2, 1) := by decide +kernel
theorem dX6_get_17 : decode cX6_get 17 = .ok (.aload_n 0, 1) := by decide +kernel
theorem dX6_get_18 : decode cX6_get 18 = .ok (.getfield 21, 3) := by decide +kernel
theorem dX6_get_21 : decode cX6_get 21 = .ok (.if_icmp .lt 6, 3) := by decide +kernel
theorem dX6_get_24 : decode cX6_get 24 = .ok (.bipush (-9), 2) := by decide +kernel
theorem dX6_get_26 : decode cX6_get 26 = .ok (.ireturn, 1) := by decide +kernel
theorem dX6_get_27 : decode cX6_get 27 = .ok (.iload_n 1, 1) := by decide +kernel
theorem dX6_get_28 : decode cX6_get 28 = .ok (.aload_n 0, 1) := by decide +kernel
theorem dX6_get_29 : decode cX6_get 29 = .ok (.getfield 21, 3) := by decide +kernel
theorem dX6_get_32 : decode cX6_get 32 = .ok (.imul, 1) := by decide +kernel
theorem dX6_get_33 : decode cX6_get 33 = .ok (.iload_n 2, 1) := by decide +kernel
theorem dX6_get_34 : decode cX6_get 34 = .ok (.iadd, 1) := by decide +kernel
theorem dX6_get_35 : decode cX6_get 35 = .ok (.istore_n 3, 1) := by decide +kernel
theorem dX6_get_36 : decode cX6_get 36 = .ok (.iload_n 3, 1) := by decide +kernel
theorem dX6_get_37 : decode cX6_get 37 = .ok (.ifCond .lt 21, 3) := by decide +kernel
theorem dX6_get_40 : decode cX6_get 40 = .ok (.iload_n 3, 1) := by decide +kernel
theorem dX6_get_41 : decode cX6_get 41 = .ok (.aload_n 0, 1) := by decide +kernel
theorem dX6_get_42 : decode cX6_get 42 = .ok (.getfield 24, 3) := by decide +kernel
theorem dX6_get_45 : decode cX6_get 45 = .ok (.arraylength, 1) := by decide +kernel
theorem dX6_get_46 : decode cX6_get 46 = .ok (.if_icmp .ge 12, 3) := by decide +kernel
theorem dX6_get_49 : decode cX6_get 49 = .ok (.aload_n 0, 1) := by decide +kernel
theorem dX6_get_50 : decode cX6_get 50 = .ok (.getfield 24, 3) := by decide +kernel
theorem dX6_get_53 : decode cX6_get 53 = .ok (.iload_n 3, 1) := by decide +kernel
theorem dX6_get_54 : decode cX6_get 54 = .ok (.iaload, 1) := by decide +kernel
theorem dX6_get_55 : decode cX6_get 55 = .ok (.goto 5, 3) := by decide +kernel
theorem dX6_get_60 : decode cX6_get 60 = .ok (.ireturn, 1) := by decide +kernel
set_option maxHeartbeats 4000000 in
set_option maxRecDepth 100000 in
theorem c_T_get (l : Launch) (D : va_G) (g : Nat → ClassId) (h q sz Wi M R N : Nat) (f : Nat → Int32) (i j : Int32) (ht : tok Wi M R N) : vz_Mi l D (tyG g) yX6_get cX6_get 4 0 0 0 0 .int [.ref h, .int i, .int j] sz [tT h q (nI Wi) (nI M) (nI R), tA g q N f] (fun r (_ : Unit) => r = tg Wi R f i j) (fun _ => [tT h q (nI Wi) (nI M) (nI R), tA g q N f]) := by
  obtain ⟨h1, h2, h3, h4, h5, h6⟩ := ht
  refine vz_si (by decide) (Nat.le_of_ble_eq_true rfl) (fun p e s m args below meth c hx hb hr hml hts hown hlk hin hK hsz A hA H locs hP hD hS ls hl => ?_)
  have hl : lv_has ls 4 [(0, .ref h), (1, .int i), (2, .int j)] := hl
  refine lv_iload_n hx hb dX6_get_0 rfl (lv_at hl 1 rfl) ?_
  refine lv_if_lt (tgt := 24) hx hb dX6_get_1 (by decide) (fun k1 => ?_) (fun k1 => ?_)
  · refine lv_bipush (v := (-9)) hx hb dX6_get_24 (by decide) ?_
    exact vz_iret hx hb hr hlk hK hP hD hS (()) (tg_out (Or.inl k1)) [0, 1] rfl (by decide) (Nat.le_refl 0) (Nat.le_refl 0) dX6_get_26
  · refine lv_iload_n hx hb dX6_get_4 rfl (lv_at hl 1 rfl) ?_
    refine lv_aload_n hx hb dX6_get_5 rfl (lv_at hl 0 rfl) ?_
    refine va_get (D := D) (ci := 6) (v := .int (nI R)) (C := RX6) (T := TX6) (N := 4) hx hb hts inlX6 hown hK hP 0 rfl rfl 3 (by decide) (hts _ q72) (fun _ h => h) rfl dX6_get_6 ?_
    refine lv_icmp_ge (tgt := 24) hx hb dX6_get_9 (by decide) (fun k2 => ?_) (fun k2 => ?_)
    · refine lv_bipush (v := (-9)) hx hb dX6_get_24 (by decide) ?_
      exact vz_iret hx hb hr hlk hK hP hD hS (()) (tg_out (Or.inr (Or.inl k2))) [0, 1] rfl (by decide) (Nat.le_refl 0) (Nat.le_refl 0) dX6_get_26
    · refine lv_iload_n hx hb dX6_get_12 rfl (lv_at hl 2 rfl) ?_
      refine lv_if_lt (tgt := 24) hx hb dX6_get_13 (by decide) (fun k3 => ?_) (fun k3 => ?_)
      · refine lv_bipush (v := (-9)) hx hb dX6_get_24 (by decide) ?_
        exact vz_iret hx hb hr hlk hK hP hD hS (()) (tg_out (Or.inr (Or.inr (Or.inl k3)))) [0, 1] rfl (by decide) (Nat.le_refl 0) (Nat.le_refl 0) dX6_get_26
      · refine lv_iload_n hx hb dX6_get_16 rfl (lv_at hl 2 rfl) ?_
        refine lv_aload_n hx hb dX6_get_17 rfl (lv_at hl 0 rfl) ?_
        refine va_get (D := D) (ci := 6) (v := .int (nI Wi)) (C := RX6) (T := TX6) (N := 4) hx hb hts inlX6 hown hK hP 0 rfl rfl 1 (by decide) (hts _ q69) (fun _ h => h) rfl dX6_get_18 ?_
        refine lv_icmp_lt (tgt := 27) hx hb dX6_get_21 (by decide) (fun k4 => ?_) (fun k4 => ?_)
        · obtain ⟨k, hk, ek⟩ := vz_tix (by omega) h3 h4 h6 k1 k2 k3 k4
          refine lv_iload_n hx hb dX6_get_27 rfl (lv_at hl 1 rfl) ?_
          refine lv_aload_n hx hb dX6_get_28 rfl (lv_at hl 0 rfl) ?_
          refine va_get (D := D) (ci := 6) (v := .int (nI Wi)) (C := RX6) (T := TX6) (N := 4) hx hb hts inlX6 hown hK hP 0 rfl rfl 1 (by decide) (hts _ q69) (fun _ h => h) rfl dX6_get_29 ?_
          refine lv_imul hx hb dX6_get_32 ?_
          refine lv_topi (nm_r (e' := i * nI Wi) (rfl) ?_)
          refine lv_iload_n hx hb dX6_get_33 rfl (lv_at hl 2 rfl) ?_
          refine lv_iadd hx hb dX6_get_34 ?_
          refine lv_topi (nm_r (e' := nI k) (ek) ?_)
          refine lv_istore_n (lv' := [(3, .int (nI k)), (0, .ref h), (1, .int i), (2, .int j)]) hx hb dX6_get_35 rfl hl (by decide) rfl (fun ls hl => ?_)
          refine lv_iload_n hx hb dX6_get_36 rfl (lv_at hl 0 rfl) ?_
          refine lv_if_lt (tgt := 58) hx hb dX6_get_37 (by decide) (fun h9 => absurd h9 (nI_pos (by omega))) (fun _ => ?_)
          refine lv_iload_n hx hb dX6_get_40 rfl (lv_at hl 0 rfl) ?_
          refine lv_aload_n hx hb dX6_get_41 rfl (lv_at hl 1 rfl) ?_
          refine va_get (D := D) (ci := 6) (v := .ref q) (C := RX6) (T := TX6) (N := 4) hx hb hts inlX6 hown hK hP 0 rfl rfl 0 (by decide) (hts _ q71) (fun _ h => h) rfl dX6_get_42 ?_
          refine va_alen (v := nI N) hx hb hK hP 1 0 rfl rfl (rfl) dX6_get_45 ?_
          refine lv_icmp_ge (tgt := 58) hx hb dX6_get_46 (by decide) (fun h9 => absurd h9 (nI_ge (by omega) (by omega))) (fun _ => ?_)
          refine lv_aload_n hx hb dX6_get_49 rfl (lv_at hl 1 rfl) ?_
          refine va_get (D := D) (ci := 6) (v := .ref q) (C := RX6) (T := TX6) (N := 4) hx hb hts inlX6 hown hK hP 0 rfl rfl 0 (by decide) (hts _ q71) (fun _ h => h) rfl dX6_get_50 ?_
          refine lv_iload_n hx hb dX6_get_53 rfl (lv_at hl 0 rfl) ?_
          refine va_iald hx hb hK hP 1 0 rfl rfl (vp_in_nI (by omega) (by omega)) dX6_get_54 ?_
          refine lv_topi (nm_r (e' := f k) (by rw [nI_clamp (by omega)]) ?_)
          refine lv_goto (tgt := 60) hx hb dX6_get_55 (by decide) ?_
          exact vz_iret hx hb hr hlk hK hP hD hS (()) (tg_in k1 k2 k3 k4 (by omega) ek) [0, 1] rfl (by decide) (Nat.le_refl 0) (Nat.le_refl 0) dX6_get_60
        · refine lv_bipush (v := (-9)) hx hb dX6_get_24 (by decide) ?_
          exact vz_iret hx hb hr hlk hK hP hD hS (()) (tg_out (Or.inr (Or.inr (Or.inr k4)))) [0, 1] rfl (by decide) (Nat.le_refl 0) (Nat.le_refl 0) dX6_get_26
theorem dX6_set_0 : decode cX6_set 0 = .ok (.iload_n 1, 1) := by decide +kernel
theorem dX6_set_1 : decode cX6_set 1 = .ok (.ifCond .lt 23, 3) := by decide +kernel
theorem dX6_set_4 : decode cX6_set 4 = .ok (.iload_n 1, 1) := by decide +kernel
theorem dX6_set_5 : decode cX6_set 5 = .ok (.aload_n 0, 1) := by decide +kernel
theorem dX6_set_6 : decode cX6_set 6 = .ok (.getfield 28, 3) := by decide +kernel
theorem dX6_set_9 : decode cX6_set 9 = .ok (.if_icmp .ge 15, 3) := by decide +kernel
theorem dX6_set_12 : decode cX6_set 12 = .ok (.iload_n 2, 1) := by decide +kernel
theorem dX6_set_13 : decode cX6_set 13 = .ok (.ifCond .lt 11, 3) := by decide +kernel
theorem dX6_set_16 : decode cX6_set 16 = .ok (.iload_n 2, 1) := by decide +kernel
theorem dX6_set_17 : decode cX6_set 17 = .ok (.aload_n 0, 1) := by decide +kernel
theorem dX6_set_18 : decode cX6_set 18 = .ok (.getfield 21, 3) := by decide +kernel
theorem dX6_set_21 : decode cX6_set 21 = .ok (.if_icmp .lt 4, 3) := by decide +kernel
theorem dX6_set_24 : decode cX6_set 24 = .ok (.return_, 1) := by decide +kernel
theorem dX6_set_25 : decode cX6_set 25 = .ok (.iload_n 1, 1) := by decide +kernel
theorem dX6_set_26 : decode cX6_set 26 = .ok (.aload_n 0, 1) := by decide +kernel
theorem dX6_set_27 : decode cX6_set 27 = .ok (.getfield 21, 3) := by decide +kernel
theorem dX6_set_30 : decode cX6_set 30 = .ok (.imul, 1) := by decide +kernel
theorem dX6_set_31 : decode cX6_set 31 = .ok (.iload_n 2, 1) := by decide +kernel
theorem dX6_set_32 : decode cX6_set 32 = .ok (.iadd, 1) := by decide +kernel
theorem dX6_set_33 : decode cX6_set 33 = .ok (.istore 4, 2) := by decide +kernel
theorem dX6_set_35 : decode cX6_set 35 = .ok (.iload 4, 2) := by decide +kernel
theorem dX6_set_37 : decode cX6_set 37 = .ok (.ifCond .lt 21, 3) := by decide +kernel
theorem dX6_set_40 : decode cX6_set 40 = .ok (.iload 4, 2) := by decide +kernel
theorem dX6_set_42 : decode cX6_set 42 = .ok (.aload_n 0, 1) := by decide +kernel
theorem dX6_set_43 : decode cX6_set 43 = .ok (.getfield 24, 3) := by decide +kernel
theorem dX6_set_46 : decode cX6_set 46 = .ok (.arraylength, 1) := by decide +kernel
theorem dX6_set_47 : decode cX6_set 47 = .ok (.if_icmp .ge 11, 3) := by decide +kernel
theorem dX6_set_50 : decode cX6_set 50 = .ok (.aload_n 0, 1) := by decide +kernel
theorem dX6_set_51 : decode cX6_set 51 = .ok (.getfield 24, 3) := by decide +kernel
theorem dX6_set_54 : decode cX6_set 54 = .ok (.iload 4, 2) := by decide +kernel
theorem dX6_set_56 : decode cX6_set 56 = .ok (.iload_n 3, 1) := by decide +kernel
theorem dX6_set_57 : decode cX6_set 57 = .ok (.iastore, 1) := by decide +kernel
theorem dX6_set_58 : decode cX6_set 58 = .ok (.return_, 1) := by decide +kernel
set_option maxHeartbeats 4000000 in
set_option maxRecDepth 100000 in
theorem c_T_set (l : Launch) (D : va_G) (g : Nat → ClassId) (h q sz Wi M R N : Nat) (f : Nat → Int32) (i j v : Int32) (ht : tok Wi M R N) : vz_Mv l D (tyG g) yX6_set cX6_set 5 0 0 0 0 [.ref h, .int i, .int j, .int v] sz [tT h q (nI Wi) (nI M) (nI R), tA g q N f] (fun f1 => f1 = ts Wi R f i j v) (fun f1 => [tT h q (nI Wi) (nI M) (nI R), tA g q N f1]) := by
  obtain ⟨h1, h2, h3, h4, h5, h6⟩ := ht
  refine vz_sv (by decide) (Nat.le_of_ble_eq_true rfl) (fun p e s m args below meth c hx hb hr hml hts hown hlk hin hK hsz A hA H locs hP hD hS ls hl => ?_)
  have hl : lv_has ls 5 [(0, .ref h), (1, .int i), (2, .int j), (3, .int v)] := hl
  refine lv_iload_n hx hb dX6_set_0 rfl (lv_at hl 1 rfl) ?_
  refine lv_if_lt (tgt := 24) hx hb dX6_set_1 (by decide) (fun k1 => ?_) (fun k1 => ?_)
  · exact vz_vret hx hb hr hlk hK hP hD hS (f) (ts_out (Or.inl k1)) [0, 1] rfl (by decide) (Nat.le_refl 0) (Nat.le_refl 0) dX6_set_24
  · refine lv_iload_n hx hb dX6_set_4 rfl (lv_at hl 1 rfl) ?_
    refine lv_aload_n hx hb dX6_set_5 rfl (lv_at hl 0 rfl) ?_
    refine va_get (D := D) (ci := 6) (v := .int (nI R)) (C := RX6) (T := TX6) (N := 4) hx hb hts inlX6 hown hK hP 0 rfl rfl 3 (by decide) (hts _ q72) (fun _ h => h) rfl dX6_set_6 ?_
    refine lv_icmp_ge (tgt := 24) hx hb dX6_set_9 (by decide) (fun k2 => ?_) (fun k2 => ?_)
    · exact vz_vret hx hb hr hlk hK hP hD hS (f) (ts_out (Or.inr (Or.inl k2))) [0, 1] rfl (by decide) (Nat.le_refl 0) (Nat.le_refl 0) dX6_set_24
    · refine lv_iload_n hx hb dX6_set_12 rfl (lv_at hl 2 rfl) ?_
      refine lv_if_lt (tgt := 24) hx hb dX6_set_13 (by decide) (fun k3 => ?_) (fun k3 => ?_)
      · exact vz_vret hx hb hr hlk hK hP hD hS (f) (ts_out (Or.inr (Or.inr (Or.inl k3)))) [0, 1] rfl (by decide) (Nat.le_refl 0) (Nat.le_refl 0) dX6_set_24
      · refine lv_iload_n hx hb dX6_set_16 rfl (lv_at hl 2 rfl) ?_
        refine lv_aload_n hx hb dX6_set_17 rfl (lv_at hl 0 rfl) ?_
        refine va_get (D := D) (ci := 6) (v := .int (nI Wi)) (C := RX6) (T := TX6) (N := 4) hx hb hts inlX6 hown hK hP 0 rfl rfl 1 (by decide) (hts _ q69) (fun _ h => h) rfl dX6_set_18 ?_
        refine lv_icmp_lt (tgt := 25) hx hb dX6_set_21 (by decide) (fun k4 => ?_) (fun k4 => ?_)
        · obtain ⟨k, hk, ek⟩ := vz_tix (by omega) h3 h4 h6 k1 k2 k3 k4
          refine lv_iload_n hx hb dX6_set_25 rfl (lv_at hl 1 rfl) ?_
          refine lv_aload_n hx hb dX6_set_26 rfl (lv_at hl 0 rfl) ?_
          refine va_get (D := D) (ci := 6) (v := .int (nI Wi)) (C := RX6) (T := TX6) (N := 4) hx hb hts inlX6 hown hK hP 0 rfl rfl 1 (by decide) (hts _ q69) (fun _ h => h) rfl dX6_set_27 ?_
          refine lv_imul hx hb dX6_set_30 ?_
          refine lv_topi (nm_r (e' := i * nI Wi) (rfl) ?_)
          refine lv_iload_n hx hb dX6_set_31 rfl (lv_at hl 2 rfl) ?_
          refine lv_iadd hx hb dX6_set_32 ?_
          refine lv_topi (nm_r (e' := nI k) (ek) ?_)
          refine lv_istore (lv' := [(4, .int (nI k)), (0, .ref h), (1, .int i), (2, .int j), (3, .int v)]) hx hb dX6_set_33 hl (by decide) rfl (fun ls hl => ?_)
          refine lv_iload hx hb dX6_set_35 (lv_at hl 0 rfl) ?_
          refine lv_if_lt (tgt := 58) hx hb dX6_set_37 (by decide) (fun h9 => absurd h9 (nI_pos (by omega))) (fun _ => ?_)
          refine lv_iload hx hb dX6_set_40 (lv_at hl 0 rfl) ?_
          refine lv_aload_n hx hb dX6_set_42 rfl (lv_at hl 1 rfl) ?_
          refine va_get (D := D) (ci := 6) (v := .ref q) (C := RX6) (T := TX6) (N := 4) hx hb hts inlX6 hown hK hP 0 rfl rfl 0 (by decide) (hts _ q71) (fun _ h => h) rfl dX6_set_43 ?_
          refine va_alen (v := nI N) hx hb hK hP 1 0 rfl rfl (rfl) dX6_set_46 ?_
          refine lv_icmp_ge (tgt := 58) hx hb dX6_set_47 (by decide) (fun h9 => absurd h9 (nI_ge (by omega) (by omega))) (fun _ => ?_)
          refine lv_aload_n hx hb dX6_set_50 rfl (lv_at hl 1 rfl) ?_
          refine va_get (D := D) (ci := 6) (v := .ref q) (C := RX6) (T := TX6) (N := 4) hx hb hts inlX6 hown hK hP 0 rfl rfl 0 (by decide) (hts _ q71) (fun _ h => h) rfl dX6_set_51 ?_
          refine lv_iload hx hb dX6_set_54 (lv_at hl 0 rfl) ?_
          refine lv_iload_n hx hb dX6_set_56 rfl (lv_at hl 4 rfl) ?_
          refine va_iast hx hb hK hP hD hS 1 0 rfl rfl (vp_in_nI (by omega) (by omega)) dX6_set_57 (fun H locs hP hD hS => ?_)
          have hP : va_P D vwCl [tT h q (nI Wi) (nI M) (nI R), tA g q N (upd f (nI k).toNatClampNeg v)] H := hP
          have hD : va_D A [tT h q (nI Wi) (nI M) (nI R), tA g q N (upd f (nI k).toNatClampNeg v)] := hD
          exact vz_vret hx hb hr hlk hK hP hD hS (upd f (nI k).toNatClampNeg v) (ts_in k1 k2 k3 k4 ek) [0, 1] rfl (by decide) (Nat.le_refl 0) (Nat.le_refl 0) dX6_set_58
        · exact vz_vret hx hb hr hlk hK hP hD hS (f) (ts_out (Or.inr (Or.inr (Or.inr k4)))) [0, 1] rfl (by decide) (Nat.le_refl 0) (Nat.le_refl 0) dX6_set_24
theorem dX6_reset_0 : decode cX6_reset 0 = .ok (.aload_n 0, 1) := by decide +kernel
theorem dX6_reset_1 : decode cX6_reset 1 = .ok (.iconst 0, 1) := by decide +kernel
theorem dX6_reset_2 : decode cX6_reset 2 = .ok (.putfield 28, 3) := by decide +kernel
theorem dX6_reset_5 : decode cX6_reset 5 = .ok (.return_, 1) := by decide +kernel
set_option maxHeartbeats 4000000 in
set_option maxRecDepth 100000 in
theorem c_T_reset (l : Launch) (D : va_G) (g : Nat → ClassId) (h q sz : Nat) (w mo r : Int32) : vz_Mv l D (tyG g) yX6_reset cX6_reset 1 0 0 0 0 [.ref h] sz [tT h q w mo r] (fun _ : Unit => True) (fun _ => [tT h q w mo 0]) := by
  refine vz_sv (by decide) (Nat.le_of_ble_eq_true rfl) (fun p e s m args below meth c hx hb hr hml hts hown hlk hin hK hsz A hA H locs hP hD hS ls hl => ?_)
  have hl : lv_has ls 1 [(0, .ref h)] := hl
  refine lv_aload_n hx hb dX6_reset_0 rfl (lv_at hl 0 rfl) ?_
  refine lv_iconst (v := 0) hx hb dX6_reset_1 (by decide) ?_
  refine va_put (D := D) (ci := 6) (v := .int 0) (ty := .int) (C := RX6) (T := TX6) (N := 4) hx hb hts inlX6 tyX6 tyX6_ok nmX6 hown hK hP hD hS 0 rfl rfl 3 (by decide) (hts _ q72) (fun _ h => h) rfl (by decide +kernel) rfl rfl (Nat.le_of_ble_eq_true rfl) dX6_reset_2 (fun H locs hP hD hS => ?_)
  have hP : va_P D vwCl [tT h q w mo 0] H := hP
  have hD : va_D A [tT h q w mo 0] := hD
  exact vz_vret hx hb hr hlk hK hP hD hS (()) (trivial) [0] rfl (by decide) (Nat.le_refl 0) (Nat.le_refl 0) dX6_reset_5
theorem dX6_add_36 : decode cX6_add 36 = .ok (.iload_n 1, 1) := by decide +kernel
theorem dX6_add_37 : decode cX6_add 37 = .ok (.aload_n 0, 1) := by decide +kernel
theorem dX6_add_38 : decode cX6_add 38 = .ok (.getfield 28, 3) := by decide +kernel
theorem dX6_add_41 : decode cX6_add 41 = .ok (.aload_n 0, 1) := by decide +kernel
theorem dX6_add_42 : decode cX6_add 42 = .ok (.getfield 21, 3) := by decide +kernel
theorem dX6_add_45 : decode cX6_add 45 = .ok (.imul, 1) := by decide +kernel
theorem dX6_add_46 : decode cX6_add 46 = .ok (.if_icmp .ge 30, 3) := by decide +kernel
theorem dX6_add_49 : decode cX6_add 49 = .ok (.iload_n 1, 1) := by decide +kernel
theorem dX6_add_50 : decode cX6_add 50 = .ok (.ifCond .lt 20, 3) := by decide +kernel
theorem dX6_add_53 : decode cX6_add 53 = .ok (.iload_n 1, 1) := by decide +kernel
theorem dX6_add_54 : decode cX6_add 54 = .ok (.aload_n 0, 1) := by decide +kernel
theorem dX6_add_55 : decode cX6_add 55 = .ok (.getfield 24, 3) := by decide +kernel
theorem dX6_add_58 : decode cX6_add 58 = .ok (.arraylength, 1) := by decide +kernel
theorem dX6_add_59 : decode cX6_add 59 = .ok (.if_icmp .ge 11, 3) := by decide +kernel
theorem dX6_add_62 : decode cX6_add 62 = .ok (.aload_n 0, 1) := by decide +kernel
theorem dX6_add_63 : decode cX6_add 63 = .ok (.getfield 24, 3) := by decide +kernel
theorem dX6_add_66 : decode cX6_add 66 = .ok (.iload_n 1, 1) := by decide +kernel
theorem dX6_add_67 : decode cX6_add 67 = .ok (.bipush (-9), 2) := by decide +kernel
theorem dX6_add_69 : decode cX6_add 69 = .ok (.iastore, 1) := by decide +kernel
theorem dX6_add_70 : decode cX6_add 70 = .ok (.iinc 1 1, 3) := by decide +kernel
theorem dX6_add_73 : decode cX6_add 73 = .ok (.goto (-37), 3) := by decide +kernel
set_option maxHeartbeats 4000000 in
set_option maxRecDepth 100000 in
theorem lp_T_add {p : Program} {l : Launch} {e : Env} {Rm : Room} {s : State} {m : MethodId} {args : Array Value} {below : List Frame} {meth : Method} {c : Code} {Q : State → Prop} {A : Nat → Prop} {D : va_G} {g : Nat → ClassId} {H0 : Heap} {cells slots : Nat} (hx : p.tables.exec = Jvm.exec) (hb : c.code = cX6_add) (hown : s.vm.findClass RX6 = some m.cls) (hts : ∀ w ∈ wsL_law, w.before args s = true) (hK : va_K D vwCl (tyG g) s) {h q Wi M R N : Nat} {f : Nat → Int32} (hN : N < 2 ^ 30) (hRN : (R + 1) * Wi ≤ N)
    (kk : ∀ (H : Heap) (locs : List Loc) (ls : Array Slot), va_P D vwCl [tT h q (nI Wi) (nI M) (nI (R + 1)), tA g q N (tf f (R * Wi) ((R + 1) * Wi) (-9))] H → va_D A [tT h q (nI Wi) (nI M) (nI (R + 1)), tA g q N (tf f (R * Wi) ((R + 1) * Wi) (-9))] → va_S A H0 H locs → lv_has ls 2 [(0, .ref h), (1, .int (nI ((R + 1) * Wi)))] → W p l e Rm s m args below meth c H locs cells slots Q (F0 m 76 ls [])) :
    ∀ (n i : Nat), R * Wi ≤ i → i ≤ (R + 1) * Wi → (R + 1) * Wi - i < n → ∀ (H : Heap) (locs : List Loc) (ls : Array Slot), va_P D vwCl [tT h q (nI Wi) (nI M) (nI (R + 1)), tA g q N (tf f (R * Wi) i (-9))] H → va_D A [tT h q (nI Wi) (nI M) (nI (R + 1)), tA g q N (tf f (R * Wi) i (-9))] → va_S A H0 H locs → lv_has ls 2 [(0, .ref h), (1, .int (nI i))] → W p l e Rm s m args below meth c H locs cells slots Q (F0 m 36 ls []) := by
  intro n
  induction n with
  | zero => intro i _ _ z; omega
  | succ n ih =>
    intro i hi hi2 hm H locs ls hP hD hS hl
    refine lv_iload_n hx hb dX6_add_36 rfl (lv_at hl 1 rfl) ?_
    refine lv_aload_n hx hb dX6_add_37 rfl (lv_at hl 0 rfl) ?_
    refine va_get (D := D) (ci := 6) (v := .int (nI (R + 1))) (C := RX6) (T := TX6) (N := 4) hx hb hts inlX6 hown hK hP 0 rfl rfl 3 (by decide) (hts _ q72) (fun _ h => h) rfl dX6_add_38 ?_
    refine lv_aload_n hx hb dX6_add_41 rfl (lv_at hl 0 rfl) ?_
    refine va_get (D := D) (ci := 6) (v := .int (nI Wi)) (C := RX6) (T := TX6) (N := 4) hx hb hts inlX6 hown hK hP 0 rfl rfl 1 (by decide) (hts _ q69) (fun _ h => h) rfl dX6_add_42 ?_
    refine lv_imul hx hb dX6_add_45 ?_
    refine lv_topi (nm_r (e' := nI ((R + 1) * Wi)) (vz_mul _ _) ?_)
    refine lv_icmp_ge (tgt := 76) hx hb dX6_add_46 (by decide) (fun kc => ?_) (fun kc => ?_)
    · have hii : i = (R + 1) * Wi := by
        rcases Nat.lt_or_ge i ((R + 1) * Wi) with z | z
        · exact absurd kc (nI_ge z (by omega))
        · omega
      subst hii
      exact kk H locs ls hP hD hS hl
    · have hlt : i < (R + 1) * Wi := by
        rcases Nat.lt_or_ge i ((R + 1) * Wi) with z | z
        · exact z
        · exact absurd (nI_le z (by omega)) kc
      have hlN : i < N := by omega
      refine lv_iload_n hx hb dX6_add_49 rfl (lv_at hl 1 rfl) ?_
      refine lv_if_lt (tgt := 70) hx hb dX6_add_50 (by decide) (fun h9 => absurd h9 (nI_pos (by omega))) (fun _ => ?_)
      refine lv_iload_n hx hb dX6_add_53 rfl (lv_at hl 1 rfl) ?_
      refine lv_aload_n hx hb dX6_add_54 rfl (lv_at hl 0 rfl) ?_
      refine va_get (D := D) (ci := 6) (v := .ref q) (C := RX6) (T := TX6) (N := 4) hx hb hts inlX6 hown hK hP 0 rfl rfl 0 (by decide) (hts _ q71) (fun _ h => h) rfl dX6_add_55 ?_
      refine va_alen (v := nI N) hx hb hK hP 1 0 rfl rfl (rfl) dX6_add_58 ?_
      refine lv_icmp_ge (tgt := 70) hx hb dX6_add_59 (by decide) (fun h9 => absurd h9 (nI_ge hlN (by omega))) (fun _ => ?_)
      refine lv_aload_n hx hb dX6_add_62 rfl (lv_at hl 0 rfl) ?_
      refine va_get (D := D) (ci := 6) (v := .ref q) (C := RX6) (T := TX6) (N := 4) hx hb hts inlX6 hown hK hP 0 rfl rfl 0 (by decide) (hts _ q71) (fun _ h => h) rfl dX6_add_63 ?_
      refine lv_iload_n hx hb dX6_add_66 rfl (lv_at hl 1 rfl) ?_
      refine lv_bipush (v := (-9)) hx hb dX6_add_67 (by decide) ?_
      refine va_iast hx hb hK hP hD hS 1 0 rfl rfl (vp_in_nI hlN (by omega)) dX6_add_69 (fun H locs hP hD hS => ?_)
      have hfe : (upd (tf f (R * Wi) i (-9)) (nI i).toNatClampNeg (-9)) = (tf f (R * Wi) (i + 1) (-9)) := tf_s hi (by omega)
      rw [hfe] at hP hD
      have hP : va_P D vwCl [tT h q (nI Wi) (nI M) (nI (R + 1)), tA g q N (tf f (R * Wi) (i + 1) (-9))] H := hP
      have hD : va_D A [tT h q (nI Wi) (nI M) (nI (R + 1)), tA g q N (tf f (R * Wi) (i + 1) (-9))] := hD
      refine lv_iinc (v := (nI (i + 1))) (lv' := [(1, .int (nI (i + 1))), (0, .ref h)]) hx hb dX6_add_70 hl (k := 1) rfl (nI_1 i) (by decide) rfl (fun ls hl => ?_)
      refine lv_goto (tgt := 36) hx hb dX6_add_73 (by decide) ?_
      exact ih (i + 1) (by omega) (by omega) (by omega) H locs ls hP hD hS (lv_sub hl [1, 0] rfl)
theorem dX6_add_0 : decode cX6_add 0 = .ok (.aload_n 0, 1) := by decide +kernel
theorem dX6_add_1 : decode cX6_add 1 = .ok (.getfield 28, 3) := by decide +kernel
theorem dX6_add_4 : decode cX6_add 4 = .ok (.aload_n 0, 1) := by decide +kernel
theorem dX6_add_5 : decode cX6_add 5 = .ok (.getfield 15, 3) := by decide +kernel
theorem dX6_add_8 : decode cX6_add 8 = .ok (.if_icmp .lt 6, 3) := by decide +kernel
theorem dX6_add_11 : decode cX6_add 11 = .ok (.bipush (-9), 2) := by decide +kernel
theorem dX6_add_13 : decode cX6_add 13 = .ok (.ireturn, 1) := by decide +kernel
theorem dX6_add_14 : decode cX6_add 14 = .ok (.aload_n 0, 1) := by decide +kernel
theorem dX6_add_15 : decode cX6_add 15 = .ok (.dup, 1) := by decide +kernel
theorem dX6_add_16 : decode cX6_add 16 = .ok (.getfield 28, 3) := by decide +kernel
theorem dX6_add_19 : decode cX6_add 19 = .ok (.iconst 1, 1) := by decide +kernel
theorem dX6_add_20 : decode cX6_add 20 = .ok (.iadd, 1) := by decide +kernel
theorem dX6_add_21 : decode cX6_add 21 = .ok (.putfield 28, 3) := by decide +kernel
theorem dX6_add_24 : decode cX6_add 24 = .ok (.aload_n 0, 1) := by decide +kernel
theorem dX6_add_25 : decode cX6_add 25 = .ok (.getfield 28, 3) := by decide +kernel
theorem dX6_add_28 : decode cX6_add 28 = .ok (.iconst 1, 1) := by decide +kernel
theorem dX6_add_29 : decode cX6_add 29 = .ok (.isub, 1) := by decide +kernel
theorem dX6_add_30 : decode cX6_add 30 = .ok (.aload_n 0, 1) := by decide +kernel
theorem dX6_add_31 : decode cX6_add 31 = .ok (.getfield 21, 3) := by decide +kernel
theorem dX6_add_34 : decode cX6_add 34 = .ok (.imul, 1) := by decide +kernel
theorem dX6_add_35 : decode cX6_add 35 = .ok (.istore_n 1, 1) := by decide +kernel
theorem dX6_add_76 : decode cX6_add 76 = .ok (.aload_n 0, 1) := by decide +kernel
theorem dX6_add_77 : decode cX6_add 77 = .ok (.getfield 28, 3) := by decide +kernel
theorem dX6_add_80 : decode cX6_add 80 = .ok (.iconst 1, 1) := by decide +kernel
theorem dX6_add_81 : decode cX6_add 81 = .ok (.isub, 1) := by decide +kernel
theorem dX6_add_82 : decode cX6_add 82 = .ok (.ireturn, 1) := by decide +kernel
set_option maxHeartbeats 4000000 in
set_option maxRecDepth 100000 in
theorem c_T_add (l : Launch) (D : va_G) (g : Nat → ClassId) (h q sz Wi M R N : Nat) (f : Nat → Int32) (ht : tok Wi M R N) : vz_Mi l D (tyG g) yX6_add cX6_add 2 0 0 0 0 .int [.ref h] sz [tT h q (nI Wi) (nI M) (nI R), tA g q N f] (fun r (u : Nat × (Nat → Int32)) => (R < M ∧ r = nI R ∧ u.1 = R + 1 ∧ u.2 = tf f (R * Wi) ((R + 1) * Wi) (-9)) ∨ (M ≤ R ∧ r = -9 ∧ u.1 = R ∧ u.2 = f)) (fun u => [tT h q (nI Wi) (nI M) (nI u.1), tA g q N u.2]) := by
  obtain ⟨h1, h2, h3, h4, h5, h6⟩ := ht
  refine vz_si (by decide) (Nat.le_of_ble_eq_true rfl) (fun p e s m args below meth c hx hb hr hml hts hown hlk hin hK hsz A hA H locs hP hD hS ls hl => ?_)
  have hl : lv_has ls 2 [(0, .ref h)] := hl
  refine lv_aload_n hx hb dX6_add_0 rfl (lv_at hl 0 rfl) ?_
  refine va_get (D := D) (ci := 6) (v := .int (nI R)) (C := RX6) (T := TX6) (N := 4) hx hb hts inlX6 hown hK hP 0 rfl rfl 3 (by decide) (hts _ q72) (fun _ h => h) rfl dX6_add_1 ?_
  refine lv_aload_n hx hb dX6_add_4 rfl (lv_at hl 0 rfl) ?_
  refine va_get (D := D) (ci := 6) (v := .int (nI M)) (C := RX6) (T := TX6) (N := 4) hx hb hts inlX6 hown hK hP 0 rfl rfl 2 (by decide) (hts _ q68) (fun _ h => h) rfl dX6_add_5 ?_
  refine lv_icmp_lt (tgt := 14) hx hb dX6_add_8 (by decide) (fun kc => ?_) (fun kc => ?_)
  · have hlt : R < M := by
      rcases Nat.lt_or_ge R M with z | z
      · exact z
      · exact absurd kc (nI_nlt z (by omega))
    have hRN : (R + 1) * Wi ≤ N := by rw [h1]; exact Nat.mul_le_mul_right Wi hlt
    refine lv_aload_n hx hb dX6_add_14 rfl (lv_at hl 0 rfl) ?_
    refine lv_dup hx hb dX6_add_15 rfl ?_
    refine va_get (D := D) (ci := 6) (v := .int (nI R)) (C := RX6) (T := TX6) (N := 4) hx hb hts inlX6 hown hK hP 0 rfl rfl 3 (by decide) (hts _ q72) (fun _ h => h) rfl dX6_add_16 ?_
    refine lv_iconst (v := 1) hx hb dX6_add_19 (by decide) ?_
    refine lv_iadd hx hb dX6_add_20 ?_
    refine lv_topi (nm_r (e' := nI (R + 1)) (nI_1 R) ?_)
    refine va_put (D := D) (ci := 6) (v := .int (nI (R + 1))) (ty := .int) (C := RX6) (T := TX6) (N := 4) hx hb hts inlX6 tyX6 tyX6_ok nmX6 hown hK hP hD hS 0 rfl rfl 3 (by decide) (hts _ q72) (fun _ h => h) rfl (by decide +kernel) rfl rfl (Nat.le_of_ble_eq_true rfl) dX6_add_21 (fun H locs hP hD hS => ?_)
    have hP : va_P D vwCl [tT h q (nI Wi) (nI M) (nI (R + 1)), tA g q N f] H := hP
    have hD : va_D A [tT h q (nI Wi) (nI M) (nI (R + 1)), tA g q N f] := hD
    refine lv_aload_n hx hb dX6_add_24 rfl (lv_at hl 0 rfl) ?_
    refine va_get (D := D) (ci := 6) (v := .int (nI (R + 1))) (C := RX6) (T := TX6) (N := 4) hx hb hts inlX6 hown hK hP 0 rfl rfl 3 (by decide) (hts _ q72) (fun _ h => h) rfl dX6_add_25 ?_
    refine lv_iconst (v := 1) hx hb dX6_add_28 (by decide) ?_
    refine lv_isub hx hb dX6_add_29 ?_
    refine lv_topi (nm_r (e' := nI R) (nI_pred R) ?_)
    refine lv_aload_n hx hb dX6_add_30 rfl (lv_at hl 0 rfl) ?_
    refine va_get (D := D) (ci := 6) (v := .int (nI Wi)) (C := RX6) (T := TX6) (N := 4) hx hb hts inlX6 hown hK hP 0 rfl rfl 1 (by decide) (hts _ q69) (fun _ h => h) rfl dX6_add_31 ?_
    refine lv_imul hx hb dX6_add_34 ?_
    refine lv_topi (nm_r (e' := nI (R * Wi)) (vz_mul _ _) ?_)
    refine lv_istore_n (lv' := [(1, .int (nI (R * Wi))), (0, .ref h)]) hx hb dX6_add_35 rfl hl (by decide) rfl (fun ls hl => ?_)
    have hfe : f = tf f (R * Wi) (R * Wi) (-9) := tf_0
    rw [hfe] at hP hD
    refine lp_T_add hx hb hown hts hK (by omega) hRN ?_ (Wi + 1) (R * Wi) (Nat.le_refl _) (by rw [Nat.succ_mul]; omega) (by rw [Nat.succ_mul]; omega) H locs ls hP hD hS (lv_sub hl [1, 0] rfl)
    intro H locs ls hP hD hS hl
    refine lv_aload_n hx hb dX6_add_76 rfl (lv_at hl 0 rfl) ?_
    refine va_get (D := D) (ci := 6) (v := .int (nI (R + 1))) (C := RX6) (T := TX6) (N := 4) hx hb hts inlX6 hown hK hP 0 rfl rfl 3 (by decide) (hts _ q72) (fun _ h => h) rfl dX6_add_77 ?_
    refine lv_iconst (v := 1) hx hb dX6_add_80 (by decide) ?_
    refine lv_isub hx hb dX6_add_81 ?_
    refine lv_topi (nm_r (e' := nI R) (nI_pred R) ?_)
    exact vz_iret hx hb hr hlk hK hP hD hS ((R + 1, tf f (R * Wi) ((R + 1) * Wi) (-9))) (Or.inl ⟨hlt, rfl, rfl, rfl⟩) [0, 1] rfl (by decide) (Nat.le_refl 0) (Nat.le_refl 0) dX6_add_82
  · refine lv_bipush (v := (-9)) hx hb dX6_add_11 (by decide) ?_
    exact vz_iret hx hb hr hlk hK hP hD hS ((R, f)) (Or.inr ⟨Nat.not_lt.mp (fun z => kc (nI_lt z (by omega))), rfl, rfl, rfl⟩) [0, 1] rfl (by decide) (Nat.le_refl 0) (Nat.le_refl 0) dX6_add_13
theorem dX6_fill_18 : decode cX6_fill 18 = .ok (.iload_n 3, 1) := by decide +kernel
theorem dX6_fill_19 : decode cX6_fill 19 = .ok (.aload_n 0, 1) := by decide +kernel
theorem dX6_fill_20 : decode cX6_fill 20 = .ok (.getfield 28, 3) := by decide +kernel
theorem dX6_fill_23 : decode cX6_fill 23 = .ok (.aload_n 0, 1) := by decide +kernel
theorem dX6_fill_24 : decode cX6_fill 24 = .ok (.getfield 21, 3) := by decide +kernel
theorem dX6_fill_27 : decode cX6_fill 27 = .ok (.imul, 1) := by decide +kernel
theorem dX6_fill_28 : decode cX6_fill 28 = .ok (.if_icmp .ge 25, 3) := by decide +kernel
theorem dX6_fill_31 : decode cX6_fill 31 = .ok (.iload_n 3, 1) := by decide +kernel
theorem dX6_fill_32 : decode cX6_fill 32 = .ok (.aload_n 0, 1) := by decide +kernel
theorem dX6_fill_33 : decode cX6_fill 33 = .ok (.getfield 24, 3) := by decide +kernel
theorem dX6_fill_36 : decode cX6_fill 36 = .ok (.arraylength, 1) := by decide +kernel
theorem dX6_fill_37 : decode cX6_fill 37 = .ok (.if_icmp .ge 16, 3) := by decide +kernel
theorem dX6_fill_40 : decode cX6_fill 40 = .ok (.aload_n 0, 1) := by decide +kernel
theorem dX6_fill_41 : decode cX6_fill 41 = .ok (.getfield 24, 3) := by decide +kernel
theorem dX6_fill_44 : decode cX6_fill 44 = .ok (.iload_n 3, 1) := by decide +kernel
theorem dX6_fill_45 : decode cX6_fill 45 = .ok (.iload_n 2, 1) := by decide +kernel
theorem dX6_fill_46 : decode cX6_fill 46 = .ok (.iastore, 1) := by decide +kernel
theorem dX6_fill_47 : decode cX6_fill 47 = .ok (.iinc 3 1, 3) := by decide +kernel
theorem dX6_fill_50 : decode cX6_fill 50 = .ok (.goto (-32), 3) := by decide +kernel
set_option maxHeartbeats 4000000 in
set_option maxRecDepth 100000 in
theorem lp_T_fill {p : Program} {l : Launch} {e : Env} {Rm : Room} {s : State} {m : MethodId} {args : Array Value} {below : List Frame} {meth : Method} {c : Code} {Q : State → Prop} {A : Nat → Prop} {D : va_G} {g : Nat → ClassId} {H0 : Heap} {cells slots : Nat} (hx : p.tables.exec = Jvm.exec) (hb : c.code = cX6_fill) (hown : s.vm.findClass RX6 = some m.cls) (hts : ∀ w ∈ wsL_law, w.before args s = true) (hK : va_K D vwCl (tyG g) s) {h q Wi M C N : Nat} {f : Nat → Int32} {v : Int32} (hN : N < 2 ^ 30) (hCN : C * Wi ≤ N)
    (kk : ∀ (H : Heap) (locs : List Loc) (ls : Array Slot), va_P D vwCl [tT h q (nI Wi) (nI M) (nI C), tA g q N (tf f 0 (C * Wi) v)] H → va_D A [tT h q (nI Wi) (nI M) (nI C), tA g q N (tf f 0 (C * Wi) v)] → va_S A H0 H locs → lv_has ls 4 [(0, .ref h), (2, .int v), (3, .int (nI (C * Wi)))] → W p l e Rm s m args below meth c H locs cells slots Q (F0 m 53 ls [])) :
    ∀ (n i : Nat), i ≤ C * Wi → C * Wi - i < n → ∀ (H : Heap) (locs : List Loc) (ls : Array Slot), va_P D vwCl [tT h q (nI Wi) (nI M) (nI C), tA g q N (tf f 0 i v)] H → va_D A [tT h q (nI Wi) (nI M) (nI C), tA g q N (tf f 0 i v)] → va_S A H0 H locs → lv_has ls 4 [(0, .ref h), (2, .int v), (3, .int (nI i))] → W p l e Rm s m args below meth c H locs cells slots Q (F0 m 18 ls []) := by
  intro n
  induction n with
  | zero => intro i _ z; omega
  | succ n ih =>
    intro i hi hm H locs ls hP hD hS hl
    refine lv_iload_n hx hb dX6_fill_18 rfl (lv_at hl 2 rfl) ?_
    refine lv_aload_n hx hb dX6_fill_19 rfl (lv_at hl 0 rfl) ?_
    refine va_get (D := D) (ci := 6) (v := .int (nI C)) (C := RX6) (T := TX6) (N := 4) hx hb hts inlX6 hown hK hP 0 rfl rfl 3 (by decide) (hts _ q72) (fun _ h => h) rfl dX6_fill_20 ?_
    refine lv_aload_n hx hb dX6_fill_23 rfl (lv_at hl 0 rfl) ?_
    refine va_get (D := D) (ci := 6) (v := .int (nI Wi)) (C := RX6) (T := TX6) (N := 4) hx hb hts inlX6 hown hK hP 0 rfl rfl 1 (by decide) (hts _ q69) (fun _ h => h) rfl dX6_fill_24 ?_
    refine lv_imul hx hb dX6_fill_27 ?_
    refine lv_topi (nm_r (e' := nI (C * Wi)) (vz_mul _ _) ?_)
    refine lv_icmp_ge (tgt := 53) hx hb dX6_fill_28 (by decide) (fun kc => ?_) (fun kc => ?_)
    · have hii : i = C * Wi := by
        rcases Nat.lt_or_ge i (C * Wi) with z | z
        · exact absurd kc (nI_ge z (by omega))
        · omega
      subst hii
      exact kk H locs ls hP hD hS hl
    · have hlt : i < C * Wi := by
        rcases Nat.lt_or_ge i (C * Wi) with z | z
        · exact z
        · exact absurd (nI_le z (by omega)) kc
      have hlN : i < N := by omega
      refine lv_iload_n hx hb dX6_fill_31 rfl (lv_at hl 2 rfl) ?_
      refine lv_aload_n hx hb dX6_fill_32 rfl (lv_at hl 0 rfl) ?_
      refine va_get (D := D) (ci := 6) (v := .ref q) (C := RX6) (T := TX6) (N := 4) hx hb hts inlX6 hown hK hP 0 rfl rfl 0 (by decide) (hts _ q71) (fun _ h => h) rfl dX6_fill_33 ?_
      refine va_alen (v := nI N) hx hb hK hP 1 0 rfl rfl (rfl) dX6_fill_36 ?_
      refine lv_icmp_ge (tgt := 53) hx hb dX6_fill_37 (by decide) (fun h9 => absurd h9 (nI_ge hlN (by omega))) (fun _ => ?_)
      refine lv_aload_n hx hb dX6_fill_40 rfl (lv_at hl 0 rfl) ?_
      refine va_get (D := D) (ci := 6) (v := .ref q) (C := RX6) (T := TX6) (N := 4) hx hb hts inlX6 hown hK hP 0 rfl rfl 0 (by decide) (hts _ q71) (fun _ h => h) rfl dX6_fill_41 ?_
      refine lv_iload_n hx hb dX6_fill_44 rfl (lv_at hl 2 rfl) ?_
      refine lv_iload_n hx hb dX6_fill_45 rfl (lv_at hl 1 rfl) ?_
      refine va_iast hx hb hK hP hD hS 1 0 rfl rfl (vp_in_nI hlN (by omega)) dX6_fill_46 (fun H locs hP hD hS => ?_)
      have hfe : (upd (tf f 0 i v) (nI i).toNatClampNeg v) = (tf f 0 (i + 1) v) := tf_s (Nat.zero_le i) (by omega)
      rw [hfe] at hP hD
      have hP : va_P D vwCl [tT h q (nI Wi) (nI M) (nI C), tA g q N (tf f 0 (i + 1) v)] H := hP
      have hD : va_D A [tT h q (nI Wi) (nI M) (nI C), tA g q N (tf f 0 (i + 1) v)] := hD
      refine lv_iinc (v := (nI (i + 1))) (lv' := [(3, .int (nI (i + 1))), (0, .ref h), (2, .int v)]) hx hb dX6_fill_47 hl (k := 2) rfl (nI_1 i) (by decide) rfl (fun ls hl => ?_)
      refine lv_goto (tgt := 18) hx hb dX6_fill_50 (by decide) ?_
      exact ih (i + 1) (by omega) (by omega) H locs ls hP hD hS (lv_sub hl [1, 2, 0] rfl)
theorem q145 : Cond.methodLink RX6 34 Lib.Math.min.name ∈ wsL_law := mT_2 (List.mem_of_getElem? (i := 35) rfl) rfl
theorem q146 : Cond.static Lib.Math.min.name ∈ wsL_law := mT_2 (List.mem_of_getElem? (i := 36) rfl) rfl
theorem q147 : Cond.code Lib.Math.min.name Lib.Math.min.code 2 (some .int) ∈ wsL_law := mT_2 (List.mem_of_getElem? (i := 37) rfl) rfl
theorem dX6_fill_0 : decode cX6_fill 0 = .ok (.aload_n 0, 1) := by decide +kernel
theorem dX6_fill_1 : decode cX6_fill 1 = .ok (.iconst 0, 1) := by decide +kernel
theorem dX6_fill_2 : decode cX6_fill 2 = .ok (.iload_n 1, 1) := by decide +kernel
theorem dX6_fill_3 : decode cX6_fill 3 = .ok (.aload_n 0, 1) := by decide +kernel
theorem dX6_fill_4 : decode cX6_fill 4 = .ok (.getfield 15, 3) := by decide +kernel
theorem dX6_fill_7 : decode cX6_fill 7 = .ok (.invokestatic 34, 3) := by decide +kernel
theorem dX6_fill_10 : decode cX6_fill 10 = .ok (.invokestatic 9, 3) := by decide +kernel
theorem dX6_fill_13 : decode cX6_fill 13 = .ok (.putfield 28, 3) := by decide +kernel
theorem dX6_fill_16 : decode cX6_fill 16 = .ok (.iconst 0, 1) := by decide +kernel
theorem dX6_fill_17 : decode cX6_fill 17 = .ok (.istore_n 3, 1) := by decide +kernel
theorem dX6_fill_53 : decode cX6_fill 53 = .ok (.return_, 1) := by decide +kernel
set_option maxHeartbeats 4000000 in
set_option maxRecDepth 100000 in
theorem c_T_fill (l : Launch) (D : va_G) (g : Nat → ClassId) (h q sz Wi M R N : Nat) (f : Nat → Int32) (C : Nat) (v : Int32) (hC : C ≤ M) (ht : tok Wi M R N) : vz_Mv l D (tyG g) yX6_fill cX6_fill 4 1 15 0 0 [.ref h, .int (nI C), .int v] sz [tT h q (nI Wi) (nI M) (nI R), tA g q N f] (fun f1 => f1 = tf f 0 (C * Wi) v) (fun f1 => [tT h q (nI Wi) (nI M) (nI C), tA g q N f1]) := by
  obtain ⟨h1, h2, h3, h4, h5, h6⟩ := ht
  refine vz_sv (by decide) (Nat.le_of_ble_eq_true rfl) (fun p e s m args below meth c hx hb hr hml hts hown hlk hin hK hsz A hA H locs hP hD hS ls hl => ?_)
  have hl : lv_has ls 4 [(0, .ref h), (1, .int (nI C)), (2, .int v)] := hl
  have hCN : C * Wi ≤ N := by rw [h1]; exact Nat.mul_le_mul_right Wi hC
  refine lv_aload_n hx hb dX6_fill_0 rfl (lv_at hl 0 rfl) ?_
  refine lv_iconst (v := 0) hx hb dX6_fill_1 (by decide) ?_
  refine lv_iload_n hx hb dX6_fill_2 rfl (lv_at hl 1 rfl) ?_
  refine lv_aload_n hx hb dX6_fill_3 rfl (lv_at hl 0 rfl) ?_
  refine va_get (D := D) (ci := 6) (v := .int (nI M)) (C := RX6) (T := TX6) (N := 4) hx hb hts inlX6 hown hK hP 0 rfl rfl 2 (by decide) (hts _ q68) (fun _ h => h) rfl dX6_fill_4 ?_
  refine va_mmin hx hb (hml.trans hl.1.symm) hown (hts _ q145) (hts _ q146) (hts _ q66) (hts _ q147) (Nat.le_of_ble_eq_true rfl) (Nat.le_of_ble_eq_true rfl) (Nat.le_of_ble_eq_true rfl) (Nat.le_of_ble_eq_true rfl) dX6_fill_7 ?_
  refine lv_topi (nm_r (e' := nI C) (vz_min hC (by omega)) ?_)
  refine va_mmax hx hb (hml.trans hl.1.symm) hown (hts _ q64) (hts _ q65) (hts _ q66) (hts _ q67) (Nat.le_of_ble_eq_true rfl) (Nat.le_of_ble_eq_true rfl) (Nat.le_of_ble_eq_true rfl) (Nat.le_of_ble_eq_true rfl) dX6_fill_10 ?_
  refine lv_topi (nm_r (e' := nI C) (vz_max0 (by omega)) ?_)
  refine va_put (D := D) (ci := 6) (v := .int (nI C)) (ty := .int) (C := RX6) (T := TX6) (N := 4) hx hb hts inlX6 tyX6 tyX6_ok nmX6 hown hK hP hD hS 0 rfl rfl 3 (by decide) (hts _ q72) (fun _ h => h) rfl (by decide +kernel) rfl rfl (Nat.le_of_ble_eq_true rfl) dX6_fill_13 (fun H locs hP hD hS => ?_)
  have hP : va_P D vwCl [tT h q (nI Wi) (nI M) (nI C), tA g q N f] H := hP
  have hD : va_D A [tT h q (nI Wi) (nI M) (nI C), tA g q N f] := hD
  refine lv_iconst (v := 0) hx hb dX6_fill_16 (by decide) ?_
  refine lv_istore_n (lv' := [(3, .int 0), (0, .ref h), (1, .int (nI C)), (2, .int v)]) hx hb dX6_fill_17 rfl hl (by decide) rfl (fun ls hl => ?_)
  have hfe : f = tf f 0 0 v := tf_0
  rw [hfe] at hP hD
  refine lp_T_fill hx hb hown hts hK (by omega) hCN ?_ (C * Wi + 1) 0 (Nat.zero_le _) (by omega) H locs ls hP hD hS (lv_sub hl [1, 3, 0] rfl)
  intro H locs ls hP hD hS hl
  exact vz_vret hx hb hr hlk hK hP hD hS (tf f 0 (C * Wi) v) (rfl) [0, 1] rfl (by decide) (Nat.le_refl 0) (Nat.le_refl 0) dX6_fill_53
