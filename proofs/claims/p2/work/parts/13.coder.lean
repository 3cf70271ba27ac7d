theorem vz_fb {v : Int32} (h : v = 0 ∨ v = 1) : fits .boolean (.int v) = true := by rcases h with rfl | rfl <;> rfl
theorem vz_ltc {n B : Nat} (hB : B < 2 ^ 31) (hn : n < 2 ^ 31) (h : nI n < nI B) : n < B := by
  rw [Int32.lt_iff_toInt_lt, nI_toInt hn, nI_toInt hB] at h; omega
theorem q110 : Cond.fieldLink RX0 20 "WaysAtlas$Coder" "code" "LWaysAtlas$Table;" ∈ wsL_law := mT_1 (List.mem_of_getElem? (i := 171) rfl) rfl
theorem q645 : Cond.methodLink RX0 74 yX6_add ∈ wsL_law := mT_4 (List.mem_of_getElem? (i := 63) rfl) rfl
theorem kv_X0_74 : vz_cv RX0 74 yX6_add cX6_add 2 (some .int) 0 := ⟨q645, q261, q262, q15, q263, by decide +kernel⟩
theorem q614 : Cond.fieldLink RX0 34 "WaysAtlas$Coder" "full" "Z" ∈ wsL_law := mT_1 (List.mem_of_getElem? (i := 178) rfl) rfl
theorem q625 : Cond.methodLink RX0 53 yX6_set ∈ wsL_law := mT_4 (List.mem_of_getElem? (i := 49) rfl) rfl
theorem kv_X0_53 : vz_cv RX0 53 yX6_set cX6_set 5 none 3 := ⟨q625, q265, q266, q15, q267, by decide +kernel⟩
theorem q622 : Cond.fieldLink RX0 57 "WaysAtlas$Coder" "handler" "I" ∈ wsL_law := mT_1 (List.mem_of_getElem? (i := 179) rfl) rfl
theorem dX0_emit_0 : decode cX0_emit 0 = .ok (.aload_n 0, 1) := by decide +kernel
theorem dX0_emit_1 : decode cX0_emit 1 = .ok (.getfield 20, 3) := by decide +kernel
theorem dX0_emit_4 : decode cX0_emit 4 = .ok (.invokevirtual 74, 3) := by decide +kernel
theorem dX0_emit_7 : decode cX0_emit 7 = .ok (.istore 4, 2) := by decide +kernel
theorem dX0_emit_9 : decode cX0_emit 9 = .ok (.iload 4, 2) := by decide +kernel
theorem dX0_emit_11 : decode cX0_emit 11 = .ok (.bipush (-9), 2) := by decide +kernel
theorem dX0_emit_13 : decode cX0_emit 13 = .ok (.if_icmp .ne 8, 3) := by decide +kernel
theorem dX0_emit_16 : decode cX0_emit 16 = .ok (.aload_n 0, 1) := by decide +kernel
theorem dX0_emit_17 : decode cX0_emit 17 = .ok (.iconst 1, 1) := by decide +kernel
theorem dX0_emit_18 : decode cX0_emit 18 = .ok (.putfield 34, 3) := by decide +kernel
theorem dX0_emit_21 : decode cX0_emit 21 = .ok (.aload_n 0, 1) := by decide +kernel
theorem dX0_emit_22 : decode cX0_emit 22 = .ok (.getfield 20, 3) := by decide +kernel
theorem dX0_emit_25 : decode cX0_emit 25 = .ok (.iload 4, 2) := by decide +kernel
theorem dX0_emit_27 : decode cX0_emit 27 = .ok (.iconst 0, 1) := by decide +kernel
theorem dX0_emit_28 : decode cX0_emit 28 = .ok (.iload_n 1, 1) := by decide +kernel
theorem dX0_emit_29 : decode cX0_emit 29 = .ok (.invokevirtual 53, 3) := by decide +kernel
theorem dX0_emit_32 : decode cX0_emit 32 = .ok (.aload_n 0, 1) := by decide +kernel
theorem dX0_emit_33 : decode cX0_emit 33 = .ok (.getfield 20, 3) := by decide +kernel
theorem dX0_emit_36 : decode cX0_emit 36 = .ok (.iload 4, 2) := by decide +kernel
theorem dX0_emit_38 : decode cX0_emit 38 = .ok (.iconst 1, 1) := by decide +kernel
theorem dX0_emit_39 : decode cX0_emit 39 = .ok (.iload_n 2, 1) := by decide +kernel
theorem dX0_emit_40 : decode cX0_emit 40 = .ok (.invokevirtual 53, 3) := by decide +kernel
theorem dX0_emit_43 : decode cX0_emit 43 = .ok (.aload_n 0, 1) := by decide +kernel
theorem dX0_emit_44 : decode cX0_emit 44 = .ok (.getfield 20, 3) := by decide +kernel
theorem dX0_emit_47 : decode cX0_emit 47 = .ok (.iload 4, 2) := by decide +kernel
theorem dX0_emit_49 : decode cX0_emit 49 = .ok (.iconst 2, 1) := by decide +kernel
theorem dX0_emit_50 : decode cX0_emit 50 = .ok (.iload_n 3, 1) := by decide +kernel
theorem dX0_emit_51 : decode cX0_emit 51 = .ok (.invokevirtual 53, 3) := by decide +kernel
theorem dX0_emit_54 : decode cX0_emit 54 = .ok (.aload_n 0, 1) := by decide +kernel
theorem dX0_emit_55 : decode cX0_emit 55 = .ok (.getfield 20, 3) := by decide +kernel
theorem dX0_emit_58 : decode cX0_emit 58 = .ok (.iload 4, 2) := by decide +kernel
theorem dX0_emit_60 : decode cX0_emit 60 = .ok (.iconst 3, 1) := by decide +kernel
theorem dX0_emit_61 : decode cX0_emit 61 = .ok (.aload_n 0, 1) := by decide +kernel
theorem dX0_emit_62 : decode cX0_emit 62 = .ok (.getfield 57, 3) := by decide +kernel
theorem dX0_emit_65 : decode cX0_emit 65 = .ok (.invokevirtual 53, 3) := by decide +kernel
theorem dX0_emit_68 : decode cX0_emit 68 = .ok (.iload 4, 2) := by decide +kernel
theorem dX0_emit_70 : decode cX0_emit 70 = .ok (.ireturn, 1) := by decide +kernel
set_option maxHeartbeats 8000000 in
set_option maxRecDepth 100000 in
theorem a_C_emit (l : Launch) (D : va_G) (g : Nat → ClassId)   (sz : Nat) (h : Nat) (ca : Nat → Nat) (ci : Nat → Int32) (cr : Nat → Nat) (cf : Nat → Nat → Int32) (da : Nat → Nat) (ph : Nat) (dr : Nat → Nat) (df : Nat → Nat → Int32) (pa : Nat → Nat) (pr : Nat → Nat) (pf : Nat → Nat → Int32) (n1 : Int32) (n2 : Int32) (n3 : Int32) (hw_c : ∀ k, cr k ≤ coW_lim k) (hw_d : ∀ k, dr k ≤ cdW_lim k) (hw_p : ∀ k, pr k ≤ pgW_lim k) : vz_Mi l D (tyG g) yX0_emit cX0_emit 5 1 24 0 0 .int [.ref h, .int n1, .int n2, .int n3] sz (vz_w [coW g h ca ci cr cf (da 0) (da 2) ph, cdW g da dr df, pgW g ph pa pr pf]) (fun r (u : (Nat → Int32) × (Nat → Nat) × (Nat → Nat → Int32)) => (∀ k, u.2.1 k ≤ cdW_lim k)) (fun u => vz_w [coW g h ca u.1 cr cf (da 0) (da 2) ph, cdW g da u.2.1 u.2.2, pgW g ph pa pr pf]) := by
  refine vz_siQ (by decide) (Nat.le_of_ble_eq_true rfl) (fun p e s m args below meth c hx hb hr hml hts hown hlk hin hK hsz A hA H locs hP hD hS ls hl Q hQ => ?_)
  have hl : lv_has ls 5 [(0, .ref h), (1, .int n1), (2, .int n2), (3, .int n3)] := hl
  have J21 : ∀ (x4_21 : Int32), ∀ (ci_21 : Nat → Int32), ∀ (dr_21 : Nat → Nat), ∀ (df_21 : Nat → Nat → Int32), (∀ k, dr_21 k ≤ cdW_lim k) → ∀ (H : Heap) (locs : List Loc) (ls : Array Slot), va_P D vwCl (vz_w [coW g h ca ci_21 cr cf (da 0) (da 2) ph, cdW g da dr_21 df_21, pgW g ph pa pr pf]) H → va_D A (vz_w [coW g h ca ci_21 cr cf (da 0) (da 2) ph, cdW g da dr_21 df_21, pgW g ph pa pr pf]) → va_S A s.heap H locs → lv_has ls 5 [(0, .ref h), (1, .int n1), (2, .int n2), (3, .int n3), (4, .int x4_21)] → W p l e { frames := 1, cells := 0, slots := 0, locals := 24 } s m args below meth c H locs 0 0 Q (F0 m 21 ls []) := by
    intro x4_21 ci_21 dr_21 df_21 hw_d_21 H locs ls hP hD hS hl
    refine lv_aload_n hx hb dX0_emit_21 rfl (lv_at hl 0 rfl) ?_
    refine va_get (D := D) (ci := 0) (v := .ref (da 0)) (C := RX0) (T := TX0) (N := 8) hx hb hts inlX0 hown hK hP 0 rfl rfl 0 (by decide) (hts _ q110) (fun _ h => h) rfl dX0_emit_22 ?_
    refine lv_iload hx hb dX0_emit_25 (lv_at hl 4 rfl) ?_
    refine lv_iconst (v := 0) hx hb dX0_emit_27 (by decide) ?_
    refine lv_iload_n hx hb dX0_emit_28 rfl (lv_at hl 1 rfl) ?_
    refine vz_Vv2 (ws' := fun u : (Nat → Int32) => vz_w [coW g h ca ci_21 cr cf (da 0) (da 2) ph, cdW g da dr_21 (vz_uf df_21 0 u), pgW g ph pa pr pf]) (As := [.int x4_21, .int 0, .int n1]) (rest := []) hx hb hml hown hts hK hA hP hD hS (c_T_set l D g (da 0) (da 1) H.size 4 4500 (dr_21 0) 18000 (df_21 0) x4_21 0 n1 ⟨rfl, by decide, by decide, by decide, by decide, hw_d_21 0⟩) kv_X0_53 ⟨Nat.le_of_ble_eq_true rfl, Nat.le_of_ble_eq_true rfl⟩ (q0 := 3) (ci := 6) rfl rfl rfl [3, 4] rfl (by decide) (fun _ => rfl) (fun _ => rfl) hl.1 (Nat.le_of_ble_eq_true rfl) dX0_emit_29 ⟨Nat.le_refl _, Nat.le_refl _⟩ rfl (fun nf1 H locs _ _ hP hD hS => ?_)
    obtain ⟨df_2, hP, hD⟩ : ∃ df_2 : Nat → Nat → Int32, va_P D vwCl (vz_w [coW g h ca ci_21 cr cf (da 0) (da 2) ph, cdW g da dr_21 df_2, pgW g ph pa pr pf]) H ∧ va_D A (vz_w [coW g h ca ci_21 cr cf (da 0) (da 2) ph, cdW g da dr_21 df_2, pgW g ph pa pr pf]) := ⟨(vz_uf df_21 0 nf1), hP, hD⟩
    refine lv_aload_n hx hb dX0_emit_32 rfl (lv_at hl 0 rfl) ?_
    refine va_get (D := D) (ci := 0) (v := .ref (da 0)) (C := RX0) (T := TX0) (N := 8) hx hb hts inlX0 hown hK hP 0 rfl rfl 0 (by decide) (hts _ q110) (fun _ h => h) rfl dX0_emit_33 ?_
    refine lv_iload hx hb dX0_emit_36 (lv_at hl 4 rfl) ?_
    refine lv_iconst (v := 1) hx hb dX0_emit_38 (by decide) ?_
    refine lv_iload_n hx hb dX0_emit_39 rfl (lv_at hl 2 rfl) ?_
    refine vz_Vv2 (ws' := fun u : (Nat → Int32) => vz_w [coW g h ca ci_21 cr cf (da 0) (da 2) ph, cdW g da dr_21 (vz_uf df_2 0 u), pgW g ph pa pr pf]) (As := [.int x4_21, .int 1, .int n2]) (rest := []) hx hb hml hown hts hK hA hP hD hS (c_T_set l D g (da 0) (da 1) H.size 4 4500 (dr_21 0) 18000 (df_2 0) x4_21 1 n2 ⟨rfl, by decide, by decide, by decide, by decide, hw_d_21 0⟩) kv_X0_53 ⟨Nat.le_of_ble_eq_true rfl, Nat.le_of_ble_eq_true rfl⟩ (q0 := 3) (ci := 6) rfl rfl rfl [3, 4] rfl (by decide) (fun _ => rfl) (fun _ => rfl) hl.1 (Nat.le_of_ble_eq_true rfl) dX0_emit_40 ⟨Nat.le_refl _, Nat.le_refl _⟩ rfl (fun nf3 H locs _ _ hP hD hS => ?_)
    obtain ⟨df_4, hP, hD⟩ : ∃ df_4 : Nat → Nat → Int32, va_P D vwCl (vz_w [coW g h ca ci_21 cr cf (da 0) (da 2) ph, cdW g da dr_21 df_4, pgW g ph pa pr pf]) H ∧ va_D A (vz_w [coW g h ca ci_21 cr cf (da 0) (da 2) ph, cdW g da dr_21 df_4, pgW g ph pa pr pf]) := ⟨(vz_uf df_2 0 nf3), hP, hD⟩
    refine lv_aload_n hx hb dX0_emit_43 rfl (lv_at hl 0 rfl) ?_
    refine va_get (D := D) (ci := 0) (v := .ref (da 0)) (C := RX0) (T := TX0) (N := 8) hx hb hts inlX0 hown hK hP 0 rfl rfl 0 (by decide) (hts _ q110) (fun _ h => h) rfl dX0_emit_44 ?_
    refine lv_iload hx hb dX0_emit_47 (lv_at hl 4 rfl) ?_
    refine lv_iconst (v := 2) hx hb dX0_emit_49 (by decide) ?_
    refine lv_iload_n hx hb dX0_emit_50 rfl (lv_at hl 3 rfl) ?_
    refine vz_Vv2 (ws' := fun u : (Nat → Int32) => vz_w [coW g h ca ci_21 cr cf (da 0) (da 2) ph, cdW g da dr_21 (vz_uf df_4 0 u), pgW g ph pa pr pf]) (As := [.int x4_21, .int 2, .int n3]) (rest := []) hx hb hml hown hts hK hA hP hD hS (c_T_set l D g (da 0) (da 1) H.size 4 4500 (dr_21 0) 18000 (df_4 0) x4_21 2 n3 ⟨rfl, by decide, by decide, by decide, by decide, hw_d_21 0⟩) kv_X0_53 ⟨Nat.le_of_ble_eq_true rfl, Nat.le_of_ble_eq_true rfl⟩ (q0 := 3) (ci := 6) rfl rfl rfl [3, 4] rfl (by decide) (fun _ => rfl) (fun _ => rfl) hl.1 (Nat.le_of_ble_eq_true rfl) dX0_emit_51 ⟨Nat.le_refl _, Nat.le_refl _⟩ rfl (fun nf5 H locs _ _ hP hD hS => ?_)
    obtain ⟨df_6, hP, hD⟩ : ∃ df_6 : Nat → Nat → Int32, va_P D vwCl (vz_w [coW g h ca ci_21 cr cf (da 0) (da 2) ph, cdW g da dr_21 df_6, pgW g ph pa pr pf]) H ∧ va_D A (vz_w [coW g h ca ci_21 cr cf (da 0) (da 2) ph, cdW g da dr_21 df_6, pgW g ph pa pr pf]) := ⟨(vz_uf df_4 0 nf5), hP, hD⟩
    refine lv_aload_n hx hb dX0_emit_54 rfl (lv_at hl 0 rfl) ?_
    refine va_get (D := D) (ci := 0) (v := .ref (da 0)) (C := RX0) (T := TX0) (N := 8) hx hb hts inlX0 hown hK hP 0 rfl rfl 0 (by decide) (hts _ q110) (fun _ h => h) rfl dX0_emit_55 ?_
    refine lv_iload hx hb dX0_emit_58 (lv_at hl 4 rfl) ?_
    refine lv_iconst (v := 3) hx hb dX0_emit_60 (by decide) ?_
    refine lv_aload_n hx hb dX0_emit_61 rfl (lv_at hl 0 rfl) ?_
    refine va_get (D := D) (ci := 0) (v := .int (ci_21 2)) (C := RX0) (T := TX0) (N := 8) hx hb hts inlX0 hown hK hP 0 rfl rfl 6 (by decide) (hts _ q622) (fun _ h => h) rfl dX0_emit_62 ?_
    refine vz_Vv2 (ws' := fun u : (Nat → Int32) => vz_w [coW g h ca ci_21 cr cf (da 0) (da 2) ph, cdW g da dr_21 (vz_uf df_6 0 u), pgW g ph pa pr pf]) (As := [.int x4_21, .int 3, .int (ci_21 2)]) (rest := []) hx hb hml hown hts hK hA hP hD hS (c_T_set l D g (da 0) (da 1) H.size 4 4500 (dr_21 0) 18000 (df_6 0) x4_21 3 (ci_21 2) ⟨rfl, by decide, by decide, by decide, by decide, hw_d_21 0⟩) kv_X0_53 ⟨Nat.le_of_ble_eq_true rfl, Nat.le_of_ble_eq_true rfl⟩ (q0 := 3) (ci := 6) rfl rfl rfl [3, 4] rfl (by decide) (fun _ => rfl) (fun _ => rfl) hl.1 (Nat.le_of_ble_eq_true rfl) dX0_emit_65 ⟨Nat.le_refl _, Nat.le_refl _⟩ rfl (fun nf7 H locs _ _ hP hD hS => ?_)
    obtain ⟨df_8, hP, hD⟩ : ∃ df_8 : Nat → Nat → Int32, va_P D vwCl (vz_w [coW g h ca ci_21 cr cf (da 0) (da 2) ph, cdW g da dr_21 df_8, pgW g ph pa pr pf]) H ∧ va_D A (vz_w [coW g h ca ci_21 cr cf (da 0) (da 2) ph, cdW g da dr_21 df_8, pgW g ph pa pr pf]) := ⟨(vz_uf df_6 0 nf7), hP, hD⟩
    refine lv_iload hx hb dX0_emit_68 (lv_at hl 4 rfl) ?_
    rw [hQ]
    exact vz_iret3 hx hb hr hlk hK hP hD hS (ci_21, dr_21, df_8) hw_d_21 rfl (Nat.le_refl 0) (Nat.le_refl 0) dX0_emit_70
  refine lv_aload_n hx hb dX0_emit_0 rfl (lv_at hl 0 rfl) ?_
  refine va_get (D := D) (ci := 0) (v := .ref (da 0)) (C := RX0) (T := TX0) (N := 8) hx hb hts inlX0 hown hK hP 0 rfl rfl 0 (by decide) (hts _ q110) (fun _ h => h) rfl dX0_emit_1 ?_
  refine vz_Vi2 (ws' := fun u : (Nat × (Nat → Int32)) => vz_w [coW g h ca ci cr cf (da 0) (da 2) ph, cdW g da (vz_un dr 0 u.1) (vz_uf df 0 u.2), pgW g ph pa pr pf]) (As := []) (rest := []) hx hb hml hown hts hK hA hP hD hS (c_T_add l D g (da 0) (da 1) H.size 4 4500 (dr 0) 18000 (df 0) ⟨rfl, by decide, by decide, by decide, by decide, hw_d 0⟩) kv_X0_74 ⟨Nat.le_of_ble_eq_true rfl, Nat.le_of_ble_eq_true rfl⟩ (q0 := 3) (ci := 6) rfl rfl rfl [3, 4] rfl (by decide) (fun _ => rfl) (fun _ => rfl) hl.1 (Nat.le_of_ble_eq_true rfl) dX0_emit_4 ⟨Nat.le_refl _, Nat.le_refl _⟩ rfl (fun v3 ⟨u1R, u1f⟩ H locs ha2 _ hP hD hS => ?_)
  have hq : (dr 0) ≤ 4500 := hw_d 0
  replace ha2 : u1R ≤ 4500 := by rcases ha2 with ⟨z1, -, z2, -⟩ | ⟨z1, -, z2, -⟩ <;> (dsimp only at z2; omega)
  obtain ⟨dr_4, hw_dr_4, df_5, hP, hD⟩ : ∃ dr_4 : Nat → Nat, (∀ k, dr_4 k ≤ cdW_lim k) ∧ ∃ df_5 : Nat → Nat → Int32, va_P D vwCl (vz_w [coW g h ca ci cr cf (da 0) (da 2) ph, cdW g da dr_4 df_5, pgW g ph pa pr pf]) H ∧ va_D A (vz_w [coW g h ca ci cr cf (da 0) (da 2) ph, cdW g da dr_4 df_5, pgW g ph pa pr pf]) := ⟨(vz_un dr 0 u1R), (vz_wf hw_d (t := 0) (v := u1R) (ha2)), (vz_uf df 0 u1f), hP, hD⟩
  refine lv_istore (lv' := [(4, .int v3), (0, .ref h), (1, .int n1), (2, .int n2), (3, .int n3)]) hx hb dX0_emit_7 hl (by decide) rfl (fun ls hl => ?_)
  refine lv_iload hx hb dX0_emit_9 (lv_at hl 0 rfl) ?_
  refine lv_bipush (v := (-9)) hx hb dX0_emit_11 (by decide) ?_
  refine lv_icmp_ne (tgt := 21) hx hb dX0_emit_13 (by decide) (fun kc6 => ?_) (fun kc6 => ?_)
  · exact J21 v3 ci dr_4 df_5 hw_dr_4 H locs ls hP hD hS (lv_sub hl [1, 2, 3, 4, 0] rfl)
  · refine lv_aload_n hx hb dX0_emit_16 rfl (lv_at hl 1 rfl) ?_
    refine lv_iconst (v := 1) hx hb dX0_emit_17 (by decide) ?_
    refine va_put (D := D) (ci := 0) (v := .int 1) (ty := .boolean) (C := RX0) (T := TX0) (N := 8) hx hb hts inlX0 tyX0 tyX0_ok nmX0 hown hK hP hD hS 0 rfl rfl 5 (by decide) (hts _ q614) (fun _ h => h) rfl (by decide +kernel) rfl rfl (Nat.le_of_ble_eq_true rfl) dX0_emit_18 (fun H locs hP hD hS => ?_)
    obtain ⟨ci_7, hci_7, hP, hD⟩ : ∃ ci_7 : Nat → Int32, (ci_7 = (upd ci 1 1)) ∧ va_P D vwCl (vz_w [coW g h ca ci_7 cr cf (da 0) (da 2) ph, cdW g da dr_4 df_5, pgW g ph pa pr pf]) H ∧ va_D A (vz_w [coW g h ca ci_7 cr cf (da 0) (da 2) ph, cdW g da dr_4 df_5, pgW g ph pa pr pf]) := ⟨(upd ci 1 1), rfl, hP, hD⟩
    exact J21 v3 ci_7 dr_4 df_5 hw_dr_4 H locs ls hP hD hS (lv_sub hl [1, 2, 3, 4, 0] rfl)
theorem q626 : Cond.methodLink RX0 63 yX6_get ∈ wsL_law := mT_4 (List.mem_of_getElem? (i := 50) rfl) rfl
theorem kv_X0_63 : vz_cv RX0 63 yX6_get cX6_get 4 (some .int) 2 := ⟨q626, q294, q295, q15, q296, by decide +kernel⟩
theorem dX0_patch_0 : decode cX0_patch 0 = .ok (.iload_n 1, 1) := by decide +kernel
theorem dX0_patch_1 : decode cX0_patch 1 = .ok (.istore_n 3, 1) := by decide +kernel
theorem dX0_patch_2 : decode cX0_patch 2 = .ok (.iconst 0, 1) := by decide +kernel
theorem dX0_patch_3 : decode cX0_patch 3 = .ok (.istore 4, 2) := by decide +kernel
theorem dX0_patch_5 : decode cX0_patch 5 = .ok (.iload 4, 2) := by decide +kernel
theorem dX0_patch_7 : decode cX0_patch 7 = .ok (.sipush 4500, 3) := by decide +kernel
theorem dX0_patch_10 : decode cX0_patch 10 = .ok (.if_icmp .ge 39, 3) := by decide +kernel
theorem dX0_patch_13 : decode cX0_patch 13 = .ok (.iload_n 3, 1) := by decide +kernel
theorem dX0_patch_14 : decode cX0_patch 14 = .ok (.bipush (-9), 2) := by decide +kernel
theorem dX0_patch_16 : decode cX0_patch 16 = .ok (.if_icmp .eq 33, 3) := by decide +kernel
theorem dX0_patch_19 : decode cX0_patch 19 = .ok (.aload_n 0, 1) := by decide +kernel
theorem dX0_patch_20 : decode cX0_patch 20 = .ok (.getfield 20, 3) := by decide +kernel
theorem dX0_patch_23 : decode cX0_patch 23 = .ok (.iload_n 3, 1) := by decide +kernel
theorem dX0_patch_24 : decode cX0_patch 24 = .ok (.iconst 1, 1) := by decide +kernel
theorem dX0_patch_25 : decode cX0_patch 25 = .ok (.invokevirtual 63, 3) := by decide +kernel
theorem dX0_patch_28 : decode cX0_patch 28 = .ok (.istore 5, 2) := by decide +kernel
theorem dX0_patch_30 : decode cX0_patch 30 = .ok (.aload_n 0, 1) := by decide +kernel
theorem dX0_patch_31 : decode cX0_patch 31 = .ok (.getfield 20, 3) := by decide +kernel
theorem dX0_patch_34 : decode cX0_patch 34 = .ok (.iload_n 3, 1) := by decide +kernel
theorem dX0_patch_35 : decode cX0_patch 35 = .ok (.iconst 1, 1) := by decide +kernel
theorem dX0_patch_36 : decode cX0_patch 36 = .ok (.iload_n 2, 1) := by decide +kernel
theorem dX0_patch_37 : decode cX0_patch 37 = .ok (.invokevirtual 53, 3) := by decide +kernel
theorem dX0_patch_40 : decode cX0_patch 40 = .ok (.iload 5, 2) := by decide +kernel
theorem dX0_patch_42 : decode cX0_patch 42 = .ok (.istore_n 3, 1) := by decide +kernel
theorem dX0_patch_43 : decode cX0_patch 43 = .ok (.iinc 4 1, 3) := by decide +kernel
theorem dX0_patch_46 : decode cX0_patch 46 = .ok (.goto (-41), 3) := by decide +kernel
theorem dX0_patch_49 : decode cX0_patch 49 = .ok (.return_, 1) := by decide +kernel
set_option maxHeartbeats 8000000 in
set_option maxRecDepth 100000 in
theorem a_C_patch (l : Launch) (D : va_G) (g : Nat → ClassId)   (sz : Nat) (h : Nat) (ca : Nat → Nat) (ci : Nat → Int32) (cr : Nat → Nat) (cf : Nat → Nat → Int32) (da : Nat → Nat) (ph : Nat) (dr : Nat → Nat) (df : Nat → Nat → Int32) (pa : Nat → Nat) (pr : Nat → Nat) (pf : Nat → Nat → Int32) (n1 : Int32) (n2 : Int32) (hw_c : ∀ k, cr k ≤ coW_lim k) (hw_d : ∀ k, dr k ≤ cdW_lim k) (hw_p : ∀ k, pr k ≤ pgW_lim k) : vz_Mv l D (tyG g) yX0_patch cX0_patch 6 1 24 0 0 [.ref h, .int n1, .int n2] sz (vz_w [coW g h ca ci cr cf (da 0) (da 2) ph, cdW g da dr df, pgW g ph pa pr pf]) (fun u : (Nat → Nat → Int32) => True) (fun u => vz_w [coW g h ca ci cr cf (da 0) (da 2) ph, cdW g da dr u, pgW g ph pa pr pf]) := by
  refine vz_svQ (by decide) (Nat.le_of_ble_eq_true rfl) (fun p e s m args below meth c hx hb hr hml hts hown hlk hin hK hsz A hA H locs hP hD hS ls hl Q hQ => ?_)
  have hl : lv_has ls 6 [(0, .ref h), (1, .int n1), (2, .int n2)] := hl
  have J49 : ∀ (x3_49 : Int32), ∀ (x4_49 : Int32), ∀ (df_49 : Nat → Nat → Int32), ∀ (H : Heap) (locs : List Loc) (ls : Array Slot), va_P D vwCl (vz_w [coW g h ca ci cr cf (da 0) (da 2) ph, cdW g da dr df_49, pgW g ph pa pr pf]) H → va_D A (vz_w [coW g h ca ci cr cf (da 0) (da 2) ph, cdW g da dr df_49, pgW g ph pa pr pf]) → va_S A s.heap H locs → lv_has ls 6 [(0, .ref h), (1, .int n1), (2, .int n2), (3, .int x3_49), (4, .int x4_49)] → W p l e { frames := 1, cells := 0, slots := 0, locals := 24 } s m args below meth c H locs 0 0 Q (F0 m 49 ls []) := by
    intro x3_49 x4_49 df_49 H locs ls hP hD hS hl
    rw [hQ]
    exact vz_vret3 hx hb hr hlk hK hP hD hS df_49 trivial rfl (Nat.le_refl 0) (Nat.le_refl 0) dX0_patch_49
  have J5 : ∀ (fu5 n5 : Nat), 4500 - n5 < fu5 → n5 ≤ 4500 → ∀ (x3_5 : Int32), ∀ (df_5 : Nat → Nat → Int32), ∀ (H : Heap) (locs : List Loc) (ls : Array Slot), va_P D vwCl (vz_w [coW g h ca ci cr cf (da 0) (da 2) ph, cdW g da dr df_5, pgW g ph pa pr pf]) H → va_D A (vz_w [coW g h ca ci cr cf (da 0) (da 2) ph, cdW g da dr df_5, pgW g ph pa pr pf]) → va_S A s.heap H locs → lv_has ls 6 [(0, .ref h), (1, .int n1), (2, .int n2), (3, .int x3_5), (4, .int (nI n5))] → W p l e { frames := 1, cells := 0, slots := 0, locals := 24 } s m args below meth c H locs 0 0 Q (F0 m 5 ls []) := by
    intro fu5
    induction fu5 with
    | zero => intro n5 z; omega
    | succ fu5 ih5 =>
      intro n5 hf5 hb5 x3_5 df_5 H locs ls hP hD hS hl
      refine lv_iload hx hb dX0_patch_5 (lv_at hl 4 rfl) ?_
      refine lv_sipush (v := 4500) hx hb dX0_patch_7 (by decide) ?_
      refine lv_icmp_ge (tgt := 49) hx hb dX0_patch_10 (by decide) (fun kc1 => ?_) (fun kc1 => ?_)
      · exact J49 x3_5 (nI n5) df_5 H locs ls hP hD hS (lv_sub hl [0, 1, 2, 3, 4] rfl)
      · have hn5 : n5 < 4500 := vz_ltge (B := 4500) (by omega) kc1
        refine lv_iload_n hx hb dX0_patch_13 rfl (lv_at hl 3 rfl) ?_
        refine lv_bipush (v := (-9)) hx hb dX0_patch_14 (by decide) ?_
        refine lv_icmp_eq (tgt := 49) hx hb dX0_patch_16 (by decide) (fun kc2 => ?_) (fun kc2 => ?_)
        · exact J49 x3_5 (nI n5) df_5 H locs ls hP hD hS (lv_sub hl [0, 1, 2, 3, 4] rfl)
        · refine lv_aload_n hx hb dX0_patch_19 rfl (lv_at hl 0 rfl) ?_
          refine va_get (D := D) (ci := 0) (v := .ref (da 0)) (C := RX0) (T := TX0) (N := 8) hx hb hts inlX0 hown hK hP 0 rfl rfl 0 (by decide) (hts _ q110) (fun _ h => h) rfl dX0_patch_20 ?_
          refine lv_iload_n hx hb dX0_patch_23 rfl (lv_at hl 3 rfl) ?_
          refine lv_iconst (v := 1) hx hb dX0_patch_24 (by decide) ?_
          refine vz_Vi2 (ws' := fun u : Unit => vz_w [coW g h ca ci cr cf (da 0) (da 2) ph, cdW g da dr df_5, pgW g ph pa pr pf]) (As := [.int x3_5, .int 1]) (rest := []) hx hb hml hown hts hK hA hP hD hS (c_T_get l D g (da 0) (da 1) H.size 4 4500 (dr 0) 18000 (df_5 0) x3_5 1 ⟨rfl, by decide, by decide, by decide, by decide, hw_d 0⟩) kv_X0_63 ⟨Nat.le_of_ble_eq_true rfl, Nat.le_of_ble_eq_true rfl⟩ (q0 := 3) (ci := 6) rfl rfl rfl [3, 4] rfl (by decide) (fun _ => rfl) (fun _ => rfl) hl.1 (Nat.le_of_ble_eq_true rfl) dX0_patch_25 ⟨Nat.le_refl _, Nat.le_refl _⟩ rfl (fun v3 _ H locs he4 _ hP hD hS => ?_)
          refine lv_istore (lv' := [(5, .int v3), (0, .ref h), (1, .int n1), (2, .int n2), (3, .int x3_5), (4, .int (nI n5))]) hx hb dX0_patch_28 hl (by decide) rfl (fun ls hl => ?_)
          refine lv_aload_n hx hb dX0_patch_30 rfl (lv_at hl 1 rfl) ?_
          refine va_get (D := D) (ci := 0) (v := .ref (da 0)) (C := RX0) (T := TX0) (N := 8) hx hb hts inlX0 hown hK hP 0 rfl rfl 0 (by decide) (hts _ q110) (fun _ h => h) rfl dX0_patch_31 ?_
          refine lv_iload_n hx hb dX0_patch_34 rfl (lv_at hl 4 rfl) ?_
          refine lv_iconst (v := 1) hx hb dX0_patch_35 (by decide) ?_
          refine lv_iload_n hx hb dX0_patch_36 rfl (lv_at hl 3 rfl) ?_
          refine vz_Vv2 (ws' := fun u : (Nat → Int32) => vz_w [coW g h ca ci cr cf (da 0) (da 2) ph, cdW g da dr (vz_uf df_5 0 u), pgW g ph pa pr pf]) (As := [.int x3_5, .int 1, .int n2]) (rest := []) hx hb hml hown hts hK hA hP hD hS (c_T_set l D g (da 0) (da 1) H.size 4 4500 (dr 0) 18000 (df_5 0) x3_5 1 n2 ⟨rfl, by decide, by decide, by decide, by decide, hw_d 0⟩) kv_X0_53 ⟨Nat.le_of_ble_eq_true rfl, Nat.le_of_ble_eq_true rfl⟩ (q0 := 3) (ci := 6) rfl rfl rfl [3, 4] rfl (by decide) (fun _ => rfl) (fun _ => rfl) hl.1 (Nat.le_of_ble_eq_true rfl) dX0_patch_37 ⟨Nat.le_refl _, Nat.le_refl _⟩ rfl (fun nf5 H locs _ _ hP hD hS => ?_)
          obtain ⟨df_6, hP, hD⟩ : ∃ df_6 : Nat → Nat → Int32, va_P D vwCl (vz_w [coW g h ca ci cr cf (da 0) (da 2) ph, cdW g da dr df_6, pgW g ph pa pr pf]) H ∧ va_D A (vz_w [coW g h ca ci cr cf (da 0) (da 2) ph, cdW g da dr df_6, pgW g ph pa pr pf]) := ⟨(vz_uf df_5 0 nf5), hP, hD⟩
          refine lv_iload hx hb dX0_patch_40 (lv_at hl 0 rfl) ?_
          refine lv_istore_n (lv' := [(3, .int v3), (5, .int v3), (0, .ref h), (1, .int n1), (2, .int n2), (4, .int (nI n5))]) hx hb dX0_patch_42 rfl hl (by decide) rfl (fun ls hl => ?_)
          refine lv_iinc (v := (nI (n5 + 1))) (lv' := [(4, .int (nI (n5 + 1))), (3, .int v3), (5, .int v3), (0, .ref h), (1, .int n1), (2, .int n2)]) hx hb dX0_patch_43 hl (k := 5) rfl (nI_1 n5) (by decide) rfl (fun ls hl => ?_)
          refine lv_goto (tgt := 5) hx hb dX0_patch_46 (by decide) ?_
          exact ih5 (n5 + 1) (by omega) (by omega) v3 df_6 H locs ls hP hD hS (lv_sub hl [3, 4, 5, 1, 0] rfl)
  refine lv_iload_n hx hb dX0_patch_0 rfl (lv_at hl 1 rfl) ?_
  refine lv_istore_n (lv' := [(3, .int n1), (0, .ref h), (1, .int n1), (2, .int n2)]) hx hb dX0_patch_1 rfl hl (by decide) rfl (fun ls hl => ?_)
  refine lv_iconst (v := 0) hx hb dX0_patch_2 (by decide) ?_
  refine lv_istore (lv' := [(4, .int 0), (3, .int n1), (0, .ref h), (1, .int n1), (2, .int n2)]) hx hb dX0_patch_3 hl (by decide) rfl (fun ls hl => ?_)
  exact J5 (4501) 0 (by omega) (by omega) n1 df H locs ls hP hD hS (lv_sub hl [2, 3, 4, 1, 0] rfl)
theorem q111 : Cond.fieldLink RX0 24 "WaysAtlas$Coder" "handlers" "LWaysAtlas$Table;" ∈ wsL_law := mT_1 (List.mem_of_getElem? (i := 173) rfl) rfl
theorem dX0_newHandler_0 : decode cX0_newHandler 0 = .ok (.aload_n 0, 1) := by decide +kernel
theorem dX0_newHandler_1 : decode cX0_newHandler 1 = .ok (.getfield 24, 3) := by decide +kernel
theorem dX0_newHandler_4 : decode cX0_newHandler 4 = .ok (.invokevirtual 74, 3) := by decide +kernel
theorem dX0_newHandler_7 : decode cX0_newHandler 7 = .ok (.istore_n 3, 1) := by decide +kernel
theorem dX0_newHandler_8 : decode cX0_newHandler 8 = .ok (.iload_n 3, 1) := by decide +kernel
theorem dX0_newHandler_9 : decode cX0_newHandler 9 = .ok (.bipush (-9), 2) := by decide +kernel
theorem dX0_newHandler_11 : decode cX0_newHandler 11 = .ok (.if_icmp .ne 8, 3) := by decide +kernel
theorem dX0_newHandler_14 : decode cX0_newHandler 14 = .ok (.aload_n 0, 1) := by decide +kernel
theorem dX0_newHandler_15 : decode cX0_newHandler 15 = .ok (.iconst 1, 1) := by decide +kernel
theorem dX0_newHandler_16 : decode cX0_newHandler 16 = .ok (.putfield 34, 3) := by decide +kernel
theorem dX0_newHandler_19 : decode cX0_newHandler 19 = .ok (.aload_n 0, 1) := by decide +kernel
theorem dX0_newHandler_20 : decode cX0_newHandler 20 = .ok (.getfield 24, 3) := by decide +kernel
theorem dX0_newHandler_23 : decode cX0_newHandler 23 = .ok (.iload_n 3, 1) := by decide +kernel
theorem dX0_newHandler_24 : decode cX0_newHandler 24 = .ok (.iconst 0, 1) := by decide +kernel
theorem dX0_newHandler_25 : decode cX0_newHandler 25 = .ok (.iload_n 1, 1) := by decide +kernel
theorem dX0_newHandler_26 : decode cX0_newHandler 26 = .ok (.invokevirtual 53, 3) := by decide +kernel
theorem dX0_newHandler_29 : decode cX0_newHandler 29 = .ok (.aload_n 0, 1) := by decide +kernel
theorem dX0_newHandler_30 : decode cX0_newHandler 30 = .ok (.getfield 24, 3) := by decide +kernel
theorem dX0_newHandler_33 : decode cX0_newHandler 33 = .ok (.iload_n 3, 1) := by decide +kernel
theorem dX0_newHandler_34 : decode cX0_newHandler 34 = .ok (.iconst 2, 1) := by decide +kernel
theorem dX0_newHandler_35 : decode cX0_newHandler 35 = .ok (.iload_n 2, 1) := by decide +kernel
theorem dX0_newHandler_36 : decode cX0_newHandler 36 = .ok (.invokevirtual 53, 3) := by decide +kernel
theorem dX0_newHandler_39 : decode cX0_newHandler 39 = .ok (.iload_n 3, 1) := by decide +kernel
theorem dX0_newHandler_40 : decode cX0_newHandler 40 = .ok (.ireturn, 1) := by decide +kernel
set_option maxHeartbeats 8000000 in
set_option maxRecDepth 100000 in
theorem a_C_newHandler (l : Launch) (D : va_G) (g : Nat → ClassId)   (sz : Nat) (h : Nat) (ca : Nat → Nat) (ci : Nat → Int32) (cr : Nat → Nat) (cf : Nat → Nat → Int32) (da : Nat → Nat) (ph : Nat) (dr : Nat → Nat) (df : Nat → Nat → Int32) (pa : Nat → Nat) (pr : Nat → Nat) (pf : Nat → Nat → Int32) (n1 : Int32) (n2 : Int32) (hw_c : ∀ k, cr k ≤ coW_lim k) (hw_d : ∀ k, dr k ≤ cdW_lim k) (hw_p : ∀ k, pr k ≤ pgW_lim k) : vz_Mi l D (tyG g) yX0_newHandler cX0_newHandler 4 1 24 0 0 .int [.ref h, .int n1, .int n2] sz (vz_w [coW g h ca ci cr cf (da 0) (da 2) ph, cdW g da dr df, pgW g ph pa pr pf]) (fun r (u : (Nat → Int32) × (Nat → Nat) × (Nat → Nat → Int32)) => (∀ k, u.2.1 k ≤ cdW_lim k)) (fun u => vz_w [coW g h ca u.1 cr cf (da 0) (da 2) ph, cdW g da u.2.1 u.2.2, pgW g ph pa pr pf]) := by
  refine vz_siQ (by decide) (Nat.le_of_ble_eq_true rfl) (fun p e s m args below meth c hx hb hr hml hts hown hlk hin hK hsz A hA H locs hP hD hS ls hl Q hQ => ?_)
  have hl : lv_has ls 4 [(0, .ref h), (1, .int n1), (2, .int n2)] := hl
  have J19 : ∀ (x3_19 : Int32), ∀ (ci_19 : Nat → Int32), ∀ (dr_19 : Nat → Nat), ∀ (df_19 : Nat → Nat → Int32), (∀ k, dr_19 k ≤ cdW_lim k) → ∀ (H : Heap) (locs : List Loc) (ls : Array Slot), va_P D vwCl (vz_w [coW g h ca ci_19 cr cf (da 0) (da 2) ph, cdW g da dr_19 df_19, pgW g ph pa pr pf]) H → va_D A (vz_w [coW g h ca ci_19 cr cf (da 0) (da 2) ph, cdW g da dr_19 df_19, pgW g ph pa pr pf]) → va_S A s.heap H locs → lv_has ls 4 [(0, .ref h), (1, .int n1), (2, .int n2), (3, .int x3_19)] → W p l e { frames := 1, cells := 0, slots := 0, locals := 24 } s m args below meth c H locs 0 0 Q (F0 m 19 ls []) := by
    intro x3_19 ci_19 dr_19 df_19 hw_d_19 H locs ls hP hD hS hl
    refine lv_aload_n hx hb dX0_newHandler_19 rfl (lv_at hl 0 rfl) ?_
    refine va_get (D := D) (ci := 0) (v := .ref (da 2)) (C := RX0) (T := TX0) (N := 8) hx hb hts inlX0 hown hK hP 0 rfl rfl 1 (by decide) (hts _ q111) (fun _ h => h) rfl dX0_newHandler_20 ?_
    refine lv_iload_n hx hb dX0_newHandler_23 rfl (lv_at hl 3 rfl) ?_
    refine lv_iconst (v := 0) hx hb dX0_newHandler_24 (by decide) ?_
    refine lv_iload_n hx hb dX0_newHandler_25 rfl (lv_at hl 1 rfl) ?_
    refine vz_Vv2 (ws' := fun u : (Nat → Int32) => vz_w [coW g h ca ci_19 cr cf (da 0) (da 2) ph, cdW g da dr_19 (vz_uf df_19 1 u), pgW g ph pa pr pf]) (As := [.int x3_19, .int 0, .int n1]) (rest := []) hx hb hml hown hts hK hA hP hD hS (c_T_set l D g (da 2) (da 3) H.size 3 500 (dr_19 1) 1500 (df_19 1) x3_19 0 n1 ⟨rfl, by decide, by decide, by decide, by decide, hw_d_19 1⟩) kv_X0_53 ⟨Nat.le_of_ble_eq_true rfl, Nat.le_of_ble_eq_true rfl⟩ (q0 := 5) (ci := 6) rfl rfl rfl [5, 6] rfl (by decide) (fun _ => rfl) (fun _ => rfl) hl.1 (Nat.le_of_ble_eq_true rfl) dX0_newHandler_26 ⟨Nat.le_refl _, Nat.le_refl _⟩ rfl (fun nf1 H locs _ _ hP hD hS => ?_)
    obtain ⟨df_2, hP, hD⟩ : ∃ df_2 : Nat → Nat → Int32, va_P D vwCl (vz_w [coW g h ca ci_19 cr cf (da 0) (da 2) ph, cdW g da dr_19 df_2, pgW g ph pa pr pf]) H ∧ va_D A (vz_w [coW g h ca ci_19 cr cf (da 0) (da 2) ph, cdW g da dr_19 df_2, pgW g ph pa pr pf]) := ⟨(vz_uf df_19 1 nf1), hP, hD⟩
    refine lv_aload_n hx hb dX0_newHandler_29 rfl (lv_at hl 0 rfl) ?_
    refine va_get (D := D) (ci := 0) (v := .ref (da 2)) (C := RX0) (T := TX0) (N := 8) hx hb hts inlX0 hown hK hP 0 rfl rfl 1 (by decide) (hts _ q111) (fun _ h => h) rfl dX0_newHandler_30 ?_
    refine lv_iload_n hx hb dX0_newHandler_33 rfl (lv_at hl 3 rfl) ?_
    refine lv_iconst (v := 2) hx hb dX0_newHandler_34 (by decide) ?_
    refine lv_iload_n hx hb dX0_newHandler_35 rfl (lv_at hl 2 rfl) ?_
    refine vz_Vv2 (ws' := fun u : (Nat → Int32) => vz_w [coW g h ca ci_19 cr cf (da 0) (da 2) ph, cdW g da dr_19 (vz_uf df_2 1 u), pgW g ph pa pr pf]) (As := [.int x3_19, .int 2, .int n2]) (rest := []) hx hb hml hown hts hK hA hP hD hS (c_T_set l D g (da 2) (da 3) H.size 3 500 (dr_19 1) 1500 (df_2 1) x3_19 2 n2 ⟨rfl, by decide, by decide, by decide, by decide, hw_d_19 1⟩) kv_X0_53 ⟨Nat.le_of_ble_eq_true rfl, Nat.le_of_ble_eq_true rfl⟩ (q0 := 5) (ci := 6) rfl rfl rfl [5, 6] rfl (by decide) (fun _ => rfl) (fun _ => rfl) hl.1 (Nat.le_of_ble_eq_true rfl) dX0_newHandler_36 ⟨Nat.le_refl _, Nat.le_refl _⟩ rfl (fun nf3 H locs _ _ hP hD hS => ?_)
    obtain ⟨df_4, hP, hD⟩ : ∃ df_4 : Nat → Nat → Int32, va_P D vwCl (vz_w [coW g h ca ci_19 cr cf (da 0) (da 2) ph, cdW g da dr_19 df_4, pgW g ph pa pr pf]) H ∧ va_D A (vz_w [coW g h ca ci_19 cr cf (da 0) (da 2) ph, cdW g da dr_19 df_4, pgW g ph pa pr pf]) := ⟨(vz_uf df_2 1 nf3), hP, hD⟩
    refine lv_iload_n hx hb dX0_newHandler_39 rfl (lv_at hl 3 rfl) ?_
    rw [hQ]
    exact vz_iret3 hx hb hr hlk hK hP hD hS (ci_19, dr_19, df_4) hw_d_19 rfl (Nat.le_refl 0) (Nat.le_refl 0) dX0_newHandler_40
  refine lv_aload_n hx hb dX0_newHandler_0 rfl (lv_at hl 0 rfl) ?_
  refine va_get (D := D) (ci := 0) (v := .ref (da 2)) (C := RX0) (T := TX0) (N := 8) hx hb hts inlX0 hown hK hP 0 rfl rfl 1 (by decide) (hts _ q111) (fun _ h => h) rfl dX0_newHandler_1 ?_
  refine vz_Vi2 (ws' := fun u : (Nat × (Nat → Int32)) => vz_w [coW g h ca ci cr cf (da 0) (da 2) ph, cdW g da (vz_un dr 1 u.1) (vz_uf df 1 u.2), pgW g ph pa pr pf]) (As := []) (rest := []) hx hb hml hown hts hK hA hP hD hS (c_T_add l D g (da 2) (da 3) H.size 3 500 (dr 1) 1500 (df 1) ⟨rfl, by decide, by decide, by decide, by decide, hw_d 1⟩) kv_X0_74 ⟨Nat.le_of_ble_eq_true rfl, Nat.le_of_ble_eq_true rfl⟩ (q0 := 5) (ci := 6) rfl rfl rfl [5, 6] rfl (by decide) (fun _ => rfl) (fun _ => rfl) hl.1 (Nat.le_of_ble_eq_true rfl) dX0_newHandler_4 ⟨Nat.le_refl _, Nat.le_refl _⟩ rfl (fun v3 ⟨u1R, u1f⟩ H locs ha2 _ hP hD hS => ?_)
  have hq : (dr 1) ≤ 500 := hw_d 1
  replace ha2 : u1R ≤ 500 := by rcases ha2 with ⟨z1, -, z2, -⟩ | ⟨z1, -, z2, -⟩ <;> (dsimp only at z2; omega)
  obtain ⟨dr_4, hw_dr_4, df_5, hP, hD⟩ : ∃ dr_4 : Nat → Nat, (∀ k, dr_4 k ≤ cdW_lim k) ∧ ∃ df_5 : Nat → Nat → Int32, va_P D vwCl (vz_w [coW g h ca ci cr cf (da 0) (da 2) ph, cdW g da dr_4 df_5, pgW g ph pa pr pf]) H ∧ va_D A (vz_w [coW g h ca ci cr cf (da 0) (da 2) ph, cdW g da dr_4 df_5, pgW g ph pa pr pf]) := ⟨(vz_un dr 1 u1R), (vz_wf hw_d (t := 1) (v := u1R) (ha2)), (vz_uf df 1 u1f), hP, hD⟩
  refine lv_istore_n (lv' := [(3, .int v3), (0, .ref h), (1, .int n1), (2, .int n2)]) hx hb dX0_newHandler_7 rfl hl (by decide) rfl (fun ls hl => ?_)
  refine lv_iload_n hx hb dX0_newHandler_8 rfl (lv_at hl 0 rfl) ?_
  refine lv_bipush (v := (-9)) hx hb dX0_newHandler_9 (by decide) ?_
  refine lv_icmp_ne (tgt := 19) hx hb dX0_newHandler_11 (by decide) (fun kc6 => ?_) (fun kc6 => ?_)
  · exact J19 v3 ci dr_4 df_5 hw_dr_4 H locs ls hP hD hS (lv_sub hl [1, 2, 3, 0] rfl)
  · refine lv_aload_n hx hb dX0_newHandler_14 rfl (lv_at hl 1 rfl) ?_
    refine lv_iconst (v := 1) hx hb dX0_newHandler_15 (by decide) ?_
    refine va_put (D := D) (ci := 0) (v := .int 1) (ty := .boolean) (C := RX0) (T := TX0) (N := 8) hx hb hts inlX0 tyX0 tyX0_ok nmX0 hown hK hP hD hS 0 rfl rfl 5 (by decide) (hts _ q614) (fun _ h => h) rfl (by decide +kernel) rfl rfl (Nat.le_of_ble_eq_true rfl) dX0_newHandler_16 (fun H locs hP hD hS => ?_)
    obtain ⟨ci_7, hci_7, hP, hD⟩ : ∃ ci_7 : Nat → Int32, (ci_7 = (upd ci 1 1)) ∧ va_P D vwCl (vz_w [coW g h ca ci_7 cr cf (da 0) (da 2) ph, cdW g da dr_4 df_5, pgW g ph pa pr pf]) H ∧ va_D A (vz_w [coW g h ca ci_7 cr cf (da 0) (da 2) ph, cdW g da dr_4 df_5, pgW g ph pa pr pf]) := ⟨(upd ci 1 1), rfl, hP, hD⟩
    exact J19 v3 ci_7 dr_4 df_5 hw_dr_4 H locs ls hP hD hS (lv_sub hl [1, 2, 3, 0] rfl)
theorem q112 : Cond.fieldLink RX0 27 "WaysAtlas$Coder" "contexts" "LWaysAtlas$Table;" ∈ wsL_law := mT_1 (List.mem_of_getElem? (i := 175) rfl) rfl
theorem q623 : Cond.fieldLink RX0 60 "WaysAtlas$Coder" "context" "I" ∈ wsL_law := mT_1 (List.mem_of_getElem? (i := 180) rfl) rfl
theorem dX0_pushContext_0 : decode cX0_pushContext 0 = .ok (.aload_n 0, 1) := by decide +kernel
theorem dX0_pushContext_1 : decode cX0_pushContext 1 = .ok (.getfield 27, 3) := by decide +kernel
theorem dX0_pushContext_4 : decode cX0_pushContext 4 = .ok (.invokevirtual 74, 3) := by decide +kernel
theorem dX0_pushContext_7 : decode cX0_pushContext 7 = .ok (.istore_n 3, 1) := by decide +kernel
theorem dX0_pushContext_8 : decode cX0_pushContext 8 = .ok (.iload_n 3, 1) := by decide +kernel
theorem dX0_pushContext_9 : decode cX0_pushContext 9 = .ok (.bipush (-9), 2) := by decide +kernel
theorem dX0_pushContext_11 : decode cX0_pushContext 11 = .ok (.if_icmp .ne 8, 3) := by decide +kernel
theorem dX0_pushContext_14 : decode cX0_pushContext 14 = .ok (.aload_n 0, 1) := by decide +kernel
theorem dX0_pushContext_15 : decode cX0_pushContext 15 = .ok (.iconst 1, 1) := by decide +kernel
theorem dX0_pushContext_16 : decode cX0_pushContext 16 = .ok (.putfield 34, 3) := by decide +kernel
theorem dX0_pushContext_19 : decode cX0_pushContext 19 = .ok (.aload_n 0, 1) := by decide +kernel
theorem dX0_pushContext_20 : decode cX0_pushContext 20 = .ok (.getfield 27, 3) := by decide +kernel
theorem dX0_pushContext_23 : decode cX0_pushContext 23 = .ok (.iload_n 3, 1) := by decide +kernel
theorem dX0_pushContext_24 : decode cX0_pushContext 24 = .ok (.iconst 0, 1) := by decide +kernel
theorem dX0_pushContext_25 : decode cX0_pushContext 25 = .ok (.iload_n 1, 1) := by decide +kernel
theorem dX0_pushContext_26 : decode cX0_pushContext 26 = .ok (.invokevirtual 53, 3) := by decide +kernel
theorem dX0_pushContext_29 : decode cX0_pushContext 29 = .ok (.aload_n 0, 1) := by decide +kernel
theorem dX0_pushContext_30 : decode cX0_pushContext 30 = .ok (.getfield 27, 3) := by decide +kernel
theorem dX0_pushContext_33 : decode cX0_pushContext 33 = .ok (.iload_n 3, 1) := by decide +kernel
theorem dX0_pushContext_34 : decode cX0_pushContext 34 = .ok (.iconst 1, 1) := by decide +kernel
theorem dX0_pushContext_35 : decode cX0_pushContext 35 = .ok (.iload_n 2, 1) := by decide +kernel
theorem dX0_pushContext_36 : decode cX0_pushContext 36 = .ok (.invokevirtual 53, 3) := by decide +kernel
theorem dX0_pushContext_39 : decode cX0_pushContext 39 = .ok (.aload_n 0, 1) := by decide +kernel
theorem dX0_pushContext_40 : decode cX0_pushContext 40 = .ok (.getfield 27, 3) := by decide +kernel
theorem dX0_pushContext_43 : decode cX0_pushContext 43 = .ok (.iload_n 3, 1) := by decide +kernel
theorem dX0_pushContext_44 : decode cX0_pushContext 44 = .ok (.iconst 2, 1) := by decide +kernel
theorem dX0_pushContext_45 : decode cX0_pushContext 45 = .ok (.aload_n 0, 1) := by decide +kernel
theorem dX0_pushContext_46 : decode cX0_pushContext 46 = .ok (.getfield 60, 3) := by decide +kernel
theorem dX0_pushContext_49 : decode cX0_pushContext 49 = .ok (.invokevirtual 53, 3) := by decide +kernel
theorem dX0_pushContext_52 : decode cX0_pushContext 52 = .ok (.aload_n 0, 1) := by decide +kernel
theorem dX0_pushContext_53 : decode cX0_pushContext 53 = .ok (.getfield 27, 3) := by decide +kernel
theorem dX0_pushContext_56 : decode cX0_pushContext 56 = .ok (.iload_n 3, 1) := by decide +kernel
theorem dX0_pushContext_57 : decode cX0_pushContext 57 = .ok (.iconst 3, 1) := by decide +kernel
theorem dX0_pushContext_58 : decode cX0_pushContext 58 = .ok (.aload_n 0, 1) := by decide +kernel
theorem dX0_pushContext_59 : decode cX0_pushContext 59 = .ok (.getfield 57, 3) := by decide +kernel
theorem dX0_pushContext_62 : decode cX0_pushContext 62 = .ok (.invokevirtual 53, 3) := by decide +kernel
theorem dX0_pushContext_65 : decode cX0_pushContext 65 = .ok (.aload_n 0, 1) := by decide +kernel
theorem dX0_pushContext_66 : decode cX0_pushContext 66 = .ok (.iload_n 3, 1) := by decide +kernel
theorem dX0_pushContext_67 : decode cX0_pushContext 67 = .ok (.putfield 60, 3) := by decide +kernel
theorem dX0_pushContext_70 : decode cX0_pushContext 70 = .ok (.iload_n 3, 1) := by decide +kernel
theorem dX0_pushContext_71 : decode cX0_pushContext 71 = .ok (.ireturn, 1) := by decide +kernel
set_option maxHeartbeats 8000000 in
set_option maxRecDepth 100000 in
theorem a_C_pushContext (l : Launch) (D : va_G) (g : Nat → ClassId)   (sz : Nat) (h : Nat) (ca : Nat → Nat) (ci : Nat → Int32) (cr : Nat → Nat) (cf : Nat → Nat → Int32) (da : Nat → Nat) (ph : Nat) (dr : Nat → Nat) (df : Nat → Nat → Int32) (pa : Nat → Nat) (pr : Nat → Nat) (pf : Nat → Nat → Int32) (n1 : Int32) (n2 : Int32) (hw_c : ∀ k, cr k ≤ coW_lim k) (hw_d : ∀ k, dr k ≤ cdW_lim k) (hw_p : ∀ k, pr k ≤ pgW_lim k) : vz_Mi l D (tyG g) yX0_pushContext cX0_pushContext 4 1 24 0 0 .int [.ref h, .int n1, .int n2] sz (vz_w [coW g h ca ci cr cf (da 0) (da 2) ph, cdW g da dr df, pgW g ph pa pr pf]) (fun r (u : (Nat → Int32) × (Nat → Nat) × (Nat → Nat → Int32)) => (∀ k, u.2.1 k ≤ coW_lim k)) (fun u => vz_w [coW g h ca u.1 u.2.1 u.2.2 (da 0) (da 2) ph, cdW g da dr df, pgW g ph pa pr pf]) := by
  refine vz_siQ (by decide) (Nat.le_of_ble_eq_true rfl) (fun p e s m args below meth c hx hb hr hml hts hown hlk hin hK hsz A hA H locs hP hD hS ls hl Q hQ => ?_)
  have hl : lv_has ls 4 [(0, .ref h), (1, .int n1), (2, .int n2)] := hl
  have J19 : ∀ (x3_19 : Int32), ∀ (ci_19 : Nat → Int32), ∀ (cr_19 : Nat → Nat), ∀ (cf_19 : Nat → Nat → Int32), (∀ k, cr_19 k ≤ coW_lim k) → ∀ (H : Heap) (locs : List Loc) (ls : Array Slot), va_P D vwCl (vz_w [coW g h ca ci_19 cr_19 cf_19 (da 0) (da 2) ph, cdW g da dr df, pgW g ph pa pr pf]) H → va_D A (vz_w [coW g h ca ci_19 cr_19 cf_19 (da 0) (da 2) ph, cdW g da dr df, pgW g ph pa pr pf]) → va_S A s.heap H locs → lv_has ls 4 [(0, .ref h), (1, .int n1), (2, .int n2), (3, .int x3_19)] → W p l e { frames := 1, cells := 0, slots := 0, locals := 24 } s m args below meth c H locs 0 0 Q (F0 m 19 ls []) := by
    intro x3_19 ci_19 cr_19 cf_19 hw_c_19 H locs ls hP hD hS hl
    refine lv_aload_n hx hb dX0_pushContext_19 rfl (lv_at hl 0 rfl) ?_
    refine va_get (D := D) (ci := 0) (v := .ref (ca 0)) (C := RX0) (T := TX0) (N := 8) hx hb hts inlX0 hown hK hP 0 rfl rfl 2 (by decide) (hts _ q112) (fun _ h => h) rfl dX0_pushContext_20 ?_
    refine lv_iload_n hx hb dX0_pushContext_23 rfl (lv_at hl 3 rfl) ?_
    refine lv_iconst (v := 0) hx hb dX0_pushContext_24 (by decide) ?_
    refine lv_iload_n hx hb dX0_pushContext_25 rfl (lv_at hl 1 rfl) ?_
    refine vz_Vv2 (ws' := fun u : (Nat → Int32) => vz_w [coW g h ca ci_19 cr_19 (vz_uf cf_19 0 u) (da 0) (da 2) ph, cdW g da dr df, pgW g ph pa pr pf]) (As := [.int x3_19, .int 0, .int n1]) (rest := []) hx hb hml hown hts hK hA hP hD hS (c_T_set l D g (ca 0) (ca 1) H.size 6 64 (cr_19 0) 384 (cf_19 0) x3_19 0 n1 ⟨rfl, by decide, by decide, by decide, by decide, hw_c_19 0⟩) kv_X0_53 ⟨Nat.le_of_ble_eq_true rfl, Nat.le_of_ble_eq_true rfl⟩ (q0 := 1) (ci := 6) rfl rfl rfl [1, 2] rfl (by decide) (fun _ => rfl) (fun _ => rfl) hl.1 (Nat.le_of_ble_eq_true rfl) dX0_pushContext_26 ⟨Nat.le_refl _, Nat.le_refl _⟩ rfl (fun nf1 H locs _ _ hP hD hS => ?_)
    obtain ⟨cf_2, hP, hD⟩ : ∃ cf_2 : Nat → Nat → Int32, va_P D vwCl (vz_w [coW g h ca ci_19 cr_19 cf_2 (da 0) (da 2) ph, cdW g da dr df, pgW g ph pa pr pf]) H ∧ va_D A (vz_w [coW g h ca ci_19 cr_19 cf_2 (da 0) (da 2) ph, cdW g da dr df, pgW g ph pa pr pf]) := ⟨(vz_uf cf_19 0 nf1), hP, hD⟩
    refine lv_aload_n hx hb dX0_pushContext_29 rfl (lv_at hl 0 rfl) ?_
    refine va_get (D := D) (ci := 0) (v := .ref (ca 0)) (C := RX0) (T := TX0) (N := 8) hx hb hts inlX0 hown hK hP 0 rfl rfl 2 (by decide) (hts _ q112) (fun _ h => h) rfl dX0_pushContext_30 ?_
    refine lv_iload_n hx hb dX0_pushContext_33 rfl (lv_at hl 3 rfl) ?_
    refine lv_iconst (v := 1) hx hb dX0_pushContext_34 (by decide) ?_
    refine lv_iload_n hx hb dX0_pushContext_35 rfl (lv_at hl 2 rfl) ?_
    refine vz_Vv2 (ws' := fun u : (Nat → Int32) => vz_w [coW g h ca ci_19 cr_19 (vz_uf cf_2 0 u) (da 0) (da 2) ph, cdW g da dr df, pgW g ph pa pr pf]) (As := [.int x3_19, .int 1, .int n2]) (rest := []) hx hb hml hown hts hK hA hP hD hS (c_T_set l D g (ca 0) (ca 1) H.size 6 64 (cr_19 0) 384 (cf_2 0) x3_19 1 n2 ⟨rfl, by decide, by decide, by decide, by decide, hw_c_19 0⟩) kv_X0_53 ⟨Nat.le_of_ble_eq_true rfl, Nat.le_of_ble_eq_true rfl⟩ (q0 := 1) (ci := 6) rfl rfl rfl [1, 2] rfl (by decide) (fun _ => rfl) (fun _ => rfl) hl.1 (Nat.le_of_ble_eq_true rfl) dX0_pushContext_36 ⟨Nat.le_refl _, Nat.le_refl _⟩ rfl (fun nf3 H locs _ _ hP hD hS => ?_)
    obtain ⟨cf_4, hP, hD⟩ : ∃ cf_4 : Nat → Nat → Int32, va_P D vwCl (vz_w [coW g h ca ci_19 cr_19 cf_4 (da 0) (da 2) ph, cdW g da dr df, pgW g ph pa pr pf]) H ∧ va_D A (vz_w [coW g h ca ci_19 cr_19 cf_4 (da 0) (da 2) ph, cdW g da dr df, pgW g ph pa pr pf]) := ⟨(vz_uf cf_2 0 nf3), hP, hD⟩
    refine lv_aload_n hx hb dX0_pushContext_39 rfl (lv_at hl 0 rfl) ?_
    refine va_get (D := D) (ci := 0) (v := .ref (ca 0)) (C := RX0) (T := TX0) (N := 8) hx hb hts inlX0 hown hK hP 0 rfl rfl 2 (by decide) (hts _ q112) (fun _ h => h) rfl dX0_pushContext_40 ?_
    refine lv_iload_n hx hb dX0_pushContext_43 rfl (lv_at hl 3 rfl) ?_
    refine lv_iconst (v := 2) hx hb dX0_pushContext_44 (by decide) ?_
    refine lv_aload_n hx hb dX0_pushContext_45 rfl (lv_at hl 0 rfl) ?_
    refine va_get (D := D) (ci := 0) (v := .int (ci_19 3)) (C := RX0) (T := TX0) (N := 8) hx hb hts inlX0 hown hK hP 0 rfl rfl 7 (by decide) (hts _ q623) (fun _ h => h) rfl dX0_pushContext_46 ?_
    refine vz_Vv2 (ws' := fun u : (Nat → Int32) => vz_w [coW g h ca ci_19 cr_19 (vz_uf cf_4 0 u) (da 0) (da 2) ph, cdW g da dr df, pgW g ph pa pr pf]) (As := [.int x3_19, .int 2, .int (ci_19 3)]) (rest := []) hx hb hml hown hts hK hA hP hD hS (c_T_set l D g (ca 0) (ca 1) H.size 6 64 (cr_19 0) 384 (cf_4 0) x3_19 2 (ci_19 3) ⟨rfl, by decide, by decide, by decide, by decide, hw_c_19 0⟩) kv_X0_53 ⟨Nat.le_of_ble_eq_true rfl, Nat.le_of_ble_eq_true rfl⟩ (q0 := 1) (ci := 6) rfl rfl rfl [1, 2] rfl (by decide) (fun _ => rfl) (fun _ => rfl) hl.1 (Nat.le_of_ble_eq_true rfl) dX0_pushContext_49 ⟨Nat.le_refl _, Nat.le_refl _⟩ rfl (fun nf5 H locs _ _ hP hD hS => ?_)
    obtain ⟨cf_6, hP, hD⟩ : ∃ cf_6 : Nat → Nat → Int32, va_P D vwCl (vz_w [coW g h ca ci_19 cr_19 cf_6 (da 0) (da 2) ph, cdW g da dr df, pgW g ph pa pr pf]) H ∧ va_D A (vz_w [coW g h ca ci_19 cr_19 cf_6 (da 0) (da 2) ph, cdW g da dr df, pgW g ph pa pr pf]) := ⟨(vz_uf cf_4 0 nf5), hP, hD⟩
    refine lv_aload_n hx hb dX0_pushContext_52 rfl (lv_at hl 0 rfl) ?_
    refine va_get (D := D) (ci := 0) (v := .ref (ca 0)) (C := RX0) (T := TX0) (N := 8) hx hb hts inlX0 hown hK hP 0 rfl rfl 2 (by decide) (hts _ q112) (fun _ h => h) rfl dX0_pushContext_53 ?_
    refine lv_iload_n hx hb dX0_pushContext_56 rfl (lv_at hl 3 rfl) ?_
    refine lv_iconst (v := 3) hx hb dX0_pushContext_57 (by decide) ?_
    refine lv_aload_n hx hb dX0_pushContext_58 rfl (lv_at hl 0 rfl) ?_
    refine va_get (D := D) (ci := 0) (v := .int (ci_19 2)) (C := RX0) (T := TX0) (N := 8) hx hb hts inlX0 hown hK hP 0 rfl rfl 6 (by decide) (hts _ q622) (fun _ h => h) rfl dX0_pushContext_59 ?_
    refine vz_Vv2 (ws' := fun u : (Nat → Int32) => vz_w [coW g h ca ci_19 cr_19 (vz_uf cf_6 0 u) (da 0) (da 2) ph, cdW g da dr df, pgW g ph pa pr pf]) (As := [.int x3_19, .int 3, .int (ci_19 2)]) (rest := []) hx hb hml hown hts hK hA hP hD hS (c_T_set l D g (ca 0) (ca 1) H.size 6 64 (cr_19 0) 384 (cf_6 0) x3_19 3 (ci_19 2) ⟨rfl, by decide, by decide, by decide, by decide, hw_c_19 0⟩) kv_X0_53 ⟨Nat.le_of_ble_eq_true rfl, Nat.le_of_ble_eq_true rfl⟩ (q0 := 1) (ci := 6) rfl rfl rfl [1, 2] rfl (by decide) (fun _ => rfl) (fun _ => rfl) hl.1 (Nat.le_of_ble_eq_true rfl) dX0_pushContext_62 ⟨Nat.le_refl _, Nat.le_refl _⟩ rfl (fun nf7 H locs _ _ hP hD hS => ?_)
    obtain ⟨cf_8, hP, hD⟩ : ∃ cf_8 : Nat → Nat → Int32, va_P D vwCl (vz_w [coW g h ca ci_19 cr_19 cf_8 (da 0) (da 2) ph, cdW g da dr df, pgW g ph pa pr pf]) H ∧ va_D A (vz_w [coW g h ca ci_19 cr_19 cf_8 (da 0) (da 2) ph, cdW g da dr df, pgW g ph pa pr pf]) := ⟨(vz_uf cf_6 0 nf7), hP, hD⟩
    refine lv_aload_n hx hb dX0_pushContext_65 rfl (lv_at hl 0 rfl) ?_
    refine lv_iload_n hx hb dX0_pushContext_66 rfl (lv_at hl 3 rfl) ?_
    refine va_put (D := D) (ci := 0) (v := .int x3_19) (ty := .int) (C := RX0) (T := TX0) (N := 8) hx hb hts inlX0 tyX0 tyX0_ok nmX0 hown hK hP hD hS 0 rfl rfl 7 (by decide) (hts _ q623) (fun _ h => h) rfl (by decide +kernel) rfl rfl (Nat.le_of_ble_eq_true rfl) dX0_pushContext_67 (fun H locs hP hD hS => ?_)
    obtain ⟨ci_9, hci_9, hP, hD⟩ : ∃ ci_9 : Nat → Int32, (ci_9 = (upd ci_19 3 x3_19)) ∧ va_P D vwCl (vz_w [coW g h ca ci_9 cr_19 cf_8 (da 0) (da 2) ph, cdW g da dr df, pgW g ph pa pr pf]) H ∧ va_D A (vz_w [coW g h ca ci_9 cr_19 cf_8 (da 0) (da 2) ph, cdW g da dr df, pgW g ph pa pr pf]) := ⟨(upd ci_19 3 x3_19), rfl, hP, hD⟩
    refine lv_iload_n hx hb dX0_pushContext_70 rfl (lv_at hl 3 rfl) ?_
    rw [hQ]
    exact vz_iret3 hx hb hr hlk hK hP hD hS (ci_9, cr_19, cf_8) hw_c_19 rfl (Nat.le_refl 0) (Nat.le_refl 0) dX0_pushContext_71
  refine lv_aload_n hx hb dX0_pushContext_0 rfl (lv_at hl 0 rfl) ?_
  refine va_get (D := D) (ci := 0) (v := .ref (ca 0)) (C := RX0) (T := TX0) (N := 8) hx hb hts inlX0 hown hK hP 0 rfl rfl 2 (by decide) (hts _ q112) (fun _ h => h) rfl dX0_pushContext_1 ?_
  refine vz_Vi2 (ws' := fun u : (Nat × (Nat → Int32)) => vz_w [coW g h ca ci (vz_un cr 0 u.1) (vz_uf cf 0 u.2) (da 0) (da 2) ph, cdW g da dr df, pgW g ph pa pr pf]) (As := []) (rest := []) hx hb hml hown hts hK hA hP hD hS (c_T_add l D g (ca 0) (ca 1) H.size 6 64 (cr 0) 384 (cf 0) ⟨rfl, by decide, by decide, by decide, by decide, hw_c 0⟩) kv_X0_74 ⟨Nat.le_of_ble_eq_true rfl, Nat.le_of_ble_eq_true rfl⟩ (q0 := 1) (ci := 6) rfl rfl rfl [1, 2] rfl (by decide) (fun _ => rfl) (fun _ => rfl) hl.1 (Nat.le_of_ble_eq_true rfl) dX0_pushContext_4 ⟨Nat.le_refl _, Nat.le_refl _⟩ rfl (fun v3 ⟨u1R, u1f⟩ H locs ha2 _ hP hD hS => ?_)
  have hq : (cr 0) ≤ 64 := hw_c 0
  replace ha2 : u1R ≤ 64 := by rcases ha2 with ⟨z1, -, z2, -⟩ | ⟨z1, -, z2, -⟩ <;> (dsimp only at z2; omega)
  obtain ⟨cr_4, hw_cr_4, cf_5, hP, hD⟩ : ∃ cr_4 : Nat → Nat, (∀ k, cr_4 k ≤ coW_lim k) ∧ ∃ cf_5 : Nat → Nat → Int32, va_P D vwCl (vz_w [coW g h ca ci cr_4 cf_5 (da 0) (da 2) ph, cdW g da dr df, pgW g ph pa pr pf]) H ∧ va_D A (vz_w [coW g h ca ci cr_4 cf_5 (da 0) (da 2) ph, cdW g da dr df, pgW g ph pa pr pf]) := ⟨(vz_un cr 0 u1R), (vz_wf hw_c (t := 0) (v := u1R) (ha2)), (vz_uf cf 0 u1f), hP, hD⟩
  refine lv_istore_n (lv' := [(3, .int v3), (0, .ref h), (1, .int n1), (2, .int n2)]) hx hb dX0_pushContext_7 rfl hl (by decide) rfl (fun ls hl => ?_)
  refine lv_iload_n hx hb dX0_pushContext_8 rfl (lv_at hl 0 rfl) ?_
  refine lv_bipush (v := (-9)) hx hb dX0_pushContext_9 (by decide) ?_
  refine lv_icmp_ne (tgt := 19) hx hb dX0_pushContext_11 (by decide) (fun kc6 => ?_) (fun kc6 => ?_)
  · exact J19 v3 ci cr_4 cf_5 hw_cr_4 H locs ls hP hD hS (lv_sub hl [1, 2, 3, 0] rfl)
  · refine lv_aload_n hx hb dX0_pushContext_14 rfl (lv_at hl 1 rfl) ?_
    refine lv_iconst (v := 1) hx hb dX0_pushContext_15 (by decide) ?_
    refine va_put (D := D) (ci := 0) (v := .int 1) (ty := .boolean) (C := RX0) (T := TX0) (N := 8) hx hb hts inlX0 tyX0 tyX0_ok nmX0 hown hK hP hD hS 0 rfl rfl 5 (by decide) (hts _ q614) (fun _ h => h) rfl (by decide +kernel) rfl rfl (Nat.le_of_ble_eq_true rfl) dX0_pushContext_16 (fun H locs hP hD hS => ?_)
    obtain ⟨ci_7, hci_7, hP, hD⟩ : ∃ ci_7 : Nat → Int32, (ci_7 = (upd ci 1 1)) ∧ va_P D vwCl (vz_w [coW g h ca ci_7 cr_4 cf_5 (da 0) (da 2) ph, cdW g da dr df, pgW g ph pa pr pf]) H ∧ va_D A (vz_w [coW g h ca ci_7 cr_4 cf_5 (da 0) (da 2) ph, cdW g da dr df, pgW g ph pa pr pf]) := ⟨(upd ci 1 1), rfl, hP, hD⟩
    exact J19 v3 ci_7 cr_4 cf_5 hw_cr_4 H locs ls hP hD hS (lv_sub hl [1, 2, 3, 0] rfl)
theorem q670 : Cond.methodLink RX0 78 yX6_drop ∈ wsL_law := mT_4 (List.mem_of_getElem? (i := 96) rfl) rfl
theorem kv_X0_78 : vz_cv RX0 78 yX6_drop cX6_drop 1 none 0 := ⟨q670, q520, q521, q15, q522, by decide +kernel⟩
theorem dX0_popContext_0 : decode cX0_popContext 0 = .ok (.aload_n 0, 1) := by decide +kernel
theorem dX0_popContext_1 : decode cX0_popContext 1 = .ok (.aload_n 0, 1) := by decide +kernel
theorem dX0_popContext_2 : decode cX0_popContext 2 = .ok (.getfield 27, 3) := by decide +kernel
theorem dX0_popContext_5 : decode cX0_popContext 5 = .ok (.iload_n 1, 1) := by decide +kernel
theorem dX0_popContext_6 : decode cX0_popContext 6 = .ok (.iconst 2, 1) := by decide +kernel
theorem dX0_popContext_7 : decode cX0_popContext 7 = .ok (.invokevirtual 63, 3) := by decide +kernel
theorem dX0_popContext_10 : decode cX0_popContext 10 = .ok (.putfield 60, 3) := by decide +kernel
theorem dX0_popContext_13 : decode cX0_popContext 13 = .ok (.iload_n 1, 1) := by decide +kernel
theorem dX0_popContext_14 : decode cX0_popContext 14 = .ok (.bipush (-9), 2) := by decide +kernel
theorem dX0_popContext_16 : decode cX0_popContext 16 = .ok (.if_icmp .eq 10, 3) := by decide +kernel
theorem dX0_popContext_19 : decode cX0_popContext 19 = .ok (.aload_n 0, 1) := by decide +kernel
theorem dX0_popContext_20 : decode cX0_popContext 20 = .ok (.getfield 27, 3) := by decide +kernel
theorem dX0_popContext_23 : decode cX0_popContext 23 = .ok (.invokevirtual 78, 3) := by decide +kernel
theorem dX0_popContext_26 : decode cX0_popContext 26 = .ok (.return_, 1) := by decide +kernel
set_option maxHeartbeats 8000000 in
set_option maxRecDepth 100000 in
theorem a_C_popContext (l : Launch) (D : va_G) (g : Nat → ClassId)   (sz : Nat) (h : Nat) (ca : Nat → Nat) (ci : Nat → Int32) (cr : Nat → Nat) (cf : Nat → Nat → Int32) (da : Nat → Nat) (ph : Nat) (dr : Nat → Nat) (df : Nat → Nat → Int32) (pa : Nat → Nat) (pr : Nat → Nat) (pf : Nat → Nat → Int32) (n1 : Int32) (hw_c : ∀ k, cr k ≤ coW_lim k) (hw_d : ∀ k, dr k ≤ cdW_lim k) (hw_p : ∀ k, pr k ≤ pgW_lim k) : vz_Mv l D (tyG g) yX0_popContext cX0_popContext 2 1 23 0 0 [.ref h, .int n1] sz (vz_w [coW g h ca ci cr cf (da 0) (da 2) ph, cdW g da dr df, pgW g ph pa pr pf]) (fun u : (Nat → Int32) × (Nat → Nat) => (∀ k, u.2 k ≤ coW_lim k)) (fun u => vz_w [coW g h ca u.1 u.2 cf (da 0) (da 2) ph, cdW g da dr df, pgW g ph pa pr pf]) := by
  refine vz_svQ (by decide) (Nat.le_of_ble_eq_true rfl) (fun p e s m args below meth c hx hb hr hml hts hown hlk hin hK hsz A hA H locs hP hD hS ls hl Q hQ => ?_)
  have hl : lv_has ls 2 [(0, .ref h), (1, .int n1)] := hl
  have J26 : ∀ (ci_26 : Nat → Int32), ∀ (cr_26 : Nat → Nat), (∀ k, cr_26 k ≤ coW_lim k) → ∀ (H : Heap) (locs : List Loc) (ls : Array Slot), va_P D vwCl (vz_w [coW g h ca ci_26 cr_26 cf (da 0) (da 2) ph, cdW g da dr df, pgW g ph pa pr pf]) H → va_D A (vz_w [coW g h ca ci_26 cr_26 cf (da 0) (da 2) ph, cdW g da dr df, pgW g ph pa pr pf]) → va_S A s.heap H locs → lv_has ls 2 [(0, .ref h), (1, .int n1)] → W p l e { frames := 1, cells := 0, slots := 0, locals := 23 } s m args below meth c H locs 0 0 Q (F0 m 26 ls []) := by
    intro ci_26 cr_26 hw_c_26 H locs ls hP hD hS hl
    rw [hQ]
    exact vz_vret3 hx hb hr hlk hK hP hD hS (ci_26, cr_26) hw_c_26 rfl (Nat.le_refl 0) (Nat.le_refl 0) dX0_popContext_26
  refine lv_aload_n hx hb dX0_popContext_0 rfl (lv_at hl 0 rfl) ?_
  refine lv_aload_n hx hb dX0_popContext_1 rfl (lv_at hl 0 rfl) ?_
  refine va_get (D := D) (ci := 0) (v := .ref (ca 0)) (C := RX0) (T := TX0) (N := 8) hx hb hts inlX0 hown hK hP 0 rfl rfl 2 (by decide) (hts _ q112) (fun _ h => h) rfl dX0_popContext_2 ?_
  refine lv_iload_n hx hb dX0_popContext_5 rfl (lv_at hl 1 rfl) ?_
  refine lv_iconst (v := 2) hx hb dX0_popContext_6 (by decide) ?_
  refine vz_Vi2 (ws' := fun u : Unit => vz_w [coW g h ca ci cr cf (da 0) (da 2) ph, cdW g da dr df, pgW g ph pa pr pf]) (As := [.int n1, .int 2]) (rest := [.ref h]) hx hb hml hown hts hK hA hP hD hS (c_T_get l D g (ca 0) (ca 1) H.size 6 64 (cr 0) 384 (cf 0) n1 2 ⟨rfl, by decide, by decide, by decide, by decide, hw_c 0⟩) kv_X0_63 ⟨Nat.le_of_ble_eq_true rfl, Nat.le_of_ble_eq_true rfl⟩ (q0 := 1) (ci := 6) rfl rfl rfl [1, 2] rfl (by decide) (fun _ => rfl) (fun _ => rfl) hl.1 (Nat.le_of_ble_eq_true rfl) dX0_popContext_7 ⟨Nat.le_refl _, Nat.le_refl _⟩ rfl (fun v1 _ H locs he2 _ hP hD hS => ?_)
  refine va_put (D := D) (ci := 0) (v := .int v1) (ty := .int) (C := RX0) (T := TX0) (N := 8) hx hb hts inlX0 tyX0 tyX0_ok nmX0 hown hK hP hD hS 0 rfl rfl 7 (by decide) (hts _ q623) (fun _ h => h) rfl (by decide +kernel) rfl rfl (Nat.le_of_ble_eq_true rfl) dX0_popContext_10 (fun H locs hP hD hS => ?_)
  obtain ⟨ci_3, hci_3, hP, hD⟩ : ∃ ci_3 : Nat → Int32, (ci_3 = (upd ci 3 v1)) ∧ va_P D vwCl (vz_w [coW g h ca ci_3 cr cf (da 0) (da 2) ph, cdW g da dr df, pgW g ph pa pr pf]) H ∧ va_D A (vz_w [coW g h ca ci_3 cr cf (da 0) (da 2) ph, cdW g da dr df, pgW g ph pa pr pf]) := ⟨(upd ci 3 v1), rfl, hP, hD⟩
  refine lv_iload_n hx hb dX0_popContext_13 rfl (lv_at hl 1 rfl) ?_
  refine lv_bipush (v := (-9)) hx hb dX0_popContext_14 (by decide) ?_
  refine lv_icmp_eq (tgt := 26) hx hb dX0_popContext_16 (by decide) (fun kc4 => ?_) (fun kc4 => ?_)
  · exact J26 ci_3 cr hw_c H locs ls hP hD hS (lv_sub hl [0, 1] rfl)
  · refine lv_aload_n hx hb dX0_popContext_19 rfl (lv_at hl 0 rfl) ?_
    refine va_get (D := D) (ci := 0) (v := .ref (ca 0)) (C := RX0) (T := TX0) (N := 8) hx hb hts inlX0 hown hK hP 0 rfl rfl 2 (by decide) (hts _ q112) (fun _ h => h) rfl dX0_popContext_20 ?_
    refine vz_Vv2 (ws' := fun u : Nat => vz_w [coW g h ca ci_3 (vz_un cr 0 u) cf (da 0) (da 2) ph, cdW g da dr df, pgW g ph pa pr pf]) (As := []) (rest := []) hx hb hml hown hts hK hA hP hD hS (c_T_drop l D g (ca 0) (ca 1) H.size (nI 6) (nI 64) (cr 0) (Nat.lt_of_le_of_lt (hw_c 0) (by decide))) kv_X0_78 ⟨Nat.le_of_ble_eq_true rfl, Nat.le_of_ble_eq_true rfl⟩ (q0 := 1) (ci := 6) rfl rfl rfl [1] rfl (by decide) (fun _ => rfl) (fun _ => rfl) hl.1 (Nat.le_of_ble_eq_true rfl) dX0_popContext_23 ⟨Nat.le_refl _, Nat.le_refl _⟩ rfl (fun u5 H locs ha6 _ hP hD hS => ?_)
    obtain ⟨cr_7, hw_cr_7, hP, hD⟩ : ∃ cr_7 : Nat → Nat, (∀ k, cr_7 k ≤ coW_lim k) ∧ va_P D vwCl (vz_w [coW g h ca ci_3 cr_7 cf (da 0) (da 2) ph, cdW g da dr df, pgW g ph pa pr pf]) H ∧ va_D A (vz_w [coW g h ca ci_3 cr_7 cf (da 0) (da 2) ph, cdW g da dr df, pgW g ph pa pr pf]) := ⟨(vz_un cr 0 u5), (vz_wf hw_c (t := 0) (v := u5) (Nat.le_trans ha6 (hw_c 0))), hP, hD⟩
    exact J26 ci_3 cr_7 hw_cr_7 H locs ls hP hD hS (lv_sub hl [0, 1] rfl)
theorem q108 : Cond.fieldLink RX0 9 "WaysAtlas$Coder" "program" "LWaysAtlas$Program;" ∈ wsL_law := mT_1 (List.mem_of_getElem? (i := 176) rfl) rfl
theorem q631 : Cond.fieldLink RX0 81 "WaysAtlas$Program" "statements" "LWaysAtlas$Table;" ∈ wsL_law := mT_1 (List.mem_of_getElem? (i := 84) rfl) rfl
theorem dX0_levelOf_0 : decode cX0_levelOf 0 = .ok (.aload_n 0, 1) := by decide +kernel
theorem dX0_levelOf_1 : decode cX0_levelOf 1 = .ok (.getfield 9, 3) := by decide +kernel
theorem dX0_levelOf_4 : decode cX0_levelOf 4 = .ok (.getfield 81, 3) := by decide +kernel
theorem dX0_levelOf_7 : decode cX0_levelOf 7 = .ok (.iload_n 1, 1) := by decide +kernel
theorem dX0_levelOf_8 : decode cX0_levelOf 8 = .ok (.bipush 9, 2) := by decide +kernel
theorem dX0_levelOf_10 : decode cX0_levelOf 10 = .ok (.invokevirtual 63, 3) := by decide +kernel
theorem dX0_levelOf_13 : decode cX0_levelOf 13 = .ok (.ireturn, 1) := by decide +kernel
set_option maxHeartbeats 8000000 in
set_option maxRecDepth 100000 in
theorem a_C_levelOf (l : Launch) (D : va_G) (g : Nat → ClassId)   (sz : Nat) (h : Nat) (ca : Nat → Nat) (ci : Nat → Int32) (cr : Nat → Nat) (cf : Nat → Nat → Int32) (da : Nat → Nat) (ph : Nat) (dr : Nat → Nat) (df : Nat → Nat → Int32) (pa : Nat → Nat) (pr : Nat → Nat) (pf : Nat → Nat → Int32) (n1 : Int32) (hw_c : ∀ k, cr k ≤ coW_lim k) (hw_d : ∀ k, dr k ≤ cdW_lim k) (hw_p : ∀ k, pr k ≤ pgW_lim k) : vz_Mi l D (tyG g) yX0_levelOf cX0_levelOf 2 1 23 0 0 .int [.ref h, .int n1] sz (vz_w [coW g h ca ci cr cf (da 0) (da 2) ph, cdW g da dr df, pgW g ph pa pr pf]) (fun r (u : Unit) => True) (fun u => vz_w [coW g h ca ci cr cf (da 0) (da 2) ph, cdW g da dr df, pgW g ph pa pr pf]) := by
  refine vz_siQ (by decide) (Nat.le_of_ble_eq_true rfl) (fun p e s m args below meth c hx hb hr hml hts hown hlk hin hK hsz A hA H locs hP hD hS ls hl Q hQ => ?_)
  have hl : lv_has ls 2 [(0, .ref h), (1, .int n1)] := hl
  refine lv_aload_n hx hb dX0_levelOf_0 rfl (lv_at hl 0 rfl) ?_
  refine va_get (D := D) (ci := 0) (v := .ref ph) (C := RX0) (T := TX0) (N := 8) hx hb hts inlX0 hown hK hP 0 rfl rfl 3 (by decide) (hts _ q108) (fun _ h => h) rfl dX0_levelOf_1 ?_
  refine va_get (D := D) (ci := 2) (v := .ref (pa 0)) (C := RX2) (T := TX2) (N := 5) hx hb hts inlX2 hown hK hP 7 rfl rfl 0 (by decide) (hts _ q631) (fun _ h => h) rfl dX0_levelOf_4 ?_
  refine lv_iload_n hx hb dX0_levelOf_7 rfl (lv_at hl 1 rfl) ?_
  refine lv_bipush (v := 9) hx hb dX0_levelOf_8 (by decide) ?_
  refine vz_Vi2 (ws' := fun u : Unit => vz_w [coW g h ca ci cr cf (da 0) (da 2) ph, cdW g da dr df, pgW g ph pa pr pf]) (As := [.int n1, .int 9]) (rest := []) hx hb hml hown hts hK hA hP hD hS (c_T_get l D g (pa 0) (pa 1) H.size 12 80 (pr 0) 960 (pf 0) n1 9 ⟨rfl, by decide, by decide, by decide, by decide, hw_p 0⟩) kv_X0_63 ⟨Nat.le_of_ble_eq_true rfl, Nat.le_of_ble_eq_true rfl⟩ (q0 := 8) (ci := 6) rfl rfl rfl [8, 9] rfl (by decide) (fun _ => rfl) (fun _ => rfl) hl.1 (Nat.le_of_ble_eq_true rfl) dX0_levelOf_10 ⟨Nat.le_refl _, Nat.le_refl _⟩ rfl (fun v1 _ H locs he2 _ hP hD hS => ?_)
  rw [hQ]
  exact vz_iret3 hx hb hr hlk hK hP hD hS () trivial rfl (Nat.le_refl 0) (Nat.le_refl 0) dX0_levelOf_13
theorem dX0_contextOf_0 : decode cX0_contextOf 0 = .ok (.aload_n 0, 1) := by decide +kernel
theorem dX0_contextOf_1 : decode cX0_contextOf 1 = .ok (.getfield 60, 3) := by decide +kernel
theorem dX0_contextOf_4 : decode cX0_contextOf 4 = .ok (.istore_n 2, 1) := by decide +kernel
theorem dX0_contextOf_5 : decode cX0_contextOf 5 = .ok (.iconst 0, 1) := by decide +kernel
theorem dX0_contextOf_6 : decode cX0_contextOf 6 = .ok (.istore_n 3, 1) := by decide +kernel
theorem dX0_contextOf_7 : decode cX0_contextOf 7 = .ok (.iload_n 3, 1) := by decide +kernel
theorem dX0_contextOf_8 : decode cX0_contextOf 8 = .ok (.bipush 64, 2) := by decide +kernel
theorem dX0_contextOf_10 : decode cX0_contextOf 10 = .ok (.if_icmp .ge 52, 3) := by decide +kernel
theorem dX0_contextOf_13 : decode cX0_contextOf 13 = .ok (.iload_n 2, 1) := by decide +kernel
theorem dX0_contextOf_14 : decode cX0_contextOf 14 = .ok (.bipush (-9), 2) := by decide +kernel
theorem dX0_contextOf_16 : decode cX0_contextOf 16 = .ok (.if_icmp .eq 46, 3) := by decide +kernel
theorem dX0_contextOf_19 : decode cX0_contextOf 19 = .ok (.aload_n 0, 1) := by decide +kernel
theorem dX0_contextOf_20 : decode cX0_contextOf 20 = .ok (.getfield 27, 3) := by decide +kernel
theorem dX0_contextOf_23 : decode cX0_contextOf 23 = .ok (.iload_n 2, 1) := by decide +kernel
theorem dX0_contextOf_24 : decode cX0_contextOf 24 = .ok (.iconst 0, 1) := by decide +kernel
theorem dX0_contextOf_25 : decode cX0_contextOf 25 = .ok (.invokevirtual 63, 3) := by decide +kernel
theorem dX0_contextOf_28 : decode cX0_contextOf 28 = .ok (.ifCond .ne 18, 3) := by decide +kernel
theorem dX0_contextOf_31 : decode cX0_contextOf 31 = .ok (.aload_n 0, 1) := by decide +kernel
theorem dX0_contextOf_32 : decode cX0_contextOf 32 = .ok (.getfield 27, 3) := by decide +kernel
theorem dX0_contextOf_35 : decode cX0_contextOf 35 = .ok (.iload_n 2, 1) := by decide +kernel
theorem dX0_contextOf_36 : decode cX0_contextOf 36 = .ok (.iconst 1, 1) := by decide +kernel
theorem dX0_contextOf_37 : decode cX0_contextOf 37 = .ok (.invokevirtual 63, 3) := by decide +kernel
theorem dX0_contextOf_40 : decode cX0_contextOf 40 = .ok (.iload_n 1, 1) := by decide +kernel
theorem dX0_contextOf_41 : decode cX0_contextOf 41 = .ok (.if_icmp .ne 5, 3) := by decide +kernel
theorem dX0_contextOf_44 : decode cX0_contextOf 44 = .ok (.iload_n 2, 1) := by decide +kernel
theorem dX0_contextOf_45 : decode cX0_contextOf 45 = .ok (.ireturn, 1) := by decide +kernel
theorem dX0_contextOf_46 : decode cX0_contextOf 46 = .ok (.aload_n 0, 1) := by decide +kernel
theorem dX0_contextOf_47 : decode cX0_contextOf 47 = .ok (.getfield 27, 3) := by decide +kernel
theorem dX0_contextOf_50 : decode cX0_contextOf 50 = .ok (.iload_n 2, 1) := by decide +kernel
theorem dX0_contextOf_51 : decode cX0_contextOf 51 = .ok (.iconst 2, 1) := by decide +kernel
theorem dX0_contextOf_52 : decode cX0_contextOf 52 = .ok (.invokevirtual 63, 3) := by decide +kernel
theorem dX0_contextOf_55 : decode cX0_contextOf 55 = .ok (.istore_n 2, 1) := by decide +kernel
theorem dX0_contextOf_56 : decode cX0_contextOf 56 = .ok (.iinc 3 1, 3) := by decide +kernel
theorem dX0_contextOf_59 : decode cX0_contextOf 59 = .ok (.goto (-52), 3) := by decide +kernel
theorem dX0_contextOf_62 : decode cX0_contextOf 62 = .ok (.bipush (-9), 2) := by decide +kernel
theorem dX0_contextOf_64 : decode cX0_contextOf 64 = .ok (.ireturn, 1) := by decide +kernel
set_option maxHeartbeats 8000000 in
set_option maxRecDepth 100000 in
theorem a_C_contextOf (l : Launch) (D : va_G) (g : Nat → ClassId)   (sz : Nat) (h : Nat) (ca : Nat → Nat) (ci : Nat → Int32) (cr : Nat → Nat) (cf : Nat → Nat → Int32) (da : Nat → Nat) (ph : Nat) (dr : Nat → Nat) (df : Nat → Nat → Int32) (pa : Nat → Nat) (pr : Nat → Nat) (pf : Nat → Nat → Int32) (n1 : Int32) (hw_c : ∀ k, cr k ≤ coW_lim k) (hw_d : ∀ k, dr k ≤ cdW_lim k) (hw_p : ∀ k, pr k ≤ pgW_lim k) : vz_Mi l D (tyG g) yX0_contextOf cX0_contextOf 4 1 23 0 0 .int [.ref h, .int n1] sz (vz_w [coW g h ca ci cr cf (da 0) (da 2) ph, cdW g da dr df, pgW g ph pa pr pf]) (fun r (u : Unit) => True) (fun u => vz_w [coW g h ca ci cr cf (da 0) (da 2) ph, cdW g da dr df, pgW g ph pa pr pf]) := by
  refine vz_siQ (by decide) (Nat.le_of_ble_eq_true rfl) (fun p e s m args below meth c hx hb hr hml hts hown hlk hin hK hsz A hA H locs hP hD hS ls hl Q hQ => ?_)
  have hl : lv_has ls 4 [(0, .ref h), (1, .int n1)] := hl
  have J62 : ∀ (x2_62 : Int32), ∀ (x3_62 : Int32), ∀ (H : Heap) (locs : List Loc) (ls : Array Slot), va_P D vwCl (vz_w [coW g h ca ci cr cf (da 0) (da 2) ph, cdW g da dr df, pgW g ph pa pr pf]) H → va_D A (vz_w [coW g h ca ci cr cf (da 0) (da 2) ph, cdW g da dr df, pgW g ph pa pr pf]) → va_S A s.heap H locs → lv_has ls 4 [(0, .ref h), (1, .int n1), (2, .int x2_62), (3, .int x3_62)] → W p l e { frames := 1, cells := 0, slots := 0, locals := 23 } s m args below meth c H locs 0 0 Q (F0 m 62 ls []) := by
    intro x2_62 x3_62 H locs ls hP hD hS hl
    refine lv_bipush (v := (-9)) hx hb dX0_contextOf_62 (by decide) ?_
    rw [hQ]
    exact vz_iret3 hx hb hr hlk hK hP hD hS () trivial rfl (Nat.le_refl 0) (Nat.le_refl 0) dX0_contextOf_64
  have J7 : ∀ (fu7 n7 : Nat), 64 - n7 < fu7 → n7 ≤ 64 → ∀ (x2_7 : Int32), ∀ (H : Heap) (locs : List Loc) (ls : Array Slot), va_P D vwCl (vz_w [coW g h ca ci cr cf (da 0) (da 2) ph, cdW g da dr df, pgW g ph pa pr pf]) H → va_D A (vz_w [coW g h ca ci cr cf (da 0) (da 2) ph, cdW g da dr df, pgW g ph pa pr pf]) → va_S A s.heap H locs → lv_has ls 4 [(0, .ref h), (1, .int n1), (2, .int x2_7), (3, .int (nI n7))] → W p l e { frames := 1, cells := 0, slots := 0, locals := 23 } s m args below meth c H locs 0 0 Q (F0 m 7 ls []) := by
    intro fu7
    induction fu7 with
    | zero => intro n7 z; omega
    | succ fu7 ih7 =>
      intro n7 hf7 hb7 x2_7 H locs ls hP hD hS hl
      have J46 : n7 < 64 → ∀ (H : Heap) (locs : List Loc) (ls : Array Slot), va_P D vwCl (vz_w [coW g h ca ci cr cf (da 0) (da 2) ph, cdW g da dr df, pgW g ph pa pr pf]) H → va_D A (vz_w [coW g h ca ci cr cf (da 0) (da 2) ph, cdW g da dr df, pgW g ph pa pr pf]) → va_S A s.heap H locs → lv_has ls 4 [(0, .ref h), (1, .int n1), (2, .int x2_7), (3, .int (nI n7))] → W p l e { frames := 1, cells := 0, slots := 0, locals := 23 } s m args below meth c H locs 0 0 Q (F0 m 46 ls []) := by
        intro hn7 H locs ls hP hD hS hl
        refine lv_aload_n hx hb dX0_contextOf_46 rfl (lv_at hl 0 rfl) ?_
        refine va_get (D := D) (ci := 0) (v := .ref (ca 0)) (C := RX0) (T := TX0) (N := 8) hx hb hts inlX0 hown hK hP 0 rfl rfl 2 (by decide) (hts _ q112) (fun _ h => h) rfl dX0_contextOf_47 ?_
        refine lv_iload_n hx hb dX0_contextOf_50 rfl (lv_at hl 2 rfl) ?_
        refine lv_iconst (v := 2) hx hb dX0_contextOf_51 (by decide) ?_
        refine vz_Vi2 (ws' := fun u : Unit => vz_w [coW g h ca ci cr cf (da 0) (da 2) ph, cdW g da dr df, pgW g ph pa pr pf]) (As := [.int x2_7, .int 2]) (rest := []) hx hb hml hown hts hK hA hP hD hS (c_T_get l D g (ca 0) (ca 1) H.size 6 64 (cr 0) 384 (cf 0) x2_7 2 ⟨rfl, by decide, by decide, by decide, by decide, hw_c 0⟩) kv_X0_63 ⟨Nat.le_of_ble_eq_true rfl, Nat.le_of_ble_eq_true rfl⟩ (q0 := 1) (ci := 6) rfl rfl rfl [1, 2] rfl (by decide) (fun _ => rfl) (fun _ => rfl) hl.1 (Nat.le_of_ble_eq_true rfl) dX0_contextOf_52 ⟨Nat.le_refl _, Nat.le_refl _⟩ rfl (fun v1 _ H locs he2 _ hP hD hS => ?_)
        refine lv_istore_n (lv' := [(2, .int v1), (0, .ref h), (1, .int n1), (3, .int (nI n7))]) hx hb dX0_contextOf_55 rfl hl (by decide) rfl (fun ls hl => ?_)
        refine lv_iinc (v := (nI (n7 + 1))) (lv' := [(3, .int (nI (n7 + 1))), (2, .int v1), (0, .ref h), (1, .int n1)]) hx hb dX0_contextOf_56 hl (k := 3) rfl (nI_1 n7) (by decide) rfl (fun ls hl => ?_)
        refine lv_goto (tgt := 7) hx hb dX0_contextOf_59 (by decide) ?_
        exact ih7 (n7 + 1) (by omega) (by omega) v1 H locs ls hP hD hS (lv_sub hl [2, 3, 1, 0] rfl)
      refine lv_iload_n hx hb dX0_contextOf_7 rfl (lv_at hl 3 rfl) ?_
      refine lv_bipush (v := 64) hx hb dX0_contextOf_8 (by decide) ?_
      refine lv_icmp_ge (tgt := 62) hx hb dX0_contextOf_10 (by decide) (fun kc1 => ?_) (fun kc1 => ?_)
      · exact J62 x2_7 (nI n7) H locs ls hP hD hS (lv_sub hl [0, 1, 2, 3] rfl)
      · have hn7 : n7 < 64 := vz_ltge (B := 64) (by omega) kc1
        refine lv_iload_n hx hb dX0_contextOf_13 rfl (lv_at hl 2 rfl) ?_
        refine lv_bipush (v := (-9)) hx hb dX0_contextOf_14 (by decide) ?_
        refine lv_icmp_eq (tgt := 62) hx hb dX0_contextOf_16 (by decide) (fun kc2 => ?_) (fun kc2 => ?_)
        · exact J62 x2_7 (nI n7) H locs ls hP hD hS (lv_sub hl [0, 1, 2, 3] rfl)
        · refine lv_aload_n hx hb dX0_contextOf_19 rfl (lv_at hl 0 rfl) ?_
          refine va_get (D := D) (ci := 0) (v := .ref (ca 0)) (C := RX0) (T := TX0) (N := 8) hx hb hts inlX0 hown hK hP 0 rfl rfl 2 (by decide) (hts _ q112) (fun _ h => h) rfl dX0_contextOf_20 ?_
          refine lv_iload_n hx hb dX0_contextOf_23 rfl (lv_at hl 2 rfl) ?_
          refine lv_iconst (v := 0) hx hb dX0_contextOf_24 (by decide) ?_
          refine vz_Vi2 (ws' := fun u : Unit => vz_w [coW g h ca ci cr cf (da 0) (da 2) ph, cdW g da dr df, pgW g ph pa pr pf]) (As := [.int x2_7, .int 0]) (rest := []) hx hb hml hown hts hK hA hP hD hS (c_T_get l D g (ca 0) (ca 1) H.size 6 64 (cr 0) 384 (cf 0) x2_7 0 ⟨rfl, by decide, by decide, by decide, by decide, hw_c 0⟩) kv_X0_63 ⟨Nat.le_of_ble_eq_true rfl, Nat.le_of_ble_eq_true rfl⟩ (q0 := 1) (ci := 6) rfl rfl rfl [1, 2] rfl (by decide) (fun _ => rfl) (fun _ => rfl) hl.1 (Nat.le_of_ble_eq_true rfl) dX0_contextOf_25 ⟨Nat.le_refl _, Nat.le_refl _⟩ rfl (fun v3 _ H locs he4 _ hP hD hS => ?_)
          refine lv_if_ne (tgt := 46) hx hb dX0_contextOf_28 (by decide) (fun kc5 => ?_) (fun kc5 => ?_)
          · exact J46 hn7 H locs ls hP hD hS (lv_sub hl [0, 1, 2, 3] rfl)
          · refine lv_aload_n hx hb dX0_contextOf_31 rfl (lv_at hl 0 rfl) ?_
            refine va_get (D := D) (ci := 0) (v := .ref (ca 0)) (C := RX0) (T := TX0) (N := 8) hx hb hts inlX0 hown hK hP 0 rfl rfl 2 (by decide) (hts _ q112) (fun _ h => h) rfl dX0_contextOf_32 ?_
            refine lv_iload_n hx hb dX0_contextOf_35 rfl (lv_at hl 2 rfl) ?_
            refine lv_iconst (v := 1) hx hb dX0_contextOf_36 (by decide) ?_
            refine vz_Vi2 (ws' := fun u : Unit => vz_w [coW g h ca ci cr cf (da 0) (da 2) ph, cdW g da dr df, pgW g ph pa pr pf]) (As := [.int x2_7, .int 1]) (rest := []) hx hb hml hown hts hK hA hP hD hS (c_T_get l D g (ca 0) (ca 1) H.size 6 64 (cr 0) 384 (cf 0) x2_7 1 ⟨rfl, by decide, by decide, by decide, by decide, hw_c 0⟩) kv_X0_63 ⟨Nat.le_of_ble_eq_true rfl, Nat.le_of_ble_eq_true rfl⟩ (q0 := 1) (ci := 6) rfl rfl rfl [1, 2] rfl (by decide) (fun _ => rfl) (fun _ => rfl) hl.1 (Nat.le_of_ble_eq_true rfl) dX0_contextOf_37 ⟨Nat.le_refl _, Nat.le_refl _⟩ rfl (fun v6 _ H locs he7 _ hP hD hS => ?_)
            refine lv_iload_n hx hb dX0_contextOf_40 rfl (lv_at hl 1 rfl) ?_
            refine lv_icmp_ne (tgt := 46) hx hb dX0_contextOf_41 (by decide) (fun kc8 => ?_) (fun kc8 => ?_)
            · exact J46 hn7 H locs ls hP hD hS (lv_sub hl [0, 1, 2, 3] rfl)
            · refine lv_iload_n hx hb dX0_contextOf_44 rfl (lv_at hl 2 rfl) ?_
              rw [hQ]
              exact vz_iret3 hx hb hr hlk hK hP hD hS () trivial rfl (Nat.le_refl 0) (Nat.le_refl 0) dX0_contextOf_45
  refine lv_aload_n hx hb dX0_contextOf_0 rfl (lv_at hl 0 rfl) ?_
  refine va_get (D := D) (ci := 0) (v := .int (ci 3)) (C := RX0) (T := TX0) (N := 8) hx hb hts inlX0 hown hK hP 0 rfl rfl 7 (by decide) (hts _ q623) (fun _ h => h) rfl dX0_contextOf_1 ?_
  refine lv_istore_n (lv' := [(2, .int (ci 3)), (0, .ref h), (1, .int n1)]) hx hb dX0_contextOf_4 rfl hl (by decide) rfl (fun ls hl => ?_)
  refine lv_iconst (v := 0) hx hb dX0_contextOf_5 (by decide) ?_
  refine lv_istore_n (lv' := [(3, .int 0), (2, .int (ci 3)), (0, .ref h), (1, .int n1)]) hx hb dX0_contextOf_6 rfl hl (by decide) rfl (fun ls hl => ?_)
  exact J7 (65) 0 (by omega) (by omega) (ci 3) H locs ls hP hD hS (lv_sub hl [2, 3, 1, 0] rfl)
theorem q641 : Cond.methodLink RX0 70 yX0_emit ∈ wsL_law := mT_4 (List.mem_of_getElem? (i := 59) rfl) rfl
theorem q642 : Cond.instanceMethod yX0_emit ∈ wsL_law := mT_4 (List.mem_of_getElem? (i := 61) rfl) rfl
theorem q643 : Cond.selects RX0 yX0_emit yX0_emit ∈ wsL_law := mS_3 (q := (yX0_emit, 8)) (List.mem_of_getElem? (i := 6) rfl) rfl
theorem q33 : Cond.initialized RX0 ∈ wsL_law := mT_1 (List.mem_of_getElem? (i := 7) rfl) rfl
theorem q644 : Cond.code yX0_emit cX0_emit 5 (some .int) ∈ wsL_law := mT_4 (List.mem_of_getElem? (i := 62) rfl) rfl
theorem kv_X0_70 : vz_cv RX0 70 yX0_emit cX0_emit 5 (some .int) 3 := ⟨q641, q642, q643, q33, q644, by decide +kernel⟩
theorem dX0_writePlain_0 : decode cX0_writePlain 0 = .ok (.aload_n 0, 1) := by decide +kernel
theorem dX0_writePlain_1 : decode cX0_writePlain 1 = .ok (.getfield 9, 3) := by decide +kernel
theorem dX0_writePlain_4 : decode cX0_writePlain 4 = .ok (.getfield 81, 3) := by decide +kernel
theorem dX0_writePlain_7 : decode cX0_writePlain 7 = .ok (.iload_n 1, 1) := by decide +kernel
theorem dX0_writePlain_8 : decode cX0_writePlain 8 = .ok (.iconst 1, 1) := by decide +kernel
theorem dX0_writePlain_9 : decode cX0_writePlain 9 = .ok (.invokevirtual 63, 3) := by decide +kernel
theorem dX0_writePlain_12 : decode cX0_writePlain 12 = .ok (.istore_n 2, 1) := by decide +kernel
theorem dX0_writePlain_13 : decode cX0_writePlain 13 = .ok (.aload_n 0, 1) := by decide +kernel
theorem dX0_writePlain_14 : decode cX0_writePlain 14 = .ok (.getfield 9, 3) := by decide +kernel
theorem dX0_writePlain_17 : decode cX0_writePlain 17 = .ok (.getfield 81, 3) := by decide +kernel
theorem dX0_writePlain_20 : decode cX0_writePlain 20 = .ok (.iload_n 1, 1) := by decide +kernel
theorem dX0_writePlain_21 : decode cX0_writePlain 21 = .ok (.iconst 2, 1) := by decide +kernel
theorem dX0_writePlain_22 : decode cX0_writePlain 22 = .ok (.invokevirtual 63, 3) := by decide +kernel
theorem dX0_writePlain_25 : decode cX0_writePlain 25 = .ok (.istore_n 3, 1) := by decide +kernel
theorem dX0_writePlain_26 : decode cX0_writePlain 26 = .ok (.aload_n 0, 1) := by decide +kernel
theorem dX0_writePlain_27 : decode cX0_writePlain 27 = .ok (.getfield 9, 3) := by decide +kernel
theorem dX0_writePlain_30 : decode cX0_writePlain 30 = .ok (.getfield 81, 3) := by decide +kernel
theorem dX0_writePlain_33 : decode cX0_writePlain 33 = .ok (.iload_n 1, 1) := by decide +kernel
theorem dX0_writePlain_34 : decode cX0_writePlain 34 = .ok (.iconst 0, 1) := by decide +kernel
theorem dX0_writePlain_35 : decode cX0_writePlain 35 = .ok (.invokevirtual 63, 3) := by decide +kernel
theorem dX0_writePlain_38 : decode cX0_writePlain 38 = .ok (.tableswitch 214 0 14 #[74, 182, 86, 98, 110, 122, 134, 214, 214, 214, 214, 214, 146, 158, 170], 74) := by decide +kernel
theorem dX0_writePlain_112 : decode cX0_writePlain 112 = .ok (.aload_n 0, 1) := by decide +kernel
theorem dX0_writePlain_113 : decode cX0_writePlain 113 = .ok (.bipush 7, 2) := by decide +kernel
theorem dX0_writePlain_115 : decode cX0_writePlain 115 = .ok (.iload_n 1, 1) := by decide +kernel
theorem dX0_writePlain_116 : decode cX0_writePlain 116 = .ok (.iload_n 2, 1) := by decide +kernel
theorem dX0_writePlain_117 : decode cX0_writePlain 117 = .ok (.invokevirtual 70, 3) := by decide +kernel
theorem dX0_writePlain_120 : decode cX0_writePlain 120 = .ok (.pop, 1) := by decide +kernel
theorem dX0_writePlain_121 : decode cX0_writePlain 121 = .ok (.goto 131, 3) := by decide +kernel
theorem dX0_writePlain_124 : decode cX0_writePlain 124 = .ok (.aload_n 0, 1) := by decide +kernel
theorem dX0_writePlain_125 : decode cX0_writePlain 125 = .ok (.bipush 8, 2) := by decide +kernel
theorem dX0_writePlain_127 : decode cX0_writePlain 127 = .ok (.iload_n 2, 1) := by decide +kernel
theorem dX0_writePlain_128 : decode cX0_writePlain 128 = .ok (.iconst 0, 1) := by decide +kernel
theorem dX0_writePlain_129 : decode cX0_writePlain 129 = .ok (.invokevirtual 70, 3) := by decide +kernel
theorem dX0_writePlain_132 : decode cX0_writePlain 132 = .ok (.pop, 1) := by decide +kernel
theorem dX0_writePlain_133 : decode cX0_writePlain 133 = .ok (.goto 119, 3) := by decide +kernel
theorem dX0_writePlain_136 : decode cX0_writePlain 136 = .ok (.aload_n 0, 1) := by decide +kernel
theorem dX0_writePlain_137 : decode cX0_writePlain 137 = .ok (.bipush 10, 2) := by decide +kernel
theorem dX0_writePlain_139 : decode cX0_writePlain 139 = .ok (.iload_n 2, 1) := by decide +kernel
theorem dX0_writePlain_140 : decode cX0_writePlain 140 = .ok (.iconst 0, 1) := by decide +kernel
theorem dX0_writePlain_141 : decode cX0_writePlain 141 = .ok (.invokevirtual 70, 3) := by decide +kernel
theorem dX0_writePlain_144 : decode cX0_writePlain 144 = .ok (.pop, 1) := by decide +kernel
theorem dX0_writePlain_145 : decode cX0_writePlain 145 = .ok (.goto 107, 3) := by decide +kernel
theorem dX0_writePlain_148 : decode cX0_writePlain 148 = .ok (.aload_n 0, 1) := by decide +kernel
theorem dX0_writePlain_149 : decode cX0_writePlain 149 = .ok (.bipush 11, 2) := by decide +kernel
theorem dX0_writePlain_151 : decode cX0_writePlain 151 = .ok (.iload_n 2, 1) := by decide +kernel
theorem dX0_writePlain_152 : decode cX0_writePlain 152 = .ok (.iconst 0, 1) := by decide +kernel
theorem dX0_writePlain_153 : decode cX0_writePlain 153 = .ok (.invokevirtual 70, 3) := by decide +kernel
theorem dX0_writePlain_156 : decode cX0_writePlain 156 = .ok (.pop, 1) := by decide +kernel
theorem dX0_writePlain_157 : decode cX0_writePlain 157 = .ok (.goto 95, 3) := by decide +kernel
theorem dX0_writePlain_160 : decode cX0_writePlain 160 = .ok (.aload_n 0, 1) := by decide +kernel
theorem dX0_writePlain_161 : decode cX0_writePlain 161 = .ok (.bipush 12, 2) := by decide +kernel
theorem dX0_writePlain_163 : decode cX0_writePlain 163 = .ok (.iload_n 2, 1) := by decide +kernel
theorem dX0_writePlain_164 : decode cX0_writePlain 164 = .ok (.iload_n 3, 1) := by decide +kernel
theorem dX0_writePlain_165 : decode cX0_writePlain 165 = .ok (.invokevirtual 70, 3) := by decide +kernel
theorem dX0_writePlain_168 : decode cX0_writePlain 168 = .ok (.pop, 1) := by decide +kernel
theorem dX0_writePlain_169 : decode cX0_writePlain 169 = .ok (.goto 83, 3) := by decide +kernel
theorem dX0_writePlain_172 : decode cX0_writePlain 172 = .ok (.aload_n 0, 1) := by decide +kernel
theorem dX0_writePlain_173 : decode cX0_writePlain 173 = .ok (.bipush 13, 2) := by decide +kernel
theorem dX0_writePlain_175 : decode cX0_writePlain 175 = .ok (.iload_n 2, 1) := by decide +kernel
theorem dX0_writePlain_176 : decode cX0_writePlain 176 = .ok (.iconst 0, 1) := by decide +kernel
theorem dX0_writePlain_177 : decode cX0_writePlain 177 = .ok (.invokevirtual 70, 3) := by decide +kernel
theorem dX0_writePlain_180 : decode cX0_writePlain 180 = .ok (.pop, 1) := by decide +kernel
theorem dX0_writePlain_181 : decode cX0_writePlain 181 = .ok (.goto 71, 3) := by decide +kernel
theorem dX0_writePlain_184 : decode cX0_writePlain 184 = .ok (.aload_n 0, 1) := by decide +kernel
theorem dX0_writePlain_185 : decode cX0_writePlain 185 = .ok (.bipush 24, 2) := by decide +kernel
theorem dX0_writePlain_187 : decode cX0_writePlain 187 = .ok (.iload_n 2, 1) := by decide +kernel
theorem dX0_writePlain_188 : decode cX0_writePlain 188 = .ok (.iconst 0, 1) := by decide +kernel
theorem dX0_writePlain_189 : decode cX0_writePlain 189 = .ok (.invokevirtual 70, 3) := by decide +kernel
theorem dX0_writePlain_192 : decode cX0_writePlain 192 = .ok (.pop, 1) := by decide +kernel
theorem dX0_writePlain_193 : decode cX0_writePlain 193 = .ok (.goto 59, 3) := by decide +kernel
theorem dX0_writePlain_196 : decode cX0_writePlain 196 = .ok (.aload_n 0, 1) := by decide +kernel
theorem dX0_writePlain_197 : decode cX0_writePlain 197 = .ok (.bipush 25, 2) := by decide +kernel
theorem dX0_writePlain_199 : decode cX0_writePlain 199 = .ok (.iload_n 2, 1) := by decide +kernel
theorem dX0_writePlain_200 : decode cX0_writePlain 200 = .ok (.iload_n 3, 1) := by decide +kernel
theorem dX0_writePlain_201 : decode cX0_writePlain 201 = .ok (.invokevirtual 70, 3) := by decide +kernel
theorem dX0_writePlain_204 : decode cX0_writePlain 204 = .ok (.pop, 1) := by decide +kernel
theorem dX0_writePlain_205 : decode cX0_writePlain 205 = .ok (.goto 47, 3) := by decide +kernel
theorem dX0_writePlain_208 : decode cX0_writePlain 208 = .ok (.aload_n 0, 1) := by decide +kernel
theorem dX0_writePlain_209 : decode cX0_writePlain 209 = .ok (.bipush 26, 2) := by decide +kernel
theorem dX0_writePlain_211 : decode cX0_writePlain 211 = .ok (.iload_n 3, 1) := by decide +kernel
theorem dX0_writePlain_212 : decode cX0_writePlain 212 = .ok (.iconst 0, 1) := by decide +kernel
theorem dX0_writePlain_213 : decode cX0_writePlain 213 = .ok (.invokevirtual 70, 3) := by decide +kernel
theorem dX0_writePlain_216 : decode cX0_writePlain 216 = .ok (.pop, 1) := by decide +kernel
theorem dX0_writePlain_217 : decode cX0_writePlain 217 = .ok (.goto 35, 3) := by decide +kernel
theorem dX0_writePlain_220 : decode cX0_writePlain 220 = .ok (.aload_n 0, 1) := by decide +kernel
theorem dX0_writePlain_221 : decode cX0_writePlain 221 = .ok (.bipush 18, 2) := by decide +kernel
theorem dX0_writePlain_223 : decode cX0_writePlain 223 = .ok (.iload_n 2, 1) := by decide +kernel
theorem dX0_writePlain_224 : decode cX0_writePlain 224 = .ok (.iconst 0, 1) := by decide +kernel
theorem dX0_writePlain_225 : decode cX0_writePlain 225 = .ok (.invokevirtual 70, 3) := by decide +kernel
theorem dX0_writePlain_228 : decode cX0_writePlain 228 = .ok (.pop, 1) := by decide +kernel
theorem dX0_writePlain_229 : decode cX0_writePlain 229 = .ok (.aload_n 0, 1) := by decide +kernel
theorem dX0_writePlain_230 : decode cX0_writePlain 230 = .ok (.iload_n 3, 1) := by decide +kernel
theorem dX0_writePlain_231 : decode cX0_writePlain 231 = .ok (.bipush (-9), 2) := by decide +kernel
theorem dX0_writePlain_233 : decode cX0_writePlain 233 = .ok (.if_icmp .ne 8, 3) := by decide +kernel
theorem dX0_writePlain_236 : decode cX0_writePlain 236 = .ok (.bipush 9, 2) := by decide +kernel
theorem dX0_writePlain_238 : decode cX0_writePlain 238 = .ok (.goto 5, 3) := by decide +kernel
theorem dX0_writePlain_241 : decode cX0_writePlain 241 = .ok (.bipush 8, 2) := by decide +kernel
theorem dX0_writePlain_243 : decode cX0_writePlain 243 = .ok (.iload_n 3, 1) := by decide +kernel
theorem dX0_writePlain_244 : decode cX0_writePlain 244 = .ok (.iconst 0, 1) := by decide +kernel
theorem dX0_writePlain_245 : decode cX0_writePlain 245 = .ok (.invokevirtual 70, 3) := by decide +kernel
theorem dX0_writePlain_248 : decode cX0_writePlain 248 = .ok (.pop, 1) := by decide +kernel
theorem dX0_writePlain_249 : decode cX0_writePlain 249 = .ok (.goto 3, 3) := by decide +kernel
theorem dX0_writePlain_252 : decode cX0_writePlain 252 = .ok (.return_, 1) := by decide +kernel
set_option maxHeartbeats 8000000 in
set_option maxRecDepth 100000 in
theorem a_C_writePlain (l : Launch) (D : va_G) (g : Nat → ClassId)   (sz : Nat) (h : Nat) (ca : Nat → Nat) (ci : Nat → Int32) (cr : Nat → Nat) (cf : Nat → Nat → Int32) (da : Nat → Nat) (ph : Nat) (dr : Nat → Nat) (df : Nat → Nat → Int32) (pa : Nat → Nat) (pr : Nat → Nat) (pf : Nat → Nat → Int32) (n1 : Int32) (hw_c : ∀ k, cr k ≤ coW_lim k) (hw_d : ∀ k, dr k ≤ cdW_lim k) (hw_p : ∀ k, pr k ≤ pgW_lim k) : vz_Mv l D (tyG g) yX0_writePlain cX0_writePlain 4 2 48 0 0 [.ref h, .int n1] sz (vz_w [coW g h ca ci cr cf (da 0) (da 2) ph, cdW g da dr df, pgW g ph pa pr pf]) (fun u : (Nat → Int32) × (Nat → Nat) × (Nat → Nat → Int32) => (∀ k, u.2.1 k ≤ cdW_lim k)) (fun u => vz_w [coW g h ca u.1 cr cf (da 0) (da 2) ph, cdW g da u.2.1 u.2.2, pgW g ph pa pr pf]) := by
  refine vz_svQ (by decide) (Nat.le_of_ble_eq_true rfl) (fun p e s m args below meth c hx hb hr hml hts hown hlk hin hK hsz A hA H locs hP hD hS ls hl Q hQ => ?_)
  have hl : lv_has ls 4 [(0, .ref h), (1, .int n1)] := hl
  have J252 : ∀ (x2_252 : Int32), ∀ (x3_252 : Int32), ∀ (ci_252 : Nat → Int32), ∀ (dr_252 : Nat → Nat), ∀ (df_252 : Nat → Nat → Int32), (∀ k, dr_252 k ≤ cdW_lim k) → ∀ (H : Heap) (locs : List Loc) (ls : Array Slot), va_P D vwCl (vz_w [coW g h ca ci_252 cr cf (da 0) (da 2) ph, cdW g da dr_252 df_252, pgW g ph pa pr pf]) H → va_D A (vz_w [coW g h ca ci_252 cr cf (da 0) (da 2) ph, cdW g da dr_252 df_252, pgW g ph pa pr pf]) → va_S A s.heap H locs → lv_has ls 4 [(0, .ref h), (1, .int n1), (2, .int x2_252), (3, .int x3_252)] → W p l e { frames := 2, cells := 0, slots := 0, locals := 48 } s m args below meth c H locs 0 0 Q (F0 m 252 ls []) := by
    intro x2_252 x3_252 ci_252 dr_252 df_252 hw_d_252 H locs ls hP hD hS hl
    rw [hQ]
    exact vz_vret3 hx hb hr hlk hK hP hD hS (ci_252, dr_252, df_252) hw_d_252 rfl (Nat.le_refl 0) (Nat.le_refl 0) dX0_writePlain_252
  have J243 : ∀ (x2_243 : Int32), ∀ (x3_243 : Int32), ∀ (y0_243 : Int32), ∀ (ci_243 : Nat → Int32), ∀ (dr_243 : Nat → Nat), ∀ (df_243 : Nat → Nat → Int32), (∀ k, dr_243 k ≤ cdW_lim k) → ∀ (H : Heap) (locs : List Loc) (ls : Array Slot), va_P D vwCl (vz_w [coW g h ca ci_243 cr cf (da 0) (da 2) ph, cdW g da dr_243 df_243, pgW g ph pa pr pf]) H → va_D A (vz_w [coW g h ca ci_243 cr cf (da 0) (da 2) ph, cdW g da dr_243 df_243, pgW g ph pa pr pf]) → va_S A s.heap H locs → lv_has ls 4 [(0, .ref h), (1, .int n1), (2, .int x2_243), (3, .int x3_243)] → W p l e { frames := 2, cells := 0, slots := 0, locals := 48 } s m args below meth c H locs 0 0 Q (F0 m 243 ls [.int y0_243, .ref h]) := by
    intro x2_243 x3_243 y0_243 ci_243 dr_243 df_243 hw_d_243 H locs ls hP hD hS hl
    refine lv_iload_n hx hb dX0_writePlain_243 rfl (lv_at hl 3 rfl) ?_
    refine lv_iconst (v := 0) hx hb dX0_writePlain_244 (by decide) ?_
    refine vz_Vi3 (As := [.int y0_243, .int x3_243, .int 0]) (rest := []) hx hb hml hown hts hK hA hP hD hS (a_C_emit l D g H.size h ca ci_243 cr cf da ph dr_243 df_243 pa pr pf y0_243 x3_243 0 hw_c hw_d_243 hw_p) kv_X0_70 ⟨Nat.le_of_ble_eq_true rfl, Nat.le_of_ble_eq_true rfl⟩ (q0 := 0) (ci := 0) rfl rfl rfl  hl.1 (Nat.le_of_ble_eq_true rfl) dX0_writePlain_245 ⟨Nat.le_refl _, Nat.le_refl _⟩ rfl (fun v5 ⟨ci_1, dr_2, df_3⟩ H locs hw_4 _ hP hD hS => ?_)
    try dsimp only at hw_4
    replace hP : va_P D vwCl (vz_w [coW g h ca ci_1 cr cf (da 0) (da 2) ph, cdW g da dr_2 df_3, pgW g ph pa pr pf]) H := hP
    replace hD : va_D A (vz_w [coW g h ca ci_1 cr cf (da 0) (da 2) ph, cdW g da dr_2 df_3, pgW g ph pa pr pf]) := hD
    refine lv_pop hx hb dX0_writePlain_248 rfl ?_
    refine lv_goto (tgt := 252) hx hb dX0_writePlain_249 (by decide) ?_
    exact J252 x2_243 x3_243 ci_1 dr_2 df_3 hw_4 H locs ls hP hD hS (lv_sub hl [0, 1, 2, 3] rfl)
  refine lv_aload_n hx hb dX0_writePlain_0 rfl (lv_at hl 0 rfl) ?_
  refine va_get (D := D) (ci := 0) (v := .ref ph) (C := RX0) (T := TX0) (N := 8) hx hb hts inlX0 hown hK hP 0 rfl rfl 3 (by decide) (hts _ q108) (fun _ h => h) rfl dX0_writePlain_1 ?_
  refine va_get (D := D) (ci := 2) (v := .ref (pa 0)) (C := RX2) (T := TX2) (N := 5) hx hb hts inlX2 hown hK hP 7 rfl rfl 0 (by decide) (hts _ q631) (fun _ h => h) rfl dX0_writePlain_4 ?_
  refine lv_iload_n hx hb dX0_writePlain_7 rfl (lv_at hl 1 rfl) ?_
  refine lv_iconst (v := 1) hx hb dX0_writePlain_8 (by decide) ?_
  refine vz_Vi2 (ws' := fun u : Unit => vz_w [coW g h ca ci cr cf (da 0) (da 2) ph, cdW g da dr df, pgW g ph pa pr pf]) (As := [.int n1, .int 1]) (rest := []) hx hb hml hown hts hK hA hP hD hS (c_T_get l D g (pa 0) (pa 1) H.size 12 80 (pr 0) 960 (pf 0) n1 1 ⟨rfl, by decide, by decide, by decide, by decide, hw_p 0⟩) kv_X0_63 ⟨Nat.le_of_ble_eq_true rfl, Nat.le_of_ble_eq_true rfl⟩ (q0 := 8) (ci := 6) rfl rfl rfl [8, 9] rfl (by decide) (fun _ => rfl) (fun _ => rfl) hl.1 (Nat.le_of_ble_eq_true rfl) dX0_writePlain_9 ⟨Nat.le_refl _, Nat.le_refl _⟩ rfl (fun v1 _ H locs he2 _ hP hD hS => ?_)
  refine lv_istore_n (lv' := [(2, .int v1), (0, .ref h), (1, .int n1)]) hx hb dX0_writePlain_12 rfl hl (by decide) rfl (fun ls hl => ?_)
  refine lv_aload_n hx hb dX0_writePlain_13 rfl (lv_at hl 1 rfl) ?_
  refine va_get (D := D) (ci := 0) (v := .ref ph) (C := RX0) (T := TX0) (N := 8) hx hb hts inlX0 hown hK hP 0 rfl rfl 3 (by decide) (hts _ q108) (fun _ h => h) rfl dX0_writePlain_14 ?_
  refine va_get (D := D) (ci := 2) (v := .ref (pa 0)) (C := RX2) (T := TX2) (N := 5) hx hb hts inlX2 hown hK hP 7 rfl rfl 0 (by decide) (hts _ q631) (fun _ h => h) rfl dX0_writePlain_17 ?_
  refine lv_iload_n hx hb dX0_writePlain_20 rfl (lv_at hl 2 rfl) ?_
  refine lv_iconst (v := 2) hx hb dX0_writePlain_21 (by decide) ?_
  refine vz_Vi2 (ws' := fun u : Unit => vz_w [coW g h ca ci cr cf (da 0) (da 2) ph, cdW g da dr df, pgW g ph pa pr pf]) (As := [.int n1, .int 2]) (rest := []) hx hb hml hown hts hK hA hP hD hS (c_T_get l D g (pa 0) (pa 1) H.size 12 80 (pr 0) 960 (pf 0) n1 2 ⟨rfl, by decide, by decide, by decide, by decide, hw_p 0⟩) kv_X0_63 ⟨Nat.le_of_ble_eq_true rfl, Nat.le_of_ble_eq_true rfl⟩ (q0 := 8) (ci := 6) rfl rfl rfl [8, 9] rfl (by decide) (fun _ => rfl) (fun _ => rfl) hl.1 (Nat.le_of_ble_eq_true rfl) dX0_writePlain_22 ⟨Nat.le_refl _, Nat.le_refl _⟩ rfl (fun v3 _ H locs he4 _ hP hD hS => ?_)
  refine lv_istore_n (lv' := [(3, .int v3), (2, .int v1), (0, .ref h), (1, .int n1)]) hx hb dX0_writePlain_25 rfl hl (by decide) rfl (fun ls hl => ?_)
  refine lv_aload_n hx hb dX0_writePlain_26 rfl (lv_at hl 2 rfl) ?_
  refine va_get (D := D) (ci := 0) (v := .ref ph) (C := RX0) (T := TX0) (N := 8) hx hb hts inlX0 hown hK hP 0 rfl rfl 3 (by decide) (hts _ q108) (fun _ h => h) rfl dX0_writePlain_27 ?_
  refine va_get (D := D) (ci := 2) (v := .ref (pa 0)) (C := RX2) (T := TX2) (N := 5) hx hb hts inlX2 hown hK hP 7 rfl rfl 0 (by decide) (hts _ q631) (fun _ h => h) rfl dX0_writePlain_30 ?_
  refine lv_iload_n hx hb dX0_writePlain_33 rfl (lv_at hl 3 rfl) ?_
  refine lv_iconst (v := 0) hx hb dX0_writePlain_34 (by decide) ?_
  refine vz_Vi2 (ws' := fun u : Unit => vz_w [coW g h ca ci cr cf (da 0) (da 2) ph, cdW g da dr df, pgW g ph pa pr pf]) (As := [.int n1, .int 0]) (rest := []) hx hb hml hown hts hK hA hP hD hS (c_T_get l D g (pa 0) (pa 1) H.size 12 80 (pr 0) 960 (pf 0) n1 0 ⟨rfl, by decide, by decide, by decide, by decide, hw_p 0⟩) kv_X0_63 ⟨Nat.le_of_ble_eq_true rfl, Nat.le_of_ble_eq_true rfl⟩ (q0 := 8) (ci := 6) rfl rfl rfl [8, 9] rfl (by decide) (fun _ => rfl) (fun _ => rfl) hl.1 (Nat.le_of_ble_eq_true rfl) dX0_writePlain_35 ⟨Nat.le_refl _, Nat.le_refl _⟩ rfl (fun v5 _ H locs he6 _ hP hD hS => ?_)
  have S38_112 : W p l e { frames := 2, cells := 0, slots := 0, locals := 48 } s m args below meth c H locs 0 0 Q (F0 m 112 ls []) := by
    refine lv_aload_n hx hb dX0_writePlain_112 rfl (lv_at hl 2 rfl) ?_
    refine lv_bipush (v := 7) hx hb dX0_writePlain_113 (by decide) ?_
    refine lv_iload_n hx hb dX0_writePlain_115 rfl (lv_at hl 3 rfl) ?_
    refine lv_iload_n hx hb dX0_writePlain_116 rfl (lv_at hl 1 rfl) ?_
    refine vz_Vi3 (As := [.int 7, .int n1, .int v1]) (rest := []) hx hb hml hown hts hK hA hP hD hS (a_C_emit l D g H.size h ca ci cr cf da ph dr df pa pr pf 7 n1 v1 hw_c hw_d hw_p) kv_X0_70 ⟨Nat.le_of_ble_eq_true rfl, Nat.le_of_ble_eq_true rfl⟩ (q0 := 0) (ci := 0) rfl rfl rfl  hl.1 (Nat.le_of_ble_eq_true rfl) dX0_writePlain_117 ⟨Nat.le_refl _, Nat.le_refl _⟩ rfl (fun v11 ⟨ci_7, dr_8, df_9⟩ H locs hw_10 _ hP hD hS => ?_)
    try dsimp only at hw_10
    replace hP : va_P D vwCl (vz_w [coW g h ca ci_7 cr cf (da 0) (da 2) ph, cdW g da dr_8 df_9, pgW g ph pa pr pf]) H := hP
    replace hD : va_D A (vz_w [coW g h ca ci_7 cr cf (da 0) (da 2) ph, cdW g da dr_8 df_9, pgW g ph pa pr pf]) := hD
    refine lv_pop hx hb dX0_writePlain_120 rfl ?_
    refine lv_goto (tgt := 252) hx hb dX0_writePlain_121 (by decide) ?_
    exact J252 v1 v3 ci_7 dr_8 df_9 hw_10 H locs ls hP hD hS (lv_sub hl [2, 3, 1, 0] rfl)
  have S38_124 : W p l e { frames := 2, cells := 0, slots := 0, locals := 48 } s m args below meth c H locs 0 0 Q (F0 m 124 ls []) := by
    refine lv_aload_n hx hb dX0_writePlain_124 rfl (lv_at hl 2 rfl) ?_
    refine lv_bipush (v := 8) hx hb dX0_writePlain_125 (by decide) ?_
    refine lv_iload_n hx hb dX0_writePlain_127 rfl (lv_at hl 1 rfl) ?_
    refine lv_iconst (v := 0) hx hb dX0_writePlain_128 (by decide) ?_
    refine vz_Vi3 (As := [.int 8, .int v1, .int 0]) (rest := []) hx hb hml hown hts hK hA hP hD hS (a_C_emit l D g H.size h ca ci cr cf da ph dr df pa pr pf 8 v1 0 hw_c hw_d hw_p) kv_X0_70 ⟨Nat.le_of_ble_eq_true rfl, Nat.le_of_ble_eq_true rfl⟩ (q0 := 0) (ci := 0) rfl rfl rfl  hl.1 (Nat.le_of_ble_eq_true rfl) dX0_writePlain_129 ⟨Nat.le_refl _, Nat.le_refl _⟩ rfl (fun v16 ⟨ci_12, dr_13, df_14⟩ H locs hw_15 _ hP hD hS => ?_)
    try dsimp only at hw_15
    replace hP : va_P D vwCl (vz_w [coW g h ca ci_12 cr cf (da 0) (da 2) ph, cdW g da dr_13 df_14, pgW g ph pa pr pf]) H := hP
    replace hD : va_D A (vz_w [coW g h ca ci_12 cr cf (da 0) (da 2) ph, cdW g da dr_13 df_14, pgW g ph pa pr pf]) := hD
    refine lv_pop hx hb dX0_writePlain_132 rfl ?_
    refine lv_goto (tgt := 252) hx hb dX0_writePlain_133 (by decide) ?_
    exact J252 v1 v3 ci_12 dr_13 df_14 hw_15 H locs ls hP hD hS (lv_sub hl [2, 3, 1, 0] rfl)
  have S38_136 : W p l e { frames := 2, cells := 0, slots := 0, locals := 48 } s m args below meth c H locs 0 0 Q (F0 m 136 ls []) := by
    refine lv_aload_n hx hb dX0_writePlain_136 rfl (lv_at hl 2 rfl) ?_
    refine lv_bipush (v := 10) hx hb dX0_writePlain_137 (by decide) ?_
    refine lv_iload_n hx hb dX0_writePlain_139 rfl (lv_at hl 1 rfl) ?_
    refine lv_iconst (v := 0) hx hb dX0_writePlain_140 (by decide) ?_
    refine vz_Vi3 (As := [.int 10, .int v1, .int 0]) (rest := []) hx hb hml hown hts hK hA hP hD hS (a_C_emit l D g H.size h ca ci cr cf da ph dr df pa pr pf 10 v1 0 hw_c hw_d hw_p) kv_X0_70 ⟨Nat.le_of_ble_eq_true rfl, Nat.le_of_ble_eq_true rfl⟩ (q0 := 0) (ci := 0) rfl rfl rfl  hl.1 (Nat.le_of_ble_eq_true rfl) dX0_writePlain_141 ⟨Nat.le_refl _, Nat.le_refl _⟩ rfl (fun v21 ⟨ci_17, dr_18, df_19⟩ H locs hw_20 _ hP hD hS => ?_)
    try dsimp only at hw_20
    replace hP : va_P D vwCl (vz_w [coW g h ca ci_17 cr cf (da 0) (da 2) ph, cdW g da dr_18 df_19, pgW g ph pa pr pf]) H := hP
    replace hD : va_D A (vz_w [coW g h ca ci_17 cr cf (da 0) (da 2) ph, cdW g da dr_18 df_19, pgW g ph pa pr pf]) := hD
    refine lv_pop hx hb dX0_writePlain_144 rfl ?_
    refine lv_goto (tgt := 252) hx hb dX0_writePlain_145 (by decide) ?_
    exact J252 v1 v3 ci_17 dr_18 df_19 hw_20 H locs ls hP hD hS (lv_sub hl [2, 3, 1, 0] rfl)
  have S38_148 : W p l e { frames := 2, cells := 0, slots := 0, locals := 48 } s m args below meth c H locs 0 0 Q (F0 m 148 ls []) := by
    refine lv_aload_n hx hb dX0_writePlain_148 rfl (lv_at hl 2 rfl) ?_
    refine lv_bipush (v := 11) hx hb dX0_writePlain_149 (by decide) ?_
    refine lv_iload_n hx hb dX0_writePlain_151 rfl (lv_at hl 1 rfl) ?_
    refine lv_iconst (v := 0) hx hb dX0_writePlain_152 (by decide) ?_
    refine vz_Vi3 (As := [.int 11, .int v1, .int 0]) (rest := []) hx hb hml hown hts hK hA hP hD hS (a_C_emit l D g H.size h ca ci cr cf da ph dr df pa pr pf 11 v1 0 hw_c hw_d hw_p) kv_X0_70 ⟨Nat.le_of_ble_eq_true rfl, Nat.le_of_ble_eq_true rfl⟩ (q0 := 0) (ci := 0) rfl rfl rfl  hl.1 (Nat.le_of_ble_eq_true rfl) dX0_writePlain_153 ⟨Nat.le_refl _, Nat.le_refl _⟩ rfl (fun v26 ⟨ci_22, dr_23, df_24⟩ H locs hw_25 _ hP hD hS => ?_)
    try dsimp only at hw_25
    replace hP : va_P D vwCl (vz_w [coW g h ca ci_22 cr cf (da 0) (da 2) ph, cdW g da dr_23 df_24, pgW g ph pa pr pf]) H := hP
    replace hD : va_D A (vz_w [coW g h ca ci_22 cr cf (da 0) (da 2) ph, cdW g da dr_23 df_24, pgW g ph pa pr pf]) := hD
    refine lv_pop hx hb dX0_writePlain_156 rfl ?_
    refine lv_goto (tgt := 252) hx hb dX0_writePlain_157 (by decide) ?_
    exact J252 v1 v3 ci_22 dr_23 df_24 hw_25 H locs ls hP hD hS (lv_sub hl [2, 3, 1, 0] rfl)
  have S38_160 : W p l e { frames := 2, cells := 0, slots := 0, locals := 48 } s m args below meth c H locs 0 0 Q (F0 m 160 ls []) := by
    refine lv_aload_n hx hb dX0_writePlain_160 rfl (lv_at hl 2 rfl) ?_
    refine lv_bipush (v := 12) hx hb dX0_writePlain_161 (by decide) ?_
    refine lv_iload_n hx hb dX0_writePlain_163 rfl (lv_at hl 1 rfl) ?_
    refine lv_iload_n hx hb dX0_writePlain_164 rfl (lv_at hl 0 rfl) ?_
    refine vz_Vi3 (As := [.int 12, .int v1, .int v3]) (rest := []) hx hb hml hown hts hK hA hP hD hS (a_C_emit l D g H.size h ca ci cr cf da ph dr df pa pr pf 12 v1 v3 hw_c hw_d hw_p) kv_X0_70 ⟨Nat.le_of_ble_eq_true rfl, Nat.le_of_ble_eq_true rfl⟩ (q0 := 0) (ci := 0) rfl rfl rfl  hl.1 (Nat.le_of_ble_eq_true rfl) dX0_writePlain_165 ⟨Nat.le_refl _, Nat.le_refl _⟩ rfl (fun v31 ⟨ci_27, dr_28, df_29⟩ H locs hw_30 _ hP hD hS => ?_)
    try dsimp only at hw_30
    replace hP : va_P D vwCl (vz_w [coW g h ca ci_27 cr cf (da 0) (da 2) ph, cdW g da dr_28 df_29, pgW g ph pa pr pf]) H := hP
    replace hD : va_D A (vz_w [coW g h ca ci_27 cr cf (da 0) (da 2) ph, cdW g da dr_28 df_29, pgW g ph pa pr pf]) := hD
    refine lv_pop hx hb dX0_writePlain_168 rfl ?_
    refine lv_goto (tgt := 252) hx hb dX0_writePlain_169 (by decide) ?_
    exact J252 v1 v3 ci_27 dr_28 df_29 hw_30 H locs ls hP hD hS (lv_sub hl [2, 3, 1, 0] rfl)
  have S38_172 : W p l e { frames := 2, cells := 0, slots := 0, locals := 48 } s m args below meth c H locs 0 0 Q (F0 m 172 ls []) := by
    refine lv_aload_n hx hb dX0_writePlain_172 rfl (lv_at hl 2 rfl) ?_
    refine lv_bipush (v := 13) hx hb dX0_writePlain_173 (by decide) ?_
    refine lv_iload_n hx hb dX0_writePlain_175 rfl (lv_at hl 1 rfl) ?_
    refine lv_iconst (v := 0) hx hb dX0_writePlain_176 (by decide) ?_
    refine vz_Vi3 (As := [.int 13, .int v1, .int 0]) (rest := []) hx hb hml hown hts hK hA hP hD hS (a_C_emit l D g H.size h ca ci cr cf da ph dr df pa pr pf 13 v1 0 hw_c hw_d hw_p) kv_X0_70 ⟨Nat.le_of_ble_eq_true rfl, Nat.le_of_ble_eq_true rfl⟩ (q0 := 0) (ci := 0) rfl rfl rfl  hl.1 (Nat.le_of_ble_eq_true rfl) dX0_writePlain_177 ⟨Nat.le_refl _, Nat.le_refl _⟩ rfl (fun v36 ⟨ci_32, dr_33, df_34⟩ H locs hw_35 _ hP hD hS => ?_)
    try dsimp only at hw_35
    replace hP : va_P D vwCl (vz_w [coW g h ca ci_32 cr cf (da 0) (da 2) ph, cdW g da dr_33 df_34, pgW g ph pa pr pf]) H := hP
    replace hD : va_D A (vz_w [coW g h ca ci_32 cr cf (da 0) (da 2) ph, cdW g da dr_33 df_34, pgW g ph pa pr pf]) := hD
    refine lv_pop hx hb dX0_writePlain_180 rfl ?_
    refine lv_goto (tgt := 252) hx hb dX0_writePlain_181 (by decide) ?_
    exact J252 v1 v3 ci_32 dr_33 df_34 hw_35 H locs ls hP hD hS (lv_sub hl [2, 3, 1, 0] rfl)
  have S38_184 : W p l e { frames := 2, cells := 0, slots := 0, locals := 48 } s m args below meth c H locs 0 0 Q (F0 m 184 ls []) := by
    refine lv_aload_n hx hb dX0_writePlain_184 rfl (lv_at hl 2 rfl) ?_
    refine lv_bipush (v := 24) hx hb dX0_writePlain_185 (by decide) ?_
    refine lv_iload_n hx hb dX0_writePlain_187 rfl (lv_at hl 1 rfl) ?_
    refine lv_iconst (v := 0) hx hb dX0_writePlain_188 (by decide) ?_
    refine vz_Vi3 (As := [.int 24, .int v1, .int 0]) (rest := []) hx hb hml hown hts hK hA hP hD hS (a_C_emit l D g H.size h ca ci cr cf da ph dr df pa pr pf 24 v1 0 hw_c hw_d hw_p) kv_X0_70 ⟨Nat.le_of_ble_eq_true rfl, Nat.le_of_ble_eq_true rfl⟩ (q0 := 0) (ci := 0) rfl rfl rfl  hl.1 (Nat.le_of_ble_eq_true rfl) dX0_writePlain_189 ⟨Nat.le_refl _, Nat.le_refl _⟩ rfl (fun v41 ⟨ci_37, dr_38, df_39⟩ H locs hw_40 _ hP hD hS => ?_)
    try dsimp only at hw_40
    replace hP : va_P D vwCl (vz_w [coW g h ca ci_37 cr cf (da 0) (da 2) ph, cdW g da dr_38 df_39, pgW g ph pa pr pf]) H := hP
    replace hD : va_D A (vz_w [coW g h ca ci_37 cr cf (da 0) (da 2) ph, cdW g da dr_38 df_39, pgW g ph pa pr pf]) := hD
    refine lv_pop hx hb dX0_writePlain_192 rfl ?_
    refine lv_goto (tgt := 252) hx hb dX0_writePlain_193 (by decide) ?_
    exact J252 v1 v3 ci_37 dr_38 df_39 hw_40 H locs ls hP hD hS (lv_sub hl [2, 3, 1, 0] rfl)
  have S38_196 : W p l e { frames := 2, cells := 0, slots := 0, locals := 48 } s m args below meth c H locs 0 0 Q (F0 m 196 ls []) := by
    refine lv_aload_n hx hb dX0_writePlain_196 rfl (lv_at hl 2 rfl) ?_
    refine lv_bipush (v := 25) hx hb dX0_writePlain_197 (by decide) ?_
    refine lv_iload_n hx hb dX0_writePlain_199 rfl (lv_at hl 1 rfl) ?_
    refine lv_iload_n hx hb dX0_writePlain_200 rfl (lv_at hl 0 rfl) ?_
    refine vz_Vi3 (As := [.int 25, .int v1, .int v3]) (rest := []) hx hb hml hown hts hK hA hP hD hS (a_C_emit l D g H.size h ca ci cr cf da ph dr df pa pr pf 25 v1 v3 hw_c hw_d hw_p) kv_X0_70 ⟨Nat.le_of_ble_eq_true rfl, Nat.le_of_ble_eq_true rfl⟩ (q0 := 0) (ci := 0) rfl rfl rfl  hl.1 (Nat.le_of_ble_eq_true rfl) dX0_writePlain_201 ⟨Nat.le_refl _, Nat.le_refl _⟩ rfl (fun v46 ⟨ci_42, dr_43, df_44⟩ H locs hw_45 _ hP hD hS => ?_)
    try dsimp only at hw_45
    replace hP : va_P D vwCl (vz_w [coW g h ca ci_42 cr cf (da 0) (da 2) ph, cdW g da dr_43 df_44, pgW g ph pa pr pf]) H := hP
    replace hD : va_D A (vz_w [coW g h ca ci_42 cr cf (da 0) (da 2) ph, cdW g da dr_43 df_44, pgW g ph pa pr pf]) := hD
    refine lv_pop hx hb dX0_writePlain_204 rfl ?_
    refine lv_goto (tgt := 252) hx hb dX0_writePlain_205 (by decide) ?_
    exact J252 v1 v3 ci_42 dr_43 df_44 hw_45 H locs ls hP hD hS (lv_sub hl [2, 3, 1, 0] rfl)
  have S38_208 : W p l e { frames := 2, cells := 0, slots := 0, locals := 48 } s m args below meth c H locs 0 0 Q (F0 m 208 ls []) := by
    refine lv_aload_n hx hb dX0_writePlain_208 rfl (lv_at hl 2 rfl) ?_
    refine lv_bipush (v := 26) hx hb dX0_writePlain_209 (by decide) ?_
    refine lv_iload_n hx hb dX0_writePlain_211 rfl (lv_at hl 0 rfl) ?_
    refine lv_iconst (v := 0) hx hb dX0_writePlain_212 (by decide) ?_
    refine vz_Vi3 (As := [.int 26, .int v3, .int 0]) (rest := []) hx hb hml hown hts hK hA hP hD hS (a_C_emit l D g H.size h ca ci cr cf da ph dr df pa pr pf 26 v3 0 hw_c hw_d hw_p) kv_X0_70 ⟨Nat.le_of_ble_eq_true rfl, Nat.le_of_ble_eq_true rfl⟩ (q0 := 0) (ci := 0) rfl rfl rfl  hl.1 (Nat.le_of_ble_eq_true rfl) dX0_writePlain_213 ⟨Nat.le_refl _, Nat.le_refl _⟩ rfl (fun v51 ⟨ci_47, dr_48, df_49⟩ H locs hw_50 _ hP hD hS => ?_)
    try dsimp only at hw_50
    replace hP : va_P D vwCl (vz_w [coW g h ca ci_47 cr cf (da 0) (da 2) ph, cdW g da dr_48 df_49, pgW g ph pa pr pf]) H := hP
    replace hD : va_D A (vz_w [coW g h ca ci_47 cr cf (da 0) (da 2) ph, cdW g da dr_48 df_49, pgW g ph pa pr pf]) := hD
    refine lv_pop hx hb dX0_writePlain_216 rfl ?_
    refine lv_goto (tgt := 252) hx hb dX0_writePlain_217 (by decide) ?_
    exact J252 v1 v3 ci_47 dr_48 df_49 hw_50 H locs ls hP hD hS (lv_sub hl [2, 3, 1, 0] rfl)
  have S38_220 : W p l e { frames := 2, cells := 0, slots := 0, locals := 48 } s m args below meth c H locs 0 0 Q (F0 m 220 ls []) := by
    refine lv_aload_n hx hb dX0_writePlain_220 rfl (lv_at hl 2 rfl) ?_
    refine lv_bipush (v := 18) hx hb dX0_writePlain_221 (by decide) ?_
    refine lv_iload_n hx hb dX0_writePlain_223 rfl (lv_at hl 1 rfl) ?_
    refine lv_iconst (v := 0) hx hb dX0_writePlain_224 (by decide) ?_
    refine vz_Vi3 (As := [.int 18, .int v1, .int 0]) (rest := []) hx hb hml hown hts hK hA hP hD hS (a_C_emit l D g H.size h ca ci cr cf da ph dr df pa pr pf 18 v1 0 hw_c hw_d hw_p) kv_X0_70 ⟨Nat.le_of_ble_eq_true rfl, Nat.le_of_ble_eq_true rfl⟩ (q0 := 0) (ci := 0) rfl rfl rfl  hl.1 (Nat.le_of_ble_eq_true rfl) dX0_writePlain_225 ⟨Nat.le_refl _, Nat.le_refl _⟩ rfl (fun v56 ⟨ci_52, dr_53, df_54⟩ H locs hw_55 _ hP hD hS => ?_)
    try dsimp only at hw_55
    replace hP : va_P D vwCl (vz_w [coW g h ca ci_52 cr cf (da 0) (da 2) ph, cdW g da dr_53 df_54, pgW g ph pa pr pf]) H := hP
    replace hD : va_D A (vz_w [coW g h ca ci_52 cr cf (da 0) (da 2) ph, cdW g da dr_53 df_54, pgW g ph pa pr pf]) := hD
    refine lv_pop hx hb dX0_writePlain_228 rfl ?_
    refine lv_aload_n hx hb dX0_writePlain_229 rfl (lv_at hl 2 rfl) ?_
    refine lv_iload_n hx hb dX0_writePlain_230 rfl (lv_at hl 0 rfl) ?_
    refine lv_bipush (v := (-9)) hx hb dX0_writePlain_231 (by decide) ?_
    refine lv_icmp_ne (tgt := 241) hx hb dX0_writePlain_233 (by decide) (fun kc57 => ?_) (fun kc57 => ?_)
    · refine lv_bipush (v := 8) hx hb dX0_writePlain_241 (by decide) ?_
      exact J243 v1 v3 8 ci_52 dr_53 df_54 hw_55 H locs ls hP hD hS (lv_sub hl [2, 3, 1, 0] rfl)
    · refine lv_bipush (v := 9) hx hb dX0_writePlain_236 (by decide) ?_
      refine lv_goto (tgt := 243) hx hb dX0_writePlain_238 (by decide) ?_
      exact J243 v1 v3 9 ci_52 dr_53 df_54 hw_55 H locs ls hP hD hS (lv_sub hl [2, 3, 1, 0] rfl)
  have S38_252 : W p l e { frames := 2, cells := 0, slots := 0, locals := 48 } s m args below meth c H locs 0 0 Q (F0 m 252 ls []) := by
    exact J252 v1 v3 ci dr df hw_d H locs ls hP hD hS (lv_sub hl [2, 3, 1, 0] rfl)
  refine vz_tsw (td := 252) hx hb dX0_writePlain_38 (by decide) [112, 220, 124, 136, 148, 160, 172, 252, 252, 252, 252, 252, 184, 196, 208] (by decide) (by decide) (fun hv => ?_) (fun k t hk hv => ?_)
  · exact S38_252
  · have hm := List.mem_of_getElem? hk
    simp only [List.mem_cons, List.not_mem_nil, or_false] at hm
    rcases hm with rfl | rfl | rfl | rfl | rfl | rfl | rfl | rfl | rfl | rfl | rfl | rfl | rfl | rfl | rfl
    · exact S38_112
    · exact S38_220
    · exact S38_124
    · exact S38_136
    · exact S38_148
    · exact S38_160
    · exact S38_172
    · exact S38_252
    · exact S38_252
    · exact S38_252
    · exact S38_252
    · exact S38_252
    · exact S38_184
    · exact S38_196
    · exact S38_208
theorem q636 : Cond.fieldLink RX0 155 "WaysAtlas$Program" "catches" "LWaysAtlas$Table;" ∈ wsL_law := mT_1 (List.mem_of_getElem? (i := 95) rfl) rfl
theorem q658 : Cond.methodLink RX0 139 yX0_newHandler ∈ wsL_law := mT_4 (List.mem_of_getElem? (i := 101) rfl) rfl
theorem q659 : Cond.instanceMethod yX0_newHandler ∈ wsL_law := mT_4 (List.mem_of_getElem? (i := 103) rfl) rfl
theorem q660 : Cond.selects RX0 yX0_newHandler yX0_newHandler ∈ wsL_law := mS_4 (q := (yX0_newHandler, 8)) (List.mem_of_getElem? (i := 0) rfl) rfl
theorem q661 : Cond.code yX0_newHandler cX0_newHandler 4 (some .int) ∈ wsL_law := mT_4 (List.mem_of_getElem? (i := 104) rfl) rfl
theorem kv_X0_139 : vz_cv RX0 139 yX0_newHandler cX0_newHandler 4 (some .int) 2 := ⟨q658, q659, q660, q33, q661, by decide +kernel⟩
theorem dX0_newCatchHandlers_0 : decode cX0_newCatchHandlers 0 = .ok (.iload_n 2, 1) := by decide +kernel
theorem dX0_newCatchHandlers_1 : decode cX0_newCatchHandlers 1 = .ok (.istore_n 3, 1) := by decide +kernel
theorem dX0_newCatchHandlers_2 : decode cX0_newCatchHandlers 2 = .ok (.bipush (-9), 2) := by decide +kernel
theorem dX0_newCatchHandlers_4 : decode cX0_newCatchHandlers 4 = .ok (.istore 4, 2) := by decide +kernel
theorem dX0_newCatchHandlers_6 : decode cX0_newCatchHandlers 6 = .ok (.aload_n 0, 1) := by decide +kernel
theorem dX0_newCatchHandlers_7 : decode cX0_newCatchHandlers 7 = .ok (.getfield 9, 3) := by decide +kernel
theorem dX0_newCatchHandlers_10 : decode cX0_newCatchHandlers 10 = .ok (.getfield 81, 3) := by decide +kernel
theorem dX0_newCatchHandlers_13 : decode cX0_newCatchHandlers 13 = .ok (.iload_n 1, 1) := by decide +kernel
theorem dX0_newCatchHandlers_14 : decode cX0_newCatchHandlers 14 = .ok (.bipush 11, 2) := by decide +kernel
theorem dX0_newCatchHandlers_16 : decode cX0_newCatchHandlers 16 = .ok (.invokevirtual 63, 3) := by decide +kernel
theorem dX0_newCatchHandlers_19 : decode cX0_newCatchHandlers 19 = .ok (.istore 5, 2) := by decide +kernel
theorem dX0_newCatchHandlers_21 : decode cX0_newCatchHandlers 21 = .ok (.iconst 0, 1) := by decide +kernel
theorem dX0_newCatchHandlers_22 : decode cX0_newCatchHandlers 22 = .ok (.istore 6, 2) := by decide +kernel
theorem dX0_newCatchHandlers_24 : decode cX0_newCatchHandlers 24 = .ok (.iload 6, 2) := by decide +kernel
theorem dX0_newCatchHandlers_26 : decode cX0_newCatchHandlers 26 = .ok (.bipush 112, 2) := by decide +kernel
theorem dX0_newCatchHandlers_28 : decode cX0_newCatchHandlers 28 = .ok (.if_icmp .ge 78, 3) := by decide +kernel
theorem dX0_newCatchHandlers_31 : decode cX0_newCatchHandlers 31 = .ok (.iload 5, 2) := by decide +kernel
theorem dX0_newCatchHandlers_33 : decode cX0_newCatchHandlers 33 = .ok (.bipush (-9), 2) := by decide +kernel
theorem dX0_newCatchHandlers_35 : decode cX0_newCatchHandlers 35 = .ok (.if_icmp .eq 71, 3) := by decide +kernel
theorem dX0_newCatchHandlers_38 : decode cX0_newCatchHandlers 38 = .ok (.aload_n 0, 1) := by decide +kernel
theorem dX0_newCatchHandlers_39 : decode cX0_newCatchHandlers 39 = .ok (.aload_n 0, 1) := by decide +kernel
theorem dX0_newCatchHandlers_40 : decode cX0_newCatchHandlers 40 = .ok (.getfield 9, 3) := by decide +kernel
theorem dX0_newCatchHandlers_43 : decode cX0_newCatchHandlers 43 = .ok (.getfield 155, 3) := by decide +kernel
theorem dX0_newCatchHandlers_46 : decode cX0_newCatchHandlers 46 = .ok (.iload 5, 2) := by decide +kernel
theorem dX0_newCatchHandlers_48 : decode cX0_newCatchHandlers 48 = .ok (.iconst 1, 1) := by decide +kernel
theorem dX0_newCatchHandlers_49 : decode cX0_newCatchHandlers 49 = .ok (.invokevirtual 63, 3) := by decide +kernel
theorem dX0_newCatchHandlers_52 : decode cX0_newCatchHandlers 52 = .ok (.iload_n 2, 1) := by decide +kernel
theorem dX0_newCatchHandlers_53 : decode cX0_newCatchHandlers 53 = .ok (.invokevirtual 139, 3) := by decide +kernel
theorem dX0_newCatchHandlers_56 : decode cX0_newCatchHandlers 56 = .ok (.istore 7, 2) := by decide +kernel
theorem dX0_newCatchHandlers_58 : decode cX0_newCatchHandlers 58 = .ok (.iload 6, 2) := by decide +kernel
theorem dX0_newCatchHandlers_60 : decode cX0_newCatchHandlers 60 = .ok (.ifCond .ne 9, 3) := by decide +kernel
theorem dX0_newCatchHandlers_63 : decode cX0_newCatchHandlers 63 = .ok (.iload 7, 2) := by decide +kernel
theorem dX0_newCatchHandlers_65 : decode cX0_newCatchHandlers 65 = .ok (.istore_n 3, 1) := by decide +kernel
theorem dX0_newCatchHandlers_66 : decode cX0_newCatchHandlers 66 = .ok (.goto 15, 3) := by decide +kernel
theorem dX0_newCatchHandlers_69 : decode cX0_newCatchHandlers 69 = .ok (.aload_n 0, 1) := by decide +kernel
theorem dX0_newCatchHandlers_70 : decode cX0_newCatchHandlers 70 = .ok (.getfield 24, 3) := by decide +kernel
theorem dX0_newCatchHandlers_73 : decode cX0_newCatchHandlers 73 = .ok (.iload 4, 2) := by decide +kernel
theorem dX0_newCatchHandlers_75 : decode cX0_newCatchHandlers 75 = .ok (.iconst 2, 1) := by decide +kernel
theorem dX0_newCatchHandlers_76 : decode cX0_newCatchHandlers 76 = .ok (.iload 7, 2) := by decide +kernel
theorem dX0_newCatchHandlers_78 : decode cX0_newCatchHandlers 78 = .ok (.invokevirtual 53, 3) := by decide +kernel
theorem dX0_newCatchHandlers_81 : decode cX0_newCatchHandlers 81 = .ok (.iload 7, 2) := by decide +kernel
theorem dX0_newCatchHandlers_83 : decode cX0_newCatchHandlers 83 = .ok (.istore 4, 2) := by decide +kernel
theorem dX0_newCatchHandlers_85 : decode cX0_newCatchHandlers 85 = .ok (.aload_n 0, 1) := by decide +kernel
theorem dX0_newCatchHandlers_86 : decode cX0_newCatchHandlers 86 = .ok (.getfield 9, 3) := by decide +kernel
theorem dX0_newCatchHandlers_89 : decode cX0_newCatchHandlers 89 = .ok (.getfield 155, 3) := by decide +kernel
theorem dX0_newCatchHandlers_92 : decode cX0_newCatchHandlers 92 = .ok (.iload 5, 2) := by decide +kernel
theorem dX0_newCatchHandlers_94 : decode cX0_newCatchHandlers 94 = .ok (.iconst 4, 1) := by decide +kernel
theorem dX0_newCatchHandlers_95 : decode cX0_newCatchHandlers 95 = .ok (.invokevirtual 63, 3) := by decide +kernel
theorem dX0_newCatchHandlers_98 : decode cX0_newCatchHandlers 98 = .ok (.istore 5, 2) := by decide +kernel
theorem dX0_newCatchHandlers_100 : decode cX0_newCatchHandlers 100 = .ok (.iinc 6 1, 3) := by decide +kernel
theorem dX0_newCatchHandlers_103 : decode cX0_newCatchHandlers 103 = .ok (.goto (-79), 3) := by decide +kernel
theorem dX0_newCatchHandlers_106 : decode cX0_newCatchHandlers 106 = .ok (.iload_n 3, 1) := by decide +kernel
theorem dX0_newCatchHandlers_107 : decode cX0_newCatchHandlers 107 = .ok (.ireturn, 1) := by decide +kernel
set_option maxHeartbeats 8000000 in
set_option maxRecDepth 100000 in
theorem a_C_newCatchHandlers (l : Launch) (D : va_G) (g : Nat → ClassId)   (sz : Nat) (h : Nat) (ca : Nat → Nat) (ci : Nat → Int32) (cr : Nat → Nat) (cf : Nat → Nat → Int32) (da : Nat → Nat) (ph : Nat) (dr : Nat → Nat) (df : Nat → Nat → Int32) (pa : Nat → Nat) (pr : Nat → Nat) (pf : Nat → Nat → Int32) (n1 : Int32) (n2 : Int32) (hw_c : ∀ k, cr k ≤ coW_lim k) (hw_d : ∀ k, dr k ≤ cdW_lim k) (hw_p : ∀ k, pr k ≤ pgW_lim k) : vz_Mi l D (tyG g) yX0_newCatchHandlers cX0_newCatchHandlers 8 2 47 0 0 .int [.ref h, .int n1, .int n2] sz (vz_w [coW g h ca ci cr cf (da 0) (da 2) ph, cdW g da dr df, pgW g ph pa pr pf]) (fun r (u : (Nat → Int32) × (Nat → Nat) × (Nat → Nat → Int32)) => (∀ k, u.2.1 k ≤ cdW_lim k)) (fun u => vz_w [coW g h ca u.1 cr cf (da 0) (da 2) ph, cdW g da u.2.1 u.2.2, pgW g ph pa pr pf]) := by
  refine vz_siQ (by decide) (Nat.le_of_ble_eq_true rfl) (fun p e s m args below meth c hx hb hr hml hts hown hlk hin hK hsz A hA H locs hP hD hS ls hl Q hQ => ?_)
  have hl : lv_has ls 8 [(0, .ref h), (1, .int n1), (2, .int n2)] := hl
  have J106 : ∀ (x3_106 : Int32), ∀ (x4_106 : Int32), ∀ (x5_106 : Int32), ∀ (x6_106 : Int32), ∀ (ci_106 : Nat → Int32), ∀ (dr_106 : Nat → Nat), ∀ (df_106 : Nat → Nat → Int32), (∀ k, dr_106 k ≤ cdW_lim k) → ∀ (H : Heap) (locs : List Loc) (ls : Array Slot), va_P D vwCl (vz_w [coW g h ca ci_106 cr cf (da 0) (da 2) ph, cdW g da dr_106 df_106, pgW g ph pa pr pf]) H → va_D A (vz_w [coW g h ca ci_106 cr cf (da 0) (da 2) ph, cdW g da dr_106 df_106, pgW g ph pa pr pf]) → va_S A s.heap H locs → lv_has ls 8 [(0, .ref h), (1, .int n1), (2, .int n2), (3, .int x3_106), (4, .int x4_106), (5, .int x5_106), (6, .int x6_106)] → W p l e { frames := 2, cells := 0, slots := 0, locals := 47 } s m args below meth c H locs 0 0 Q (F0 m 106 ls []) := by
    intro x3_106 x4_106 x5_106 x6_106 ci_106 dr_106 df_106 hw_d_106 H locs ls hP hD hS hl
    refine lv_iload_n hx hb dX0_newCatchHandlers_106 rfl (lv_at hl 3 rfl) ?_
    rw [hQ]
    exact vz_iret3 hx hb hr hlk hK hP hD hS (ci_106, dr_106, df_106) hw_d_106 rfl (Nat.le_refl 0) (Nat.le_refl 0) dX0_newCatchHandlers_107
  have J24 : ∀ (fu24 n24 : Nat), 112 - n24 < fu24 → n24 ≤ 112 → ∀ (x3_24 : Int32), ∀ (x4_24 : Int32), ∀ (x5_24 : Int32), ∀ (ci_24 : Nat → Int32), ∀ (dr_24 : Nat → Nat), ∀ (df_24 : Nat → Nat → Int32), (∀ k, dr_24 k ≤ cdW_lim k) → ∀ (H : Heap) (locs : List Loc) (ls : Array Slot), va_P D vwCl (vz_w [coW g h ca ci_24 cr cf (da 0) (da 2) ph, cdW g da dr_24 df_24, pgW g ph pa pr pf]) H → va_D A (vz_w [coW g h ca ci_24 cr cf (da 0) (da 2) ph, cdW g da dr_24 df_24, pgW g ph pa pr pf]) → va_S A s.heap H locs → lv_has ls 8 [(0, .ref h), (1, .int n1), (2, .int n2), (3, .int x3_24), (4, .int x4_24), (5, .int x5_24), (6, .int (nI n24))] → W p l e { frames := 2, cells := 0, slots := 0, locals := 47 } s m args below meth c H locs 0 0 Q (F0 m 24 ls []) := by
    intro fu24
    induction fu24 with
    | zero => intro n24 z; omega
    | succ fu24 ih24 =>
      intro n24 hf24 hb24 x3_24 x4_24 x5_24 ci_24 dr_24 df_24 hw_d_24 H locs ls hP hD hS hl
      have J81 : n24 < 112 → ∀ (x3_81 : Int32), ∀ (x4_81 : Int32), ∀ (x7_81 : Int32), ∀ (ci_81 : Nat → Int32), ∀ (dr_81 : Nat → Nat), ∀ (df_81 : Nat → Nat → Int32), (∀ k, dr_81 k ≤ cdW_lim k) → ∀ (H : Heap) (locs : List Loc) (ls : Array Slot), va_P D vwCl (vz_w [coW g h ca ci_81 cr cf (da 0) (da 2) ph, cdW g da dr_81 df_81, pgW g ph pa pr pf]) H → va_D A (vz_w [coW g h ca ci_81 cr cf (da 0) (da 2) ph, cdW g da dr_81 df_81, pgW g ph pa pr pf]) → va_S A s.heap H locs → lv_has ls 8 [(0, .ref h), (1, .int n1), (2, .int n2), (3, .int x3_81), (4, .int x4_81), (5, .int x5_24), (6, .int (nI n24)), (7, .int x7_81)] → W p l e { frames := 2, cells := 0, slots := 0, locals := 47 } s m args below meth c H locs 0 0 Q (F0 m 81 ls []) := by
        intro hn24 x3_81 x4_81 x7_81 ci_81 dr_81 df_81 hw_d_81 H locs ls hP hD hS hl
        refine lv_iload hx hb dX0_newCatchHandlers_81 (lv_at hl 7 rfl) ?_
        refine lv_istore (lv' := [(4, .int x7_81), (0, .ref h), (1, .int n1), (2, .int n2), (3, .int x3_81), (5, .int x5_24), (6, .int (nI n24)), (7, .int x7_81)]) hx hb dX0_newCatchHandlers_83 hl (by decide) rfl (fun ls hl => ?_)
        refine lv_aload_n hx hb dX0_newCatchHandlers_85 rfl (lv_at hl 1 rfl) ?_
        refine va_get (D := D) (ci := 0) (v := .ref ph) (C := RX0) (T := TX0) (N := 8) hx hb hts inlX0 hown hK hP 0 rfl rfl 3 (by decide) (hts _ q108) (fun _ h => h) rfl dX0_newCatchHandlers_86 ?_
        refine va_get (D := D) (ci := 2) (v := .ref (pa 4)) (C := RX2) (T := TX2) (N := 5) hx hb hts inlX2 hown hK hP 7 rfl rfl 2 (by decide) (hts _ q636) (fun _ h => h) rfl dX0_newCatchHandlers_89 ?_
        refine lv_iload hx hb dX0_newCatchHandlers_92 (lv_at hl 5 rfl) ?_
        refine lv_iconst (v := 4) hx hb dX0_newCatchHandlers_94 (by decide) ?_
        refine vz_Vi2 (ws' := fun u : Unit => vz_w [coW g h ca ci_81 cr cf (da 0) (da 2) ph, cdW g da dr_81 df_81, pgW g ph pa pr pf]) (As := [.int x5_24, .int 4]) (rest := []) hx hb hml hown hts hK hA hP hD hS (c_T_get l D g (pa 4) (pa 5) H.size 5 112 (pr 2) 560 (pf 2) x5_24 4 ⟨rfl, by decide, by decide, by decide, by decide, hw_p 2⟩) kv_X0_63 ⟨Nat.le_of_ble_eq_true rfl, Nat.le_of_ble_eq_true rfl⟩ (q0 := 12) (ci := 6) rfl rfl rfl [12, 13] rfl (by decide) (fun _ => rfl) (fun _ => rfl) hl.1 (Nat.le_of_ble_eq_true rfl) dX0_newCatchHandlers_95 ⟨Nat.le_refl _, Nat.le_refl _⟩ rfl (fun v1 _ H locs he2 _ hP hD hS => ?_)
        refine lv_istore (lv' := [(5, .int v1), (4, .int x7_81), (0, .ref h), (1, .int n1), (2, .int n2), (3, .int x3_81), (6, .int (nI n24)), (7, .int x7_81)]) hx hb dX0_newCatchHandlers_98 hl (by decide) rfl (fun ls hl => ?_)
        refine lv_iinc (v := (nI (n24 + 1))) (lv' := [(6, .int (nI (n24 + 1))), (5, .int v1), (4, .int x7_81), (0, .ref h), (1, .int n1), (2, .int n2), (3, .int x3_81), (7, .int x7_81)]) hx hb dX0_newCatchHandlers_100 hl (k := 6) rfl (nI_1 n24) (by decide) rfl (fun ls hl => ?_)
        refine lv_goto (tgt := 24) hx hb dX0_newCatchHandlers_103 (by decide) ?_
        exact ih24 (n24 + 1) (by omega) (by omega) x3_81 x7_81 v1 ci_81 dr_81 df_81 hw_d_81 H locs ls hP hD hS (lv_sub hl [3, 4, 5, 6, 2, 1, 0] rfl)
      refine lv_iload hx hb dX0_newCatchHandlers_24 (lv_at hl 6 rfl) ?_
      refine lv_bipush (v := 112) hx hb dX0_newCatchHandlers_26 (by decide) ?_
      refine lv_icmp_ge (tgt := 106) hx hb dX0_newCatchHandlers_28 (by decide) (fun kc1 => ?_) (fun kc1 => ?_)
      · exact J106 x3_24 x4_24 x5_24 (nI n24) ci_24 dr_24 df_24 hw_d_24 H locs ls hP hD hS (lv_sub hl [0, 1, 2, 3, 4, 5, 6] rfl)
      · have hn24 : n24 < 112 := vz_ltge (B := 112) (by omega) kc1
        refine lv_iload hx hb dX0_newCatchHandlers_31 (lv_at hl 5 rfl) ?_
        refine lv_bipush (v := (-9)) hx hb dX0_newCatchHandlers_33 (by decide) ?_
        refine lv_icmp_eq (tgt := 106) hx hb dX0_newCatchHandlers_35 (by decide) (fun kc2 => ?_) (fun kc2 => ?_)
        · exact J106 x3_24 x4_24 x5_24 (nI n24) ci_24 dr_24 df_24 hw_d_24 H locs ls hP hD hS (lv_sub hl [0, 1, 2, 3, 4, 5, 6] rfl)
        · refine lv_aload_n hx hb dX0_newCatchHandlers_38 rfl (lv_at hl 0 rfl) ?_
          refine lv_aload_n hx hb dX0_newCatchHandlers_39 rfl (lv_at hl 0 rfl) ?_
          refine va_get (D := D) (ci := 0) (v := .ref ph) (C := RX0) (T := TX0) (N := 8) hx hb hts inlX0 hown hK hP 0 rfl rfl 3 (by decide) (hts _ q108) (fun _ h => h) rfl dX0_newCatchHandlers_40 ?_
          refine va_get (D := D) (ci := 2) (v := .ref (pa 4)) (C := RX2) (T := TX2) (N := 5) hx hb hts inlX2 hown hK hP 7 rfl rfl 2 (by decide) (hts _ q636) (fun _ h => h) rfl dX0_newCatchHandlers_43 ?_
          refine lv_iload hx hb dX0_newCatchHandlers_46 (lv_at hl 5 rfl) ?_
          refine lv_iconst (v := 1) hx hb dX0_newCatchHandlers_48 (by decide) ?_
          refine vz_Vi2 (ws' := fun u : Unit => vz_w [coW g h ca ci_24 cr cf (da 0) (da 2) ph, cdW g da dr_24 df_24, pgW g ph pa pr pf]) (As := [.int x5_24, .int 1]) (rest := [.ref h]) hx hb hml hown hts hK hA hP hD hS (c_T_get l D g (pa 4) (pa 5) H.size 5 112 (pr 2) 560 (pf 2) x5_24 1 ⟨rfl, by decide, by decide, by decide, by decide, hw_p 2⟩) kv_X0_63 ⟨Nat.le_of_ble_eq_true rfl, Nat.le_of_ble_eq_true rfl⟩ (q0 := 12) (ci := 6) rfl rfl rfl [12, 13] rfl (by decide) (fun _ => rfl) (fun _ => rfl) hl.1 (Nat.le_of_ble_eq_true rfl) dX0_newCatchHandlers_49 ⟨Nat.le_refl _, Nat.le_refl _⟩ rfl (fun v3 _ H locs he4 _ hP hD hS => ?_)
          refine lv_iload_n hx hb dX0_newCatchHandlers_52 rfl (lv_at hl 2 rfl) ?_
          refine vz_Vi3 (As := [.int v3, .int n2]) (rest := []) hx hb hml hown hts hK hA hP hD hS (a_C_newHandler l D g H.size h ca ci_24 cr cf da ph dr_24 df_24 pa pr pf v3 n2 hw_c hw_d_24 hw_p) kv_X0_139 ⟨Nat.le_of_ble_eq_true rfl, Nat.le_of_ble_eq_true rfl⟩ (q0 := 0) (ci := 0) rfl rfl rfl  hl.1 (Nat.le_of_ble_eq_true rfl) dX0_newCatchHandlers_53 ⟨Nat.le_refl _, Nat.le_refl _⟩ rfl (fun v9 ⟨ci_5, dr_6, df_7⟩ H locs hw_8 _ hP hD hS => ?_)
          try dsimp only at hw_8
          replace hP : va_P D vwCl (vz_w [coW g h ca ci_5 cr cf (da 0) (da 2) ph, cdW g da dr_6 df_7, pgW g ph pa pr pf]) H := hP
          replace hD : va_D A (vz_w [coW g h ca ci_5 cr cf (da 0) (da 2) ph, cdW g da dr_6 df_7, pgW g ph pa pr pf]) := hD
          refine lv_istore (lv' := [(7, .int v9), (0, .ref h), (1, .int n1), (2, .int n2), (3, .int x3_24), (4, .int x4_24), (5, .int x5_24), (6, .int (nI n24))]) hx hb dX0_newCatchHandlers_56 hl (by decide) rfl (fun ls hl => ?_)
          refine lv_iload hx hb dX0_newCatchHandlers_58 (lv_at hl 7 rfl) ?_
          refine lv_if_ne (tgt := 69) hx hb dX0_newCatchHandlers_60 (by decide) (fun kc10 => ?_) (fun kc10 => ?_)
          · refine lv_aload_n hx hb dX0_newCatchHandlers_69 rfl (lv_at hl 1 rfl) ?_
            refine va_get (D := D) (ci := 0) (v := .ref (da 2)) (C := RX0) (T := TX0) (N := 8) hx hb hts inlX0 hown hK hP 0 rfl rfl 1 (by decide) (hts _ q111) (fun _ h => h) rfl dX0_newCatchHandlers_70 ?_
            refine lv_iload hx hb dX0_newCatchHandlers_73 (lv_at hl 5 rfl) ?_
            refine lv_iconst (v := 2) hx hb dX0_newCatchHandlers_75 (by decide) ?_
            refine lv_iload hx hb dX0_newCatchHandlers_76 (lv_at hl 0 rfl) ?_
            refine vz_Vv2 (ws' := fun u : (Nat → Int32) => vz_w [coW g h ca ci_5 cr cf (da 0) (da 2) ph, cdW g da dr_6 (vz_uf df_7 1 u), pgW g ph pa pr pf]) (As := [.int x4_24, .int 2, .int v9]) (rest := []) hx hb hml hown hts hK hA hP hD hS (c_T_set l D g (da 2) (da 3) H.size 3 500 (dr_6 1) 1500 (df_7 1) x4_24 2 v9 ⟨rfl, by decide, by decide, by decide, by decide, hw_8 1⟩) kv_X0_53 ⟨Nat.le_of_ble_eq_true rfl, Nat.le_of_ble_eq_true rfl⟩ (q0 := 5) (ci := 6) rfl rfl rfl [5, 6] rfl (by decide) (fun _ => rfl) (fun _ => rfl) hl.1 (Nat.le_of_ble_eq_true rfl) dX0_newCatchHandlers_78 ⟨Nat.le_refl _, Nat.le_refl _⟩ rfl (fun nf11 H locs _ _ hP hD hS => ?_)
            obtain ⟨df_12, hP, hD⟩ : ∃ df_12 : Nat → Nat → Int32, va_P D vwCl (vz_w [coW g h ca ci_5 cr cf (da 0) (da 2) ph, cdW g da dr_6 df_12, pgW g ph pa pr pf]) H ∧ va_D A (vz_w [coW g h ca ci_5 cr cf (da 0) (da 2) ph, cdW g da dr_6 df_12, pgW g ph pa pr pf]) := ⟨(vz_uf df_7 1 nf11), hP, hD⟩
            exact J81 hn24 x3_24 x4_24 v9 ci_5 dr_6 df_12 hw_8 H locs ls hP hD hS (lv_sub hl [1, 2, 3, 4, 5, 6, 7, 0] rfl)
          · refine lv_iload hx hb dX0_newCatchHandlers_63 (lv_at hl 0 rfl) ?_
            refine lv_istore_n (lv' := [(3, .int v9), (7, .int v9), (0, .ref h), (1, .int n1), (2, .int n2), (4, .int x4_24), (5, .int x5_24), (6, .int (nI n24))]) hx hb dX0_newCatchHandlers_65 rfl hl (by decide) rfl (fun ls hl => ?_)
            refine lv_goto (tgt := 81) hx hb dX0_newCatchHandlers_66 (by decide) ?_
            exact J81 hn24 v9 x4_24 v9 ci_5 dr_6 df_7 hw_8 H locs ls hP hD hS (lv_sub hl [2, 3, 4, 0, 5, 6, 7, 1] rfl)
  refine lv_iload_n hx hb dX0_newCatchHandlers_0 rfl (lv_at hl 2 rfl) ?_
  refine lv_istore_n (lv' := [(3, .int n2), (0, .ref h), (1, .int n1), (2, .int n2)]) hx hb dX0_newCatchHandlers_1 rfl hl (by decide) rfl (fun ls hl => ?_)
  refine lv_bipush (v := (-9)) hx hb dX0_newCatchHandlers_2 (by decide) ?_
  refine lv_istore (lv' := [(4, .int (-9)), (3, .int n2), (0, .ref h), (1, .int n1), (2, .int n2)]) hx hb dX0_newCatchHandlers_4 hl (by decide) rfl (fun ls hl => ?_)
  refine lv_aload_n hx hb dX0_newCatchHandlers_6 rfl (lv_at hl 2 rfl) ?_
  refine va_get (D := D) (ci := 0) (v := .ref ph) (C := RX0) (T := TX0) (N := 8) hx hb hts inlX0 hown hK hP 0 rfl rfl 3 (by decide) (hts _ q108) (fun _ h => h) rfl dX0_newCatchHandlers_7 ?_
  refine va_get (D := D) (ci := 2) (v := .ref (pa 0)) (C := RX2) (T := TX2) (N := 5) hx hb hts inlX2 hown hK hP 7 rfl rfl 0 (by decide) (hts _ q631) (fun _ h => h) rfl dX0_newCatchHandlers_10 ?_
  refine lv_iload_n hx hb dX0_newCatchHandlers_13 rfl (lv_at hl 3 rfl) ?_
  refine lv_bipush (v := 11) hx hb dX0_newCatchHandlers_14 (by decide) ?_
  refine vz_Vi2 (ws' := fun u : Unit => vz_w [coW g h ca ci cr cf (da 0) (da 2) ph, cdW g da dr df, pgW g ph pa pr pf]) (As := [.int n1, .int 11]) (rest := []) hx hb hml hown hts hK hA hP hD hS (c_T_get l D g (pa 0) (pa 1) H.size 12 80 (pr 0) 960 (pf 0) n1 11 ⟨rfl, by decide, by decide, by decide, by decide, hw_p 0⟩) kv_X0_63 ⟨Nat.le_of_ble_eq_true rfl, Nat.le_of_ble_eq_true rfl⟩ (q0 := 8) (ci := 6) rfl rfl rfl [8, 9] rfl (by decide) (fun _ => rfl) (fun _ => rfl) hl.1 (Nat.le_of_ble_eq_true rfl) dX0_newCatchHandlers_16 ⟨Nat.le_refl _, Nat.le_refl _⟩ rfl (fun v1 _ H locs he2 _ hP hD hS => ?_)
  refine lv_istore (lv' := [(5, .int v1), (4, .int (-9)), (3, .int n2), (0, .ref h), (1, .int n1), (2, .int n2)]) hx hb dX0_newCatchHandlers_19 hl (by decide) rfl (fun ls hl => ?_)
  refine lv_iconst (v := 0) hx hb dX0_newCatchHandlers_21 (by decide) ?_
  refine lv_istore (lv' := [(6, .int 0), (5, .int v1), (4, .int (-9)), (3, .int n2), (0, .ref h), (1, .int n1), (2, .int n2)]) hx hb dX0_newCatchHandlers_22 hl (by decide) rfl (fun ls hl => ?_)
  exact J24 (113) 0 (by omega) (by omega) n2 (-9) v1 ci dr df hw_d H locs ls hP hD hS (lv_sub hl [4, 5, 6, 3, 2, 1, 0] rfl)
theorem dX0_writeClosings_0 : decode cX0_writeClosings 0 = .ok (.aload_n 0, 1) := by decide +kernel
theorem dX0_writeClosings_1 : decode cX0_writeClosings 1 = .ok (.getfield 9, 3) := by decide +kernel
theorem dX0_writeClosings_4 : decode cX0_writeClosings 4 = .ok (.getfield 81, 3) := by decide +kernel
theorem dX0_writeClosings_7 : decode cX0_writeClosings 7 = .ok (.iload_n 1, 1) := by decide +kernel
theorem dX0_writeClosings_8 : decode cX0_writeClosings 8 = .ok (.iconst 1, 1) := by decide +kernel
theorem dX0_writeClosings_9 : decode cX0_writeClosings 9 = .ok (.invokevirtual 63, 3) := by decide +kernel
theorem dX0_writeClosings_12 : decode cX0_writeClosings 12 = .ok (.iconst 1, 1) := by decide +kernel
theorem dX0_writeClosings_13 : decode cX0_writeClosings 13 = .ok (.isub, 1) := by decide +kernel
theorem dX0_writeClosings_14 : decode cX0_writeClosings 14 = .ok (.istore_n 3, 1) := by decide +kernel
theorem dX0_writeClosings_15 : decode cX0_writeClosings 15 = .ok (.iload_n 3, 1) := by decide +kernel
theorem dX0_writeClosings_16 : decode cX0_writeClosings 16 = .ok (.ifCond .lt 33, 3) := by decide +kernel
theorem dX0_writeClosings_19 : decode cX0_writeClosings 19 = .ok (.aload_n 0, 1) := by decide +kernel
theorem dX0_writeClosings_20 : decode cX0_writeClosings 20 = .ok (.aload_n 0, 1) := by decide +kernel
theorem dX0_writeClosings_21 : decode cX0_writeClosings 21 = .ok (.getfield 24, 3) := by decide +kernel
theorem dX0_writeClosings_24 : decode cX0_writeClosings 24 = .ok (.iload_n 2, 1) := by decide +kernel
theorem dX0_writeClosings_25 : decode cX0_writeClosings 25 = .ok (.iload_n 3, 1) := by decide +kernel
theorem dX0_writeClosings_26 : decode cX0_writeClosings 26 = .ok (.iadd, 1) := by decide +kernel
theorem dX0_writeClosings_27 : decode cX0_writeClosings 27 = .ok (.iconst 2, 1) := by decide +kernel
theorem dX0_writeClosings_28 : decode cX0_writeClosings 28 = .ok (.invokevirtual 63, 3) := by decide +kernel
theorem dX0_writeClosings_31 : decode cX0_writeClosings 31 = .ok (.putfield 57, 3) := by decide +kernel
theorem dX0_writeClosings_34 : decode cX0_writeClosings 34 = .ok (.aload_n 0, 1) := by decide +kernel
theorem dX0_writeClosings_35 : decode cX0_writeClosings 35 = .ok (.bipush 35, 2) := by decide +kernel
theorem dX0_writeClosings_37 : decode cX0_writeClosings 37 = .ok (.iload_n 1, 1) := by decide +kernel
theorem dX0_writeClosings_38 : decode cX0_writeClosings 38 = .ok (.iload_n 3, 1) := by decide +kernel
theorem dX0_writeClosings_39 : decode cX0_writeClosings 39 = .ok (.invokevirtual 70, 3) := by decide +kernel
theorem dX0_writeClosings_42 : decode cX0_writeClosings 42 = .ok (.pop, 1) := by decide +kernel
theorem dX0_writeClosings_43 : decode cX0_writeClosings 43 = .ok (.iinc 3 (-1), 3) := by decide +kernel
theorem dX0_writeClosings_46 : decode cX0_writeClosings 46 = .ok (.goto (-31), 3) := by decide +kernel
theorem dX0_writeClosings_49 : decode cX0_writeClosings 49 = .ok (.return_, 1) := by decide +kernel
set_option maxHeartbeats 8000000 in
set_option maxRecDepth 100000 in
theorem a_C_writeClosings (l : Launch) (D : va_G) (g : Nat → ClassId)   (sz : Nat) (h : Nat) (ca : Nat → Nat) (ci : Nat → Int32) (cr : Nat → Nat) (cf : Nat → Nat → Int32) (da : Nat → Nat) (ph : Nat) (dr : Nat → Nat) (df : Nat → Nat → Int32) (pa : Nat → Nat) (pr : Nat → Nat) (pf : Nat → Nat → Int32) (n1 : Int32) (n2 : Int32) (hw_c : ∀ k, cr k ≤ coW_lim k) (hw_d : ∀ k, dr k ≤ cdW_lim k) (hw_p : ∀ k, pr k ≤ pgW_lim k) : vz_Mv l D (tyG g) yX0_writeClosings cX0_writeClosings 4 2 48 0 0 [.ref h, .int n1, .int n2] sz (vz_w [coW g h ca ci cr cf (da 0) (da 2) ph, cdW g da dr df, pgW g ph pa pr pf]) (fun u : (Nat → Int32) × (Nat → Nat) × (Nat → Nat → Int32) => (∀ k, u.2.1 k ≤ cdW_lim k)) (fun u => vz_w [coW g h ca u.1 cr cf (da 0) (da 2) ph, cdW g da u.2.1 u.2.2, pgW g ph pa pr pf]) := by
  refine vz_svQ (by decide) (Nat.le_of_ble_eq_true rfl) (fun p e s m args below meth c hx hb hr hml hts hown hlk hin hK hsz A hA H locs hP hD hS ls hl Q hQ => ?_)
  have hl : lv_has ls 4 [(0, .ref h), (1, .int n1), (2, .int n2)] := hl
  have J15 : ∀ fu15 : Nat, ∀ (x3_15 : Int32), ∀ (ci_15 : Nat → Int32), ∀ (dr_15 : Nat → Nat), ∀ (df_15 : Nat → Nat → Int32), (x3_15.toInt + 1).toNat < fu15 → (∀ k, dr_15 k ≤ cdW_lim k) → ∀ (H : Heap) (locs : List Loc) (ls : Array Slot), va_P D vwCl (vz_w [coW g h ca ci_15 cr cf (da 0) (da 2) ph, cdW g da dr_15 df_15, pgW g ph pa pr pf]) H → va_D A (vz_w [coW g h ca ci_15 cr cf (da 0) (da 2) ph, cdW g da dr_15 df_15, pgW g ph pa pr pf]) → va_S A s.heap H locs → lv_has ls 4 [(0, .ref h), (1, .int n1), (2, .int n2), (3, .int x3_15)] → W p l e { frames := 2, cells := 0, slots := 0, locals := 48 } s m args below meth c H locs 0 0 Q (F0 m 15 ls []) := by
    intro fu15
    induction fu15 with
    | zero => intro x3_15 ci_15 dr_15 df_15 hf15 hw_d_15 H locs ls hP hD hS hl; exact absurd hf15 (Nat.not_lt_zero _)
    | succ fu15 ih15 =>
      intro x3_15 ci_15 dr_15 df_15 hf15 hw_d_15 H locs ls hP hD hS hl
      refine lv_iload_n hx hb dX0_writeClosings_15 rfl (lv_at hl 3 rfl) ?_
      refine lv_if_lt (tgt := 49) hx hb dX0_writeClosings_16 (by decide) (fun kc1 => ?_) (fun kc1 => ?_)
      · rw [hQ]
        exact vz_vret3 hx hb hr hlk hK hP hD hS (ci_15, dr_15, df_15) hw_d_15 rfl (Nat.le_refl 0) (Nat.le_refl 0) dX0_writeClosings_49
      · have hn15 : ((x3_15 + (-1)).toInt + 1).toNat < fu15 := by have hq := vz_dn kc1; omega
        refine lv_aload_n hx hb dX0_writeClosings_19 rfl (lv_at hl 0 rfl) ?_
        refine lv_aload_n hx hb dX0_writeClosings_20 rfl (lv_at hl 0 rfl) ?_
        refine va_get (D := D) (ci := 0) (v := .ref (da 2)) (C := RX0) (T := TX0) (N := 8) hx hb hts inlX0 hown hK hP 0 rfl rfl 1 (by decide) (hts _ q111) (fun _ h => h) rfl dX0_writeClosings_21 ?_
        refine lv_iload_n hx hb dX0_writeClosings_24 rfl (lv_at hl 2 rfl) ?_
        refine lv_iload_n hx hb dX0_writeClosings_25 rfl (lv_at hl 3 rfl) ?_
        refine lv_iadd hx hb dX0_writeClosings_26 ?_
        refine lv_iconst (v := 2) hx hb dX0_writeClosings_27 (by decide) ?_
        refine vz_Vi2 (ws' := fun u : Unit => vz_w [coW g h ca ci_15 cr cf (da 0) (da 2) ph, cdW g da dr_15 df_15, pgW g ph pa pr pf]) (As := [.int (n2 + x3_15), .int 2]) (rest := [.ref h]) hx hb hml hown hts hK hA hP hD hS (c_T_get l D g (da 2) (da 3) H.size 3 500 (dr_15 1) 1500 (df_15 1) (n2 + x3_15) 2 ⟨rfl, by decide, by decide, by decide, by decide, hw_d_15 1⟩) kv_X0_63 ⟨Nat.le_of_ble_eq_true rfl, Nat.le_of_ble_eq_true rfl⟩ (q0 := 5) (ci := 6) rfl rfl rfl [5, 6] rfl (by decide) (fun _ => rfl) (fun _ => rfl) hl.1 (Nat.le_of_ble_eq_true rfl) dX0_writeClosings_28 ⟨Nat.le_refl _, Nat.le_refl _⟩ rfl (fun v2 _ H locs he3 _ hP hD hS => ?_)
        refine va_put (D := D) (ci := 0) (v := .int v2) (ty := .int) (C := RX0) (T := TX0) (N := 8) hx hb hts inlX0 tyX0 tyX0_ok nmX0 hown hK hP hD hS 0 rfl rfl 6 (by decide) (hts _ q622) (fun _ h => h) rfl (by decide +kernel) rfl rfl (Nat.le_of_ble_eq_true rfl) dX0_writeClosings_31 (fun H locs hP hD hS => ?_)
        obtain ⟨ci_4, hci_4, hP, hD⟩ : ∃ ci_4 : Nat → Int32, (ci_4 = (upd ci_15 2 v2)) ∧ va_P D vwCl (vz_w [coW g h ca ci_4 cr cf (da 0) (da 2) ph, cdW g da dr_15 df_15, pgW g ph pa pr pf]) H ∧ va_D A (vz_w [coW g h ca ci_4 cr cf (da 0) (da 2) ph, cdW g da dr_15 df_15, pgW g ph pa pr pf]) := ⟨(upd ci_15 2 v2), rfl, hP, hD⟩
        refine lv_aload_n hx hb dX0_writeClosings_34 rfl (lv_at hl 0 rfl) ?_
        refine lv_bipush (v := 35) hx hb dX0_writeClosings_35 (by decide) ?_
        refine lv_iload_n hx hb dX0_writeClosings_37 rfl (lv_at hl 1 rfl) ?_
        refine lv_iload_n hx hb dX0_writeClosings_38 rfl (lv_at hl 3 rfl) ?_
        refine vz_Vi3 (As := [.int 35, .int n1, .int x3_15]) (rest := []) hx hb hml hown hts hK hA hP hD hS (a_C_emit l D g H.size h ca ci_4 cr cf da ph dr_15 df_15 pa pr pf 35 n1 x3_15 hw_c hw_d_15 hw_p) kv_X0_70 ⟨Nat.le_of_ble_eq_true rfl, Nat.le_of_ble_eq_true rfl⟩ (q0 := 0) (ci := 0) rfl rfl rfl  hl.1 (Nat.le_of_ble_eq_true rfl) dX0_writeClosings_39 ⟨Nat.le_refl _, Nat.le_refl _⟩ rfl (fun v9 ⟨ci_5, dr_6, df_7⟩ H locs hw_8 _ hP hD hS => ?_)
        try dsimp only at hw_8
        replace hP : va_P D vwCl (vz_w [coW g h ca ci_5 cr cf (da 0) (da 2) ph, cdW g da dr_6 df_7, pgW g ph pa pr pf]) H := hP
        replace hD : va_D A (vz_w [coW g h ca ci_5 cr cf (da 0) (da 2) ph, cdW g da dr_6 df_7, pgW g ph pa pr pf]) := hD
        refine lv_pop hx hb dX0_writeClosings_42 rfl ?_
        refine lv_iinc (v := (x3_15 + (-1))) (lv' := [(3, .int (x3_15 + (-1))), (0, .ref h), (1, .int n1), (2, .int n2)]) hx hb dX0_writeClosings_43 hl (k := 3) rfl (rfl) (by decide) rfl (fun ls hl => ?_)
        refine lv_goto (tgt := 15) hx hb dX0_writeClosings_46 (by decide) ?_
        exact ih15 (x3_15 + (-1)) ci_5 dr_6 df_7 hn15 hw_8 H locs ls hP hD hS (lv_sub hl [1, 2, 3, 0] rfl)
  refine lv_aload_n hx hb dX0_writeClosings_0 rfl (lv_at hl 0 rfl) ?_
  refine va_get (D := D) (ci := 0) (v := .ref ph) (C := RX0) (T := TX0) (N := 8) hx hb hts inlX0 hown hK hP 0 rfl rfl 3 (by decide) (hts _ q108) (fun _ h => h) rfl dX0_writeClosings_1 ?_
  refine va_get (D := D) (ci := 2) (v := .ref (pa 0)) (C := RX2) (T := TX2) (N := 5) hx hb hts inlX2 hown hK hP 7 rfl rfl 0 (by decide) (hts _ q631) (fun _ h => h) rfl dX0_writeClosings_4 ?_
  refine lv_iload_n hx hb dX0_writeClosings_7 rfl (lv_at hl 1 rfl) ?_
  refine lv_iconst (v := 1) hx hb dX0_writeClosings_8 (by decide) ?_
  refine vz_Vi2 (ws' := fun u : Unit => vz_w [coW g h ca ci cr cf (da 0) (da 2) ph, cdW g da dr df, pgW g ph pa pr pf]) (As := [.int n1, .int 1]) (rest := []) hx hb hml hown hts hK hA hP hD hS (c_T_get l D g (pa 0) (pa 1) H.size 12 80 (pr 0) 960 (pf 0) n1 1 ⟨rfl, by decide, by decide, by decide, by decide, hw_p 0⟩) kv_X0_63 ⟨Nat.le_of_ble_eq_true rfl, Nat.le_of_ble_eq_true rfl⟩ (q0 := 8) (ci := 6) rfl rfl rfl [8, 9] rfl (by decide) (fun _ => rfl) (fun _ => rfl) hl.1 (Nat.le_of_ble_eq_true rfl) dX0_writeClosings_9 ⟨Nat.le_refl _, Nat.le_refl _⟩ rfl (fun v1 _ H locs he2 _ hP hD hS => ?_)
  refine lv_iconst (v := 1) hx hb dX0_writeClosings_12 (by decide) ?_
  refine lv_isub hx hb dX0_writeClosings_13 ?_
  refine lv_istore_n (lv' := [(3, .int (v1 - 1)), (0, .ref h), (1, .int n1), (2, .int n2)]) hx hb dX0_writeClosings_14 rfl hl (by decide) rfl (fun ls hl => ?_)
  exact J15 (2 ^ 34) (v1 - 1) ci dr df (vz_mc _) hw_d H locs ls hP hD hS (lv_sub hl [1, 2, 3, 0] rfl)
theorem q708 : Cond.methodLink RX0 87 yX0_writeSum ∈ wsL_law := mT_4 (List.mem_of_getElem? (i := 64) rfl) rfl
theorem q709 : Cond.instanceMethod yX0_writeSum ∈ wsL_law := mT_4 (List.mem_of_getElem? (i := 66) rfl) rfl
theorem q710 : Cond.selects RX0 yX0_writeSum yX0_writeSum ∈ wsL_law := mS_3 (q := (yX0_writeSum, 8)) (List.mem_of_getElem? (i := 7) rfl) rfl
theorem q711 : Cond.code yX0_writeSum cX0_writeSum 5 none ∈ wsL_law := mT_4 (List.mem_of_getElem? (i := 67) rfl) rfl
theorem kv_X0_87 : vz_cv RX0 87 yX0_writeSum cX0_writeSum 5 none 2 := ⟨q708, q709, q710, q33, q711, by decide +kernel⟩
theorem q712 : Cond.fieldLink RX0 164 "WaysAtlas$Program" "nodes" "LWaysAtlas$Table;" ∈ wsL_law := mT_1 (List.mem_of_getElem? (i := 89) rfl) rfl
theorem dX0_writeList_0 : decode cX0_writeList 0 = .ok (.iload_n 1, 1) := by decide +kernel
theorem dX0_writeList_1 : decode cX0_writeList 1 = .ok (.istore_n 3, 1) := by decide +kernel
theorem dX0_writeList_2 : decode cX0_writeList 2 = .ok (.iconst 0, 1) := by decide +kernel
theorem dX0_writeList_3 : decode cX0_writeList 3 = .ok (.istore 4, 2) := by decide +kernel
theorem dX0_writeList_5 : decode cX0_writeList 5 = .ok (.iload 4, 2) := by decide +kernel
theorem dX0_writeList_7 : decode cX0_writeList 7 = .ok (.sipush 1000, 3) := by decide +kernel
theorem dX0_writeList_10 : decode cX0_writeList 10 = .ok (.if_icmp .ge 65, 3) := by decide +kernel
theorem dX0_writeList_13 : decode cX0_writeList 13 = .ok (.iload_n 3, 1) := by decide +kernel
theorem dX0_writeList_14 : decode cX0_writeList 14 = .ok (.bipush (-9), 2) := by decide +kernel
theorem dX0_writeList_16 : decode cX0_writeList 16 = .ok (.if_icmp .eq 59, 3) := by decide +kernel
theorem dX0_writeList_19 : decode cX0_writeList 19 = .ok (.aload_n 0, 1) := by decide +kernel
theorem dX0_writeList_20 : decode cX0_writeList 20 = .ok (.getfield 34, 3) := by decide +kernel
theorem dX0_writeList_23 : decode cX0_writeList 23 = .ok (.ifCond .ne 52, 3) := by decide +kernel
theorem dX0_writeList_26 : decode cX0_writeList 26 = .ok (.aload_n 0, 1) := by decide +kernel
theorem dX0_writeList_27 : decode cX0_writeList 27 = .ok (.iload_n 3, 1) := by decide +kernel
theorem dX0_writeList_28 : decode cX0_writeList 28 = .ok (.iload_n 2, 1) := by decide +kernel
theorem dX0_writeList_29 : decode cX0_writeList 29 = .ok (.invokevirtual 87, 3) := by decide +kernel
theorem dX0_writeList_32 : decode cX0_writeList 32 = .ok (.iload 4, 2) := by decide +kernel
theorem dX0_writeList_34 : decode cX0_writeList 34 = .ok (.ifCond .le 22, 3) := by decide +kernel
theorem dX0_writeList_37 : decode cX0_writeList 37 = .ok (.aload_n 0, 1) := by decide +kernel
theorem dX0_writeList_38 : decode cX0_writeList 38 = .ok (.iconst 5, 1) := by decide +kernel
theorem dX0_writeList_39 : decode cX0_writeList 39 = .ok (.aload_n 0, 1) := by decide +kernel
theorem dX0_writeList_40 : decode cX0_writeList 40 = .ok (.getfield 9, 3) := by decide +kernel
theorem dX0_writeList_43 : decode cX0_writeList 43 = .ok (.getfield 164, 3) := by decide +kernel
theorem dX0_writeList_46 : decode cX0_writeList 46 = .ok (.iload_n 3, 1) := by decide +kernel
theorem dX0_writeList_47 : decode cX0_writeList 47 = .ok (.iconst 4, 1) := by decide +kernel
theorem dX0_writeList_48 : decode cX0_writeList 48 = .ok (.invokevirtual 63, 3) := by decide +kernel
theorem dX0_writeList_51 : decode cX0_writeList 51 = .ok (.iconst 0, 1) := by decide +kernel
theorem dX0_writeList_52 : decode cX0_writeList 52 = .ok (.invokevirtual 70, 3) := by decide +kernel
theorem dX0_writeList_55 : decode cX0_writeList 55 = .ok (.pop, 1) := by decide +kernel
theorem dX0_writeList_56 : decode cX0_writeList 56 = .ok (.aload_n 0, 1) := by decide +kernel
theorem dX0_writeList_57 : decode cX0_writeList 57 = .ok (.getfield 9, 3) := by decide +kernel
theorem dX0_writeList_60 : decode cX0_writeList 60 = .ok (.getfield 164, 3) := by decide +kernel
theorem dX0_writeList_63 : decode cX0_writeList 63 = .ok (.iload_n 3, 1) := by decide +kernel
theorem dX0_writeList_64 : decode cX0_writeList 64 = .ok (.iconst 3, 1) := by decide +kernel
theorem dX0_writeList_65 : decode cX0_writeList 65 = .ok (.invokevirtual 63, 3) := by decide +kernel
theorem dX0_writeList_68 : decode cX0_writeList 68 = .ok (.istore_n 3, 1) := by decide +kernel
theorem dX0_writeList_69 : decode cX0_writeList 69 = .ok (.iinc 4 1, 3) := by decide +kernel
theorem dX0_writeList_72 : decode cX0_writeList 72 = .ok (.goto (-67), 3) := by decide +kernel
theorem dX0_writeList_75 : decode cX0_writeList 75 = .ok (.return_, 1) := by decide +kernel
set_option maxHeartbeats 8000000 in
set_option maxRecDepth 100000 in
theorem a_C_list (l : Launch) (D : va_G) (g : Nat → ClassId) (dn : Nat) (hB : ∀ (sz : Nat) (h : Nat) (ca : Nat → Nat) (ci : Nat → Int32) (cr : Nat → Nat) (cf : Nat → Nat → Int32) (da : Nat → Nat) (ph : Nat) (dr : Nat → Nat) (df : Nat → Nat → Int32) (pa : Nat → Nat) (pr : Nat → Nat) (pf : Nat → Nat → Int32) (n1 : Int32) (hw_c : ∀ k, cr k ≤ coW_lim k) (hw_d : ∀ k, dr k ≤ cdW_lim k) (hw_p : ∀ k, pr k ≤ pgW_lim k), vz_Mv l D (tyG g) yX0_writeSum cX0_writeSum 5 (2 * (41 - dn) + 20) (48 * (41 - dn) + 900) 0 0 [.ref h, .int n1, .int (nI dn)] sz (vz_w [coW g h ca ci cr cf (da 0) (da 2) ph, cdW g da dr df, pgW g ph pa pr pf]) (fun u : (Nat → Int32) × (Nat → Nat) × (Nat → Nat → Int32) => (∀ k, u.2.1 k ≤ cdW_lim k)) (fun u => vz_w [coW g h ca u.1 cr cf (da 0) (da 2) ph, cdW g da u.2.1 u.2.2, pgW g ph pa pr pf])) (sz : Nat) (h : Nat) (ca : Nat → Nat) (ci : Nat → Int32) (cr : Nat → Nat) (cf : Nat → Nat → Int32) (da : Nat → Nat) (ph : Nat) (dr : Nat → Nat) (df : Nat → Nat → Int32) (pa : Nat → Nat) (pr : Nat → Nat) (pf : Nat → Nat → Int32) (n1 : Int32) (hw_c : ∀ k, cr k ≤ coW_lim k) (hw_d : ∀ k, dr k ≤ cdW_lim k) (hw_p : ∀ k, pr k ≤ pgW_lim k) : vz_Mv l D (tyG g) yX0_writeList cX0_writeList 5 (2 * (41 - dn) + 21) (48 * (41 - dn) + 924) 0 0 [.ref h, .int n1, .int (nI dn)] sz (vz_w [coW g h ca ci cr cf (da 0) (da 2) ph, cdW g da dr df, pgW g ph pa pr pf]) (fun u : (Nat → Int32) × (Nat → Nat) × (Nat → Nat → Int32) => (∀ k, u.2.1 k ≤ cdW_lim k)) (fun u => vz_w [coW g h ca u.1 cr cf (da 0) (da 2) ph, cdW g da u.2.1 u.2.2, pgW g ph pa pr pf]) := by
  refine vz_svQ (by decide) (Nat.le_of_ble_eq_true rfl) (fun p e s m args below meth c hx hb hr hml hts hown hlk hin hK hsz A hA H locs hP hD hS ls hl Q hQ => ?_)
  have hl : lv_has ls 5 [(0, .ref h), (1, .int n1), (2, .int (nI dn))] := hl
  have J75 : ∀ (x3_75 : Int32), ∀ (x4_75 : Int32), ∀ (ci_75 : Nat → Int32), ∀ (dr_75 : Nat → Nat), ∀ (df_75 : Nat → Nat → Int32), (∀ k, dr_75 k ≤ cdW_lim k) → ∀ (H : Heap) (locs : List Loc) (ls : Array Slot), va_P D vwCl (vz_w [coW g h ca ci_75 cr cf (da 0) (da 2) ph, cdW g da dr_75 df_75, pgW g ph pa pr pf]) H → va_D A (vz_w [coW g h ca ci_75 cr cf (da 0) (da 2) ph, cdW g da dr_75 df_75, pgW g ph pa pr pf]) → va_S A s.heap H locs → lv_has ls 5 [(0, .ref h), (1, .int n1), (2, .int (nI dn)), (3, .int x3_75), (4, .int x4_75)] → W p l e { frames := (2 * (41 - dn) + 21), cells := 0, slots := 0, locals := (48 * (41 - dn) + 924) } s m args below meth c H locs 0 0 Q (F0 m 75 ls []) := by
    intro x3_75 x4_75 ci_75 dr_75 df_75 hw_d_75 H locs ls hP hD hS hl
    rw [hQ]
    exact vz_vret3 hx hb hr hlk hK hP hD hS (ci_75, dr_75, df_75) hw_d_75 rfl (Nat.le_refl 0) (Nat.le_refl 0) dX0_writeList_75
  have J5 : ∀ (fu5 n5 : Nat), 1000 - n5 < fu5 → n5 ≤ 1000 → ∀ (x3_5 : Int32), ∀ (ci_5 : Nat → Int32), ∀ (dr_5 : Nat → Nat), ∀ (df_5 : Nat → Nat → Int32), (∀ k, dr_5 k ≤ cdW_lim k) → ∀ (H : Heap) (locs : List Loc) (ls : Array Slot), va_P D vwCl (vz_w [coW g h ca ci_5 cr cf (da 0) (da 2) ph, cdW g da dr_5 df_5, pgW g ph pa pr pf]) H → va_D A (vz_w [coW g h ca ci_5 cr cf (da 0) (da 2) ph, cdW g da dr_5 df_5, pgW g ph pa pr pf]) → va_S A s.heap H locs → lv_has ls 5 [(0, .ref h), (1, .int n1), (2, .int (nI dn)), (3, .int x3_5), (4, .int (nI n5))] → W p l e { frames := (2 * (41 - dn) + 21), cells := 0, slots := 0, locals := (48 * (41 - dn) + 924) } s m args below meth c H locs 0 0 Q (F0 m 5 ls []) := by
    intro fu5
    induction fu5 with
    | zero => intro n5 z; omega
    | succ fu5 ih5 =>
      intro n5 hf5 hb5 x3_5 ci_5 dr_5 df_5 hw_d_5 H locs ls hP hD hS hl
      have J56 : n5 < 1000 → ∀ (x3_56 : Int32), ∀ (ci_56 : Nat → Int32), ∀ (dr_56 : Nat → Nat), ∀ (df_56 : Nat → Nat → Int32), (∀ k, dr_56 k ≤ cdW_lim k) → ∀ (H : Heap) (locs : List Loc) (ls : Array Slot), va_P D vwCl (vz_w [coW g h ca ci_56 cr cf (da 0) (da 2) ph, cdW g da dr_56 df_56, pgW g ph pa pr pf]) H → va_D A (vz_w [coW g h ca ci_56 cr cf (da 0) (da 2) ph, cdW g da dr_56 df_56, pgW g ph pa pr pf]) → va_S A s.heap H locs → lv_has ls 5 [(0, .ref h), (1, .int n1), (2, .int (nI dn)), (3, .int x3_56), (4, .int (nI n5))] → W p l e { frames := (2 * (41 - dn) + 21), cells := 0, slots := 0, locals := (48 * (41 - dn) + 924) } s m args below meth c H locs 0 0 Q (F0 m 56 ls []) := by
        intro hn5 x3_56 ci_56 dr_56 df_56 hw_d_56 H locs ls hP hD hS hl
        refine lv_aload_n hx hb dX0_writeList_56 rfl (lv_at hl 0 rfl) ?_
        refine va_get (D := D) (ci := 0) (v := .ref ph) (C := RX0) (T := TX0) (N := 8) hx hb hts inlX0 hown hK hP 0 rfl rfl 3 (by decide) (hts _ q108) (fun _ h => h) rfl dX0_writeList_57 ?_
        refine va_get (D := D) (ci := 2) (v := .ref (pa 2)) (C := RX2) (T := TX2) (N := 5) hx hb hts inlX2 hown hK hP 7 rfl rfl 1 (by decide) (hts _ q712) (fun _ h => h) rfl dX0_writeList_60 ?_
        refine lv_iload_n hx hb dX0_writeList_63 rfl (lv_at hl 3 rfl) ?_
        refine lv_iconst (v := 3) hx hb dX0_writeList_64 (by decide) ?_
        refine vz_Vi2 (ws' := fun u : Unit => vz_w [coW g h ca ci_56 cr cf (da 0) (da 2) ph, cdW g da dr_56 df_56, pgW g ph pa pr pf]) (As := [.int x3_56, .int 3]) (rest := []) hx hb hml hown hts hK hA hP hD hS (c_T_get l D g (pa 2) (pa 3) H.size 5 1000 (pr 1) 5000 (pf 1) x3_56 3 ⟨rfl, by decide, by decide, by decide, by decide, hw_p 1⟩) kv_X0_63 ⟨by dsimp only; omega, by dsimp only; omega⟩ (q0 := 10) (ci := 6) rfl rfl rfl [10, 11] rfl (by decide) (fun _ => rfl) (fun _ => rfl) hl.1 (Nat.le_of_ble_eq_true rfl) dX0_writeList_65 ⟨Nat.le_refl _, Nat.le_refl _⟩ rfl (fun v1 _ H locs he2 _ hP hD hS => ?_)
        refine lv_istore_n (lv' := [(3, .int v1), (0, .ref h), (1, .int n1), (2, .int (nI dn)), (4, .int (nI n5))]) hx hb dX0_writeList_68 rfl hl (by decide) rfl (fun ls hl => ?_)
        refine lv_iinc (v := (nI (n5 + 1))) (lv' := [(4, .int (nI (n5 + 1))), (3, .int v1), (0, .ref h), (1, .int n1), (2, .int (nI dn))]) hx hb dX0_writeList_69 hl (k := 4) rfl (nI_1 n5) (by decide) rfl (fun ls hl => ?_)
        refine lv_goto (tgt := 5) hx hb dX0_writeList_72 (by decide) ?_
        exact ih5 (n5 + 1) (by omega) (by omega) v1 ci_56 dr_56 df_56 hw_d_56 H locs ls hP hD hS (lv_sub hl [2, 3, 4, 1, 0] rfl)
      refine lv_iload hx hb dX0_writeList_5 (lv_at hl 4 rfl) ?_
      refine lv_sipush (v := 1000) hx hb dX0_writeList_7 (by decide) ?_
      refine lv_icmp_ge (tgt := 75) hx hb dX0_writeList_10 (by decide) (fun kc1 => ?_) (fun kc1 => ?_)
      · exact J75 x3_5 (nI n5) ci_5 dr_5 df_5 hw_d_5 H locs ls hP hD hS (lv_sub hl [0, 1, 2, 3, 4] rfl)
      · have hn5 : n5 < 1000 := vz_ltge (B := 1000) (by omega) kc1
        refine lv_iload_n hx hb dX0_writeList_13 rfl (lv_at hl 3 rfl) ?_
        refine lv_bipush (v := (-9)) hx hb dX0_writeList_14 (by decide) ?_
        refine lv_icmp_eq (tgt := 75) hx hb dX0_writeList_16 (by decide) (fun kc2 => ?_) (fun kc2 => ?_)
        · exact J75 x3_5 (nI n5) ci_5 dr_5 df_5 hw_d_5 H locs ls hP hD hS (lv_sub hl [0, 1, 2, 3, 4] rfl)
        · refine lv_aload_n hx hb dX0_writeList_19 rfl (lv_at hl 0 rfl) ?_
          refine va_get (D := D) (ci := 0) (v := .int (ci_5 1)) (C := RX0) (T := TX0) (N := 8) hx hb hts inlX0 hown hK hP 0 rfl rfl 5 (by decide) (hts _ q614) (fun _ h => h) rfl dX0_writeList_20 ?_
          refine lv_if_ne (tgt := 75) hx hb dX0_writeList_23 (by decide) (fun kc3 => ?_) (fun kc3 => ?_)
          · exact J75 x3_5 (nI n5) ci_5 dr_5 df_5 hw_d_5 H locs ls hP hD hS (lv_sub hl [0, 1, 2, 3, 4] rfl)
          · refine lv_aload_n hx hb dX0_writeList_26 rfl (lv_at hl 0 rfl) ?_
            refine lv_iload_n hx hb dX0_writeList_27 rfl (lv_at hl 3 rfl) ?_
            refine lv_iload_n hx hb dX0_writeList_28 rfl (lv_at hl 2 rfl) ?_
            refine vz_Vv3 (As := [.int x3_5, .int (nI dn)]) (rest := []) hx hb hml hown hts hK hA hP hD hS (hB H.size h ca ci_5 cr cf da ph dr_5 df_5 pa pr pf x3_5 hw_c hw_d_5 hw_p) kv_X0_87 ⟨by dsimp only; omega, by dsimp only; omega⟩ (q0 := 0) (ci := 0) rfl rfl rfl  hl.1 (Nat.le_of_ble_eq_true rfl) dX0_writeList_29 ⟨Nat.le_refl _, Nat.le_refl _⟩ rfl (fun ⟨ci_4, dr_5, df_6⟩ H locs hw_7 _ hP hD hS => ?_)
            try dsimp only at hw_7
            replace hP : va_P D vwCl (vz_w [coW g h ca ci_4 cr cf (da 0) (da 2) ph, cdW g da dr_5 df_6, pgW g ph pa pr pf]) H := hP
            replace hD : va_D A (vz_w [coW g h ca ci_4 cr cf (da 0) (da 2) ph, cdW g da dr_5 df_6, pgW g ph pa pr pf]) := hD
            refine lv_iload hx hb dX0_writeList_32 (lv_at hl 4 rfl) ?_
            refine lv_if_le (tgt := 56) hx hb dX0_writeList_34 (by decide) (fun kc8 => ?_) (fun kc8 => ?_)
            · exact J56 hn5 x3_5 ci_4 dr_5 df_6 hw_7 H locs ls hP hD hS (lv_sub hl [0, 1, 2, 3, 4] rfl)
            · refine lv_aload_n hx hb dX0_writeList_37 rfl (lv_at hl 0 rfl) ?_
              refine lv_iconst (v := 5) hx hb dX0_writeList_38 (by decide) ?_
              refine lv_aload_n hx hb dX0_writeList_39 rfl (lv_at hl 0 rfl) ?_
              refine va_get (D := D) (ci := 0) (v := .ref ph) (C := RX0) (T := TX0) (N := 8) hx hb hts inlX0 hown hK hP 0 rfl rfl 3 (by decide) (hts _ q108) (fun _ h => h) rfl dX0_writeList_40 ?_
              refine va_get (D := D) (ci := 2) (v := .ref (pa 2)) (C := RX2) (T := TX2) (N := 5) hx hb hts inlX2 hown hK hP 7 rfl rfl 1 (by decide) (hts _ q712) (fun _ h => h) rfl dX0_writeList_43 ?_
              refine lv_iload_n hx hb dX0_writeList_46 rfl (lv_at hl 3 rfl) ?_
              refine lv_iconst (v := 4) hx hb dX0_writeList_47 (by decide) ?_
              refine vz_Vi2 (ws' := fun u : Unit => vz_w [coW g h ca ci_4 cr cf (da 0) (da 2) ph, cdW g da dr_5 df_6, pgW g ph pa pr pf]) (As := [.int x3_5, .int 4]) (rest := [.int 5, .ref h]) hx hb hml hown hts hK hA hP hD hS (c_T_get l D g (pa 2) (pa 3) H.size 5 1000 (pr 1) 5000 (pf 1) x3_5 4 ⟨rfl, by decide, by decide, by decide, by decide, hw_p 1⟩) kv_X0_63 ⟨by dsimp only; omega, by dsimp only; omega⟩ (q0 := 10) (ci := 6) rfl rfl rfl [10, 11] rfl (by decide) (fun _ => rfl) (fun _ => rfl) hl.1 (Nat.le_of_ble_eq_true rfl) dX0_writeList_48 ⟨Nat.le_refl _, Nat.le_refl _⟩ rfl (fun v9 _ H locs he10 _ hP hD hS => ?_)
              refine lv_iconst (v := 0) hx hb dX0_writeList_51 (by decide) ?_
              refine vz_Vi3 (As := [.int 5, .int v9, .int 0]) (rest := []) hx hb hml hown hts hK hA hP hD hS (a_C_emit l D g H.size h ca ci_4 cr cf da ph dr_5 df_6 pa pr pf 5 v9 0 hw_c hw_7 hw_p) kv_X0_70 ⟨by dsimp only; omega, by dsimp only; omega⟩ (q0 := 0) (ci := 0) rfl rfl rfl  hl.1 (Nat.le_of_ble_eq_true rfl) dX0_writeList_52 ⟨Nat.le_refl _, Nat.le_refl _⟩ rfl (fun v15 ⟨ci_11, dr_12, df_13⟩ H locs hw_14 _ hP hD hS => ?_)
              try dsimp only at hw_14
              replace hP : va_P D vwCl (vz_w [coW g h ca ci_11 cr cf (da 0) (da 2) ph, cdW g da dr_12 df_13, pgW g ph pa pr pf]) H := hP
              replace hD : va_D A (vz_w [coW g h ca ci_11 cr cf (da 0) (da 2) ph, cdW g da dr_12 df_13, pgW g ph pa pr pf]) := hD
              refine lv_pop hx hb dX0_writeList_55 rfl ?_
              exact J56 hn5 x3_5 ci_11 dr_12 df_13 hw_14 H locs ls hP hD hS (lv_sub hl [0, 1, 2, 3, 4] rfl)
  refine lv_iload_n hx hb dX0_writeList_0 rfl (lv_at hl 1 rfl) ?_
  refine lv_istore_n (lv' := [(3, .int n1), (0, .ref h), (1, .int n1), (2, .int (nI dn))]) hx hb dX0_writeList_1 rfl hl (by decide) rfl (fun ls hl => ?_)
  refine lv_iconst (v := 0) hx hb dX0_writeList_2 (by decide) ?_
  refine lv_istore (lv' := [(4, .int 0), (3, .int n1), (0, .ref h), (1, .int n1), (2, .int (nI dn))]) hx hb dX0_writeList_3 hl (by decide) rfl (fun ls hl => ?_)
  exact J5 (1001) 0 (by omega) (by omega) n1 ci dr df hw_d H locs ls hP hD hS (lv_sub hl [2, 3, 4, 1, 0] rfl)
theorem q713 : Cond.methodLink RX0 167 yX0_writeList ∈ wsL_law := mT_4 (List.mem_of_getElem? (i := 68) rfl) rfl
theorem q714 : Cond.instanceMethod yX0_writeList ∈ wsL_law := mT_4 (List.mem_of_getElem? (i := 70) rfl) rfl
theorem q715 : Cond.selects RX0 yX0_writeList yX0_writeList ∈ wsL_law := mS_3 (q := (yX0_writeList, 8)) (List.mem_of_getElem? (i := 8) rfl) rfl
theorem q716 : Cond.code yX0_writeList cX0_writeList 5 none ∈ wsL_law := mT_4 (List.mem_of_getElem? (i := 71) rfl) rfl
theorem kv_X0_167 : vz_cv RX0 167 yX0_writeList cX0_writeList 5 none 2 := ⟨q713, q714, q715, q33, q716, by decide +kernel⟩
theorem dX0_writeSum_0 : decode cX0_writeSum 0 = .ok (.iload_n 2, 1) := by decide +kernel
theorem dX0_writeSum_1 : decode cX0_writeSum 1 = .ok (.bipush 40, 2) := by decide +kernel
theorem dX0_writeSum_3 : decode cX0_writeSum 3 = .ok (.if_icmp .le 9, 3) := by decide +kernel
theorem dX0_writeSum_6 : decode cX0_writeSum 6 = .ok (.aload_n 0, 1) := by decide +kernel
theorem dX0_writeSum_7 : decode cX0_writeSum 7 = .ok (.iconst 1, 1) := by decide +kernel
theorem dX0_writeSum_8 : decode cX0_writeSum 8 = .ok (.putfield 34, 3) := by decide +kernel
theorem dX0_writeSum_11 : decode cX0_writeSum 11 = .ok (.return_, 1) := by decide +kernel
theorem dX0_writeSum_12 : decode cX0_writeSum 12 = .ok (.aload_n 0, 1) := by decide +kernel
theorem dX0_writeSum_13 : decode cX0_writeSum 13 = .ok (.getfield 9, 3) := by decide +kernel
theorem dX0_writeSum_16 : decode cX0_writeSum 16 = .ok (.getfield 164, 3) := by decide +kernel
theorem dX0_writeSum_19 : decode cX0_writeSum 19 = .ok (.iload_n 1, 1) := by decide +kernel
theorem dX0_writeSum_20 : decode cX0_writeSum 20 = .ok (.iconst 1, 1) := by decide +kernel
theorem dX0_writeSum_21 : decode cX0_writeSum 21 = .ok (.invokevirtual 63, 3) := by decide +kernel
theorem dX0_writeSum_24 : decode cX0_writeSum 24 = .ok (.istore_n 3, 1) := by decide +kernel
theorem dX0_writeSum_25 : decode cX0_writeSum 25 = .ok (.aload_n 0, 1) := by decide +kernel
theorem dX0_writeSum_26 : decode cX0_writeSum 26 = .ok (.getfield 9, 3) := by decide +kernel
theorem dX0_writeSum_29 : decode cX0_writeSum 29 = .ok (.getfield 164, 3) := by decide +kernel
theorem dX0_writeSum_32 : decode cX0_writeSum 32 = .ok (.iload_n 1, 1) := by decide +kernel
theorem dX0_writeSum_33 : decode cX0_writeSum 33 = .ok (.iconst 2, 1) := by decide +kernel
theorem dX0_writeSum_34 : decode cX0_writeSum 34 = .ok (.invokevirtual 63, 3) := by decide +kernel
theorem dX0_writeSum_37 : decode cX0_writeSum 37 = .ok (.istore 4, 2) := by decide +kernel
theorem dX0_writeSum_39 : decode cX0_writeSum 39 = .ok (.aload_n 0, 1) := by decide +kernel
theorem dX0_writeSum_40 : decode cX0_writeSum 40 = .ok (.getfield 9, 3) := by decide +kernel
theorem dX0_writeSum_43 : decode cX0_writeSum 43 = .ok (.getfield 164, 3) := by decide +kernel
theorem dX0_writeSum_46 : decode cX0_writeSum 46 = .ok (.iload_n 1, 1) := by decide +kernel
theorem dX0_writeSum_47 : decode cX0_writeSum 47 = .ok (.iconst 0, 1) := by decide +kernel
theorem dX0_writeSum_48 : decode cX0_writeSum 48 = .ok (.invokevirtual 63, 3) := by decide +kernel
theorem dX0_writeSum_51 : decode cX0_writeSum 51 = .ok (.tableswitch 122 0 5 #[37, 48, 70, 59, 90, 110], 37) := by decide +kernel
theorem dX0_writeSum_88 : decode cX0_writeSum 88 = .ok (.aload_n 0, 1) := by decide +kernel
theorem dX0_writeSum_89 : decode cX0_writeSum 89 = .ok (.iconst 0, 1) := by decide +kernel
theorem dX0_writeSum_90 : decode cX0_writeSum 90 = .ok (.iload_n 3, 1) := by decide +kernel
theorem dX0_writeSum_91 : decode cX0_writeSum 91 = .ok (.iconst 0, 1) := by decide +kernel
theorem dX0_writeSum_92 : decode cX0_writeSum 92 = .ok (.invokevirtual 70, 3) := by decide +kernel
theorem dX0_writeSum_95 : decode cX0_writeSum 95 = .ok (.pop, 1) := by decide +kernel
theorem dX0_writeSum_96 : decode cX0_writeSum 96 = .ok (.goto 77, 3) := by decide +kernel
theorem dX0_writeSum_99 : decode cX0_writeSum 99 = .ok (.aload_n 0, 1) := by decide +kernel
theorem dX0_writeSum_100 : decode cX0_writeSum 100 = .ok (.iconst 1, 1) := by decide +kernel
theorem dX0_writeSum_101 : decode cX0_writeSum 101 = .ok (.iload_n 3, 1) := by decide +kernel
theorem dX0_writeSum_102 : decode cX0_writeSum 102 = .ok (.iconst 0, 1) := by decide +kernel
theorem dX0_writeSum_103 : decode cX0_writeSum 103 = .ok (.invokevirtual 70, 3) := by decide +kernel
theorem dX0_writeSum_106 : decode cX0_writeSum 106 = .ok (.pop, 1) := by decide +kernel
theorem dX0_writeSum_107 : decode cX0_writeSum 107 = .ok (.goto 66, 3) := by decide +kernel
theorem dX0_writeSum_110 : decode cX0_writeSum 110 = .ok (.aload_n 0, 1) := by decide +kernel
theorem dX0_writeSum_111 : decode cX0_writeSum 111 = .ok (.iconst 3, 1) := by decide +kernel
theorem dX0_writeSum_112 : decode cX0_writeSum 112 = .ok (.iload_n 3, 1) := by decide +kernel
theorem dX0_writeSum_113 : decode cX0_writeSum 113 = .ok (.iconst 0, 1) := by decide +kernel
theorem dX0_writeSum_114 : decode cX0_writeSum 114 = .ok (.invokevirtual 70, 3) := by decide +kernel
theorem dX0_writeSum_117 : decode cX0_writeSum 117 = .ok (.pop, 1) := by decide +kernel
theorem dX0_writeSum_118 : decode cX0_writeSum 118 = .ok (.goto 55, 3) := by decide +kernel
theorem dX0_writeSum_121 : decode cX0_writeSum 121 = .ok (.aload_n 0, 1) := by decide +kernel
theorem dX0_writeSum_122 : decode cX0_writeSum 122 = .ok (.iload 4, 2) := by decide +kernel
theorem dX0_writeSum_124 : decode cX0_writeSum 124 = .ok (.iload_n 2, 1) := by decide +kernel
theorem dX0_writeSum_125 : decode cX0_writeSum 125 = .ok (.iconst 1, 1) := by decide +kernel
theorem dX0_writeSum_126 : decode cX0_writeSum 126 = .ok (.iadd, 1) := by decide +kernel
theorem dX0_writeSum_127 : decode cX0_writeSum 127 = .ok (.invokevirtual 87, 3) := by decide +kernel
theorem dX0_writeSum_130 : decode cX0_writeSum 130 = .ok (.aload_n 0, 1) := by decide +kernel
theorem dX0_writeSum_131 : decode cX0_writeSum 131 = .ok (.iconst 2, 1) := by decide +kernel
theorem dX0_writeSum_132 : decode cX0_writeSum 132 = .ok (.iload_n 3, 1) := by decide +kernel
theorem dX0_writeSum_133 : decode cX0_writeSum 133 = .ok (.iconst 0, 1) := by decide +kernel
theorem dX0_writeSum_134 : decode cX0_writeSum 134 = .ok (.invokevirtual 70, 3) := by decide +kernel
theorem dX0_writeSum_137 : decode cX0_writeSum 137 = .ok (.pop, 1) := by decide +kernel
theorem dX0_writeSum_138 : decode cX0_writeSum 138 = .ok (.goto 35, 3) := by decide +kernel
theorem dX0_writeSum_141 : decode cX0_writeSum 141 = .ok (.aload_n 0, 1) := by decide +kernel
theorem dX0_writeSum_142 : decode cX0_writeSum 142 = .ok (.iload 4, 2) := by decide +kernel
theorem dX0_writeSum_144 : decode cX0_writeSum 144 = .ok (.iload_n 2, 1) := by decide +kernel
theorem dX0_writeSum_145 : decode cX0_writeSum 145 = .ok (.iconst 1, 1) := by decide +kernel
theorem dX0_writeSum_146 : decode cX0_writeSum 146 = .ok (.iadd, 1) := by decide +kernel
theorem dX0_writeSum_147 : decode cX0_writeSum 147 = .ok (.invokevirtual 87, 3) := by decide +kernel
theorem dX0_writeSum_150 : decode cX0_writeSum 150 = .ok (.aload_n 0, 1) := by decide +kernel
theorem dX0_writeSum_151 : decode cX0_writeSum 151 = .ok (.iconst 4, 1) := by decide +kernel
theorem dX0_writeSum_152 : decode cX0_writeSum 152 = .ok (.iconst 0, 1) := by decide +kernel
theorem dX0_writeSum_153 : decode cX0_writeSum 153 = .ok (.iconst 0, 1) := by decide +kernel
theorem dX0_writeSum_154 : decode cX0_writeSum 154 = .ok (.invokevirtual 70, 3) := by decide +kernel
theorem dX0_writeSum_157 : decode cX0_writeSum 157 = .ok (.pop, 1) := by decide +kernel
theorem dX0_writeSum_158 : decode cX0_writeSum 158 = .ok (.goto 15, 3) := by decide +kernel
theorem dX0_writeSum_161 : decode cX0_writeSum 161 = .ok (.aload_n 0, 1) := by decide +kernel
theorem dX0_writeSum_162 : decode cX0_writeSum 162 = .ok (.iload 4, 2) := by decide +kernel
theorem dX0_writeSum_164 : decode cX0_writeSum 164 = .ok (.iload_n 2, 1) := by decide +kernel
theorem dX0_writeSum_165 : decode cX0_writeSum 165 = .ok (.iconst 1, 1) := by decide +kernel
theorem dX0_writeSum_166 : decode cX0_writeSum 166 = .ok (.iadd, 1) := by decide +kernel
theorem dX0_writeSum_167 : decode cX0_writeSum 167 = .ok (.invokevirtual 167, 3) := by decide +kernel
theorem dX0_writeSum_170 : decode cX0_writeSum 170 = .ok (.goto 3, 3) := by decide +kernel
theorem dX0_writeSum_173 : decode cX0_writeSum 173 = .ok (.return_, 1) := by decide +kernel
set_option maxHeartbeats 8000000 in
set_option maxRecDepth 100000 in
theorem a_C_sum (l : Launch) (D : va_G) (g : Nat → ClassId) (dn : Nat) (hdn : dn ≤ 41) (hB : dn ≤ 40 → ∀ (sz : Nat) (h : Nat) (ca : Nat → Nat) (ci : Nat → Int32) (cr : Nat → Nat) (cf : Nat → Nat → Int32) (da : Nat → Nat) (ph : Nat) (dr : Nat → Nat) (df : Nat → Nat → Int32) (pa : Nat → Nat) (pr : Nat → Nat) (pf : Nat → Nat → Int32) (n1 : Int32) (hw_c : ∀ k, cr k ≤ coW_lim k) (hw_d : ∀ k, dr k ≤ cdW_lim k) (hw_p : ∀ k, pr k ≤ pgW_lim k), vz_Mv l D (tyG g) yX0_writeSum cX0_writeSum 5 (2 * (41 - (dn + 1)) + 20) (48 * (41 - (dn + 1)) + 900) 0 0 [.ref h, .int n1, .int (nI (dn + 1))] sz (vz_w [coW g h ca ci cr cf (da 0) (da 2) ph, cdW g da dr df, pgW g ph pa pr pf]) (fun u : (Nat → Int32) × (Nat → Nat) × (Nat → Nat → Int32) => (∀ k, u.2.1 k ≤ cdW_lim k)) (fun u => vz_w [coW g h ca u.1 cr cf (da 0) (da 2) ph, cdW g da u.2.1 u.2.2, pgW g ph pa pr pf])) (sz : Nat) (h : Nat) (ca : Nat → Nat) (ci : Nat → Int32) (cr : Nat → Nat) (cf : Nat → Nat → Int32) (da : Nat → Nat) (ph : Nat) (dr : Nat → Nat) (df : Nat → Nat → Int32) (pa : Nat → Nat) (pr : Nat → Nat) (pf : Nat → Nat → Int32) (n1 : Int32) (hw_c : ∀ k, cr k ≤ coW_lim k) (hw_d : ∀ k, dr k ≤ cdW_lim k) (hw_p : ∀ k, pr k ≤ pgW_lim k) : vz_Mv l D (tyG g) yX0_writeSum cX0_writeSum 5 (2 * (41 - dn) + 20) (48 * (41 - dn) + 900) 0 0 [.ref h, .int n1, .int (nI dn)] sz (vz_w [coW g h ca ci cr cf (da 0) (da 2) ph, cdW g da dr df, pgW g ph pa pr pf]) (fun u : (Nat → Int32) × (Nat → Nat) × (Nat → Nat → Int32) => (∀ k, u.2.1 k ≤ cdW_lim k)) (fun u => vz_w [coW g h ca u.1 cr cf (da 0) (da 2) ph, cdW g da u.2.1 u.2.2, pgW g ph pa pr pf]) := by
  refine vz_svQ (by decide) (Nat.le_of_ble_eq_true rfl) (fun p e s m args below meth c hx hb hr hml hts hown hlk hin hK hsz A hA H locs hP hD hS ls hl Q hQ => ?_)
  have hl : lv_has ls 5 [(0, .ref h), (1, .int n1), (2, .int (nI dn))] := hl
  have J173 : ∀ (x3_173 : Int32), ∀ (x4_173 : Int32), ∀ (ci_173 : Nat → Int32), ∀ (dr_173 : Nat → Nat), ∀ (df_173 : Nat → Nat → Int32), (∀ k, dr_173 k ≤ cdW_lim k) → ∀ (H : Heap) (locs : List Loc) (ls : Array Slot), va_P D vwCl (vz_w [coW g h ca ci_173 cr cf (da 0) (da 2) ph, cdW g da dr_173 df_173, pgW g ph pa pr pf]) H → va_D A (vz_w [coW g h ca ci_173 cr cf (da 0) (da 2) ph, cdW g da dr_173 df_173, pgW g ph pa pr pf]) → va_S A s.heap H locs → lv_has ls 5 [(0, .ref h), (1, .int n1), (2, .int (nI dn)), (3, .int x3_173), (4, .int x4_173)] → W p l e { frames := (2 * (41 - dn) + 20), cells := 0, slots := 0, locals := (48 * (41 - dn) + 900) } s m args below meth c H locs 0 0 Q (F0 m 173 ls []) := by
    intro x3_173 x4_173 ci_173 dr_173 df_173 hw_d_173 H locs ls hP hD hS hl
    rw [hQ]
    exact vz_vret3 hx hb hr hlk hK hP hD hS (ci_173, dr_173, df_173) hw_d_173 rfl (Nat.le_refl 0) (Nat.le_refl 0) dX0_writeSum_173
  refine lv_iload_n hx hb dX0_writeSum_0 rfl (lv_at hl 2 rfl) ?_
  refine lv_bipush (v := 40) hx hb dX0_writeSum_1 (by decide) ?_
  refine lv_icmp_le (tgt := 12) hx hb dX0_writeSum_3 (by decide) (fun kc1 => ?_) (fun kc1 => ?_)
  · refine lv_aload_n hx hb dX0_writeSum_12 rfl (lv_at hl 0 rfl) ?_
    refine va_get (D := D) (ci := 0) (v := .ref ph) (C := RX0) (T := TX0) (N := 8) hx hb hts inlX0 hown hK hP 0 rfl rfl 3 (by decide) (hts _ q108) (fun _ h => h) rfl dX0_writeSum_13 ?_
    refine va_get (D := D) (ci := 2) (v := .ref (pa 2)) (C := RX2) (T := TX2) (N := 5) hx hb hts inlX2 hown hK hP 7 rfl rfl 1 (by decide) (hts _ q712) (fun _ h => h) rfl dX0_writeSum_16 ?_
    refine lv_iload_n hx hb dX0_writeSum_19 rfl (lv_at hl 1 rfl) ?_
    refine lv_iconst (v := 1) hx hb dX0_writeSum_20 (by decide) ?_
    refine vz_Vi2 (ws' := fun u : Unit => vz_w [coW g h ca ci cr cf (da 0) (da 2) ph, cdW g da dr df, pgW g ph pa pr pf]) (As := [.int n1, .int 1]) (rest := []) hx hb hml hown hts hK hA hP hD hS (c_T_get l D g (pa 2) (pa 3) H.size 5 1000 (pr 1) 5000 (pf 1) n1 1 ⟨rfl, by decide, by decide, by decide, by decide, hw_p 1⟩) kv_X0_63 ⟨by have hq := vz_lec (B := 40) (by decide) (by omega) kc1; dsimp only; omega, by have hq := vz_lec (B := 40) (by decide) (by omega) kc1; dsimp only; omega⟩ (q0 := 10) (ci := 6) rfl rfl rfl [10, 11] rfl (by decide) (fun _ => rfl) (fun _ => rfl) hl.1 (Nat.le_of_ble_eq_true rfl) dX0_writeSum_21 ⟨Nat.le_refl _, Nat.le_refl _⟩ rfl (fun v2 _ H locs he3 _ hP hD hS => ?_)
    refine lv_istore_n (lv' := [(3, .int v2), (0, .ref h), (1, .int n1), (2, .int (nI dn))]) hx hb dX0_writeSum_24 rfl hl (by decide) rfl (fun ls hl => ?_)
    refine lv_aload_n hx hb dX0_writeSum_25 rfl (lv_at hl 1 rfl) ?_
    refine va_get (D := D) (ci := 0) (v := .ref ph) (C := RX0) (T := TX0) (N := 8) hx hb hts inlX0 hown hK hP 0 rfl rfl 3 (by decide) (hts _ q108) (fun _ h => h) rfl dX0_writeSum_26 ?_
    refine va_get (D := D) (ci := 2) (v := .ref (pa 2)) (C := RX2) (T := TX2) (N := 5) hx hb hts inlX2 hown hK hP 7 rfl rfl 1 (by decide) (hts _ q712) (fun _ h => h) rfl dX0_writeSum_29 ?_
    refine lv_iload_n hx hb dX0_writeSum_32 rfl (lv_at hl 2 rfl) ?_
    refine lv_iconst (v := 2) hx hb dX0_writeSum_33 (by decide) ?_
    refine vz_Vi2 (ws' := fun u : Unit => vz_w [coW g h ca ci cr cf (da 0) (da 2) ph, cdW g da dr df, pgW g ph pa pr pf]) (As := [.int n1, .int 2]) (rest := []) hx hb hml hown hts hK hA hP hD hS (c_T_get l D g (pa 2) (pa 3) H.size 5 1000 (pr 1) 5000 (pf 1) n1 2 ⟨rfl, by decide, by decide, by decide, by decide, hw_p 1⟩) kv_X0_63 ⟨by have hq := vz_lec (B := 40) (by decide) (by omega) kc1; dsimp only; omega, by have hq := vz_lec (B := 40) (by decide) (by omega) kc1; dsimp only; omega⟩ (q0 := 10) (ci := 6) rfl rfl rfl [10, 11] rfl (by decide) (fun _ => rfl) (fun _ => rfl) hl.1 (Nat.le_of_ble_eq_true rfl) dX0_writeSum_34 ⟨Nat.le_refl _, Nat.le_refl _⟩ rfl (fun v4 _ H locs he5 _ hP hD hS => ?_)
    refine lv_istore (lv' := [(4, .int v4), (3, .int v2), (0, .ref h), (1, .int n1), (2, .int (nI dn))]) hx hb dX0_writeSum_37 hl (by decide) rfl (fun ls hl => ?_)
    refine lv_aload_n hx hb dX0_writeSum_39 rfl (lv_at hl 2 rfl) ?_
    refine va_get (D := D) (ci := 0) (v := .ref ph) (C := RX0) (T := TX0) (N := 8) hx hb hts inlX0 hown hK hP 0 rfl rfl 3 (by decide) (hts _ q108) (fun _ h => h) rfl dX0_writeSum_40 ?_
    refine va_get (D := D) (ci := 2) (v := .ref (pa 2)) (C := RX2) (T := TX2) (N := 5) hx hb hts inlX2 hown hK hP 7 rfl rfl 1 (by decide) (hts _ q712) (fun _ h => h) rfl dX0_writeSum_43 ?_
    refine lv_iload_n hx hb dX0_writeSum_46 rfl (lv_at hl 3 rfl) ?_
    refine lv_iconst (v := 0) hx hb dX0_writeSum_47 (by decide) ?_
    refine vz_Vi2 (ws' := fun u : Unit => vz_w [coW g h ca ci cr cf (da 0) (da 2) ph, cdW g da dr df, pgW g ph pa pr pf]) (As := [.int n1, .int 0]) (rest := []) hx hb hml hown hts hK hA hP hD hS (c_T_get l D g (pa 2) (pa 3) H.size 5 1000 (pr 1) 5000 (pf 1) n1 0 ⟨rfl, by decide, by decide, by decide, by decide, hw_p 1⟩) kv_X0_63 ⟨by have hq := vz_lec (B := 40) (by decide) (by omega) kc1; dsimp only; omega, by have hq := vz_lec (B := 40) (by decide) (by omega) kc1; dsimp only; omega⟩ (q0 := 10) (ci := 6) rfl rfl rfl [10, 11] rfl (by decide) (fun _ => rfl) (fun _ => rfl) hl.1 (Nat.le_of_ble_eq_true rfl) dX0_writeSum_48 ⟨Nat.le_refl _, Nat.le_refl _⟩ rfl (fun v6 _ H locs he7 _ hP hD hS => ?_)
    have S51_88 : W p l e { frames := (2 * (41 - dn) + 20), cells := 0, slots := 0, locals := (48 * (41 - dn) + 900) } s m args below meth c H locs 0 0 Q (F0 m 88 ls []) := by
      refine lv_aload_n hx hb dX0_writeSum_88 rfl (lv_at hl 2 rfl) ?_
      refine lv_iconst (v := 0) hx hb dX0_writeSum_89 (by decide) ?_
      refine lv_iload_n hx hb dX0_writeSum_90 rfl (lv_at hl 1 rfl) ?_
      refine lv_iconst (v := 0) hx hb dX0_writeSum_91 (by decide) ?_
      refine vz_Vi3 (As := [.int 0, .int v2, .int 0]) (rest := []) hx hb hml hown hts hK hA hP hD hS (a_C_emit l D g H.size h ca ci cr cf da ph dr df pa pr pf 0 v2 0 hw_c hw_d hw_p) kv_X0_70 ⟨by have hq := vz_lec (B := 40) (by decide) (by omega) kc1; dsimp only; omega, by have hq := vz_lec (B := 40) (by decide) (by omega) kc1; dsimp only; omega⟩ (q0 := 0) (ci := 0) rfl rfl rfl  hl.1 (Nat.le_of_ble_eq_true rfl) dX0_writeSum_92 ⟨Nat.le_refl _, Nat.le_refl _⟩ rfl (fun v12 ⟨ci_8, dr_9, df_10⟩ H locs hw_11 _ hP hD hS => ?_)
      try dsimp only at hw_11
      replace hP : va_P D vwCl (vz_w [coW g h ca ci_8 cr cf (da 0) (da 2) ph, cdW g da dr_9 df_10, pgW g ph pa pr pf]) H := hP
      replace hD : va_D A (vz_w [coW g h ca ci_8 cr cf (da 0) (da 2) ph, cdW g da dr_9 df_10, pgW g ph pa pr pf]) := hD
      refine lv_pop hx hb dX0_writeSum_95 rfl ?_
      refine lv_goto (tgt := 173) hx hb dX0_writeSum_96 (by decide) ?_
      exact J173 v2 v4 ci_8 dr_9 df_10 hw_11 H locs ls hP hD hS (lv_sub hl [2, 3, 4, 1, 0] rfl)
    have S51_99 : W p l e { frames := (2 * (41 - dn) + 20), cells := 0, slots := 0, locals := (48 * (41 - dn) + 900) } s m args below meth c H locs 0 0 Q (F0 m 99 ls []) := by
      refine lv_aload_n hx hb dX0_writeSum_99 rfl (lv_at hl 2 rfl) ?_
      refine lv_iconst (v := 1) hx hb dX0_writeSum_100 (by decide) ?_
      refine lv_iload_n hx hb dX0_writeSum_101 rfl (lv_at hl 1 rfl) ?_
      refine lv_iconst (v := 0) hx hb dX0_writeSum_102 (by decide) ?_
      refine vz_Vi3 (As := [.int 1, .int v2, .int 0]) (rest := []) hx hb hml hown hts hK hA hP hD hS (a_C_emit l D g H.size h ca ci cr cf da ph dr df pa pr pf 1 v2 0 hw_c hw_d hw_p) kv_X0_70 ⟨by have hq := vz_lec (B := 40) (by decide) (by omega) kc1; dsimp only; omega, by have hq := vz_lec (B := 40) (by decide) (by omega) kc1; dsimp only; omega⟩ (q0 := 0) (ci := 0) rfl rfl rfl  hl.1 (Nat.le_of_ble_eq_true rfl) dX0_writeSum_103 ⟨Nat.le_refl _, Nat.le_refl _⟩ rfl (fun v17 ⟨ci_13, dr_14, df_15⟩ H locs hw_16 _ hP hD hS => ?_)
      try dsimp only at hw_16
      replace hP : va_P D vwCl (vz_w [coW g h ca ci_13 cr cf (da 0) (da 2) ph, cdW g da dr_14 df_15, pgW g ph pa pr pf]) H := hP
      replace hD : va_D A (vz_w [coW g h ca ci_13 cr cf (da 0) (da 2) ph, cdW g da dr_14 df_15, pgW g ph pa pr pf]) := hD
      refine lv_pop hx hb dX0_writeSum_106 rfl ?_
      refine lv_goto (tgt := 173) hx hb dX0_writeSum_107 (by decide) ?_
      exact J173 v2 v4 ci_13 dr_14 df_15 hw_16 H locs ls hP hD hS (lv_sub hl [2, 3, 4, 1, 0] rfl)
    have S51_110 : W p l e { frames := (2 * (41 - dn) + 20), cells := 0, slots := 0, locals := (48 * (41 - dn) + 900) } s m args below meth c H locs 0 0 Q (F0 m 110 ls []) := by
      refine lv_aload_n hx hb dX0_writeSum_110 rfl (lv_at hl 2 rfl) ?_
      refine lv_iconst (v := 3) hx hb dX0_writeSum_111 (by decide) ?_
      refine lv_iload_n hx hb dX0_writeSum_112 rfl (lv_at hl 1 rfl) ?_
      refine lv_iconst (v := 0) hx hb dX0_writeSum_113 (by decide) ?_
      refine vz_Vi3 (As := [.int 3, .int v2, .int 0]) (rest := []) hx hb hml hown hts hK hA hP hD hS (a_C_emit l D g H.size h ca ci cr cf da ph dr df pa pr pf 3 v2 0 hw_c hw_d hw_p) kv_X0_70 ⟨by have hq := vz_lec (B := 40) (by decide) (by omega) kc1; dsimp only; omega, by have hq := vz_lec (B := 40) (by decide) (by omega) kc1; dsimp only; omega⟩ (q0 := 0) (ci := 0) rfl rfl rfl  hl.1 (Nat.le_of_ble_eq_true rfl) dX0_writeSum_114 ⟨Nat.le_refl _, Nat.le_refl _⟩ rfl (fun v22 ⟨ci_18, dr_19, df_20⟩ H locs hw_21 _ hP hD hS => ?_)
      try dsimp only at hw_21
      replace hP : va_P D vwCl (vz_w [coW g h ca ci_18 cr cf (da 0) (da 2) ph, cdW g da dr_19 df_20, pgW g ph pa pr pf]) H := hP
      replace hD : va_D A (vz_w [coW g h ca ci_18 cr cf (da 0) (da 2) ph, cdW g da dr_19 df_20, pgW g ph pa pr pf]) := hD
      refine lv_pop hx hb dX0_writeSum_117 rfl ?_
      refine lv_goto (tgt := 173) hx hb dX0_writeSum_118 (by decide) ?_
      exact J173 v2 v4 ci_18 dr_19 df_20 hw_21 H locs ls hP hD hS (lv_sub hl [2, 3, 4, 1, 0] rfl)
    have S51_121 : W p l e { frames := (2 * (41 - dn) + 20), cells := 0, slots := 0, locals := (48 * (41 - dn) + 900) } s m args below meth c H locs 0 0 Q (F0 m 121 ls []) := by
      refine lv_aload_n hx hb dX0_writeSum_121 rfl (lv_at hl 2 rfl) ?_
      refine lv_iload hx hb dX0_writeSum_122 (lv_at hl 0 rfl) ?_
      refine lv_iload_n hx hb dX0_writeSum_124 rfl (lv_at hl 4 rfl) ?_
      refine lv_iconst (v := 1) hx hb dX0_writeSum_125 (by decide) ?_
      refine lv_iadd hx hb dX0_writeSum_126 ?_
      refine lv_topi (nm_r (e' := (nI (dn + 1))) (nI_1 dn) ?_)
      refine vz_Vv3 (As := [.int v4, .int (nI (dn + 1))]) (rest := []) hx hb hml hown hts hK hA hP hD hS (hB (vz_lec (B := 40) (by decide) (by omega) kc1) H.size h ca ci cr cf da ph dr df pa pr pf v4 hw_c hw_d hw_p) kv_X0_87 ⟨by have hq := vz_lec (B := 40) (by decide) (by omega) kc1; dsimp only; omega, by have hq := vz_lec (B := 40) (by decide) (by omega) kc1; dsimp only; omega⟩ (q0 := 0) (ci := 0) rfl rfl rfl  hl.1 (Nat.le_of_ble_eq_true rfl) dX0_writeSum_127 ⟨Nat.le_refl _, Nat.le_refl _⟩ rfl (fun ⟨ci_23, dr_24, df_25⟩ H locs hw_26 _ hP hD hS => ?_)
      try dsimp only at hw_26
      replace hP : va_P D vwCl (vz_w [coW g h ca ci_23 cr cf (da 0) (da 2) ph, cdW g da dr_24 df_25, pgW g ph pa pr pf]) H := hP
      replace hD : va_D A (vz_w [coW g h ca ci_23 cr cf (da 0) (da 2) ph, cdW g da dr_24 df_25, pgW g ph pa pr pf]) := hD
      refine lv_aload_n hx hb dX0_writeSum_130 rfl (lv_at hl 2 rfl) ?_
      refine lv_iconst (v := 2) hx hb dX0_writeSum_131 (by decide) ?_
      refine lv_iload_n hx hb dX0_writeSum_132 rfl (lv_at hl 1 rfl) ?_
      refine lv_iconst (v := 0) hx hb dX0_writeSum_133 (by decide) ?_
      refine vz_Vi3 (As := [.int 2, .int v2, .int 0]) (rest := []) hx hb hml hown hts hK hA hP hD hS (a_C_emit l D g H.size h ca ci_23 cr cf da ph dr_24 df_25 pa pr pf 2 v2 0 hw_c hw_26 hw_p) kv_X0_70 ⟨by have hq := vz_lec (B := 40) (by decide) (by omega) kc1; dsimp only; omega, by have hq := vz_lec (B := 40) (by decide) (by omega) kc1; dsimp only; omega⟩ (q0 := 0) (ci := 0) rfl rfl rfl  hl.1 (Nat.le_of_ble_eq_true rfl) dX0_writeSum_134 ⟨Nat.le_refl _, Nat.le_refl _⟩ rfl (fun v31 ⟨ci_27, dr_28, df_29⟩ H locs hw_30 _ hP hD hS => ?_)
      try dsimp only at hw_30
      replace hP : va_P D vwCl (vz_w [coW g h ca ci_27 cr cf (da 0) (da 2) ph, cdW g da dr_28 df_29, pgW g ph pa pr pf]) H := hP
      replace hD : va_D A (vz_w [coW g h ca ci_27 cr cf (da 0) (da 2) ph, cdW g da dr_28 df_29, pgW g ph pa pr pf]) := hD
      refine lv_pop hx hb dX0_writeSum_137 rfl ?_
      refine lv_goto (tgt := 173) hx hb dX0_writeSum_138 (by decide) ?_
      exact J173 v2 v4 ci_27 dr_28 df_29 hw_30 H locs ls hP hD hS (lv_sub hl [2, 3, 4, 1, 0] rfl)
    have S51_141 : W p l e { frames := (2 * (41 - dn) + 20), cells := 0, slots := 0, locals := (48 * (41 - dn) + 900) } s m args below meth c H locs 0 0 Q (F0 m 141 ls []) := by
      refine lv_aload_n hx hb dX0_writeSum_141 rfl (lv_at hl 2 rfl) ?_
      refine lv_iload hx hb dX0_writeSum_142 (lv_at hl 0 rfl) ?_
      refine lv_iload_n hx hb dX0_writeSum_144 rfl (lv_at hl 4 rfl) ?_
      refine lv_iconst (v := 1) hx hb dX0_writeSum_145 (by decide) ?_
      refine lv_iadd hx hb dX0_writeSum_146 ?_
      refine lv_topi (nm_r (e' := (nI (dn + 1))) (nI_1 dn) ?_)
      refine vz_Vv3 (As := [.int v4, .int (nI (dn + 1))]) (rest := []) hx hb hml hown hts hK hA hP hD hS (hB (vz_lec (B := 40) (by decide) (by omega) kc1) H.size h ca ci cr cf da ph dr df pa pr pf v4 hw_c hw_d hw_p) kv_X0_87 ⟨by have hq := vz_lec (B := 40) (by decide) (by omega) kc1; dsimp only; omega, by have hq := vz_lec (B := 40) (by decide) (by omega) kc1; dsimp only; omega⟩ (q0 := 0) (ci := 0) rfl rfl rfl  hl.1 (Nat.le_of_ble_eq_true rfl) dX0_writeSum_147 ⟨Nat.le_refl _, Nat.le_refl _⟩ rfl (fun ⟨ci_32, dr_33, df_34⟩ H locs hw_35 _ hP hD hS => ?_)
      try dsimp only at hw_35
      replace hP : va_P D vwCl (vz_w [coW g h ca ci_32 cr cf (da 0) (da 2) ph, cdW g da dr_33 df_34, pgW g ph pa pr pf]) H := hP
      replace hD : va_D A (vz_w [coW g h ca ci_32 cr cf (da 0) (da 2) ph, cdW g da dr_33 df_34, pgW g ph pa pr pf]) := hD
      refine lv_aload_n hx hb dX0_writeSum_150 rfl (lv_at hl 2 rfl) ?_
      refine lv_iconst (v := 4) hx hb dX0_writeSum_151 (by decide) ?_
      refine lv_iconst (v := 0) hx hb dX0_writeSum_152 (by decide) ?_
      refine lv_iconst (v := 0) hx hb dX0_writeSum_153 (by decide) ?_
      refine vz_Vi3 (As := [.int 4, .int 0, .int 0]) (rest := []) hx hb hml hown hts hK hA hP hD hS (a_C_emit l D g H.size h ca ci_32 cr cf da ph dr_33 df_34 pa pr pf 4 0 0 hw_c hw_35 hw_p) kv_X0_70 ⟨by have hq := vz_lec (B := 40) (by decide) (by omega) kc1; dsimp only; omega, by have hq := vz_lec (B := 40) (by decide) (by omega) kc1; dsimp only; omega⟩ (q0 := 0) (ci := 0) rfl rfl rfl  hl.1 (Nat.le_of_ble_eq_true rfl) dX0_writeSum_154 ⟨Nat.le_refl _, Nat.le_refl _⟩ rfl (fun v40 ⟨ci_36, dr_37, df_38⟩ H locs hw_39 _ hP hD hS => ?_)
      try dsimp only at hw_39
      replace hP : va_P D vwCl (vz_w [coW g h ca ci_36 cr cf (da 0) (da 2) ph, cdW g da dr_37 df_38, pgW g ph pa pr pf]) H := hP
      replace hD : va_D A (vz_w [coW g h ca ci_36 cr cf (da 0) (da 2) ph, cdW g da dr_37 df_38, pgW g ph pa pr pf]) := hD
      refine lv_pop hx hb dX0_writeSum_157 rfl ?_
      refine lv_goto (tgt := 173) hx hb dX0_writeSum_158 (by decide) ?_
      exact J173 v2 v4 ci_36 dr_37 df_38 hw_39 H locs ls hP hD hS (lv_sub hl [2, 3, 4, 1, 0] rfl)
    have S51_161 : W p l e { frames := (2 * (41 - dn) + 20), cells := 0, slots := 0, locals := (48 * (41 - dn) + 900) } s m args below meth c H locs 0 0 Q (F0 m 161 ls []) := by
      refine lv_aload_n hx hb dX0_writeSum_161 rfl (lv_at hl 2 rfl) ?_
      refine lv_iload hx hb dX0_writeSum_162 (lv_at hl 0 rfl) ?_
      refine lv_iload_n hx hb dX0_writeSum_164 rfl (lv_at hl 4 rfl) ?_
      refine lv_iconst (v := 1) hx hb dX0_writeSum_165 (by decide) ?_
      refine lv_iadd hx hb dX0_writeSum_166 ?_
      refine lv_topi (nm_r (e' := (nI (dn + 1))) (nI_1 dn) ?_)
      refine vz_Vv3 (As := [.int v4, .int (nI (dn + 1))]) (rest := []) hx hb hml hown hts hK hA hP hD hS (a_C_list l D g (dn + 1) (hB (vz_lec (B := 40) (by decide) (by omega) kc1)) H.size h ca ci cr cf da ph dr df pa pr pf v4 hw_c hw_d hw_p) kv_X0_167 ⟨by have hq := vz_lec (B := 40) (by decide) (by omega) kc1; dsimp only; omega, by have hq := vz_lec (B := 40) (by decide) (by omega) kc1; dsimp only; omega⟩ (q0 := 0) (ci := 0) rfl rfl rfl  hl.1 (Nat.le_of_ble_eq_true rfl) dX0_writeSum_167 ⟨Nat.le_refl _, Nat.le_refl _⟩ rfl (fun ⟨ci_41, dr_42, df_43⟩ H locs hw_44 _ hP hD hS => ?_)
      try dsimp only at hw_44
      replace hP : va_P D vwCl (vz_w [coW g h ca ci_41 cr cf (da 0) (da 2) ph, cdW g da dr_42 df_43, pgW g ph pa pr pf]) H := hP
      replace hD : va_D A (vz_w [coW g h ca ci_41 cr cf (da 0) (da 2) ph, cdW g da dr_42 df_43, pgW g ph pa pr pf]) := hD
      refine lv_goto (tgt := 173) hx hb dX0_writeSum_170 (by decide) ?_
      exact J173 v2 v4 ci_41 dr_42 df_43 hw_44 H locs ls hP hD hS (lv_sub hl [2, 3, 4, 1, 0] rfl)
    have S51_173 : W p l e { frames := (2 * (41 - dn) + 20), cells := 0, slots := 0, locals := (48 * (41 - dn) + 900) } s m args below meth c H locs 0 0 Q (F0 m 173 ls []) := by
      exact J173 v2 v4 ci dr df hw_d H locs ls hP hD hS (lv_sub hl [2, 3, 4, 1, 0] rfl)
    refine vz_tsw (td := 173) hx hb dX0_writeSum_51 (by decide) [88, 99, 121, 110, 141, 161] (by decide) (by decide) (fun hv => ?_) (fun k t hk hv => ?_)
    · exact S51_173
    · have hm := List.mem_of_getElem? hk
      simp only [List.mem_cons, List.not_mem_nil, or_false] at hm
      rcases hm with rfl | rfl | rfl | rfl | rfl | rfl
      · exact S51_88
      · exact S51_99
      · exact S51_121
      · exact S51_110
      · exact S51_141
      · exact S51_161
  · refine lv_aload_n hx hb dX0_writeSum_6 rfl (lv_at hl 0 rfl) ?_
    refine lv_iconst (v := 1) hx hb dX0_writeSum_7 (by decide) ?_
    refine va_put (D := D) (ci := 0) (v := .int 1) (ty := .boolean) (C := RX0) (T := TX0) (N := 8) hx hb hts inlX0 tyX0 tyX0_ok nmX0 hown hK hP hD hS 0 rfl rfl 5 (by decide) (hts _ q614) (fun _ h => h) rfl (by decide +kernel) rfl rfl (Nat.le_of_ble_eq_true rfl) dX0_writeSum_8 (fun H locs hP hD hS => ?_)
    obtain ⟨ci_45, hci_45, hP, hD⟩ : ∃ ci_45 : Nat → Int32, (ci_45 = (upd ci 1 1)) ∧ va_P D vwCl (vz_w [coW g h ca ci_45 cr cf (da 0) (da 2) ph, cdW g da dr df, pgW g ph pa pr pf]) H ∧ va_D A (vz_w [coW g h ca ci_45 cr cf (da 0) (da 2) ph, cdW g da dr df, pgW g ph pa pr pf]) := ⟨(upd ci 1 1), rfl, hP, hD⟩
    rw [hQ]
    exact vz_vret3 hx hb hr hlk hK hP hD hS (ci_45, dr, df) hw_d rfl (Nat.le_refl 0) (Nat.le_refl 0) dX0_writeSum_11
theorem a_C_sum9 (l : Launch) (D : va_G) (g : Nat → ClassId) : ∀ (k dn : Nat), dn + k = 41 → ∀ (sz : Nat) (h : Nat) (ca : Nat → Nat) (ci : Nat → Int32) (cr : Nat → Nat) (cf : Nat → Nat → Int32) (da : Nat → Nat) (ph : Nat) (dr : Nat → Nat) (df : Nat → Nat → Int32) (pa : Nat → Nat) (pr : Nat → Nat) (pf : Nat → Nat → Int32) (n1 : Int32) (hw_c : ∀ k, cr k ≤ coW_lim k) (hw_d : ∀ k, dr k ≤ cdW_lim k) (hw_p : ∀ k, pr k ≤ pgW_lim k), vz_Mv l D (tyG g) yX0_writeSum cX0_writeSum 5 (2 * (41 - dn) + 20) (48 * (41 - dn) + 900) 0 0 [.ref h, .int n1, .int (nI dn)] sz (vz_w [coW g h ca ci cr cf (da 0) (da 2) ph, cdW g da dr df, pgW g ph pa pr pf]) (fun u : (Nat → Int32) × (Nat → Nat) × (Nat → Nat → Int32) => (∀ k, u.2.1 k ≤ cdW_lim k)) (fun u => vz_w [coW g h ca u.1 cr cf (da 0) (da 2) ph, cdW g da u.2.1 u.2.2, pgW g ph pa pr pf]) := by
  intro k
  induction k with
  | zero => intro dn hk; exact a_C_sum l D g dn (by omega) (fun h => absurd h (by omega))
  | succ k ih => intro dn hk; exact a_C_sum l D g dn (by omega) (fun _ => ih (dn + 1) (by omega))
theorem q662 : Cond.methodLink RX0 120 yX0_pushContext ∈ wsL_law := mT_4 (List.mem_of_getElem? (i := 88) rfl) rfl
theorem q663 : Cond.instanceMethod yX0_pushContext ∈ wsL_law := mT_4 (List.mem_of_getElem? (i := 90) rfl) rfl
theorem q664 : Cond.selects RX0 yX0_pushContext yX0_pushContext ∈ wsL_law := mS_3 (q := (yX0_pushContext, 8)) (List.mem_of_getElem? (i := 13) rfl) rfl
theorem q665 : Cond.code yX0_pushContext cX0_pushContext 4 (some .int) ∈ wsL_law := mT_4 (List.mem_of_getElem? (i := 91) rfl) rfl
theorem kv_X0_120 : vz_cv RX0 120 yX0_pushContext cX0_pushContext 4 (some .int) 2 := ⟨q662, q663, q664, q33, q665, by decide +kernel⟩
theorem q627 : Cond.methodLink RX0 67 yX0_writeBlock ∈ wsL_law := mT_4 (List.mem_of_getElem? (i := 51) rfl) rfl
theorem q628 : Cond.instanceMethod yX0_writeBlock ∈ wsL_law := mT_4 (List.mem_of_getElem? (i := 53) rfl) rfl
theorem q629 : Cond.selects RX0 yX0_writeBlock yX0_writeBlock ∈ wsL_law := mS_3 (q := (yX0_writeBlock, 8)) (List.mem_of_getElem? (i := 4) rfl) rfl
theorem q630 : Cond.code yX0_writeBlock cX0_writeBlock 5 none ∈ wsL_law := mT_4 (List.mem_of_getElem? (i := 54) rfl) rfl
theorem kv_X0_67 : vz_cv RX0 67 yX0_writeBlock cX0_writeBlock 5 none 2 := ⟨q627, q628, q629, q33, q630, by decide +kernel⟩
theorem q666 : Cond.methodLink RX0 123 yX0_popContext ∈ wsL_law := mT_4 (List.mem_of_getElem? (i := 92) rfl) rfl
theorem q667 : Cond.instanceMethod yX0_popContext ∈ wsL_law := mT_4 (List.mem_of_getElem? (i := 94) rfl) rfl
theorem q668 : Cond.selects RX0 yX0_popContext yX0_popContext ∈ wsL_law := mS_3 (q := (yX0_popContext, 8)) (List.mem_of_getElem? (i := 14) rfl) rfl
theorem q669 : Cond.code yX0_popContext cX0_popContext 2 none ∈ wsL_law := mT_4 (List.mem_of_getElem? (i := 95) rfl) rfl
theorem kv_X0_123 : vz_cv RX0 123 yX0_popContext cX0_popContext 2 none 1 := ⟨q666, q667, q668, q33, q669, by decide +kernel⟩
theorem q619 : Cond.fieldLink RX0 38 "WaysAtlas$Coder" "shares" "Z" ∈ wsL_law := mT_1 (List.mem_of_getElem? (i := 177) rfl) rfl
theorem q637 : Cond.methodLink RX0 116 yX0_levelOf ∈ wsL_law := mT_4 (List.mem_of_getElem? (i := 84) rfl) rfl
theorem q638 : Cond.instanceMethod yX0_levelOf ∈ wsL_law := mT_4 (List.mem_of_getElem? (i := 86) rfl) rfl
theorem q639 : Cond.selects RX0 yX0_levelOf yX0_levelOf ∈ wsL_law := mS_3 (q := (yX0_levelOf, 8)) (List.mem_of_getElem? (i := 12) rfl) rfl
theorem q640 : Cond.code yX0_levelOf cX0_levelOf 2 (some .int) ∈ wsL_law := mT_4 (List.mem_of_getElem? (i := 87) rfl) rfl
theorem kv_X0_116 : vz_cv RX0 116 yX0_levelOf cX0_levelOf 2 (some .int) 1 := ⟨q637, q638, q639, q33, q640, by decide +kernel⟩
theorem q621 : Cond.fieldLink RX0 49 "WaysAtlas$Table" "rows" "I" ∈ wsL_law := mT_1 (List.mem_of_getElem? (i := 42) rfl) rfl
theorem q671 : Cond.methodLink RX0 113 yX0_patch ∈ wsL_law := mT_4 (List.mem_of_getElem? (i := 76) rfl) rfl
theorem q672 : Cond.instanceMethod yX0_patch ∈ wsL_law := mT_4 (List.mem_of_getElem? (i := 78) rfl) rfl
theorem q673 : Cond.selects RX0 yX0_patch yX0_patch ∈ wsL_law := mS_3 (q := (yX0_patch, 8)) (List.mem_of_getElem? (i := 10) rfl) rfl
theorem q674 : Cond.code yX0_patch cX0_patch 6 none ∈ wsL_law := mT_4 (List.mem_of_getElem? (i := 79) rfl) rfl
theorem kv_X0_113 : vz_cv RX0 113 yX0_patch cX0_patch 6 none 2 := ⟨q671, q672, q673, q33, q674, by decide +kernel⟩
theorem dX0_writeFinishing_0 : decode cX0_writeFinishing 0 = .ok (.aload_n 0, 1) := by decide +kernel
theorem dX0_writeFinishing_1 : decode cX0_writeFinishing 1 = .ok (.getfield 57, 3) := by decide +kernel
theorem dX0_writeFinishing_4 : decode cX0_writeFinishing 4 = .ok (.istore_n 3, 1) := by decide +kernel
theorem dX0_writeFinishing_5 : decode cX0_writeFinishing 5 = .ok (.aload_n 0, 1) := by decide +kernel
theorem dX0_writeFinishing_6 : decode cX0_writeFinishing 6 = .ok (.iconst 0, 1) := by decide +kernel
theorem dX0_writeFinishing_7 : decode cX0_writeFinishing 7 = .ok (.iload_n 3, 1) := by decide +kernel
theorem dX0_writeFinishing_8 : decode cX0_writeFinishing 8 = .ok (.invokevirtual 139, 3) := by decide +kernel
theorem dX0_writeFinishing_11 : decode cX0_writeFinishing 11 = .ok (.istore 4, 2) := by decide +kernel
theorem dX0_writeFinishing_13 : decode cX0_writeFinishing 13 = .ok (.aload_n 0, 1) := by decide +kernel
theorem dX0_writeFinishing_14 : decode cX0_writeFinishing 14 = .ok (.iconst 3, 1) := by decide +kernel
theorem dX0_writeFinishing_15 : decode cX0_writeFinishing 15 = .ok (.iload_n 1, 1) := by decide +kernel
theorem dX0_writeFinishing_16 : decode cX0_writeFinishing 16 = .ok (.invokevirtual 120, 3) := by decide +kernel
theorem dX0_writeFinishing_19 : decode cX0_writeFinishing 19 = .ok (.istore 5, 2) := by decide +kernel
theorem dX0_writeFinishing_21 : decode cX0_writeFinishing 21 = .ok (.aload_n 0, 1) := by decide +kernel
theorem dX0_writeFinishing_22 : decode cX0_writeFinishing 22 = .ok (.iload 4, 2) := by decide +kernel
theorem dX0_writeFinishing_24 : decode cX0_writeFinishing 24 = .ok (.putfield 57, 3) := by decide +kernel
theorem dX0_writeFinishing_27 : decode cX0_writeFinishing 27 = .ok (.aload_n 0, 1) := by decide +kernel
theorem dX0_writeFinishing_28 : decode cX0_writeFinishing 28 = .ok (.bipush 31, 2) := by decide +kernel
theorem dX0_writeFinishing_30 : decode cX0_writeFinishing 30 = .ok (.iload_n 1, 1) := by decide +kernel
theorem dX0_writeFinishing_31 : decode cX0_writeFinishing 31 = .ok (.iconst 0, 1) := by decide +kernel
theorem dX0_writeFinishing_32 : decode cX0_writeFinishing 32 = .ok (.invokevirtual 70, 3) := by decide +kernel
theorem dX0_writeFinishing_35 : decode cX0_writeFinishing 35 = .ok (.pop, 1) := by decide +kernel
theorem dX0_writeFinishing_36 : decode cX0_writeFinishing 36 = .ok (.aload_n 0, 1) := by decide +kernel
theorem dX0_writeFinishing_37 : decode cX0_writeFinishing 37 = .ok (.aload_n 0, 1) := by decide +kernel
theorem dX0_writeFinishing_38 : decode cX0_writeFinishing 38 = .ok (.getfield 9, 3) := by decide +kernel
theorem dX0_writeFinishing_41 : decode cX0_writeFinishing 41 = .ok (.getfield 81, 3) := by decide +kernel
theorem dX0_writeFinishing_44 : decode cX0_writeFinishing 44 = .ok (.iload_n 1, 1) := by decide +kernel
theorem dX0_writeFinishing_45 : decode cX0_writeFinishing 45 = .ok (.bipush 6, 2) := by decide +kernel
theorem dX0_writeFinishing_47 : decode cX0_writeFinishing 47 = .ok (.invokevirtual 63, 3) := by decide +kernel
theorem dX0_writeFinishing_50 : decode cX0_writeFinishing 50 = .ok (.iload_n 2, 1) := by decide +kernel
theorem dX0_writeFinishing_51 : decode cX0_writeFinishing 51 = .ok (.iconst 1, 1) := by decide +kernel
theorem dX0_writeFinishing_52 : decode cX0_writeFinishing 52 = .ok (.iadd, 1) := by decide +kernel
theorem dX0_writeFinishing_53 : decode cX0_writeFinishing 53 = .ok (.invokevirtual 67, 3) := by decide +kernel
theorem dX0_writeFinishing_56 : decode cX0_writeFinishing 56 = .ok (.aload_n 0, 1) := by decide +kernel
theorem dX0_writeFinishing_57 : decode cX0_writeFinishing 57 = .ok (.iload 5, 2) := by decide +kernel
theorem dX0_writeFinishing_59 : decode cX0_writeFinishing 59 = .ok (.invokevirtual 123, 3) := by decide +kernel
theorem dX0_writeFinishing_62 : decode cX0_writeFinishing 62 = .ok (.aload_n 0, 1) := by decide +kernel
theorem dX0_writeFinishing_63 : decode cX0_writeFinishing 63 = .ok (.iload_n 3, 1) := by decide +kernel
theorem dX0_writeFinishing_64 : decode cX0_writeFinishing 64 = .ok (.putfield 57, 3) := by decide +kernel
theorem dX0_writeFinishing_67 : decode cX0_writeFinishing 67 = .ok (.aload_n 0, 1) := by decide +kernel
theorem dX0_writeFinishing_68 : decode cX0_writeFinishing 68 = .ok (.getfield 38, 3) := by decide +kernel
theorem dX0_writeFinishing_71 : decode cX0_writeFinishing 71 = .ok (.ifCond .eq 18, 3) := by decide +kernel
theorem dX0_writeFinishing_74 : decode cX0_writeFinishing 74 = .ok (.aload_n 0, 1) := by decide +kernel
theorem dX0_writeFinishing_75 : decode cX0_writeFinishing 75 = .ok (.bipush 21, 2) := by decide +kernel
theorem dX0_writeFinishing_77 : decode cX0_writeFinishing 77 = .ok (.aload_n 0, 1) := by decide +kernel
theorem dX0_writeFinishing_78 : decode cX0_writeFinishing 78 = .ok (.iload_n 1, 1) := by decide +kernel
theorem dX0_writeFinishing_79 : decode cX0_writeFinishing 79 = .ok (.invokevirtual 116, 3) := by decide +kernel
theorem dX0_writeFinishing_82 : decode cX0_writeFinishing 82 = .ok (.iconst 0, 1) := by decide +kernel
theorem dX0_writeFinishing_83 : decode cX0_writeFinishing 83 = .ok (.invokevirtual 70, 3) := by decide +kernel
theorem dX0_writeFinishing_86 : decode cX0_writeFinishing 86 = .ok (.goto 12, 3) := by decide +kernel
theorem dX0_writeFinishing_89 : decode cX0_writeFinishing 89 = .ok (.aload_n 0, 1) := by decide +kernel
theorem dX0_writeFinishing_90 : decode cX0_writeFinishing 90 = .ok (.bipush 15, 2) := by decide +kernel
theorem dX0_writeFinishing_92 : decode cX0_writeFinishing 92 = .ok (.bipush (-9), 2) := by decide +kernel
theorem dX0_writeFinishing_94 : decode cX0_writeFinishing 94 = .ok (.iconst 0, 1) := by decide +kernel
theorem dX0_writeFinishing_95 : decode cX0_writeFinishing 95 = .ok (.invokevirtual 70, 3) := by decide +kernel
theorem dX0_writeFinishing_98 : decode cX0_writeFinishing 98 = .ok (.istore 6, 2) := by decide +kernel
theorem dX0_writeFinishing_100 : decode cX0_writeFinishing 100 = .ok (.aload_n 0, 1) := by decide +kernel
theorem dX0_writeFinishing_101 : decode cX0_writeFinishing 101 = .ok (.getfield 24, 3) := by decide +kernel
theorem dX0_writeFinishing_104 : decode cX0_writeFinishing 104 = .ok (.iload 4, 2) := by decide +kernel
theorem dX0_writeFinishing_106 : decode cX0_writeFinishing 106 = .ok (.iconst 1, 1) := by decide +kernel
theorem dX0_writeFinishing_107 : decode cX0_writeFinishing 107 = .ok (.aload_n 0, 1) := by decide +kernel
theorem dX0_writeFinishing_108 : decode cX0_writeFinishing 108 = .ok (.getfield 20, 3) := by decide +kernel
theorem dX0_writeFinishing_111 : decode cX0_writeFinishing 111 = .ok (.getfield 49, 3) := by decide +kernel
theorem dX0_writeFinishing_114 : decode cX0_writeFinishing 114 = .ok (.invokevirtual 53, 3) := by decide +kernel
theorem dX0_writeFinishing_117 : decode cX0_writeFinishing 117 = .ok (.aload_n 0, 1) := by decide +kernel
theorem dX0_writeFinishing_118 : decode cX0_writeFinishing 118 = .ok (.bipush 33, 2) := by decide +kernel
theorem dX0_writeFinishing_120 : decode cX0_writeFinishing 120 = .ok (.aload_n 0, 1) := by decide +kernel
theorem dX0_writeFinishing_121 : decode cX0_writeFinishing 121 = .ok (.iload_n 1, 1) := by decide +kernel
theorem dX0_writeFinishing_122 : decode cX0_writeFinishing 122 = .ok (.invokevirtual 116, 3) := by decide +kernel
theorem dX0_writeFinishing_125 : decode cX0_writeFinishing 125 = .ok (.iconst 0, 1) := by decide +kernel
theorem dX0_writeFinishing_126 : decode cX0_writeFinishing 126 = .ok (.invokevirtual 70, 3) := by decide +kernel
theorem dX0_writeFinishing_129 : decode cX0_writeFinishing 129 = .ok (.pop, 1) := by decide +kernel
theorem dX0_writeFinishing_130 : decode cX0_writeFinishing 130 = .ok (.aload_n 0, 1) := by decide +kernel
theorem dX0_writeFinishing_131 : decode cX0_writeFinishing 131 = .ok (.getfield 38, 3) := by decide +kernel
theorem dX0_writeFinishing_134 : decode cX0_writeFinishing 134 = .ok (.ifCond .ne 16, 3) := by decide +kernel
theorem dX0_writeFinishing_137 : decode cX0_writeFinishing 137 = .ok (.aload_n 0, 1) := by decide +kernel
theorem dX0_writeFinishing_138 : decode cX0_writeFinishing 138 = .ok (.iload 6, 2) := by decide +kernel
theorem dX0_writeFinishing_140 : decode cX0_writeFinishing 140 = .ok (.aload_n 0, 1) := by decide +kernel
theorem dX0_writeFinishing_141 : decode cX0_writeFinishing 141 = .ok (.getfield 20, 3) := by decide +kernel
theorem dX0_writeFinishing_144 : decode cX0_writeFinishing 144 = .ok (.getfield 49, 3) := by decide +kernel
theorem dX0_writeFinishing_147 : decode cX0_writeFinishing 147 = .ok (.invokevirtual 113, 3) := by decide +kernel
theorem dX0_writeFinishing_150 : decode cX0_writeFinishing 150 = .ok (.return_, 1) := by decide +kernel
set_option maxHeartbeats 8000000 in
set_option maxRecDepth 100000 in
theorem a_C_writeFinishing (l : Launch) (D : va_G) (g : Nat → ClassId) (dn : Nat) (hdn : dn ≤ 16) (hB : ∀ (sz : Nat) (h : Nat) (ca : Nat → Nat) (ci : Nat → Int32) (cr : Nat → Nat) (cf : Nat → Nat → Int32) (da : Nat → Nat) (ph : Nat) (dr : Nat → Nat) (df : Nat → Nat → Int32) (pa : Nat → Nat) (pr : Nat → Nat) (pf : Nat → Nat → Int32) (n1 : Int32) (hw_c : ∀ k, cr k ≤ coW_lim k) (hw_d : ∀ k, dr k ≤ cdW_lim k) (hw_p : ∀ k, pr k ≤ pgW_lim k), vz_Mv l D (tyG g) yX0_writeBlock cX0_writeBlock 5 (7 * (17 - (dn + 1)) + 110) (203 * (17 - (dn + 1)) + 4000) 0 0 [.ref h, .int n1, .int (nI (dn + 1))] sz (vz_w [coW g h ca ci cr cf (da 0) (da 2) ph, cdW g da dr df, pgW g ph pa pr pf]) (fun u : (Nat → Int32) × (Nat → Nat) × (Nat → Nat → Int32) × (Nat → Nat) × (Nat → Nat → Int32) => (∀ k, u.2.1 k ≤ coW_lim k) ∧ (∀ k, u.2.2.2.1 k ≤ cdW_lim k)) (fun u => vz_w [coW g h ca u.1 u.2.1 u.2.2.1 (da 0) (da 2) ph, cdW g da u.2.2.2.1 u.2.2.2.2, pgW g ph pa pr pf])) (sz : Nat) (h : Nat) (ca : Nat → Nat) (ci : Nat → Int32) (cr : Nat → Nat) (cf : Nat → Nat → Int32) (da : Nat → Nat) (ph : Nat) (dr : Nat → Nat) (df : Nat → Nat → Int32) (pa : Nat → Nat) (pr : Nat → Nat) (pf : Nat → Nat → Int32) (n1 : Int32) (hw_c : ∀ k, cr k ≤ coW_lim k) (hw_d : ∀ k, dr k ≤ cdW_lim k) (hw_p : ∀ k, pr k ≤ pgW_lim k) : vz_Mv l D (tyG g) yX0_writeFinishing cX0_writeFinishing 7 (7 * (16 - dn) + 111) (203 * (16 - dn) + 4029) 0 0 [.ref h, .int n1, .int (nI dn)] sz (vz_w [coW g h ca ci cr cf (da 0) (da 2) ph, cdW g da dr df, pgW g ph pa pr pf]) (fun u : (Nat → Int32) × (Nat → Nat) × (Nat → Nat → Int32) × (Nat → Nat) × (Nat → Nat → Int32) => (∀ k, u.2.1 k ≤ coW_lim k) ∧ (∀ k, u.2.2.2.1 k ≤ cdW_lim k)) (fun u => vz_w [coW g h ca u.1 u.2.1 u.2.2.1 (da 0) (da 2) ph, cdW g da u.2.2.2.1 u.2.2.2.2, pgW g ph pa pr pf]) := by
  refine vz_svQ (by decide) (Nat.le_of_ble_eq_true rfl) (fun p e s m args below meth c hx hb hr hml hts hown hlk hin hK hsz A hA H locs hP hD hS ls hl Q hQ => ?_)
  have hl : lv_has ls 7 [(0, .ref h), (1, .int n1), (2, .int (nI dn))] := hl
  have J150 : ∀ (x3_150 : Int32), ∀ (x4_150 : Int32), ∀ (x5_150 : Int32), ∀ (x6_150 : Int32), ∀ (ci_150 : Nat → Int32), ∀ (cr_150 : Nat → Nat), ∀ (cf_150 : Nat → Nat → Int32), ∀ (dr_150 : Nat → Nat), ∀ (df_150 : Nat → Nat → Int32), (∀ k, cr_150 k ≤ coW_lim k) → (∀ k, dr_150 k ≤ cdW_lim k) → ∀ (H : Heap) (locs : List Loc) (ls : Array Slot), va_P D vwCl (vz_w [coW g h ca ci_150 cr_150 cf_150 (da 0) (da 2) ph, cdW g da dr_150 df_150, pgW g ph pa pr pf]) H → va_D A (vz_w [coW g h ca ci_150 cr_150 cf_150 (da 0) (da 2) ph, cdW g da dr_150 df_150, pgW g ph pa pr pf]) → va_S A s.heap H locs → lv_has ls 7 [(0, .ref h), (1, .int n1), (2, .int (nI dn)), (3, .int x3_150), (4, .int x4_150), (5, .int x5_150), (6, .int x6_150)] → W p l e { frames := (7 * (16 - dn) + 111), cells := 0, slots := 0, locals := (203 * (16 - dn) + 4029) } s m args below meth c H locs 0 0 Q (F0 m 150 ls []) := by
    intro x3_150 x4_150 x5_150 x6_150 ci_150 cr_150 cf_150 dr_150 df_150 hw_c_150 hw_d_150 H locs ls hP hD hS hl
    rw [hQ]
    exact vz_vret3 hx hb hr hlk hK hP hD hS (ci_150, cr_150, cf_150, dr_150, df_150) (⟨hw_c_150, hw_d_150⟩) rfl (Nat.le_refl 0) (Nat.le_refl 0) dX0_writeFinishing_150
  have J98 : ∀ (x3_98 : Int32), ∀ (x4_98 : Int32), ∀ (x5_98 : Int32), ∀ (y0_98 : Int32), ∀ (ci_98 : Nat → Int32), ∀ (cr_98 : Nat → Nat), ∀ (cf_98 : Nat → Nat → Int32), ∀ (dr_98 : Nat → Nat), ∀ (df_98 : Nat → Nat → Int32), (∀ k, cr_98 k ≤ coW_lim k) → (∀ k, dr_98 k ≤ cdW_lim k) → ∀ (H : Heap) (locs : List Loc) (ls : Array Slot), va_P D vwCl (vz_w [coW g h ca ci_98 cr_98 cf_98 (da 0) (da 2) ph, cdW g da dr_98 df_98, pgW g ph pa pr pf]) H → va_D A (vz_w [coW g h ca ci_98 cr_98 cf_98 (da 0) (da 2) ph, cdW g da dr_98 df_98, pgW g ph pa pr pf]) → va_S A s.heap H locs → lv_has ls 7 [(0, .ref h), (1, .int n1), (2, .int (nI dn)), (3, .int x3_98), (4, .int x4_98), (5, .int x5_98)] → W p l e { frames := (7 * (16 - dn) + 111), cells := 0, slots := 0, locals := (203 * (16 - dn) + 4029) } s m args below meth c H locs 0 0 Q (F0 m 98 ls [.int y0_98]) := by
    intro x3_98 x4_98 x5_98 y0_98 ci_98 cr_98 cf_98 dr_98 df_98 hw_c_98 hw_d_98 H locs ls hP hD hS hl
    refine lv_istore (lv' := [(6, .int y0_98), (0, .ref h), (1, .int n1), (2, .int (nI dn)), (3, .int x3_98), (4, .int x4_98), (5, .int x5_98)]) hx hb dX0_writeFinishing_98 hl (by decide) rfl (fun ls hl => ?_)
    refine lv_aload_n hx hb dX0_writeFinishing_100 rfl (lv_at hl 1 rfl) ?_
    refine va_get (D := D) (ci := 0) (v := .ref (da 2)) (C := RX0) (T := TX0) (N := 8) hx hb hts inlX0 hown hK hP 0 rfl rfl 1 (by decide) (hts _ q111) (fun _ h => h) rfl dX0_writeFinishing_101 ?_
    refine lv_iload hx hb dX0_writeFinishing_104 (lv_at hl 5 rfl) ?_
    refine lv_iconst (v := 1) hx hb dX0_writeFinishing_106 (by decide) ?_
    refine lv_aload_n hx hb dX0_writeFinishing_107 rfl (lv_at hl 1 rfl) ?_
    refine va_get (D := D) (ci := 0) (v := .ref (da 0)) (C := RX0) (T := TX0) (N := 8) hx hb hts inlX0 hown hK hP 0 rfl rfl 0 (by decide) (hts _ q110) (fun _ h => h) rfl dX0_writeFinishing_108 ?_
    refine va_get (D := D) (ci := 6) (v := .int (nI (dr_98 0))) (C := RX6) (T := TX6) (N := 4) hx hb hts inlX6 hown hK hP 3 rfl rfl 3 (by decide) (hts _ q621) (fun _ h => h) rfl dX0_writeFinishing_111 ?_
    refine vz_Vv2 (ws' := fun u : (Nat → Int32) => vz_w [coW g h ca ci_98 cr_98 cf_98 (da 0) (da 2) ph, cdW g da dr_98 (vz_uf df_98 1 u), pgW g ph pa pr pf]) (As := [.int x4_98, .int 1, .int (nI (dr_98 0))]) (rest := []) hx hb hml hown hts hK hA hP hD hS (c_T_set l D g (da 2) (da 3) H.size 3 500 (dr_98 1) 1500 (df_98 1) x4_98 1 (nI (dr_98 0)) ⟨rfl, by decide, by decide, by decide, by decide, hw_d_98 1⟩) kv_X0_53 ⟨by dsimp only; omega, by dsimp only; omega⟩ (q0 := 5) (ci := 6) rfl rfl rfl [5, 6] rfl (by decide) (fun _ => rfl) (fun _ => rfl) hl.1 (Nat.le_of_ble_eq_true rfl) dX0_writeFinishing_114 ⟨Nat.le_refl _, Nat.le_refl _⟩ rfl (fun nf1 H locs _ _ hP hD hS => ?_)
    obtain ⟨df_2, hP, hD⟩ : ∃ df_2 : Nat → Nat → Int32, va_P D vwCl (vz_w [coW g h ca ci_98 cr_98 cf_98 (da 0) (da 2) ph, cdW g da dr_98 df_2, pgW g ph pa pr pf]) H ∧ va_D A (vz_w [coW g h ca ci_98 cr_98 cf_98 (da 0) (da 2) ph, cdW g da dr_98 df_2, pgW g ph pa pr pf]) := ⟨(vz_uf df_98 1 nf1), hP, hD⟩
    refine lv_aload_n hx hb dX0_writeFinishing_117 rfl (lv_at hl 1 rfl) ?_
    refine lv_bipush (v := 33) hx hb dX0_writeFinishing_118 (by decide) ?_
    refine lv_aload_n hx hb dX0_writeFinishing_120 rfl (lv_at hl 1 rfl) ?_
    refine lv_iload_n hx hb dX0_writeFinishing_121 rfl (lv_at hl 2 rfl) ?_
    refine vz_Vi3 (As := [.int n1]) (rest := [.int 33, .ref h]) hx hb hml hown hts hK hA hP hD hS (a_C_levelOf l D g H.size h ca ci_98 cr_98 cf_98 da ph dr_98 df_2 pa pr pf n1 hw_c_98 hw_d_98 hw_p) kv_X0_116 ⟨by dsimp only; omega, by dsimp only; omega⟩ (q0 := 0) (ci := 0) rfl rfl rfl  hl.1 (Nat.le_of_ble_eq_true rfl) dX0_writeFinishing_122 ⟨Nat.le_refl _, Nat.le_refl _⟩ rfl (fun v3 _ H locs _ _ hP hD hS => ?_)
    refine lv_iconst (v := 0) hx hb dX0_writeFinishing_125 (by decide) ?_
    refine vz_Vi3 (As := [.int 33, .int v3, .int 0]) (rest := []) hx hb hml hown hts hK hA hP hD hS (a_C_emit l D g H.size h ca ci_98 cr_98 cf_98 da ph dr_98 df_2 pa pr pf 33 v3 0 hw_c_98 hw_d_98 hw_p) kv_X0_70 ⟨by dsimp only; omega, by dsimp only; omega⟩ (q0 := 0) (ci := 0) rfl rfl rfl  hl.1 (Nat.le_of_ble_eq_true rfl) dX0_writeFinishing_126 ⟨Nat.le_refl _, Nat.le_refl _⟩ rfl (fun v8 ⟨ci_4, dr_5, df_6⟩ H locs hw_7 _ hP hD hS => ?_)
    try dsimp only at hw_7
    replace hP : va_P D vwCl (vz_w [coW g h ca ci_4 cr_98 cf_98 (da 0) (da 2) ph, cdW g da dr_5 df_6, pgW g ph pa pr pf]) H := hP
    replace hD : va_D A (vz_w [coW g h ca ci_4 cr_98 cf_98 (da 0) (da 2) ph, cdW g da dr_5 df_6, pgW g ph pa pr pf]) := hD
    refine lv_pop hx hb dX0_writeFinishing_129 rfl ?_
    refine lv_aload_n hx hb dX0_writeFinishing_130 rfl (lv_at hl 1 rfl) ?_
    refine va_get (D := D) (ci := 0) (v := .int (ci_4 0)) (C := RX0) (T := TX0) (N := 8) hx hb hts inlX0 hown hK hP 0 rfl rfl 4 (by decide) (hts _ q619) (fun _ h => h) rfl dX0_writeFinishing_131 ?_
    refine lv_if_ne (tgt := 150) hx hb dX0_writeFinishing_134 (by decide) (fun kc9 => ?_) (fun kc9 => ?_)
    · exact J150 x3_98 x4_98 x5_98 y0_98 ci_4 cr_98 cf_98 dr_5 df_6 hw_c_98 hw_7 H locs ls hP hD hS (lv_sub hl [1, 2, 3, 4, 5, 6, 0] rfl)
    · refine lv_aload_n hx hb dX0_writeFinishing_137 rfl (lv_at hl 1 rfl) ?_
      refine lv_iload hx hb dX0_writeFinishing_138 (lv_at hl 0 rfl) ?_
      refine lv_aload_n hx hb dX0_writeFinishing_140 rfl (lv_at hl 1 rfl) ?_
      refine va_get (D := D) (ci := 0) (v := .ref (da 0)) (C := RX0) (T := TX0) (N := 8) hx hb hts inlX0 hown hK hP 0 rfl rfl 0 (by decide) (hts _ q110) (fun _ h => h) rfl dX0_writeFinishing_141 ?_
      refine va_get (D := D) (ci := 6) (v := .int (nI (dr_5 0))) (C := RX6) (T := TX6) (N := 4) hx hb hts inlX6 hown hK hP 3 rfl rfl 3 (by decide) (hts _ q621) (fun _ h => h) rfl dX0_writeFinishing_144 ?_
      refine vz_Vv3 (As := [.int y0_98, .int (nI (dr_5 0))]) (rest := []) hx hb hml hown hts hK hA hP hD hS (a_C_patch l D g H.size h ca ci_4 cr_98 cf_98 da ph dr_5 df_6 pa pr pf y0_98 (nI (dr_5 0)) hw_c_98 hw_7 hw_p) kv_X0_113 ⟨by dsimp only; omega, by dsimp only; omega⟩ (q0 := 0) (ci := 0) rfl rfl rfl  hl.1 (Nat.le_of_ble_eq_true rfl) dX0_writeFinishing_147 ⟨Nat.le_refl _, Nat.le_refl _⟩ rfl (fun df_10 H locs _ _ hP hD hS => ?_)
      replace hP : va_P D vwCl (vz_w [coW g h ca ci_4 cr_98 cf_98 (da 0) (da 2) ph, cdW g da dr_5 df_10, pgW g ph pa pr pf]) H := hP
      replace hD : va_D A (vz_w [coW g h ca ci_4 cr_98 cf_98 (da 0) (da 2) ph, cdW g da dr_5 df_10, pgW g ph pa pr pf]) := hD
      exact J150 x3_98 x4_98 x5_98 y0_98 ci_4 cr_98 cf_98 dr_5 df_10 hw_c_98 hw_7 H locs ls hP hD hS (lv_sub hl [1, 2, 3, 4, 5, 6, 0] rfl)
  refine lv_aload_n hx hb dX0_writeFinishing_0 rfl (lv_at hl 0 rfl) ?_
  refine va_get (D := D) (ci := 0) (v := .int (ci 2)) (C := RX0) (T := TX0) (N := 8) hx hb hts inlX0 hown hK hP 0 rfl rfl 6 (by decide) (hts _ q622) (fun _ h => h) rfl dX0_writeFinishing_1 ?_
  refine lv_istore_n (lv' := [(3, .int (ci 2)), (0, .ref h), (1, .int n1), (2, .int (nI dn))]) hx hb dX0_writeFinishing_4 rfl hl (by decide) rfl (fun ls hl => ?_)
  refine lv_aload_n hx hb dX0_writeFinishing_5 rfl (lv_at hl 1 rfl) ?_
  refine lv_iconst (v := 0) hx hb dX0_writeFinishing_6 (by decide) ?_
  refine lv_iload_n hx hb dX0_writeFinishing_7 rfl (lv_at hl 0 rfl) ?_
  refine vz_Vi3 (As := [.int 0, .int (ci 2)]) (rest := []) hx hb hml hown hts hK hA hP hD hS (a_C_newHandler l D g H.size h ca ci cr cf da ph dr df pa pr pf 0 (ci 2) hw_c hw_d hw_p) kv_X0_139 ⟨by dsimp only; omega, by dsimp only; omega⟩ (q0 := 0) (ci := 0) rfl rfl rfl  hl.1 (Nat.le_of_ble_eq_true rfl) dX0_writeFinishing_8 ⟨Nat.le_refl _, Nat.le_refl _⟩ rfl (fun v5 ⟨ci_1, dr_2, df_3⟩ H locs hw_4 _ hP hD hS => ?_)
  try dsimp only at hw_4
  replace hP : va_P D vwCl (vz_w [coW g h ca ci_1 cr cf (da 0) (da 2) ph, cdW g da dr_2 df_3, pgW g ph pa pr pf]) H := hP
  replace hD : va_D A (vz_w [coW g h ca ci_1 cr cf (da 0) (da 2) ph, cdW g da dr_2 df_3, pgW g ph pa pr pf]) := hD
  refine lv_istore (lv' := [(4, .int v5), (3, .int (ci 2)), (0, .ref h), (1, .int n1), (2, .int (nI dn))]) hx hb dX0_writeFinishing_11 hl (by decide) rfl (fun ls hl => ?_)
  refine lv_aload_n hx hb dX0_writeFinishing_13 rfl (lv_at hl 2 rfl) ?_
  refine lv_iconst (v := 3) hx hb dX0_writeFinishing_14 (by decide) ?_
  refine lv_iload_n hx hb dX0_writeFinishing_15 rfl (lv_at hl 3 rfl) ?_
  refine vz_Vi3 (As := [.int 3, .int n1]) (rest := []) hx hb hml hown hts hK hA hP hD hS (a_C_pushContext l D g H.size h ca ci_1 cr cf da ph dr_2 df_3 pa pr pf 3 n1 hw_c hw_4 hw_p) kv_X0_120 ⟨by dsimp only; omega, by dsimp only; omega⟩ (q0 := 0) (ci := 0) rfl rfl rfl  hl.1 (Nat.le_of_ble_eq_true rfl) dX0_writeFinishing_16 ⟨Nat.le_refl _, Nat.le_refl _⟩ rfl (fun v10 ⟨ci_6, cr_7, cf_8⟩ H locs hw_9 _ hP hD hS => ?_)
  try dsimp only at hw_9
  replace hP : va_P D vwCl (vz_w [coW g h ca ci_6 cr_7 cf_8 (da 0) (da 2) ph, cdW g da dr_2 df_3, pgW g ph pa pr pf]) H := hP
  replace hD : va_D A (vz_w [coW g h ca ci_6 cr_7 cf_8 (da 0) (da 2) ph, cdW g da dr_2 df_3, pgW g ph pa pr pf]) := hD
  refine lv_istore (lv' := [(5, .int v10), (4, .int v5), (3, .int (ci 2)), (0, .ref h), (1, .int n1), (2, .int (nI dn))]) hx hb dX0_writeFinishing_19 hl (by decide) rfl (fun ls hl => ?_)
  refine lv_aload_n hx hb dX0_writeFinishing_21 rfl (lv_at hl 3 rfl) ?_
  refine lv_iload hx hb dX0_writeFinishing_22 (lv_at hl 1 rfl) ?_
  refine va_put (D := D) (ci := 0) (v := .int v5) (ty := .int) (C := RX0) (T := TX0) (N := 8) hx hb hts inlX0 tyX0 tyX0_ok nmX0 hown hK hP hD hS 0 rfl rfl 6 (by decide) (hts _ q622) (fun _ h => h) rfl (by decide +kernel) rfl rfl (Nat.le_of_ble_eq_true rfl) dX0_writeFinishing_24 (fun H locs hP hD hS => ?_)
  obtain ⟨ci_11, hci_11, hP, hD⟩ : ∃ ci_11 : Nat → Int32, (ci_11 = (upd ci_6 2 v5)) ∧ va_P D vwCl (vz_w [coW g h ca ci_11 cr_7 cf_8 (da 0) (da 2) ph, cdW g da dr_2 df_3, pgW g ph pa pr pf]) H ∧ va_D A (vz_w [coW g h ca ci_11 cr_7 cf_8 (da 0) (da 2) ph, cdW g da dr_2 df_3, pgW g ph pa pr pf]) := ⟨(upd ci_6 2 v5), rfl, hP, hD⟩
  refine lv_aload_n hx hb dX0_writeFinishing_27 rfl (lv_at hl 3 rfl) ?_
  refine lv_bipush (v := 31) hx hb dX0_writeFinishing_28 (by decide) ?_
  refine lv_iload_n hx hb dX0_writeFinishing_30 rfl (lv_at hl 4 rfl) ?_
  refine lv_iconst (v := 0) hx hb dX0_writeFinishing_31 (by decide) ?_
  refine vz_Vi3 (As := [.int 31, .int n1, .int 0]) (rest := []) hx hb hml hown hts hK hA hP hD hS (a_C_emit l D g H.size h ca ci_11 cr_7 cf_8 da ph dr_2 df_3 pa pr pf 31 n1 0 hw_9 hw_4 hw_p) kv_X0_70 ⟨by dsimp only; omega, by dsimp only; omega⟩ (q0 := 0) (ci := 0) rfl rfl rfl  hl.1 (Nat.le_of_ble_eq_true rfl) dX0_writeFinishing_32 ⟨Nat.le_refl _, Nat.le_refl _⟩ rfl (fun v16 ⟨ci_12, dr_13, df_14⟩ H locs hw_15 _ hP hD hS => ?_)
  try dsimp only at hw_15
  replace hP : va_P D vwCl (vz_w [coW g h ca ci_12 cr_7 cf_8 (da 0) (da 2) ph, cdW g da dr_13 df_14, pgW g ph pa pr pf]) H := hP
  replace hD : va_D A (vz_w [coW g h ca ci_12 cr_7 cf_8 (da 0) (da 2) ph, cdW g da dr_13 df_14, pgW g ph pa pr pf]) := hD
  refine lv_pop hx hb dX0_writeFinishing_35 rfl ?_
  refine lv_aload_n hx hb dX0_writeFinishing_36 rfl (lv_at hl 3 rfl) ?_
  refine lv_aload_n hx hb dX0_writeFinishing_37 rfl (lv_at hl 3 rfl) ?_
  refine va_get (D := D) (ci := 0) (v := .ref ph) (C := RX0) (T := TX0) (N := 8) hx hb hts inlX0 hown hK hP 0 rfl rfl 3 (by decide) (hts _ q108) (fun _ h => h) rfl dX0_writeFinishing_38 ?_
  refine va_get (D := D) (ci := 2) (v := .ref (pa 0)) (C := RX2) (T := TX2) (N := 5) hx hb hts inlX2 hown hK hP 7 rfl rfl 0 (by decide) (hts _ q631) (fun _ h => h) rfl dX0_writeFinishing_41 ?_
  refine lv_iload_n hx hb dX0_writeFinishing_44 rfl (lv_at hl 4 rfl) ?_
  refine lv_bipush (v := 6) hx hb dX0_writeFinishing_45 (by decide) ?_
  refine vz_Vi2 (ws' := fun u : Unit => vz_w [coW g h ca ci_12 cr_7 cf_8 (da 0) (da 2) ph, cdW g da dr_13 df_14, pgW g ph pa pr pf]) (As := [.int n1, .int 6]) (rest := [.ref h]) hx hb hml hown hts hK hA hP hD hS (c_T_get l D g (pa 0) (pa 1) H.size 12 80 (pr 0) 960 (pf 0) n1 6 ⟨rfl, by decide, by decide, by decide, by decide, hw_p 0⟩) kv_X0_63 ⟨by dsimp only; omega, by dsimp only; omega⟩ (q0 := 8) (ci := 6) rfl rfl rfl [8, 9] rfl (by decide) (fun _ => rfl) (fun _ => rfl) hl.1 (Nat.le_of_ble_eq_true rfl) dX0_writeFinishing_47 ⟨Nat.le_refl _, Nat.le_refl _⟩ rfl (fun v17 _ H locs he18 _ hP hD hS => ?_)
  refine lv_iload_n hx hb dX0_writeFinishing_50 rfl (lv_at hl 5 rfl) ?_
  refine lv_iconst (v := 1) hx hb dX0_writeFinishing_51 (by decide) ?_
  refine lv_iadd hx hb dX0_writeFinishing_52 ?_
  refine lv_topi (nm_r (e' := (nI (dn + 1))) (nI_1 dn) ?_)
  refine vz_Vv3 (As := [.int v17, .int (nI (dn + 1))]) (rest := []) hx hb hml hown hts hK hA hP hD hS (hB H.size h ca ci_12 cr_7 cf_8 da ph dr_13 df_14 pa pr pf v17 hw_9 hw_15 hw_p) kv_X0_67 ⟨by dsimp only; omega, by dsimp only; omega⟩ (q0 := 0) (ci := 0) rfl rfl rfl  hl.1 (Nat.le_of_ble_eq_true rfl) dX0_writeFinishing_53 ⟨Nat.le_refl _, Nat.le_refl _⟩ rfl (fun ⟨ci_19, cr_20, cf_21, dr_22, df_23⟩ H locs ⟨hw_24, hw_25⟩ _ hP hD hS => ?_)
  try dsimp only at hw_24 hw_25
  replace hP : va_P D vwCl (vz_w [coW g h ca ci_19 cr_20 cf_21 (da 0) (da 2) ph, cdW g da dr_22 df_23, pgW g ph pa pr pf]) H := hP
  replace hD : va_D A (vz_w [coW g h ca ci_19 cr_20 cf_21 (da 0) (da 2) ph, cdW g da dr_22 df_23, pgW g ph pa pr pf]) := hD
  refine lv_aload_n hx hb dX0_writeFinishing_56 rfl (lv_at hl 3 rfl) ?_
  refine lv_iload hx hb dX0_writeFinishing_57 (lv_at hl 0 rfl) ?_
  refine vz_Vv3 (As := [.int v10]) (rest := []) hx hb hml hown hts hK hA hP hD hS (a_C_popContext l D g H.size h ca ci_19 cr_20 cf_21 da ph dr_22 df_23 pa pr pf v10 hw_24 hw_25 hw_p) kv_X0_123 ⟨by dsimp only; omega, by dsimp only; omega⟩ (q0 := 0) (ci := 0) rfl rfl rfl  hl.1 (Nat.le_of_ble_eq_true rfl) dX0_writeFinishing_59 ⟨Nat.le_refl _, Nat.le_refl _⟩ rfl (fun ⟨ci_26, cr_27⟩ H locs hw_28 _ hP hD hS => ?_)
  try dsimp only at hw_28
  replace hP : va_P D vwCl (vz_w [coW g h ca ci_26 cr_27 cf_21 (da 0) (da 2) ph, cdW g da dr_22 df_23, pgW g ph pa pr pf]) H := hP
  replace hD : va_D A (vz_w [coW g h ca ci_26 cr_27 cf_21 (da 0) (da 2) ph, cdW g da dr_22 df_23, pgW g ph pa pr pf]) := hD
  refine lv_aload_n hx hb dX0_writeFinishing_62 rfl (lv_at hl 3 rfl) ?_
  refine lv_iload_n hx hb dX0_writeFinishing_63 rfl (lv_at hl 2 rfl) ?_
  refine va_put (D := D) (ci := 0) (v := .int (ci 2)) (ty := .int) (C := RX0) (T := TX0) (N := 8) hx hb hts inlX0 tyX0 tyX0_ok nmX0 hown hK hP hD hS 0 rfl rfl 6 (by decide) (hts _ q622) (fun _ h => h) rfl (by decide +kernel) rfl rfl (Nat.le_of_ble_eq_true rfl) dX0_writeFinishing_64 (fun H locs hP hD hS => ?_)
  obtain ⟨ci_29, hci_29, hP, hD⟩ : ∃ ci_29 : Nat → Int32, (ci_29 = (upd ci_26 2 (ci 2))) ∧ va_P D vwCl (vz_w [coW g h ca ci_29 cr_27 cf_21 (da 0) (da 2) ph, cdW g da dr_22 df_23, pgW g ph pa pr pf]) H ∧ va_D A (vz_w [coW g h ca ci_29 cr_27 cf_21 (da 0) (da 2) ph, cdW g da dr_22 df_23, pgW g ph pa pr pf]) := ⟨(upd ci_26 2 (ci 2)), rfl, hP, hD⟩
  refine lv_aload_n hx hb dX0_writeFinishing_67 rfl (lv_at hl 3 rfl) ?_
  refine va_get (D := D) (ci := 0) (v := .int (ci_29 0)) (C := RX0) (T := TX0) (N := 8) hx hb hts inlX0 hown hK hP 0 rfl rfl 4 (by decide) (hts _ q619) (fun _ h => h) rfl dX0_writeFinishing_68 ?_
  refine lv_if_eq (tgt := 89) hx hb dX0_writeFinishing_71 (by decide) (fun kc30 => ?_) (fun kc30 => ?_)
  · refine lv_aload_n hx hb dX0_writeFinishing_89 rfl (lv_at hl 3 rfl) ?_
    refine lv_bipush (v := 15) hx hb dX0_writeFinishing_90 (by decide) ?_
    refine lv_bipush (v := (-9)) hx hb dX0_writeFinishing_92 (by decide) ?_
    refine lv_iconst (v := 0) hx hb dX0_writeFinishing_94 (by decide) ?_
    refine vz_Vi3 (As := [.int 15, .int (-9), .int 0]) (rest := []) hx hb hml hown hts hK hA hP hD hS (a_C_emit l D g H.size h ca ci_29 cr_27 cf_21 da ph dr_22 df_23 pa pr pf 15 (-9) 0 hw_28 hw_25 hw_p) kv_X0_70 ⟨by dsimp only; omega, by dsimp only; omega⟩ (q0 := 0) (ci := 0) rfl rfl rfl  hl.1 (Nat.le_of_ble_eq_true rfl) dX0_writeFinishing_95 ⟨Nat.le_refl _, Nat.le_refl _⟩ rfl (fun v35 ⟨ci_31, dr_32, df_33⟩ H locs hw_34 _ hP hD hS => ?_)
    try dsimp only at hw_34
    replace hP : va_P D vwCl (vz_w [coW g h ca ci_31 cr_27 cf_21 (da 0) (da 2) ph, cdW g da dr_32 df_33, pgW g ph pa pr pf]) H := hP
    replace hD : va_D A (vz_w [coW g h ca ci_31 cr_27 cf_21 (da 0) (da 2) ph, cdW g da dr_32 df_33, pgW g ph pa pr pf]) := hD
    exact J98 (ci 2) v5 v10 v35 ci_31 cr_27 cf_21 dr_32 df_33 hw_28 hw_34 H locs ls hP hD hS (lv_sub hl [3, 4, 5, 2, 1, 0] rfl)
  · refine lv_aload_n hx hb dX0_writeFinishing_74 rfl (lv_at hl 3 rfl) ?_
    refine lv_bipush (v := 21) hx hb dX0_writeFinishing_75 (by decide) ?_
    refine lv_aload_n hx hb dX0_writeFinishing_77 rfl (lv_at hl 3 rfl) ?_
    refine lv_iload_n hx hb dX0_writeFinishing_78 rfl (lv_at hl 4 rfl) ?_
    refine vz_Vi3 (As := [.int n1]) (rest := [.int 21, .ref h]) hx hb hml hown hts hK hA hP hD hS (a_C_levelOf l D g H.size h ca ci_29 cr_27 cf_21 da ph dr_22 df_23 pa pr pf n1 hw_28 hw_25 hw_p) kv_X0_116 ⟨by dsimp only; omega, by dsimp only; omega⟩ (q0 := 0) (ci := 0) rfl rfl rfl  hl.1 (Nat.le_of_ble_eq_true rfl) dX0_writeFinishing_79 ⟨Nat.le_refl _, Nat.le_refl _⟩ rfl (fun v36 _ H locs _ _ hP hD hS => ?_)
    refine lv_iconst (v := 0) hx hb dX0_writeFinishing_82 (by decide) ?_
    refine vz_Vi3 (As := [.int 21, .int v36, .int 0]) (rest := []) hx hb hml hown hts hK hA hP hD hS (a_C_emit l D g H.size h ca ci_29 cr_27 cf_21 da ph dr_22 df_23 pa pr pf 21 v36 0 hw_28 hw_25 hw_p) kv_X0_70 ⟨by dsimp only; omega, by dsimp only; omega⟩ (q0 := 0) (ci := 0) rfl rfl rfl  hl.1 (Nat.le_of_ble_eq_true rfl) dX0_writeFinishing_83 ⟨Nat.le_refl _, Nat.le_refl _⟩ rfl (fun v41 ⟨ci_37, dr_38, df_39⟩ H locs hw_40 _ hP hD hS => ?_)
    try dsimp only at hw_40
    replace hP : va_P D vwCl (vz_w [coW g h ca ci_37 cr_27 cf_21 (da 0) (da 2) ph, cdW g da dr_38 df_39, pgW g ph pa pr pf]) H := hP
    replace hD : va_D A (vz_w [coW g h ca ci_37 cr_27 cf_21 (da 0) (da 2) ph, cdW g da dr_38 df_39, pgW g ph pa pr pf]) := hD
    refine lv_goto (tgt := 98) hx hb dX0_writeFinishing_86 (by decide) ?_
    exact J98 (ci 2) v5 v10 v41 ci_37 cr_27 cf_21 dr_38 df_39 hw_28 hw_40 H locs ls hP hD hS (lv_sub hl [3, 4, 5, 2, 1, 0] rfl)
theorem q654 : Cond.methodLink RX0 161 yX0_writeFinishing ∈ wsL_law := mT_4 (List.mem_of_getElem? (i := 125) rfl) rfl
theorem q655 : Cond.instanceMethod yX0_writeFinishing ∈ wsL_law := mT_4 (List.mem_of_getElem? (i := 127) rfl) rfl
theorem q656 : Cond.selects RX0 yX0_writeFinishing yX0_writeFinishing ∈ wsL_law := mS_4 (q := (yX0_writeFinishing, 8)) (List.mem_of_getElem? (i := 6) rfl) rfl
theorem q657 : Cond.code yX0_writeFinishing cX0_writeFinishing 7 none ∈ wsL_law := mT_4 (List.mem_of_getElem? (i := 128) rfl) rfl
theorem kv_X0_161 : vz_cv RX0 161 yX0_writeFinishing cX0_writeFinishing 7 none 2 := ⟨q654, q655, q656, q33, q657, by decide +kernel⟩
theorem dX0_writeFinish_0 : decode cX0_writeFinish 0 = .ok (.aload_n 0, 1) := by decide +kernel
theorem dX0_writeFinish_1 : decode cX0_writeFinish 1 = .ok (.getfield 27, 3) := by decide +kernel
theorem dX0_writeFinish_4 : decode cX0_writeFinish 4 = .ok (.iload_n 1, 1) := by decide +kernel
theorem dX0_writeFinish_5 : decode cX0_writeFinish 5 = .ok (.iconst 1, 1) := by decide +kernel
theorem dX0_writeFinish_6 : decode cX0_writeFinish 6 = .ok (.invokevirtual 63, 3) := by decide +kernel
theorem dX0_writeFinish_9 : decode cX0_writeFinish 9 = .ok (.istore_n 3, 1) := by decide +kernel
theorem dX0_writeFinish_10 : decode cX0_writeFinish 10 = .ok (.aload_n 0, 1) := by decide +kernel
theorem dX0_writeFinish_11 : decode cX0_writeFinish 11 = .ok (.getfield 57, 3) := by decide +kernel
theorem dX0_writeFinish_14 : decode cX0_writeFinish 14 = .ok (.istore 4, 2) := by decide +kernel
theorem dX0_writeFinish_16 : decode cX0_writeFinish 16 = .ok (.aload_n 0, 1) := by decide +kernel
theorem dX0_writeFinish_17 : decode cX0_writeFinish 17 = .ok (.getfield 60, 3) := by decide +kernel
theorem dX0_writeFinish_20 : decode cX0_writeFinish 20 = .ok (.istore 5, 2) := by decide +kernel
theorem dX0_writeFinish_22 : decode cX0_writeFinish 22 = .ok (.aload_n 0, 1) := by decide +kernel
theorem dX0_writeFinish_23 : decode cX0_writeFinish 23 = .ok (.aload_n 0, 1) := by decide +kernel
theorem dX0_writeFinish_24 : decode cX0_writeFinish 24 = .ok (.getfield 27, 3) := by decide +kernel
theorem dX0_writeFinish_27 : decode cX0_writeFinish 27 = .ok (.iload_n 1, 1) := by decide +kernel
theorem dX0_writeFinish_28 : decode cX0_writeFinish 28 = .ok (.iconst 3, 1) := by decide +kernel
theorem dX0_writeFinish_29 : decode cX0_writeFinish 29 = .ok (.invokevirtual 63, 3) := by decide +kernel
theorem dX0_writeFinish_32 : decode cX0_writeFinish 32 = .ok (.putfield 57, 3) := by decide +kernel
theorem dX0_writeFinish_35 : decode cX0_writeFinish 35 = .ok (.aload_n 0, 1) := by decide +kernel
theorem dX0_writeFinish_36 : decode cX0_writeFinish 36 = .ok (.aload_n 0, 1) := by decide +kernel
theorem dX0_writeFinish_37 : decode cX0_writeFinish 37 = .ok (.getfield 27, 3) := by decide +kernel
theorem dX0_writeFinish_40 : decode cX0_writeFinish 40 = .ok (.iload_n 1, 1) := by decide +kernel
theorem dX0_writeFinish_41 : decode cX0_writeFinish 41 = .ok (.iconst 2, 1) := by decide +kernel
theorem dX0_writeFinish_42 : decode cX0_writeFinish 42 = .ok (.invokevirtual 63, 3) := by decide +kernel
theorem dX0_writeFinish_45 : decode cX0_writeFinish 45 = .ok (.putfield 60, 3) := by decide +kernel
theorem dX0_writeFinish_48 : decode cX0_writeFinish 48 = .ok (.aload_n 0, 1) := by decide +kernel
theorem dX0_writeFinish_49 : decode cX0_writeFinish 49 = .ok (.bipush 30, 2) := by decide +kernel
theorem dX0_writeFinish_51 : decode cX0_writeFinish 51 = .ok (.aload_n 0, 1) := by decide +kernel
theorem dX0_writeFinish_52 : decode cX0_writeFinish 52 = .ok (.iload_n 3, 1) := by decide +kernel
theorem dX0_writeFinish_53 : decode cX0_writeFinish 53 = .ok (.invokevirtual 116, 3) := by decide +kernel
theorem dX0_writeFinish_56 : decode cX0_writeFinish 56 = .ok (.iconst 0, 1) := by decide +kernel
theorem dX0_writeFinish_57 : decode cX0_writeFinish 57 = .ok (.invokevirtual 70, 3) := by decide +kernel
theorem dX0_writeFinish_60 : decode cX0_writeFinish 60 = .ok (.pop, 1) := by decide +kernel
theorem dX0_writeFinish_61 : decode cX0_writeFinish 61 = .ok (.aload_n 0, 1) := by decide +kernel
theorem dX0_writeFinish_62 : decode cX0_writeFinish 62 = .ok (.getfield 38, 3) := by decide +kernel
theorem dX0_writeFinish_65 : decode cX0_writeFinish 65 = .ok (.ifCond .eq 39, 3) := by decide +kernel
theorem dX0_writeFinish_68 : decode cX0_writeFinish 68 = .ok (.aload_n 0, 1) := by decide +kernel
theorem dX0_writeFinish_69 : decode cX0_writeFinish 69 = .ok (.getfield 27, 3) := by decide +kernel
theorem dX0_writeFinish_72 : decode cX0_writeFinish 72 = .ok (.iload_n 1, 1) := by decide +kernel
theorem dX0_writeFinish_73 : decode cX0_writeFinish 73 = .ok (.iconst 4, 1) := by decide +kernel
theorem dX0_writeFinish_74 : decode cX0_writeFinish 74 = .ok (.invokevirtual 63, 3) := by decide +kernel
theorem dX0_writeFinish_77 : decode cX0_writeFinish 77 = .ok (.istore 6, 2) := by decide +kernel
theorem dX0_writeFinish_79 : decode cX0_writeFinish 79 = .ok (.aload_n 0, 1) := by decide +kernel
theorem dX0_writeFinish_80 : decode cX0_writeFinish 80 = .ok (.getfield 27, 3) := by decide +kernel
theorem dX0_writeFinish_83 : decode cX0_writeFinish 83 = .ok (.iload_n 1, 1) := by decide +kernel
theorem dX0_writeFinish_84 : decode cX0_writeFinish 84 = .ok (.iconst 4, 1) := by decide +kernel
theorem dX0_writeFinish_85 : decode cX0_writeFinish 85 = .ok (.aload_n 0, 1) := by decide +kernel
theorem dX0_writeFinish_86 : decode cX0_writeFinish 86 = .ok (.bipush 20, 2) := by decide +kernel
theorem dX0_writeFinish_88 : decode cX0_writeFinish 88 = .ok (.iload 6, 2) := by decide +kernel
theorem dX0_writeFinish_90 : decode cX0_writeFinish 90 = .ok (.aload_n 0, 1) := by decide +kernel
theorem dX0_writeFinish_91 : decode cX0_writeFinish 91 = .ok (.iload_n 3, 1) := by decide +kernel
theorem dX0_writeFinish_92 : decode cX0_writeFinish 92 = .ok (.invokevirtual 116, 3) := by decide +kernel
theorem dX0_writeFinish_95 : decode cX0_writeFinish 95 = .ok (.invokevirtual 70, 3) := by decide +kernel
theorem dX0_writeFinish_98 : decode cX0_writeFinish 98 = .ok (.invokevirtual 53, 3) := by decide +kernel
theorem dX0_writeFinish_101 : decode cX0_writeFinish 101 = .ok (.goto 9, 3) := by decide +kernel
theorem dX0_writeFinish_104 : decode cX0_writeFinish 104 = .ok (.aload_n 0, 1) := by decide +kernel
theorem dX0_writeFinish_105 : decode cX0_writeFinish 105 = .ok (.iload_n 3, 1) := by decide +kernel
theorem dX0_writeFinish_106 : decode cX0_writeFinish 106 = .ok (.iload_n 2, 1) := by decide +kernel
theorem dX0_writeFinish_107 : decode cX0_writeFinish 107 = .ok (.invokevirtual 161, 3) := by decide +kernel
theorem dX0_writeFinish_110 : decode cX0_writeFinish 110 = .ok (.aload_n 0, 1) := by decide +kernel
theorem dX0_writeFinish_111 : decode cX0_writeFinish 111 = .ok (.iload 4, 2) := by decide +kernel
theorem dX0_writeFinish_113 : decode cX0_writeFinish 113 = .ok (.putfield 57, 3) := by decide +kernel
theorem dX0_writeFinish_116 : decode cX0_writeFinish 116 = .ok (.aload_n 0, 1) := by decide +kernel
theorem dX0_writeFinish_117 : decode cX0_writeFinish 117 = .ok (.iload 5, 2) := by decide +kernel
theorem dX0_writeFinish_119 : decode cX0_writeFinish 119 = .ok (.putfield 60, 3) := by decide +kernel
theorem dX0_writeFinish_122 : decode cX0_writeFinish 122 = .ok (.return_, 1) := by decide +kernel
set_option maxHeartbeats 8000000 in
set_option maxRecDepth 100000 in
theorem a_C_writeFinish (l : Launch) (D : va_G) (g : Nat → ClassId) (dn : Nat) (hdn : dn ≤ 16) (hB : ∀ (sz : Nat) (h : Nat) (ca : Nat → Nat) (ci : Nat → Int32) (cr : Nat → Nat) (cf : Nat → Nat → Int32) (da : Nat → Nat) (ph : Nat) (dr : Nat → Nat) (df : Nat → Nat → Int32) (pa : Nat → Nat) (pr : Nat → Nat) (pf : Nat → Nat → Int32) (n1 : Int32) (hw_c : ∀ k, cr k ≤ coW_lim k) (hw_d : ∀ k, dr k ≤ cdW_lim k) (hw_p : ∀ k, pr k ≤ pgW_lim k), vz_Mv l D (tyG g) yX0_writeBlock cX0_writeBlock 5 (7 * (17 - (dn + 1)) + 110) (203 * (17 - (dn + 1)) + 4000) 0 0 [.ref h, .int n1, .int (nI (dn + 1))] sz (vz_w [coW g h ca ci cr cf (da 0) (da 2) ph, cdW g da dr df, pgW g ph pa pr pf]) (fun u : (Nat → Int32) × (Nat → Nat) × (Nat → Nat → Int32) × (Nat → Nat) × (Nat → Nat → Int32) => (∀ k, u.2.1 k ≤ coW_lim k) ∧ (∀ k, u.2.2.2.1 k ≤ cdW_lim k)) (fun u => vz_w [coW g h ca u.1 u.2.1 u.2.2.1 (da 0) (da 2) ph, cdW g da u.2.2.2.1 u.2.2.2.2, pgW g ph pa pr pf])) (sz : Nat) (h : Nat) (ca : Nat → Nat) (ci : Nat → Int32) (cr : Nat → Nat) (cf : Nat → Nat → Int32) (da : Nat → Nat) (ph : Nat) (dr : Nat → Nat) (df : Nat → Nat → Int32) (pa : Nat → Nat) (pr : Nat → Nat) (pf : Nat → Nat → Int32) (n1 : Int32) (hw_c : ∀ k, cr k ≤ coW_lim k) (hw_d : ∀ k, dr k ≤ cdW_lim k) (hw_p : ∀ k, pr k ≤ pgW_lim k) : vz_Mv l D (tyG g) yX0_writeFinish cX0_writeFinish 7 (7 * (16 - dn) + 112) (203 * (16 - dn) + 4058) 0 0 [.ref h, .int n1, .int (nI dn)] sz (vz_w [coW g h ca ci cr cf (da 0) (da 2) ph, cdW g da dr df, pgW g ph pa pr pf]) (fun u : (Nat → Int32) × (Nat → Nat) × (Nat → Nat → Int32) × (Nat → Nat) × (Nat → Nat → Int32) => (∀ k, u.2.1 k ≤ coW_lim k) ∧ (∀ k, u.2.2.2.1 k ≤ cdW_lim k)) (fun u => vz_w [coW g h ca u.1 u.2.1 u.2.2.1 (da 0) (da 2) ph, cdW g da u.2.2.2.1 u.2.2.2.2, pgW g ph pa pr pf]) := by
  refine vz_svQ (by decide) (Nat.le_of_ble_eq_true rfl) (fun p e s m args below meth c hx hb hr hml hts hown hlk hin hK hsz A hA H locs hP hD hS ls hl Q hQ => ?_)
  have hl : lv_has ls 7 [(0, .ref h), (1, .int n1), (2, .int (nI dn))] := hl
  have J110 : ∀ (x3_110 : Int32), ∀ (x4_110 : Int32), ∀ (x5_110 : Int32), ∀ (ci_110 : Nat → Int32), ∀ (cr_110 : Nat → Nat), ∀ (cf_110 : Nat → Nat → Int32), ∀ (dr_110 : Nat → Nat), ∀ (df_110 : Nat → Nat → Int32), (∀ k, cr_110 k ≤ coW_lim k) → (∀ k, dr_110 k ≤ cdW_lim k) → ∀ (H : Heap) (locs : List Loc) (ls : Array Slot), va_P D vwCl (vz_w [coW g h ca ci_110 cr_110 cf_110 (da 0) (da 2) ph, cdW g da dr_110 df_110, pgW g ph pa pr pf]) H → va_D A (vz_w [coW g h ca ci_110 cr_110 cf_110 (da 0) (da 2) ph, cdW g da dr_110 df_110, pgW g ph pa pr pf]) → va_S A s.heap H locs → lv_has ls 7 [(0, .ref h), (1, .int n1), (2, .int (nI dn)), (3, .int x3_110), (4, .int x4_110), (5, .int x5_110)] → W p l e { frames := (7 * (16 - dn) + 112), cells := 0, slots := 0, locals := (203 * (16 - dn) + 4058) } s m args below meth c H locs 0 0 Q (F0 m 110 ls []) := by
    intro x3_110 x4_110 x5_110 ci_110 cr_110 cf_110 dr_110 df_110 hw_c_110 hw_d_110 H locs ls hP hD hS hl
    refine lv_aload_n hx hb dX0_writeFinish_110 rfl (lv_at hl 0 rfl) ?_
    refine lv_iload hx hb dX0_writeFinish_111 (lv_at hl 4 rfl) ?_
    refine va_put (D := D) (ci := 0) (v := .int x4_110) (ty := .int) (C := RX0) (T := TX0) (N := 8) hx hb hts inlX0 tyX0 tyX0_ok nmX0 hown hK hP hD hS 0 rfl rfl 6 (by decide) (hts _ q622) (fun _ h => h) rfl (by decide +kernel) rfl rfl (Nat.le_of_ble_eq_true rfl) dX0_writeFinish_113 (fun H locs hP hD hS => ?_)
    obtain ⟨ci_1, hci_1, hP, hD⟩ : ∃ ci_1 : Nat → Int32, (ci_1 = (upd ci_110 2 x4_110)) ∧ va_P D vwCl (vz_w [coW g h ca ci_1 cr_110 cf_110 (da 0) (da 2) ph, cdW g da dr_110 df_110, pgW g ph pa pr pf]) H ∧ va_D A (vz_w [coW g h ca ci_1 cr_110 cf_110 (da 0) (da 2) ph, cdW g da dr_110 df_110, pgW g ph pa pr pf]) := ⟨(upd ci_110 2 x4_110), rfl, hP, hD⟩
    refine lv_aload_n hx hb dX0_writeFinish_116 rfl (lv_at hl 0 rfl) ?_
    refine lv_iload hx hb dX0_writeFinish_117 (lv_at hl 5 rfl) ?_
    refine va_put (D := D) (ci := 0) (v := .int x5_110) (ty := .int) (C := RX0) (T := TX0) (N := 8) hx hb hts inlX0 tyX0 tyX0_ok nmX0 hown hK hP hD hS 0 rfl rfl 7 (by decide) (hts _ q623) (fun _ h => h) rfl (by decide +kernel) rfl rfl (Nat.le_of_ble_eq_true rfl) dX0_writeFinish_119 (fun H locs hP hD hS => ?_)
    obtain ⟨ci_2, hci_2, hP, hD⟩ : ∃ ci_2 : Nat → Int32, (ci_2 = (upd ci_1 3 x5_110)) ∧ va_P D vwCl (vz_w [coW g h ca ci_2 cr_110 cf_110 (da 0) (da 2) ph, cdW g da dr_110 df_110, pgW g ph pa pr pf]) H ∧ va_D A (vz_w [coW g h ca ci_2 cr_110 cf_110 (da 0) (da 2) ph, cdW g da dr_110 df_110, pgW g ph pa pr pf]) := ⟨(upd ci_1 3 x5_110), rfl, hP, hD⟩
    rw [hQ]
    exact vz_vret3 hx hb hr hlk hK hP hD hS (ci_2, cr_110, cf_110, dr_110, df_110) (⟨hw_c_110, hw_d_110⟩) rfl (Nat.le_refl 0) (Nat.le_refl 0) dX0_writeFinish_122
  refine lv_aload_n hx hb dX0_writeFinish_0 rfl (lv_at hl 0 rfl) ?_
  refine va_get (D := D) (ci := 0) (v := .ref (ca 0)) (C := RX0) (T := TX0) (N := 8) hx hb hts inlX0 hown hK hP 0 rfl rfl 2 (by decide) (hts _ q112) (fun _ h => h) rfl dX0_writeFinish_1 ?_
  refine lv_iload_n hx hb dX0_writeFinish_4 rfl (lv_at hl 1 rfl) ?_
  refine lv_iconst (v := 1) hx hb dX0_writeFinish_5 (by decide) ?_
  refine vz_Vi2 (ws' := fun u : Unit => vz_w [coW g h ca ci cr cf (da 0) (da 2) ph, cdW g da dr df, pgW g ph pa pr pf]) (As := [.int n1, .int 1]) (rest := []) hx hb hml hown hts hK hA hP hD hS (c_T_get l D g (ca 0) (ca 1) H.size 6 64 (cr 0) 384 (cf 0) n1 1 ⟨rfl, by decide, by decide, by decide, by decide, hw_c 0⟩) kv_X0_63 ⟨by dsimp only; omega, by dsimp only; omega⟩ (q0 := 1) (ci := 6) rfl rfl rfl [1, 2] rfl (by decide) (fun _ => rfl) (fun _ => rfl) hl.1 (Nat.le_of_ble_eq_true rfl) dX0_writeFinish_6 ⟨Nat.le_refl _, Nat.le_refl _⟩ rfl (fun v1 _ H locs he2 _ hP hD hS => ?_)
  refine lv_istore_n (lv' := [(3, .int v1), (0, .ref h), (1, .int n1), (2, .int (nI dn))]) hx hb dX0_writeFinish_9 rfl hl (by decide) rfl (fun ls hl => ?_)
  refine lv_aload_n hx hb dX0_writeFinish_10 rfl (lv_at hl 1 rfl) ?_
  refine va_get (D := D) (ci := 0) (v := .int (ci 2)) (C := RX0) (T := TX0) (N := 8) hx hb hts inlX0 hown hK hP 0 rfl rfl 6 (by decide) (hts _ q622) (fun _ h => h) rfl dX0_writeFinish_11 ?_
  refine lv_istore (lv' := [(4, .int (ci 2)), (3, .int v1), (0, .ref h), (1, .int n1), (2, .int (nI dn))]) hx hb dX0_writeFinish_14 hl (by decide) rfl (fun ls hl => ?_)
  refine lv_aload_n hx hb dX0_writeFinish_16 rfl (lv_at hl 2 rfl) ?_
  refine va_get (D := D) (ci := 0) (v := .int (ci 3)) (C := RX0) (T := TX0) (N := 8) hx hb hts inlX0 hown hK hP 0 rfl rfl 7 (by decide) (hts _ q623) (fun _ h => h) rfl dX0_writeFinish_17 ?_
  refine lv_istore (lv' := [(5, .int (ci 3)), (4, .int (ci 2)), (3, .int v1), (0, .ref h), (1, .int n1), (2, .int (nI dn))]) hx hb dX0_writeFinish_20 hl (by decide) rfl (fun ls hl => ?_)
  refine lv_aload_n hx hb dX0_writeFinish_22 rfl (lv_at hl 3 rfl) ?_
  refine lv_aload_n hx hb dX0_writeFinish_23 rfl (lv_at hl 3 rfl) ?_
  refine va_get (D := D) (ci := 0) (v := .ref (ca 0)) (C := RX0) (T := TX0) (N := 8) hx hb hts inlX0 hown hK hP 0 rfl rfl 2 (by decide) (hts _ q112) (fun _ h => h) rfl dX0_writeFinish_24 ?_
  refine lv_iload_n hx hb dX0_writeFinish_27 rfl (lv_at hl 4 rfl) ?_
  refine lv_iconst (v := 3) hx hb dX0_writeFinish_28 (by decide) ?_
  refine vz_Vi2 (ws' := fun u : Unit => vz_w [coW g h ca ci cr cf (da 0) (da 2) ph, cdW g da dr df, pgW g ph pa pr pf]) (As := [.int n1, .int 3]) (rest := [.ref h]) hx hb hml hown hts hK hA hP hD hS (c_T_get l D g (ca 0) (ca 1) H.size 6 64 (cr 0) 384 (cf 0) n1 3 ⟨rfl, by decide, by decide, by decide, by decide, hw_c 0⟩) kv_X0_63 ⟨by dsimp only; omega, by dsimp only; omega⟩ (q0 := 1) (ci := 6) rfl rfl rfl [1, 2] rfl (by decide) (fun _ => rfl) (fun _ => rfl) hl.1 (Nat.le_of_ble_eq_true rfl) dX0_writeFinish_29 ⟨Nat.le_refl _, Nat.le_refl _⟩ rfl (fun v3 _ H locs he4 _ hP hD hS => ?_)
  refine va_put (D := D) (ci := 0) (v := .int v3) (ty := .int) (C := RX0) (T := TX0) (N := 8) hx hb hts inlX0 tyX0 tyX0_ok nmX0 hown hK hP hD hS 0 rfl rfl 6 (by decide) (hts _ q622) (fun _ h => h) rfl (by decide +kernel) rfl rfl (Nat.le_of_ble_eq_true rfl) dX0_writeFinish_32 (fun H locs hP hD hS => ?_)
  obtain ⟨ci_5, hci_5, hP, hD⟩ : ∃ ci_5 : Nat → Int32, (ci_5 = (upd ci 2 v3)) ∧ va_P D vwCl (vz_w [coW g h ca ci_5 cr cf (da 0) (da 2) ph, cdW g da dr df, pgW g ph pa pr pf]) H ∧ va_D A (vz_w [coW g h ca ci_5 cr cf (da 0) (da 2) ph, cdW g da dr df, pgW g ph pa pr pf]) := ⟨(upd ci 2 v3), rfl, hP, hD⟩
  refine lv_aload_n hx hb dX0_writeFinish_35 rfl (lv_at hl 3 rfl) ?_
  refine lv_aload_n hx hb dX0_writeFinish_36 rfl (lv_at hl 3 rfl) ?_
  refine va_get (D := D) (ci := 0) (v := .ref (ca 0)) (C := RX0) (T := TX0) (N := 8) hx hb hts inlX0 hown hK hP 0 rfl rfl 2 (by decide) (hts _ q112) (fun _ h => h) rfl dX0_writeFinish_37 ?_
  refine lv_iload_n hx hb dX0_writeFinish_40 rfl (lv_at hl 4 rfl) ?_
  refine lv_iconst (v := 2) hx hb dX0_writeFinish_41 (by decide) ?_
  refine vz_Vi2 (ws' := fun u : Unit => vz_w [coW g h ca ci_5 cr cf (da 0) (da 2) ph, cdW g da dr df, pgW g ph pa pr pf]) (As := [.int n1, .int 2]) (rest := [.ref h]) hx hb hml hown hts hK hA hP hD hS (c_T_get l D g (ca 0) (ca 1) H.size 6 64 (cr 0) 384 (cf 0) n1 2 ⟨rfl, by decide, by decide, by decide, by decide, hw_c 0⟩) kv_X0_63 ⟨by dsimp only; omega, by dsimp only; omega⟩ (q0 := 1) (ci := 6) rfl rfl rfl [1, 2] rfl (by decide) (fun _ => rfl) (fun _ => rfl) hl.1 (Nat.le_of_ble_eq_true rfl) dX0_writeFinish_42 ⟨Nat.le_refl _, Nat.le_refl _⟩ rfl (fun v6 _ H locs he7 _ hP hD hS => ?_)
  refine va_put (D := D) (ci := 0) (v := .int v6) (ty := .int) (C := RX0) (T := TX0) (N := 8) hx hb hts inlX0 tyX0 tyX0_ok nmX0 hown hK hP hD hS 0 rfl rfl 7 (by decide) (hts _ q623) (fun _ h => h) rfl (by decide +kernel) rfl rfl (Nat.le_of_ble_eq_true rfl) dX0_writeFinish_45 (fun H locs hP hD hS => ?_)
  obtain ⟨ci_8, hci_8, hP, hD⟩ : ∃ ci_8 : Nat → Int32, (ci_8 = (upd ci_5 3 v6)) ∧ va_P D vwCl (vz_w [coW g h ca ci_8 cr cf (da 0) (da 2) ph, cdW g da dr df, pgW g ph pa pr pf]) H ∧ va_D A (vz_w [coW g h ca ci_8 cr cf (da 0) (da 2) ph, cdW g da dr df, pgW g ph pa pr pf]) := ⟨(upd ci_5 3 v6), rfl, hP, hD⟩
  refine lv_aload_n hx hb dX0_writeFinish_48 rfl (lv_at hl 3 rfl) ?_
  refine lv_bipush (v := 30) hx hb dX0_writeFinish_49 (by decide) ?_
  refine lv_aload_n hx hb dX0_writeFinish_51 rfl (lv_at hl 3 rfl) ?_
  refine lv_iload_n hx hb dX0_writeFinish_52 rfl (lv_at hl 2 rfl) ?_
  refine vz_Vi3 (As := [.int v1]) (rest := [.int 30, .ref h]) hx hb hml hown hts hK hA hP hD hS (a_C_levelOf l D g H.size h ca ci_8 cr cf da ph dr df pa pr pf v1 hw_c hw_d hw_p) kv_X0_116 ⟨by dsimp only; omega, by dsimp only; omega⟩ (q0 := 0) (ci := 0) rfl rfl rfl  hl.1 (Nat.le_of_ble_eq_true rfl) dX0_writeFinish_53 ⟨Nat.le_refl _, Nat.le_refl _⟩ rfl (fun v9 _ H locs _ _ hP hD hS => ?_)
  refine lv_iconst (v := 0) hx hb dX0_writeFinish_56 (by decide) ?_
  refine vz_Vi3 (As := [.int 30, .int v9, .int 0]) (rest := []) hx hb hml hown hts hK hA hP hD hS (a_C_emit l D g H.size h ca ci_8 cr cf da ph dr df pa pr pf 30 v9 0 hw_c hw_d hw_p) kv_X0_70 ⟨by dsimp only; omega, by dsimp only; omega⟩ (q0 := 0) (ci := 0) rfl rfl rfl  hl.1 (Nat.le_of_ble_eq_true rfl) dX0_writeFinish_57 ⟨Nat.le_refl _, Nat.le_refl _⟩ rfl (fun v14 ⟨ci_10, dr_11, df_12⟩ H locs hw_13 _ hP hD hS => ?_)
  try dsimp only at hw_13
  replace hP : va_P D vwCl (vz_w [coW g h ca ci_10 cr cf (da 0) (da 2) ph, cdW g da dr_11 df_12, pgW g ph pa pr pf]) H := hP
  replace hD : va_D A (vz_w [coW g h ca ci_10 cr cf (da 0) (da 2) ph, cdW g da dr_11 df_12, pgW g ph pa pr pf]) := hD
  refine lv_pop hx hb dX0_writeFinish_60 rfl ?_
  refine lv_aload_n hx hb dX0_writeFinish_61 rfl (lv_at hl 3 rfl) ?_
  refine va_get (D := D) (ci := 0) (v := .int (ci_10 0)) (C := RX0) (T := TX0) (N := 8) hx hb hts inlX0 hown hK hP 0 rfl rfl 4 (by decide) (hts _ q619) (fun _ h => h) rfl dX0_writeFinish_62 ?_
  refine lv_if_eq (tgt := 104) hx hb dX0_writeFinish_65 (by decide) (fun kc15 => ?_) (fun kc15 => ?_)
  · refine lv_aload_n hx hb dX0_writeFinish_104 rfl (lv_at hl 3 rfl) ?_
    refine lv_iload_n hx hb dX0_writeFinish_105 rfl (lv_at hl 2 rfl) ?_
    refine lv_iload_n hx hb dX0_writeFinish_106 rfl (lv_at hl 5 rfl) ?_
    refine vz_Vv3 (As := [.int v1, .int (nI dn)]) (rest := []) hx hb hml hown hts hK hA hP hD hS (a_C_writeFinishing l D g dn hdn hB H.size h ca ci_10 cr cf da ph dr_11 df_12 pa pr pf v1 hw_c hw_13 hw_p) kv_X0_161 ⟨by dsimp only; omega, by dsimp only; omega⟩ (q0 := 0) (ci := 0) rfl rfl rfl  hl.1 (Nat.le_of_ble_eq_true rfl) dX0_writeFinish_107 ⟨Nat.le_refl _, Nat.le_refl _⟩ rfl (fun ⟨ci_16, cr_17, cf_18, dr_19, df_20⟩ H locs ⟨hw_21, hw_22⟩ _ hP hD hS => ?_)
    try dsimp only at hw_21 hw_22
    replace hP : va_P D vwCl (vz_w [coW g h ca ci_16 cr_17 cf_18 (da 0) (da 2) ph, cdW g da dr_19 df_20, pgW g ph pa pr pf]) H := hP
    replace hD : va_D A (vz_w [coW g h ca ci_16 cr_17 cf_18 (da 0) (da 2) ph, cdW g da dr_19 df_20, pgW g ph pa pr pf]) := hD
    exact J110 v1 (ci 2) (ci 3) ci_16 cr_17 cf_18 dr_19 df_20 hw_21 hw_22 H locs ls hP hD hS (lv_sub hl [3, 4, 5, 2, 1, 0] rfl)
  · refine lv_aload_n hx hb dX0_writeFinish_68 rfl (lv_at hl 3 rfl) ?_
    refine va_get (D := D) (ci := 0) (v := .ref (ca 0)) (C := RX0) (T := TX0) (N := 8) hx hb hts inlX0 hown hK hP 0 rfl rfl 2 (by decide) (hts _ q112) (fun _ h => h) rfl dX0_writeFinish_69 ?_
    refine lv_iload_n hx hb dX0_writeFinish_72 rfl (lv_at hl 4 rfl) ?_
    refine lv_iconst (v := 4) hx hb dX0_writeFinish_73 (by decide) ?_
    refine vz_Vi2 (ws' := fun u : Unit => vz_w [coW g h ca ci_10 cr cf (da 0) (da 2) ph, cdW g da dr_11 df_12, pgW g ph pa pr pf]) (As := [.int n1, .int 4]) (rest := []) hx hb hml hown hts hK hA hP hD hS (c_T_get l D g (ca 0) (ca 1) H.size 6 64 (cr 0) 384 (cf 0) n1 4 ⟨rfl, by decide, by decide, by decide, by decide, hw_c 0⟩) kv_X0_63 ⟨by dsimp only; omega, by dsimp only; omega⟩ (q0 := 1) (ci := 6) rfl rfl rfl [1, 2] rfl (by decide) (fun _ => rfl) (fun _ => rfl) hl.1 (Nat.le_of_ble_eq_true rfl) dX0_writeFinish_74 ⟨Nat.le_refl _, Nat.le_refl _⟩ rfl (fun v23 _ H locs he24 _ hP hD hS => ?_)
    refine lv_istore (lv' := [(6, .int v23), (5, .int (ci 3)), (4, .int (ci 2)), (3, .int v1), (0, .ref h), (1, .int n1), (2, .int (nI dn))]) hx hb dX0_writeFinish_77 hl (by decide) rfl (fun ls hl => ?_)
    refine lv_aload_n hx hb dX0_writeFinish_79 rfl (lv_at hl 4 rfl) ?_
    refine va_get (D := D) (ci := 0) (v := .ref (ca 0)) (C := RX0) (T := TX0) (N := 8) hx hb hts inlX0 hown hK hP 0 rfl rfl 2 (by decide) (hts _ q112) (fun _ h => h) rfl dX0_writeFinish_80 ?_
    refine lv_iload_n hx hb dX0_writeFinish_83 rfl (lv_at hl 5 rfl) ?_
    refine lv_iconst (v := 4) hx hb dX0_writeFinish_84 (by decide) ?_
    refine lv_aload_n hx hb dX0_writeFinish_85 rfl (lv_at hl 4 rfl) ?_
    refine lv_bipush (v := 20) hx hb dX0_writeFinish_86 (by decide) ?_
    refine lv_iload hx hb dX0_writeFinish_88 (lv_at hl 0 rfl) ?_
    refine lv_aload_n hx hb dX0_writeFinish_90 rfl (lv_at hl 4 rfl) ?_
    refine lv_iload_n hx hb dX0_writeFinish_91 rfl (lv_at hl 3 rfl) ?_
    refine vz_Vi3 (As := [.int v1]) (rest := [.int v23, .int 20, .ref h, .int 4, .int n1, .ref (ca 0)]) hx hb hml hown hts hK hA hP hD hS (a_C_levelOf l D g H.size h ca ci_10 cr cf da ph dr_11 df_12 pa pr pf v1 hw_c hw_13 hw_p) kv_X0_116 ⟨by dsimp only; omega, by dsimp only; omega⟩ (q0 := 0) (ci := 0) rfl rfl rfl  hl.1 (Nat.le_of_ble_eq_true rfl) dX0_writeFinish_92 ⟨Nat.le_refl _, Nat.le_refl _⟩ rfl (fun v25 _ H locs _ _ hP hD hS => ?_)
    refine vz_Vi3 (As := [.int 20, .int v23, .int v25]) (rest := [.int 4, .int n1, .ref (ca 0)]) hx hb hml hown hts hK hA hP hD hS (a_C_emit l D g H.size h ca ci_10 cr cf da ph dr_11 df_12 pa pr pf 20 v23 v25 hw_c hw_13 hw_p) kv_X0_70 ⟨by dsimp only; omega, by dsimp only; omega⟩ (q0 := 0) (ci := 0) rfl rfl rfl  hl.1 (Nat.le_of_ble_eq_true rfl) dX0_writeFinish_95 ⟨Nat.le_refl _, Nat.le_refl _⟩ rfl (fun v30 ⟨ci_26, dr_27, df_28⟩ H locs hw_29 _ hP hD hS => ?_)
    try dsimp only at hw_29
    replace hP : va_P D vwCl (vz_w [coW g h ca ci_26 cr cf (da 0) (da 2) ph, cdW g da dr_27 df_28, pgW g ph pa pr pf]) H := hP
    replace hD : va_D A (vz_w [coW g h ca ci_26 cr cf (da 0) (da 2) ph, cdW g da dr_27 df_28, pgW g ph pa pr pf]) := hD
    refine vz_Vv2 (ws' := fun u : (Nat → Int32) => vz_w [coW g h ca ci_26 cr (vz_uf cf 0 u) (da 0) (da 2) ph, cdW g da dr_27 df_28, pgW g ph pa pr pf]) (As := [.int n1, .int 4, .int v30]) (rest := []) hx hb hml hown hts hK hA hP hD hS (c_T_set l D g (ca 0) (ca 1) H.size 6 64 (cr 0) 384 (cf 0) n1 4 v30 ⟨rfl, by decide, by decide, by decide, by decide, hw_c 0⟩) kv_X0_53 ⟨by dsimp only; omega, by dsimp only; omega⟩ (q0 := 1) (ci := 6) rfl rfl rfl [1, 2] rfl (by decide) (fun _ => rfl) (fun _ => rfl) hl.1 (Nat.le_of_ble_eq_true rfl) dX0_writeFinish_98 ⟨Nat.le_refl _, Nat.le_refl _⟩ rfl (fun nf31 H locs _ _ hP hD hS => ?_)
    obtain ⟨cf_32, hP, hD⟩ : ∃ cf_32 : Nat → Nat → Int32, va_P D vwCl (vz_w [coW g h ca ci_26 cr cf_32 (da 0) (da 2) ph, cdW g da dr_27 df_28, pgW g ph pa pr pf]) H ∧ va_D A (vz_w [coW g h ca ci_26 cr cf_32 (da 0) (da 2) ph, cdW g da dr_27 df_28, pgW g ph pa pr pf]) := ⟨(vz_uf cf 0 nf31), hP, hD⟩
    refine lv_goto (tgt := 110) hx hb dX0_writeFinish_101 (by decide) ?_
    exact J110 v1 (ci 2) (ci 3) ci_26 cr cf_32 dr_27 df_28 hw_c hw_29 H locs ls hP hD hS (lv_sub hl [4, 5, 6, 3, 2, 1] rfl)
theorem q650 : Cond.methodLink RX0 136 yX0_writeFinish ∈ wsL_law := mT_4 (List.mem_of_getElem? (i := 121) rfl) rfl
theorem q651 : Cond.instanceMethod yX0_writeFinish ∈ wsL_law := mT_4 (List.mem_of_getElem? (i := 123) rfl) rfl
theorem q652 : Cond.selects RX0 yX0_writeFinish yX0_writeFinish ∈ wsL_law := mS_4 (q := (yX0_writeFinish, 8)) (List.mem_of_getElem? (i := 5) rfl) rfl
theorem q653 : Cond.code yX0_writeFinish cX0_writeFinish 7 none ∈ wsL_law := mT_4 (List.mem_of_getElem? (i := 124) rfl) rfl
theorem kv_X0_136 : vz_cv RX0 136 yX0_writeFinish cX0_writeFinish 7 none 2 := ⟨q650, q651, q652, q33, q653, by decide +kernel⟩
theorem dX0_writePassing_0 : decode cX0_writePassing 0 = .ok (.iload_n 3, 1) := by decide +kernel
theorem dX0_writePassing_1 : decode cX0_writePassing 1 = .ok (.ifCond .eq 12, 3) := by decide +kernel
theorem dX0_writePassing_4 : decode cX0_writePassing 4 = .ok (.aload_n 0, 1) := by decide +kernel
theorem dX0_writePassing_5 : decode cX0_writePassing 5 = .ok (.bipush 22, 2) := by decide +kernel
theorem dX0_writePassing_7 : decode cX0_writePassing 7 = .ok (.iload_n 2, 1) := by decide +kernel
theorem dX0_writePassing_8 : decode cX0_writePassing 8 = .ok (.iconst 0, 1) := by decide +kernel
theorem dX0_writePassing_9 : decode cX0_writePassing 9 = .ok (.invokevirtual 70, 3) := by decide +kernel
theorem dX0_writePassing_12 : decode cX0_writePassing 12 = .ok (.pop, 1) := by decide +kernel
theorem dX0_writePassing_13 : decode cX0_writePassing 13 = .ok (.aload_n 0, 1) := by decide +kernel
theorem dX0_writePassing_14 : decode cX0_writePassing 14 = .ok (.iload_n 1, 1) := by decide +kernel
theorem dX0_writePassing_15 : decode cX0_writePassing 15 = .ok (.iload 4, 2) := by decide +kernel
theorem dX0_writePassing_17 : decode cX0_writePassing 17 = .ok (.invokevirtual 136, 3) := by decide +kernel
theorem dX0_writePassing_20 : decode cX0_writePassing 20 = .ok (.iload_n 3, 1) := by decide +kernel
theorem dX0_writePassing_21 : decode cX0_writePassing 21 = .ok (.ifCond .eq 12, 3) := by decide +kernel
theorem dX0_writePassing_24 : decode cX0_writePassing 24 = .ok (.aload_n 0, 1) := by decide +kernel
theorem dX0_writePassing_25 : decode cX0_writePassing 25 = .ok (.bipush 23, 2) := by decide +kernel
theorem dX0_writePassing_27 : decode cX0_writePassing 27 = .ok (.iload_n 2, 1) := by decide +kernel
theorem dX0_writePassing_28 : decode cX0_writePassing 28 = .ok (.iconst 0, 1) := by decide +kernel
theorem dX0_writePassing_29 : decode cX0_writePassing 29 = .ok (.invokevirtual 70, 3) := by decide +kernel
theorem dX0_writePassing_32 : decode cX0_writePassing 32 = .ok (.pop, 1) := by decide +kernel
theorem dX0_writePassing_33 : decode cX0_writePassing 33 = .ok (.return_, 1) := by decide +kernel
set_option maxHeartbeats 8000000 in
set_option maxRecDepth 100000 in
theorem a_C_writePassing (l : Launch) (D : va_G) (g : Nat → ClassId) (dn : Nat) (hdn : dn ≤ 16) (hB : ∀ (sz : Nat) (h : Nat) (ca : Nat → Nat) (ci : Nat → Int32) (cr : Nat → Nat) (cf : Nat → Nat → Int32) (da : Nat → Nat) (ph : Nat) (dr : Nat → Nat) (df : Nat → Nat → Int32) (pa : Nat → Nat) (pr : Nat → Nat) (pf : Nat → Nat → Int32) (n1 : Int32) (hw_c : ∀ k, cr k ≤ coW_lim k) (hw_d : ∀ k, dr k ≤ cdW_lim k) (hw_p : ∀ k, pr k ≤ pgW_lim k), vz_Mv l D (tyG g) yX0_writeBlock cX0_writeBlock 5 (7 * (17 - (dn + 1)) + 110) (203 * (17 - (dn + 1)) + 4000) 0 0 [.ref h, .int n1, .int (nI (dn + 1))] sz (vz_w [coW g h ca ci cr cf (da 0) (da 2) ph, cdW g da dr df, pgW g ph pa pr pf]) (fun u : (Nat → Int32) × (Nat → Nat) × (Nat → Nat → Int32) × (Nat → Nat) × (Nat → Nat → Int32) => (∀ k, u.2.1 k ≤ coW_lim k) ∧ (∀ k, u.2.2.2.1 k ≤ cdW_lim k)) (fun u => vz_w [coW g h ca u.1 u.2.1 u.2.2.1 (da 0) (da 2) ph, cdW g da u.2.2.2.1 u.2.2.2.2, pgW g ph pa pr pf])) (sz : Nat) (h : Nat) (ca : Nat → Nat) (ci : Nat → Int32) (cr : Nat → Nat) (cf : Nat → Nat → Int32) (da : Nat → Nat) (ph : Nat) (dr : Nat → Nat) (df : Nat → Nat → Int32) (pa : Nat → Nat) (pr : Nat → Nat) (pf : Nat → Nat → Int32) (n1 : Int32) (n2 : Int32) (n3 : Int32) (hw_c : ∀ k, cr k ≤ coW_lim k) (hw_d : ∀ k, dr k ≤ cdW_lim k) (hw_p : ∀ k, pr k ≤ pgW_lim k) : vz_Mv l D (tyG g) yX0_writePassing cX0_writePassing 5 (7 * (16 - dn) + 113) (203 * (16 - dn) + 4087) 0 0 [.ref h, .int n1, .int n2, .int n3, .int (nI dn)] sz (vz_w [coW g h ca ci cr cf (da 0) (da 2) ph, cdW g da dr df, pgW g ph pa pr pf]) (fun u : (Nat → Int32) × (Nat → Nat) × (Nat → Nat → Int32) × (Nat → Nat) × (Nat → Nat → Int32) => (∀ k, u.2.1 k ≤ coW_lim k) ∧ (∀ k, u.2.2.2.1 k ≤ cdW_lim k)) (fun u => vz_w [coW g h ca u.1 u.2.1 u.2.2.1 (da 0) (da 2) ph, cdW g da u.2.2.2.1 u.2.2.2.2, pgW g ph pa pr pf]) := by
  refine vz_svQ (by decide) (Nat.le_of_ble_eq_true rfl) (fun p e s m args below meth c hx hb hr hml hts hown hlk hin hK hsz A hA H locs hP hD hS ls hl Q hQ => ?_)
  have hl : lv_has ls 5 [(0, .ref h), (1, .int n1), (2, .int n2), (3, .int n3), (4, .int (nI dn))] := hl
  have J33 : ∀ (ci_33 : Nat → Int32), ∀ (cr_33 : Nat → Nat), ∀ (cf_33 : Nat → Nat → Int32), ∀ (dr_33 : Nat → Nat), ∀ (df_33 : Nat → Nat → Int32), (∀ k, cr_33 k ≤ coW_lim k) → (∀ k, dr_33 k ≤ cdW_lim k) → ∀ (H : Heap) (locs : List Loc) (ls : Array Slot), va_P D vwCl (vz_w [coW g h ca ci_33 cr_33 cf_33 (da 0) (da 2) ph, cdW g da dr_33 df_33, pgW g ph pa pr pf]) H → va_D A (vz_w [coW g h ca ci_33 cr_33 cf_33 (da 0) (da 2) ph, cdW g da dr_33 df_33, pgW g ph pa pr pf]) → va_S A s.heap H locs → lv_has ls 5 [(0, .ref h), (1, .int n1), (2, .int n2), (3, .int n3), (4, .int (nI dn))] → W p l e { frames := (7 * (16 - dn) + 113), cells := 0, slots := 0, locals := (203 * (16 - dn) + 4087) } s m args below meth c H locs 0 0 Q (F0 m 33 ls []) := by
    intro ci_33 cr_33 cf_33 dr_33 df_33 hw_c_33 hw_d_33 H locs ls hP hD hS hl
    rw [hQ]
    exact vz_vret3 hx hb hr hlk hK hP hD hS (ci_33, cr_33, cf_33, dr_33, df_33) (⟨hw_c_33, hw_d_33⟩) rfl (Nat.le_refl 0) (Nat.le_refl 0) dX0_writePassing_33
  have J13 : ∀ (ci_13 : Nat → Int32), ∀ (cr_13 : Nat → Nat), ∀ (cf_13 : Nat → Nat → Int32), ∀ (dr_13 : Nat → Nat), ∀ (df_13 : Nat → Nat → Int32), (∀ k, cr_13 k ≤ coW_lim k) → (∀ k, dr_13 k ≤ cdW_lim k) → ∀ (H : Heap) (locs : List Loc) (ls : Array Slot), va_P D vwCl (vz_w [coW g h ca ci_13 cr_13 cf_13 (da 0) (da 2) ph, cdW g da dr_13 df_13, pgW g ph pa pr pf]) H → va_D A (vz_w [coW g h ca ci_13 cr_13 cf_13 (da 0) (da 2) ph, cdW g da dr_13 df_13, pgW g ph pa pr pf]) → va_S A s.heap H locs → lv_has ls 5 [(0, .ref h), (1, .int n1), (2, .int n2), (3, .int n3), (4, .int (nI dn))] → W p l e { frames := (7 * (16 - dn) + 113), cells := 0, slots := 0, locals := (203 * (16 - dn) + 4087) } s m args below meth c H locs 0 0 Q (F0 m 13 ls []) := by
    intro ci_13 cr_13 cf_13 dr_13 df_13 hw_c_13 hw_d_13 H locs ls hP hD hS hl
    refine lv_aload_n hx hb dX0_writePassing_13 rfl (lv_at hl 0 rfl) ?_
    refine lv_iload_n hx hb dX0_writePassing_14 rfl (lv_at hl 1 rfl) ?_
    refine lv_iload hx hb dX0_writePassing_15 (lv_at hl 4 rfl) ?_
    refine vz_Vv3 (As := [.int n1, .int (nI dn)]) (rest := []) hx hb hml hown hts hK hA hP hD hS (a_C_writeFinish l D g dn hdn hB H.size h ca ci_13 cr_13 cf_13 da ph dr_13 df_13 pa pr pf n1 hw_c_13 hw_d_13 hw_p) kv_X0_136 ⟨by dsimp only; omega, by dsimp only; omega⟩ (q0 := 0) (ci := 0) rfl rfl rfl  hl.1 (Nat.le_of_ble_eq_true rfl) dX0_writePassing_17 ⟨Nat.le_refl _, Nat.le_refl _⟩ rfl (fun ⟨ci_1, cr_2, cf_3, dr_4, df_5⟩ H locs ⟨hw_6, hw_7⟩ _ hP hD hS => ?_)
    try dsimp only at hw_6 hw_7
    replace hP : va_P D vwCl (vz_w [coW g h ca ci_1 cr_2 cf_3 (da 0) (da 2) ph, cdW g da dr_4 df_5, pgW g ph pa pr pf]) H := hP
    replace hD : va_D A (vz_w [coW g h ca ci_1 cr_2 cf_3 (da 0) (da 2) ph, cdW g da dr_4 df_5, pgW g ph pa pr pf]) := hD
    refine lv_iload_n hx hb dX0_writePassing_20 rfl (lv_at hl 3 rfl) ?_
    refine lv_if_eq (tgt := 33) hx hb dX0_writePassing_21 (by decide) (fun kc8 => ?_) (fun kc8 => ?_)
    · exact J33 ci_1 cr_2 cf_3 dr_4 df_5 hw_6 hw_7 H locs ls hP hD hS (lv_sub hl [0, 1, 2, 3, 4] rfl)
    · refine lv_aload_n hx hb dX0_writePassing_24 rfl (lv_at hl 0 rfl) ?_
      refine lv_bipush (v := 23) hx hb dX0_writePassing_25 (by decide) ?_
      refine lv_iload_n hx hb dX0_writePassing_27 rfl (lv_at hl 2 rfl) ?_
      refine lv_iconst (v := 0) hx hb dX0_writePassing_28 (by decide) ?_
      refine vz_Vi3 (As := [.int 23, .int n2, .int 0]) (rest := []) hx hb hml hown hts hK hA hP hD hS (a_C_emit l D g H.size h ca ci_1 cr_2 cf_3 da ph dr_4 df_5 pa pr pf 23 n2 0 hw_6 hw_7 hw_p) kv_X0_70 ⟨by dsimp only; omega, by dsimp only; omega⟩ (q0 := 0) (ci := 0) rfl rfl rfl  hl.1 (Nat.le_of_ble_eq_true rfl) dX0_writePassing_29 ⟨Nat.le_refl _, Nat.le_refl _⟩ rfl (fun v13 ⟨ci_9, dr_10, df_11⟩ H locs hw_12 _ hP hD hS => ?_)
      try dsimp only at hw_12
      replace hP : va_P D vwCl (vz_w [coW g h ca ci_9 cr_2 cf_3 (da 0) (da 2) ph, cdW g da dr_10 df_11, pgW g ph pa pr pf]) H := hP
      replace hD : va_D A (vz_w [coW g h ca ci_9 cr_2 cf_3 (da 0) (da 2) ph, cdW g da dr_10 df_11, pgW g ph pa pr pf]) := hD
      refine lv_pop hx hb dX0_writePassing_32 rfl ?_
      exact J33 ci_9 cr_2 cf_3 dr_10 df_11 hw_6 hw_12 H locs ls hP hD hS (lv_sub hl [0, 1, 2, 3, 4] rfl)
  refine lv_iload_n hx hb dX0_writePassing_0 rfl (lv_at hl 3 rfl) ?_
  refine lv_if_eq (tgt := 13) hx hb dX0_writePassing_1 (by decide) (fun kc1 => ?_) (fun kc1 => ?_)
  · exact J13 ci cr cf dr df hw_c hw_d H locs ls hP hD hS (lv_sub hl [0, 1, 2, 3, 4] rfl)
  · refine lv_aload_n hx hb dX0_writePassing_4 rfl (lv_at hl 0 rfl) ?_
    refine lv_bipush (v := 22) hx hb dX0_writePassing_5 (by decide) ?_
    refine lv_iload_n hx hb dX0_writePassing_7 rfl (lv_at hl 2 rfl) ?_
    refine lv_iconst (v := 0) hx hb dX0_writePassing_8 (by decide) ?_
    refine vz_Vi3 (As := [.int 22, .int n2, .int 0]) (rest := []) hx hb hml hown hts hK hA hP hD hS (a_C_emit l D g H.size h ca ci cr cf da ph dr df pa pr pf 22 n2 0 hw_c hw_d hw_p) kv_X0_70 ⟨by dsimp only; omega, by dsimp only; omega⟩ (q0 := 0) (ci := 0) rfl rfl rfl  hl.1 (Nat.le_of_ble_eq_true rfl) dX0_writePassing_9 ⟨Nat.le_refl _, Nat.le_refl _⟩ rfl (fun v6 ⟨ci_2, dr_3, df_4⟩ H locs hw_5 _ hP hD hS => ?_)
    try dsimp only at hw_5
    replace hP : va_P D vwCl (vz_w [coW g h ca ci_2 cr cf (da 0) (da 2) ph, cdW g da dr_3 df_4, pgW g ph pa pr pf]) H := hP
    replace hD : va_D A (vz_w [coW g h ca ci_2 cr cf (da 0) (da 2) ph, cdW g da dr_3 df_4, pgW g ph pa pr pf]) := hD
    refine lv_pop hx hb dX0_writePassing_12 rfl ?_
    exact J13 ci_2 cr cf dr_3 df_4 hw_c hw_5 H locs ls hP hD hS (lv_sub hl [0, 1, 2, 3, 4] rfl)
theorem dX0_writeEnd_0 : decode cX0_writeEnd 0 = .ok (.iload_n 1, 1) := by decide +kernel
theorem dX0_writeEnd_1 : decode cX0_writeEnd 1 = .ok (.bipush (-9), 2) := by decide +kernel
theorem dX0_writeEnd_3 : decode cX0_writeEnd 3 = .ok (.if_icmp .eq 9, 3) := by decide +kernel
theorem dX0_writeEnd_6 : decode cX0_writeEnd 6 = .ok (.aload_n 0, 1) := by decide +kernel
theorem dX0_writeEnd_7 : decode cX0_writeEnd 7 = .ok (.iload_n 1, 1) := by decide +kernel
theorem dX0_writeEnd_8 : decode cX0_writeEnd 8 = .ok (.iload_n 2, 1) := by decide +kernel
theorem dX0_writeEnd_9 : decode cX0_writeEnd 9 = .ok (.invokevirtual 136, 3) := by decide +kernel
theorem dX0_writeEnd_12 : decode cX0_writeEnd 12 = .ok (.aload_n 0, 1) := by decide +kernel
theorem dX0_writeEnd_13 : decode cX0_writeEnd 13 = .ok (.bipush 15, 2) := by decide +kernel
theorem dX0_writeEnd_15 : decode cX0_writeEnd 15 = .ok (.iload_n 3, 1) := by decide +kernel
theorem dX0_writeEnd_16 : decode cX0_writeEnd 16 = .ok (.iconst 0, 1) := by decide +kernel
theorem dX0_writeEnd_17 : decode cX0_writeEnd 17 = .ok (.invokevirtual 70, 3) := by decide +kernel
theorem dX0_writeEnd_20 : decode cX0_writeEnd 20 = .ok (.ireturn, 1) := by decide +kernel
set_option maxHeartbeats 8000000 in
set_option maxRecDepth 100000 in
theorem a_C_writeEnd (l : Launch) (D : va_G) (g : Nat → ClassId) (dn : Nat) (hdn : dn ≤ 16) (hB : ∀ (sz : Nat) (h : Nat) (ca : Nat → Nat) (ci : Nat → Int32) (cr : Nat → Nat) (cf : Nat → Nat → Int32) (da : Nat → Nat) (ph : Nat) (dr : Nat → Nat) (df : Nat → Nat → Int32) (pa : Nat → Nat) (pr : Nat → Nat) (pf : Nat → Nat → Int32) (n1 : Int32) (hw_c : ∀ k, cr k ≤ coW_lim k) (hw_d : ∀ k, dr k ≤ cdW_lim k) (hw_p : ∀ k, pr k ≤ pgW_lim k), vz_Mv l D (tyG g) yX0_writeBlock cX0_writeBlock 5 (7 * (17 - (dn + 1)) + 110) (203 * (17 - (dn + 1)) + 4000) 0 0 [.ref h, .int n1, .int (nI (dn + 1))] sz (vz_w [coW g h ca ci cr cf (da 0) (da 2) ph, cdW g da dr df, pgW g ph pa pr pf]) (fun u : (Nat → Int32) × (Nat → Nat) × (Nat → Nat → Int32) × (Nat → Nat) × (Nat → Nat → Int32) => (∀ k, u.2.1 k ≤ coW_lim k) ∧ (∀ k, u.2.2.2.1 k ≤ cdW_lim k)) (fun u => vz_w [coW g h ca u.1 u.2.1 u.2.2.1 (da 0) (da 2) ph, cdW g da u.2.2.2.1 u.2.2.2.2, pgW g ph pa pr pf])) (sz : Nat) (h : Nat) (ca : Nat → Nat) (ci : Nat → Int32) (cr : Nat → Nat) (cf : Nat → Nat → Int32) (da : Nat → Nat) (ph : Nat) (dr : Nat → Nat) (df : Nat → Nat → Int32) (pa : Nat → Nat) (pr : Nat → Nat) (pf : Nat → Nat → Int32) (n1 : Int32) (n3 : Int32) (hw_c : ∀ k, cr k ≤ coW_lim k) (hw_d : ∀ k, dr k ≤ cdW_lim k) (hw_p : ∀ k, pr k ≤ pgW_lim k) : vz_Mi l D (tyG g) yX0_writeEnd cX0_writeEnd 4 (7 * (16 - dn) + 113) (203 * (16 - dn) + 4087) 0 0 .int [.ref h, .int n1, .int (nI dn), .int n3] sz (vz_w [coW g h ca ci cr cf (da 0) (da 2) ph, cdW g da dr df, pgW g ph pa pr pf]) (fun r (u : (Nat → Int32) × (Nat → Nat) × (Nat → Nat → Int32) × (Nat → Nat) × (Nat → Nat → Int32)) => (∀ k, u.2.1 k ≤ coW_lim k) ∧ (∀ k, u.2.2.2.1 k ≤ cdW_lim k)) (fun u => vz_w [coW g h ca u.1 u.2.1 u.2.2.1 (da 0) (da 2) ph, cdW g da u.2.2.2.1 u.2.2.2.2, pgW g ph pa pr pf]) := by
  refine vz_siQ (by decide) (Nat.le_of_ble_eq_true rfl) (fun p e s m args below meth c hx hb hr hml hts hown hlk hin hK hsz A hA H locs hP hD hS ls hl Q hQ => ?_)
  have hl : lv_has ls 4 [(0, .ref h), (1, .int n1), (2, .int (nI dn)), (3, .int n3)] := hl
  have J12 : ∀ (ci_12 : Nat → Int32), ∀ (cr_12 : Nat → Nat), ∀ (cf_12 : Nat → Nat → Int32), ∀ (dr_12 : Nat → Nat), ∀ (df_12 : Nat → Nat → Int32), (∀ k, cr_12 k ≤ coW_lim k) → (∀ k, dr_12 k ≤ cdW_lim k) → ∀ (H : Heap) (locs : List Loc) (ls : Array Slot), va_P D vwCl (vz_w [coW g h ca ci_12 cr_12 cf_12 (da 0) (da 2) ph, cdW g da dr_12 df_12, pgW g ph pa pr pf]) H → va_D A (vz_w [coW g h ca ci_12 cr_12 cf_12 (da 0) (da 2) ph, cdW g da dr_12 df_12, pgW g ph pa pr pf]) → va_S A s.heap H locs → lv_has ls 4 [(0, .ref h), (1, .int n1), (2, .int (nI dn)), (3, .int n3)] → W p l e { frames := (7 * (16 - dn) + 113), cells := 0, slots := 0, locals := (203 * (16 - dn) + 4087) } s m args below meth c H locs 0 0 Q (F0 m 12 ls []) := by
    intro ci_12 cr_12 cf_12 dr_12 df_12 hw_c_12 hw_d_12 H locs ls hP hD hS hl
    refine lv_aload_n hx hb dX0_writeEnd_12 rfl (lv_at hl 0 rfl) ?_
    refine lv_bipush (v := 15) hx hb dX0_writeEnd_13 (by decide) ?_
    refine lv_iload_n hx hb dX0_writeEnd_15 rfl (lv_at hl 3 rfl) ?_
    refine lv_iconst (v := 0) hx hb dX0_writeEnd_16 (by decide) ?_
    refine vz_Vi3 (As := [.int 15, .int n3, .int 0]) (rest := []) hx hb hml hown hts hK hA hP hD hS (a_C_emit l D g H.size h ca ci_12 cr_12 cf_12 da ph dr_12 df_12 pa pr pf 15 n3 0 hw_c_12 hw_d_12 hw_p) kv_X0_70 ⟨by dsimp only; omega, by dsimp only; omega⟩ (q0 := 0) (ci := 0) rfl rfl rfl  hl.1 (Nat.le_of_ble_eq_true rfl) dX0_writeEnd_17 ⟨Nat.le_refl _, Nat.le_refl _⟩ rfl (fun v5 ⟨ci_1, dr_2, df_3⟩ H locs hw_4 _ hP hD hS => ?_)
    try dsimp only at hw_4
    replace hP : va_P D vwCl (vz_w [coW g h ca ci_1 cr_12 cf_12 (da 0) (da 2) ph, cdW g da dr_2 df_3, pgW g ph pa pr pf]) H := hP
    replace hD : va_D A (vz_w [coW g h ca ci_1 cr_12 cf_12 (da 0) (da 2) ph, cdW g da dr_2 df_3, pgW g ph pa pr pf]) := hD
    rw [hQ]
    exact vz_iret3 hx hb hr hlk hK hP hD hS (ci_1, cr_12, cf_12, dr_2, df_3) (⟨hw_c_12, hw_4⟩) rfl (Nat.le_refl 0) (Nat.le_refl 0) dX0_writeEnd_20
  refine lv_iload_n hx hb dX0_writeEnd_0 rfl (lv_at hl 1 rfl) ?_
  refine lv_bipush (v := (-9)) hx hb dX0_writeEnd_1 (by decide) ?_
  refine lv_icmp_eq (tgt := 12) hx hb dX0_writeEnd_3 (by decide) (fun kc1 => ?_) (fun kc1 => ?_)
  · exact J12 ci cr cf dr df hw_c hw_d H locs ls hP hD hS (lv_sub hl [0, 1, 2, 3] rfl)
  · refine lv_aload_n hx hb dX0_writeEnd_6 rfl (lv_at hl 0 rfl) ?_
    refine lv_iload_n hx hb dX0_writeEnd_7 rfl (lv_at hl 1 rfl) ?_
    refine lv_iload_n hx hb dX0_writeEnd_8 rfl (lv_at hl 2 rfl) ?_
    refine vz_Vv3 (As := [.int n1, .int (nI dn)]) (rest := []) hx hb hml hown hts hK hA hP hD hS (a_C_writeFinish l D g dn hdn hB H.size h ca ci cr cf da ph dr df pa pr pf n1 hw_c hw_d hw_p) kv_X0_136 ⟨by dsimp only; omega, by dsimp only; omega⟩ (q0 := 0) (ci := 0) rfl rfl rfl  hl.1 (Nat.le_of_ble_eq_true rfl) dX0_writeEnd_9 ⟨Nat.le_refl _, Nat.le_refl _⟩ rfl (fun ⟨ci_2, cr_3, cf_4, dr_5, df_6⟩ H locs ⟨hw_7, hw_8⟩ _ hP hD hS => ?_)
    try dsimp only at hw_7 hw_8
    replace hP : va_P D vwCl (vz_w [coW g h ca ci_2 cr_3 cf_4 (da 0) (da 2) ph, cdW g da dr_5 df_6, pgW g ph pa pr pf]) H := hP
    replace hD : va_D A (vz_w [coW g h ca ci_2 cr_3 cf_4 (da 0) (da 2) ph, cdW g da dr_5 df_6, pgW g ph pa pr pf]) := hD
    exact J12 ci_2 cr_3 cf_4 dr_5 df_6 hw_7 hw_8 H locs ls hP hD hS (lv_sub hl [0, 1, 2, 3] rfl)
theorem q737 : Cond.methodLink RX0 132 yX0_writePassing ∈ wsL_law := mT_4 (List.mem_of_getElem? (i := 149) rfl) rfl
theorem q738 : Cond.instanceMethod yX0_writePassing ∈ wsL_law := mT_4 (List.mem_of_getElem? (i := 151) rfl) rfl
theorem q739 : Cond.selects RX0 yX0_writePassing yX0_writePassing ∈ wsL_law := mS_4 (q := (yX0_writePassing, 8)) (List.mem_of_getElem? (i := 12) rfl) rfl
theorem q705 : Cond.code yX0_writePassing cX0_writePassing 5 none ∈ wsL_law := mT_4 (List.mem_of_getElem? (i := 152) rfl) rfl
theorem kv_X0_132 : vz_cv RX0 132 yX0_writePassing cX0_writePassing 5 none 4 := ⟨q737, q738, q739, q33, q705, by decide +kernel⟩
theorem q690 : Cond.methodLink RX0 129 yX0_writeClosings ∈ wsL_law := mT_4 (List.mem_of_getElem? (i := 113) rfl) rfl
theorem q691 : Cond.instanceMethod yX0_writeClosings ∈ wsL_law := mT_4 (List.mem_of_getElem? (i := 115) rfl) rfl
theorem q692 : Cond.selects RX0 yX0_writeClosings yX0_writeClosings ∈ wsL_law := mS_4 (q := (yX0_writeClosings, 8)) (List.mem_of_getElem? (i := 3) rfl) rfl
theorem q693 : Cond.code yX0_writeClosings cX0_writeClosings 4 none ∈ wsL_law := mT_4 (List.mem_of_getElem? (i := 116) rfl) rfl
theorem kv_X0_129 : vz_cv RX0 129 yX0_writeClosings cX0_writeClosings 4 none 2 := ⟨q690, q691, q692, q33, q693, by decide +kernel⟩
theorem dX0_writeWayOut_0 : decode cX0_writeWayOut 0 = .ok (.aload_n 0, 1) := by decide +kernel
theorem dX0_writeWayOut_1 : decode cX0_writeWayOut 1 = .ok (.getfield 60, 3) := by decide +kernel
theorem dX0_writeWayOut_4 : decode cX0_writeWayOut 4 = .ok (.istore 4, 2) := by decide +kernel
theorem dX0_writeWayOut_6 : decode cX0_writeWayOut 6 = .ok (.iconst 0, 1) := by decide +kernel
theorem dX0_writeWayOut_7 : decode cX0_writeWayOut 7 = .ok (.istore 5, 2) := by decide +kernel
theorem dX0_writeWayOut_9 : decode cX0_writeWayOut 9 = .ok (.iload 5, 2) := by decide +kernel
theorem dX0_writeWayOut_11 : decode cX0_writeWayOut 11 = .ok (.bipush 64, 2) := by decide +kernel
theorem dX0_writeWayOut_13 : decode cX0_writeWayOut 13 = .ok (.if_icmp .ge 142, 3) := by decide +kernel
theorem dX0_writeWayOut_16 : decode cX0_writeWayOut 16 = .ok (.iload 4, 2) := by decide +kernel
theorem dX0_writeWayOut_18 : decode cX0_writeWayOut 18 = .ok (.iload_n 1, 1) := by decide +kernel
theorem dX0_writeWayOut_19 : decode cX0_writeWayOut 19 = .ok (.if_icmp .eq 136, 3) := by decide +kernel
theorem dX0_writeWayOut_22 : decode cX0_writeWayOut 22 = .ok (.iload 4, 2) := by decide +kernel
theorem dX0_writeWayOut_24 : decode cX0_writeWayOut 24 = .ok (.bipush (-9), 2) := by decide +kernel
theorem dX0_writeWayOut_26 : decode cX0_writeWayOut 26 = .ok (.if_icmp .eq 129, 3) := by decide +kernel
theorem dX0_writeWayOut_29 : decode cX0_writeWayOut 29 = .ok (.aload_n 0, 1) := by decide +kernel
theorem dX0_writeWayOut_30 : decode cX0_writeWayOut 30 = .ok (.getfield 34, 3) := by decide +kernel
theorem dX0_writeWayOut_33 : decode cX0_writeWayOut 33 = .ok (.ifCond .ne 122, 3) := by decide +kernel
theorem dX0_writeWayOut_36 : decode cX0_writeWayOut 36 = .ok (.aload_n 0, 1) := by decide +kernel
theorem dX0_writeWayOut_37 : decode cX0_writeWayOut 37 = .ok (.getfield 27, 3) := by decide +kernel
theorem dX0_writeWayOut_40 : decode cX0_writeWayOut 40 = .ok (.iload 4, 2) := by decide +kernel
theorem dX0_writeWayOut_42 : decode cX0_writeWayOut 42 = .ok (.iconst 1, 1) := by decide +kernel
theorem dX0_writeWayOut_43 : decode cX0_writeWayOut 43 = .ok (.invokevirtual 63, 3) := by decide +kernel
theorem dX0_writeWayOut_46 : decode cX0_writeWayOut 46 = .ok (.istore 6, 2) := by decide +kernel
theorem dX0_writeWayOut_48 : decode cX0_writeWayOut 48 = .ok (.aload_n 0, 1) := by decide +kernel
theorem dX0_writeWayOut_49 : decode cX0_writeWayOut 49 = .ok (.getfield 27, 3) := by decide +kernel
theorem dX0_writeWayOut_52 : decode cX0_writeWayOut 52 = .ok (.iload 4, 2) := by decide +kernel
theorem dX0_writeWayOut_54 : decode cX0_writeWayOut 54 = .ok (.iconst 0, 1) := by decide +kernel
theorem dX0_writeWayOut_55 : decode cX0_writeWayOut 55 = .ok (.invokevirtual 63, 3) := by decide +kernel
theorem dX0_writeWayOut_58 : decode cX0_writeWayOut 58 = .ok (.tableswitch 79 1 3 #[26, 62, 45], 26) := by decide +kernel
theorem dX0_writeWayOut_84 : decode cX0_writeWayOut 84 = .ok (.aload_n 0, 1) := by decide +kernel
theorem dX0_writeWayOut_85 : decode cX0_writeWayOut 85 = .ok (.iload 6, 2) := by decide +kernel
theorem dX0_writeWayOut_87 : decode cX0_writeWayOut 87 = .ok (.aload_n 0, 1) := by decide +kernel
theorem dX0_writeWayOut_88 : decode cX0_writeWayOut 88 = .ok (.getfield 27, 3) := by decide +kernel
theorem dX0_writeWayOut_91 : decode cX0_writeWayOut 91 = .ok (.iload 4, 2) := by decide +kernel
theorem dX0_writeWayOut_93 : decode cX0_writeWayOut 93 = .ok (.iconst 5, 1) := by decide +kernel
theorem dX0_writeWayOut_94 : decode cX0_writeWayOut 94 = .ok (.invokevirtual 63, 3) := by decide +kernel
theorem dX0_writeWayOut_97 : decode cX0_writeWayOut 97 = .ok (.invokevirtual 129, 3) := by decide +kernel
theorem dX0_writeWayOut_100 : decode cX0_writeWayOut 100 = .ok (.goto 37, 3) := by decide +kernel
theorem dX0_writeWayOut_103 : decode cX0_writeWayOut 103 = .ok (.aload_n 0, 1) := by decide +kernel
theorem dX0_writeWayOut_104 : decode cX0_writeWayOut 104 = .ok (.bipush 32, 2) := by decide +kernel
theorem dX0_writeWayOut_106 : decode cX0_writeWayOut 106 = .ok (.aload_n 0, 1) := by decide +kernel
theorem dX0_writeWayOut_107 : decode cX0_writeWayOut 107 = .ok (.iload 6, 2) := by decide +kernel
theorem dX0_writeWayOut_109 : decode cX0_writeWayOut 109 = .ok (.invokevirtual 116, 3) := by decide +kernel
theorem dX0_writeWayOut_112 : decode cX0_writeWayOut 112 = .ok (.iconst 0, 1) := by decide +kernel
theorem dX0_writeWayOut_113 : decode cX0_writeWayOut 113 = .ok (.invokevirtual 70, 3) := by decide +kernel
theorem dX0_writeWayOut_116 : decode cX0_writeWayOut 116 = .ok (.pop, 1) := by decide +kernel
theorem dX0_writeWayOut_117 : decode cX0_writeWayOut 117 = .ok (.goto 20, 3) := by decide +kernel
theorem dX0_writeWayOut_120 : decode cX0_writeWayOut 120 = .ok (.aload_n 0, 1) := by decide +kernel
theorem dX0_writeWayOut_121 : decode cX0_writeWayOut 121 = .ok (.iload 4, 2) := by decide +kernel
theorem dX0_writeWayOut_123 : decode cX0_writeWayOut 123 = .ok (.aload_n 0, 1) := by decide +kernel
theorem dX0_writeWayOut_124 : decode cX0_writeWayOut 124 = .ok (.iload 6, 2) := by decide +kernel
theorem dX0_writeWayOut_126 : decode cX0_writeWayOut 126 = .ok (.invokevirtual 116, 3) := by decide +kernel
theorem dX0_writeWayOut_129 : decode cX0_writeWayOut 129 = .ok (.iload_n 2, 1) := by decide +kernel
theorem dX0_writeWayOut_130 : decode cX0_writeWayOut 130 = .ok (.iload_n 3, 1) := by decide +kernel
theorem dX0_writeWayOut_131 : decode cX0_writeWayOut 131 = .ok (.invokevirtual 132, 3) := by decide +kernel
theorem dX0_writeWayOut_134 : decode cX0_writeWayOut 134 = .ok (.goto 3, 3) := by decide +kernel
theorem dX0_writeWayOut_137 : decode cX0_writeWayOut 137 = .ok (.aload_n 0, 1) := by decide +kernel
theorem dX0_writeWayOut_138 : decode cX0_writeWayOut 138 = .ok (.getfield 27, 3) := by decide +kernel
theorem dX0_writeWayOut_141 : decode cX0_writeWayOut 141 = .ok (.iload 4, 2) := by decide +kernel
theorem dX0_writeWayOut_143 : decode cX0_writeWayOut 143 = .ok (.iconst 2, 1) := by decide +kernel
theorem dX0_writeWayOut_144 : decode cX0_writeWayOut 144 = .ok (.invokevirtual 63, 3) := by decide +kernel
theorem dX0_writeWayOut_147 : decode cX0_writeWayOut 147 = .ok (.istore 4, 2) := by decide +kernel
theorem dX0_writeWayOut_149 : decode cX0_writeWayOut 149 = .ok (.iinc 5 1, 3) := by decide +kernel
theorem dX0_writeWayOut_152 : decode cX0_writeWayOut 152 = .ok (.goto (-143), 3) := by decide +kernel
theorem dX0_writeWayOut_155 : decode cX0_writeWayOut 155 = .ok (.return_, 1) := by decide +kernel
set_option maxHeartbeats 8000000 in
set_option maxRecDepth 100000 in
theorem a_C_writeWayOut (l : Launch) (D : va_G) (g : Nat → ClassId) (dn : Nat) (hdn : dn ≤ 16) (hB : ∀ (sz : Nat) (h : Nat) (ca : Nat → Nat) (ci : Nat → Int32) (cr : Nat → Nat) (cf : Nat → Nat → Int32) (da : Nat → Nat) (ph : Nat) (dr : Nat → Nat) (df : Nat → Nat → Int32) (pa : Nat → Nat) (pr : Nat → Nat) (pf : Nat → Nat → Int32) (n1 : Int32) (hw_c : ∀ k, cr k ≤ coW_lim k) (hw_d : ∀ k, dr k ≤ cdW_lim k) (hw_p : ∀ k, pr k ≤ pgW_lim k), vz_Mv l D (tyG g) yX0_writeBlock cX0_writeBlock 5 (7 * (17 - (dn + 1)) + 110) (203 * (17 - (dn + 1)) + 4000) 0 0 [.ref h, .int n1, .int (nI (dn + 1))] sz (vz_w [coW g h ca ci cr cf (da 0) (da 2) ph, cdW g da dr df, pgW g ph pa pr pf]) (fun u : (Nat → Int32) × (Nat → Nat) × (Nat → Nat → Int32) × (Nat → Nat) × (Nat → Nat → Int32) => (∀ k, u.2.1 k ≤ coW_lim k) ∧ (∀ k, u.2.2.2.1 k ≤ cdW_lim k)) (fun u => vz_w [coW g h ca u.1 u.2.1 u.2.2.1 (da 0) (da 2) ph, cdW g da u.2.2.2.1 u.2.2.2.2, pgW g ph pa pr pf])) (sz : Nat) (h : Nat) (ca : Nat → Nat) (ci : Nat → Int32) (cr : Nat → Nat) (cf : Nat → Nat → Int32) (da : Nat → Nat) (ph : Nat) (dr : Nat → Nat) (df : Nat → Nat → Int32) (pa : Nat → Nat) (pr : Nat → Nat) (pf : Nat → Nat → Int32) (n1 : Int32) (n2 : Int32) (hw_c : ∀ k, cr k ≤ coW_lim k) (hw_d : ∀ k, dr k ≤ cdW_lim k) (hw_p : ∀ k, pr k ≤ pgW_lim k) : vz_Mv l D (tyG g) yX0_writeWayOut cX0_writeWayOut 7 (7 * (16 - dn) + 114) (203 * (16 - dn) + 4116) 0 0 [.ref h, .int n1, .int n2, .int (nI dn)] sz (vz_w [coW g h ca ci cr cf (da 0) (da 2) ph, cdW g da dr df, pgW g ph pa pr pf]) (fun u : (Nat → Int32) × (Nat → Nat) × (Nat → Nat → Int32) × (Nat → Nat) × (Nat → Nat → Int32) => (∀ k, u.2.1 k ≤ coW_lim k) ∧ (∀ k, u.2.2.2.1 k ≤ cdW_lim k)) (fun u => vz_w [coW g h ca u.1 u.2.1 u.2.2.1 (da 0) (da 2) ph, cdW g da u.2.2.2.1 u.2.2.2.2, pgW g ph pa pr pf]) := by
  refine vz_svQ (by decide) (Nat.le_of_ble_eq_true rfl) (fun p e s m args below meth c hx hb hr hml hts hown hlk hin hK hsz A hA H locs hP hD hS ls hl Q hQ => ?_)
  have hl : lv_has ls 7 [(0, .ref h), (1, .int n1), (2, .int n2), (3, .int (nI dn))] := hl
  have J155 : ∀ (x4_155 : Int32), ∀ (x5_155 : Int32), ∀ (ci_155 : Nat → Int32), ∀ (cr_155 : Nat → Nat), ∀ (cf_155 : Nat → Nat → Int32), ∀ (dr_155 : Nat → Nat), ∀ (df_155 : Nat → Nat → Int32), (∀ k, cr_155 k ≤ coW_lim k) → (∀ k, dr_155 k ≤ cdW_lim k) → ∀ (H : Heap) (locs : List Loc) (ls : Array Slot), va_P D vwCl (vz_w [coW g h ca ci_155 cr_155 cf_155 (da 0) (da 2) ph, cdW g da dr_155 df_155, pgW g ph pa pr pf]) H → va_D A (vz_w [coW g h ca ci_155 cr_155 cf_155 (da 0) (da 2) ph, cdW g da dr_155 df_155, pgW g ph pa pr pf]) → va_S A s.heap H locs → lv_has ls 7 [(0, .ref h), (1, .int n1), (2, .int n2), (3, .int (nI dn)), (4, .int x4_155), (5, .int x5_155)] → W p l e { frames := (7 * (16 - dn) + 114), cells := 0, slots := 0, locals := (203 * (16 - dn) + 4116) } s m args below meth c H locs 0 0 Q (F0 m 155 ls []) := by
    intro x4_155 x5_155 ci_155 cr_155 cf_155 dr_155 df_155 hw_c_155 hw_d_155 H locs ls hP hD hS hl
    rw [hQ]
    exact vz_vret3 hx hb hr hlk hK hP hD hS (ci_155, cr_155, cf_155, dr_155, df_155) (⟨hw_c_155, hw_d_155⟩) rfl (Nat.le_refl 0) (Nat.le_refl 0) dX0_writeWayOut_155
  have J9 : ∀ (fu9 n9 : Nat), 64 - n9 < fu9 → n9 ≤ 64 → ∀ (x4_9 : Int32), ∀ (ci_9 : Nat → Int32), ∀ (cr_9 : Nat → Nat), ∀ (cf_9 : Nat → Nat → Int32), ∀ (dr_9 : Nat → Nat), ∀ (df_9 : Nat → Nat → Int32), (∀ k, cr_9 k ≤ coW_lim k) → (∀ k, dr_9 k ≤ cdW_lim k) → ∀ (H : Heap) (locs : List Loc) (ls : Array Slot), va_P D vwCl (vz_w [coW g h ca ci_9 cr_9 cf_9 (da 0) (da 2) ph, cdW g da dr_9 df_9, pgW g ph pa pr pf]) H → va_D A (vz_w [coW g h ca ci_9 cr_9 cf_9 (da 0) (da 2) ph, cdW g da dr_9 df_9, pgW g ph pa pr pf]) → va_S A s.heap H locs → lv_has ls 7 [(0, .ref h), (1, .int n1), (2, .int n2), (3, .int (nI dn)), (4, .int x4_9), (5, .int (nI n9))] → W p l e { frames := (7 * (16 - dn) + 114), cells := 0, slots := 0, locals := (203 * (16 - dn) + 4116) } s m args below meth c H locs 0 0 Q (F0 m 9 ls []) := by
    intro fu9
    induction fu9 with
    | zero => intro n9 z; omega
    | succ fu9 ih9 =>
      intro n9 hf9 hb9 x4_9 ci_9 cr_9 cf_9 dr_9 df_9 hw_c_9 hw_d_9 H locs ls hP hD hS hl
      have J137 : n9 < 64 → ∀ (x6_137 : Int32), ∀ (ci_137 : Nat → Int32), ∀ (cr_137 : Nat → Nat), ∀ (cf_137 : Nat → Nat → Int32), ∀ (dr_137 : Nat → Nat), ∀ (df_137 : Nat → Nat → Int32), (∀ k, cr_137 k ≤ coW_lim k) → (∀ k, dr_137 k ≤ cdW_lim k) → ∀ (H : Heap) (locs : List Loc) (ls : Array Slot), va_P D vwCl (vz_w [coW g h ca ci_137 cr_137 cf_137 (da 0) (da 2) ph, cdW g da dr_137 df_137, pgW g ph pa pr pf]) H → va_D A (vz_w [coW g h ca ci_137 cr_137 cf_137 (da 0) (da 2) ph, cdW g da dr_137 df_137, pgW g ph pa pr pf]) → va_S A s.heap H locs → lv_has ls 7 [(0, .ref h), (1, .int n1), (2, .int n2), (3, .int (nI dn)), (4, .int x4_9), (5, .int (nI n9)), (6, .int x6_137)] → W p l e { frames := (7 * (16 - dn) + 114), cells := 0, slots := 0, locals := (203 * (16 - dn) + 4116) } s m args below meth c H locs 0 0 Q (F0 m 137 ls []) := by
        intro hn9 x6_137 ci_137 cr_137 cf_137 dr_137 df_137 hw_c_137 hw_d_137 H locs ls hP hD hS hl
        refine lv_aload_n hx hb dX0_writeWayOut_137 rfl (lv_at hl 0 rfl) ?_
        refine va_get (D := D) (ci := 0) (v := .ref (ca 0)) (C := RX0) (T := TX0) (N := 8) hx hb hts inlX0 hown hK hP 0 rfl rfl 2 (by decide) (hts _ q112) (fun _ h => h) rfl dX0_writeWayOut_138 ?_
        refine lv_iload hx hb dX0_writeWayOut_141 (lv_at hl 4 rfl) ?_
        refine lv_iconst (v := 2) hx hb dX0_writeWayOut_143 (by decide) ?_
        refine vz_Vi2 (ws' := fun u : Unit => vz_w [coW g h ca ci_137 cr_137 cf_137 (da 0) (da 2) ph, cdW g da dr_137 df_137, pgW g ph pa pr pf]) (As := [.int x4_9, .int 2]) (rest := []) hx hb hml hown hts hK hA hP hD hS (c_T_get l D g (ca 0) (ca 1) H.size 6 64 (cr_137 0) 384 (cf_137 0) x4_9 2 ⟨rfl, by decide, by decide, by decide, by decide, hw_c_137 0⟩) kv_X0_63 ⟨by dsimp only; omega, by dsimp only; omega⟩ (q0 := 1) (ci := 6) rfl rfl rfl [1, 2] rfl (by decide) (fun _ => rfl) (fun _ => rfl) hl.1 (Nat.le_of_ble_eq_true rfl) dX0_writeWayOut_144 ⟨Nat.le_refl _, Nat.le_refl _⟩ rfl (fun v1 _ H locs he2 _ hP hD hS => ?_)
        refine lv_istore (lv' := [(4, .int v1), (0, .ref h), (1, .int n1), (2, .int n2), (3, .int (nI dn)), (5, .int (nI n9)), (6, .int x6_137)]) hx hb dX0_writeWayOut_147 hl (by decide) rfl (fun ls hl => ?_)
        refine lv_iinc (v := (nI (n9 + 1))) (lv' := [(5, .int (nI (n9 + 1))), (4, .int v1), (0, .ref h), (1, .int n1), (2, .int n2), (3, .int (nI dn)), (6, .int x6_137)]) hx hb dX0_writeWayOut_149 hl (k := 5) rfl (nI_1 n9) (by decide) rfl (fun ls hl => ?_)
        refine lv_goto (tgt := 9) hx hb dX0_writeWayOut_152 (by decide) ?_
        exact ih9 (n9 + 1) (by omega) (by omega) v1 ci_137 cr_137 cf_137 dr_137 df_137 hw_c_137 hw_d_137 H locs ls hP hD hS (lv_sub hl [2, 3, 4, 5, 1, 0] rfl)
      refine lv_iload hx hb dX0_writeWayOut_9 (lv_at hl 5 rfl) ?_
      refine lv_bipush (v := 64) hx hb dX0_writeWayOut_11 (by decide) ?_
      refine lv_icmp_ge (tgt := 155) hx hb dX0_writeWayOut_13 (by decide) (fun kc1 => ?_) (fun kc1 => ?_)
      · exact J155 x4_9 (nI n9) ci_9 cr_9 cf_9 dr_9 df_9 hw_c_9 hw_d_9 H locs ls hP hD hS (lv_sub hl [0, 1, 2, 3, 4, 5] rfl)
      · have hn9 : n9 < 64 := vz_ltge (B := 64) (by omega) kc1
        refine lv_iload hx hb dX0_writeWayOut_16 (lv_at hl 4 rfl) ?_
        refine lv_iload_n hx hb dX0_writeWayOut_18 rfl (lv_at hl 1 rfl) ?_
        refine lv_icmp_eq (tgt := 155) hx hb dX0_writeWayOut_19 (by decide) (fun kc2 => ?_) (fun kc2 => ?_)
        · exact J155 x4_9 (nI n9) ci_9 cr_9 cf_9 dr_9 df_9 hw_c_9 hw_d_9 H locs ls hP hD hS (lv_sub hl [0, 1, 2, 3, 4, 5] rfl)
        · refine lv_iload hx hb dX0_writeWayOut_22 (lv_at hl 4 rfl) ?_
          refine lv_bipush (v := (-9)) hx hb dX0_writeWayOut_24 (by decide) ?_
          refine lv_icmp_eq (tgt := 155) hx hb dX0_writeWayOut_26 (by decide) (fun kc3 => ?_) (fun kc3 => ?_)
          · exact J155 x4_9 (nI n9) ci_9 cr_9 cf_9 dr_9 df_9 hw_c_9 hw_d_9 H locs ls hP hD hS (lv_sub hl [0, 1, 2, 3, 4, 5] rfl)
          · refine lv_aload_n hx hb dX0_writeWayOut_29 rfl (lv_at hl 0 rfl) ?_
            refine va_get (D := D) (ci := 0) (v := .int (ci_9 1)) (C := RX0) (T := TX0) (N := 8) hx hb hts inlX0 hown hK hP 0 rfl rfl 5 (by decide) (hts _ q614) (fun _ h => h) rfl dX0_writeWayOut_30 ?_
            refine lv_if_ne (tgt := 155) hx hb dX0_writeWayOut_33 (by decide) (fun kc4 => ?_) (fun kc4 => ?_)
            · exact J155 x4_9 (nI n9) ci_9 cr_9 cf_9 dr_9 df_9 hw_c_9 hw_d_9 H locs ls hP hD hS (lv_sub hl [0, 1, 2, 3, 4, 5] rfl)
            · refine lv_aload_n hx hb dX0_writeWayOut_36 rfl (lv_at hl 0 rfl) ?_
              refine va_get (D := D) (ci := 0) (v := .ref (ca 0)) (C := RX0) (T := TX0) (N := 8) hx hb hts inlX0 hown hK hP 0 rfl rfl 2 (by decide) (hts _ q112) (fun _ h => h) rfl dX0_writeWayOut_37 ?_
              refine lv_iload hx hb dX0_writeWayOut_40 (lv_at hl 4 rfl) ?_
              refine lv_iconst (v := 1) hx hb dX0_writeWayOut_42 (by decide) ?_
              refine vz_Vi2 (ws' := fun u : Unit => vz_w [coW g h ca ci_9 cr_9 cf_9 (da 0) (da 2) ph, cdW g da dr_9 df_9, pgW g ph pa pr pf]) (As := [.int x4_9, .int 1]) (rest := []) hx hb hml hown hts hK hA hP hD hS (c_T_get l D g (ca 0) (ca 1) H.size 6 64 (cr_9 0) 384 (cf_9 0) x4_9 1 ⟨rfl, by decide, by decide, by decide, by decide, hw_c_9 0⟩) kv_X0_63 ⟨by dsimp only; omega, by dsimp only; omega⟩ (q0 := 1) (ci := 6) rfl rfl rfl [1, 2] rfl (by decide) (fun _ => rfl) (fun _ => rfl) hl.1 (Nat.le_of_ble_eq_true rfl) dX0_writeWayOut_43 ⟨Nat.le_refl _, Nat.le_refl _⟩ rfl (fun v5 _ H locs he6 _ hP hD hS => ?_)
              refine lv_istore (lv' := [(6, .int v5), (0, .ref h), (1, .int n1), (2, .int n2), (3, .int (nI dn)), (4, .int x4_9), (5, .int (nI n9))]) hx hb dX0_writeWayOut_46 hl (by decide) rfl (fun ls hl => ?_)
              refine lv_aload_n hx hb dX0_writeWayOut_48 rfl (lv_at hl 1 rfl) ?_
              refine va_get (D := D) (ci := 0) (v := .ref (ca 0)) (C := RX0) (T := TX0) (N := 8) hx hb hts inlX0 hown hK hP 0 rfl rfl 2 (by decide) (hts _ q112) (fun _ h => h) rfl dX0_writeWayOut_49 ?_
              refine lv_iload hx hb dX0_writeWayOut_52 (lv_at hl 5 rfl) ?_
              refine lv_iconst (v := 0) hx hb dX0_writeWayOut_54 (by decide) ?_
              refine vz_Vi2 (ws' := fun u : Unit => vz_w [coW g h ca ci_9 cr_9 cf_9 (da 0) (da 2) ph, cdW g da dr_9 df_9, pgW g ph pa pr pf]) (As := [.int x4_9, .int 0]) (rest := []) hx hb hml hown hts hK hA hP hD hS (c_T_get l D g (ca 0) (ca 1) H.size 6 64 (cr_9 0) 384 (cf_9 0) x4_9 0 ⟨rfl, by decide, by decide, by decide, by decide, hw_c_9 0⟩) kv_X0_63 ⟨by dsimp only; omega, by dsimp only; omega⟩ (q0 := 1) (ci := 6) rfl rfl rfl [1, 2] rfl (by decide) (fun _ => rfl) (fun _ => rfl) hl.1 (Nat.le_of_ble_eq_true rfl) dX0_writeWayOut_55 ⟨Nat.le_refl _, Nat.le_refl _⟩ rfl (fun v7 _ H locs he8 _ hP hD hS => ?_)
              have S58_84 : W p l e { frames := (7 * (16 - dn) + 114), cells := 0, slots := 0, locals := (203 * (16 - dn) + 4116) } s m args below meth c H locs 0 0 Q (F0 m 84 ls []) := by
                refine lv_aload_n hx hb dX0_writeWayOut_84 rfl (lv_at hl 1 rfl) ?_
                refine lv_iload hx hb dX0_writeWayOut_85 (lv_at hl 0 rfl) ?_
                refine lv_aload_n hx hb dX0_writeWayOut_87 rfl (lv_at hl 1 rfl) ?_
                refine va_get (D := D) (ci := 0) (v := .ref (ca 0)) (C := RX0) (T := TX0) (N := 8) hx hb hts inlX0 hown hK hP 0 rfl rfl 2 (by decide) (hts _ q112) (fun _ h => h) rfl dX0_writeWayOut_88 ?_
                refine lv_iload hx hb dX0_writeWayOut_91 (lv_at hl 5 rfl) ?_
                refine lv_iconst (v := 5) hx hb dX0_writeWayOut_93 (by decide) ?_
                refine vz_Vi2 (ws' := fun u : Unit => vz_w [coW g h ca ci_9 cr_9 cf_9 (da 0) (da 2) ph, cdW g da dr_9 df_9, pgW g ph pa pr pf]) (As := [.int x4_9, .int 5]) (rest := [.int v5, .ref h]) hx hb hml hown hts hK hA hP hD hS (c_T_get l D g (ca 0) (ca 1) H.size 6 64 (cr_9 0) 384 (cf_9 0) x4_9 5 ⟨rfl, by decide, by decide, by decide, by decide, hw_c_9 0⟩) kv_X0_63 ⟨by dsimp only; omega, by dsimp only; omega⟩ (q0 := 1) (ci := 6) rfl rfl rfl [1, 2] rfl (by decide) (fun _ => rfl) (fun _ => rfl) hl.1 (Nat.le_of_ble_eq_true rfl) dX0_writeWayOut_94 ⟨Nat.le_refl _, Nat.le_refl _⟩ rfl (fun v9 _ H locs he10 _ hP hD hS => ?_)
                refine vz_Vv3 (As := [.int v5, .int v9]) (rest := []) hx hb hml hown hts hK hA hP hD hS (a_C_writeClosings l D g H.size h ca ci_9 cr_9 cf_9 da ph dr_9 df_9 pa pr pf v5 v9 hw_c_9 hw_d_9 hw_p) kv_X0_129 ⟨by dsimp only; omega, by dsimp only; omega⟩ (q0 := 0) (ci := 0) rfl rfl rfl  hl.1 (Nat.le_of_ble_eq_true rfl) dX0_writeWayOut_97 ⟨Nat.le_refl _, Nat.le_refl _⟩ rfl (fun ⟨ci_11, dr_12, df_13⟩ H locs hw_14 _ hP hD hS => ?_)
                try dsimp only at hw_14
                replace hP : va_P D vwCl (vz_w [coW g h ca ci_11 cr_9 cf_9 (da 0) (da 2) ph, cdW g da dr_12 df_13, pgW g ph pa pr pf]) H := hP
                replace hD : va_D A (vz_w [coW g h ca ci_11 cr_9 cf_9 (da 0) (da 2) ph, cdW g da dr_12 df_13, pgW g ph pa pr pf]) := hD
                refine lv_goto (tgt := 137) hx hb dX0_writeWayOut_100 (by decide) ?_
                exact J137 hn9 v5 ci_11 cr_9 cf_9 dr_12 df_13 hw_c_9 hw_14 H locs ls hP hD hS (lv_sub hl [1, 2, 3, 4, 5, 6, 0] rfl)
              have S58_103 : W p l e { frames := (7 * (16 - dn) + 114), cells := 0, slots := 0, locals := (203 * (16 - dn) + 4116) } s m args below meth c H locs 0 0 Q (F0 m 103 ls []) := by
                refine lv_aload_n hx hb dX0_writeWayOut_103 rfl (lv_at hl 1 rfl) ?_
                refine lv_bipush (v := 32) hx hb dX0_writeWayOut_104 (by decide) ?_
                refine lv_aload_n hx hb dX0_writeWayOut_106 rfl (lv_at hl 1 rfl) ?_
                refine lv_iload hx hb dX0_writeWayOut_107 (lv_at hl 0 rfl) ?_
                refine vz_Vi3 (As := [.int v5]) (rest := [.int 32, .ref h]) hx hb hml hown hts hK hA hP hD hS (a_C_levelOf l D g H.size h ca ci_9 cr_9 cf_9 da ph dr_9 df_9 pa pr pf v5 hw_c_9 hw_d_9 hw_p) kv_X0_116 ⟨by dsimp only; omega, by dsimp only; omega⟩ (q0 := 0) (ci := 0) rfl rfl rfl  hl.1 (Nat.le_of_ble_eq_true rfl) dX0_writeWayOut_109 ⟨Nat.le_refl _, Nat.le_refl _⟩ rfl (fun v15 _ H locs _ _ hP hD hS => ?_)
                refine lv_iconst (v := 0) hx hb dX0_writeWayOut_112 (by decide) ?_
                refine vz_Vi3 (As := [.int 32, .int v15, .int 0]) (rest := []) hx hb hml hown hts hK hA hP hD hS (a_C_emit l D g H.size h ca ci_9 cr_9 cf_9 da ph dr_9 df_9 pa pr pf 32 v15 0 hw_c_9 hw_d_9 hw_p) kv_X0_70 ⟨by dsimp only; omega, by dsimp only; omega⟩ (q0 := 0) (ci := 0) rfl rfl rfl  hl.1 (Nat.le_of_ble_eq_true rfl) dX0_writeWayOut_113 ⟨Nat.le_refl _, Nat.le_refl _⟩ rfl (fun v20 ⟨ci_16, dr_17, df_18⟩ H locs hw_19 _ hP hD hS => ?_)
                try dsimp only at hw_19
                replace hP : va_P D vwCl (vz_w [coW g h ca ci_16 cr_9 cf_9 (da 0) (da 2) ph, cdW g da dr_17 df_18, pgW g ph pa pr pf]) H := hP
                replace hD : va_D A (vz_w [coW g h ca ci_16 cr_9 cf_9 (da 0) (da 2) ph, cdW g da dr_17 df_18, pgW g ph pa pr pf]) := hD
                refine lv_pop hx hb dX0_writeWayOut_116 rfl ?_
                refine lv_goto (tgt := 137) hx hb dX0_writeWayOut_117 (by decide) ?_
                exact J137 hn9 v5 ci_16 cr_9 cf_9 dr_17 df_18 hw_c_9 hw_19 H locs ls hP hD hS (lv_sub hl [1, 2, 3, 4, 5, 6, 0] rfl)
              have S58_120 : W p l e { frames := (7 * (16 - dn) + 114), cells := 0, slots := 0, locals := (203 * (16 - dn) + 4116) } s m args below meth c H locs 0 0 Q (F0 m 120 ls []) := by
                refine lv_aload_n hx hb dX0_writeWayOut_120 rfl (lv_at hl 1 rfl) ?_
                refine lv_iload hx hb dX0_writeWayOut_121 (lv_at hl 5 rfl) ?_
                refine lv_aload_n hx hb dX0_writeWayOut_123 rfl (lv_at hl 1 rfl) ?_
                refine lv_iload hx hb dX0_writeWayOut_124 (lv_at hl 0 rfl) ?_
                refine vz_Vi3 (As := [.int v5]) (rest := [.int x4_9, .ref h]) hx hb hml hown hts hK hA hP hD hS (a_C_levelOf l D g H.size h ca ci_9 cr_9 cf_9 da ph dr_9 df_9 pa pr pf v5 hw_c_9 hw_d_9 hw_p) kv_X0_116 ⟨by dsimp only; omega, by dsimp only; omega⟩ (q0 := 0) (ci := 0) rfl rfl rfl  hl.1 (Nat.le_of_ble_eq_true rfl) dX0_writeWayOut_126 ⟨Nat.le_refl _, Nat.le_refl _⟩ rfl (fun v21 _ H locs _ _ hP hD hS => ?_)
                refine lv_iload_n hx hb dX0_writeWayOut_129 rfl (lv_at hl 3 rfl) ?_
                refine lv_iload_n hx hb dX0_writeWayOut_130 rfl (lv_at hl 4 rfl) ?_
                refine vz_Vv3 (As := [.int x4_9, .int v21, .int n2, .int (nI dn)]) (rest := []) hx hb hml hown hts hK hA hP hD hS (a_C_writePassing l D g dn hdn hB H.size h ca ci_9 cr_9 cf_9 da ph dr_9 df_9 pa pr pf x4_9 v21 n2 hw_c_9 hw_d_9 hw_p) kv_X0_132 ⟨by dsimp only; omega, by dsimp only; omega⟩ (q0 := 0) (ci := 0) rfl rfl rfl  hl.1 (Nat.le_of_ble_eq_true rfl) dX0_writeWayOut_131 ⟨Nat.le_refl _, Nat.le_refl _⟩ rfl (fun ⟨ci_22, cr_23, cf_24, dr_25, df_26⟩ H locs ⟨hw_27, hw_28⟩ _ hP hD hS => ?_)
                try dsimp only at hw_27 hw_28
                replace hP : va_P D vwCl (vz_w [coW g h ca ci_22 cr_23 cf_24 (da 0) (da 2) ph, cdW g da dr_25 df_26, pgW g ph pa pr pf]) H := hP
                replace hD : va_D A (vz_w [coW g h ca ci_22 cr_23 cf_24 (da 0) (da 2) ph, cdW g da dr_25 df_26, pgW g ph pa pr pf]) := hD
                refine lv_goto (tgt := 137) hx hb dX0_writeWayOut_134 (by decide) ?_
                exact J137 hn9 v5 ci_22 cr_23 cf_24 dr_25 df_26 hw_27 hw_28 H locs ls hP hD hS (lv_sub hl [1, 2, 3, 4, 5, 6, 0] rfl)
              have S58_137 : W p l e { frames := (7 * (16 - dn) + 114), cells := 0, slots := 0, locals := (203 * (16 - dn) + 4116) } s m args below meth c H locs 0 0 Q (F0 m 137 ls []) := by
                exact J137 hn9 v5 ci_9 cr_9 cf_9 dr_9 df_9 hw_c_9 hw_d_9 H locs ls hP hD hS (lv_sub hl [1, 2, 3, 4, 5, 6, 0] rfl)
              refine vz_tsw (td := 137) hx hb dX0_writeWayOut_58 (by decide) [84, 120, 103] (by decide) (by decide) (fun hv => ?_) (fun k t hk hv => ?_)
              · exact S58_137
              · have hm := List.mem_of_getElem? hk
                simp only [List.mem_cons, List.not_mem_nil, or_false] at hm
                rcases hm with rfl | rfl | rfl
                · exact S58_84
                · exact S58_120
                · exact S58_103
  refine lv_aload_n hx hb dX0_writeWayOut_0 rfl (lv_at hl 0 rfl) ?_
  refine va_get (D := D) (ci := 0) (v := .int (ci 3)) (C := RX0) (T := TX0) (N := 8) hx hb hts inlX0 hown hK hP 0 rfl rfl 7 (by decide) (hts _ q623) (fun _ h => h) rfl dX0_writeWayOut_1 ?_
  refine lv_istore (lv' := [(4, .int (ci 3)), (0, .ref h), (1, .int n1), (2, .int n2), (3, .int (nI dn))]) hx hb dX0_writeWayOut_4 hl (by decide) rfl (fun ls hl => ?_)
  refine lv_iconst (v := 0) hx hb dX0_writeWayOut_6 (by decide) ?_
  refine lv_istore (lv' := [(5, .int 0), (4, .int (ci 3)), (0, .ref h), (1, .int n1), (2, .int n2), (3, .int (nI dn))]) hx hb dX0_writeWayOut_7 hl (by decide) rfl (fun ls hl => ?_)
  exact J9 (65) 0 (by omega) (by omega) (ci 3) ci cr cf dr df hw_c hw_d H locs ls hP hD hS (lv_sub hl [2, 3, 4, 5, 1, 0] rfl)
theorem q646 : Cond.methodLink RX0 158 yX0_writeEnd ∈ wsL_law := mT_4 (List.mem_of_getElem? (i := 117) rfl) rfl
theorem q647 : Cond.instanceMethod yX0_writeEnd ∈ wsL_law := mT_4 (List.mem_of_getElem? (i := 119) rfl) rfl
theorem q648 : Cond.selects RX0 yX0_writeEnd yX0_writeEnd ∈ wsL_law := mS_4 (q := (yX0_writeEnd, 8)) (List.mem_of_getElem? (i := 4) rfl) rfl
theorem q649 : Cond.code yX0_writeEnd cX0_writeEnd 4 (some .int) ∈ wsL_law := mT_4 (List.mem_of_getElem? (i := 120) rfl) rfl
theorem kv_X0_158 : vz_cv RX0 158 yX0_writeEnd cX0_writeEnd 4 (some .int) 3 := ⟨q646, q647, q648, q33, q649, by decide +kernel⟩
theorem dX0_writeHeld_0 : decode cX0_writeHeld 0 = .ok (.aload_n 0, 1) := by decide +kernel
theorem dX0_writeHeld_1 : decode cX0_writeHeld 1 = .ok (.getfield 9, 3) := by decide +kernel
theorem dX0_writeHeld_4 : decode cX0_writeHeld 4 = .ok (.getfield 81, 3) := by decide +kernel
theorem dX0_writeHeld_7 : decode cX0_writeHeld 7 = .ok (.iload_n 1, 1) := by decide +kernel
theorem dX0_writeHeld_8 : decode cX0_writeHeld 8 = .ok (.iconst 1, 1) := by decide +kernel
theorem dX0_writeHeld_9 : decode cX0_writeHeld 9 = .ok (.invokevirtual 63, 3) := by decide +kernel
theorem dX0_writeHeld_12 : decode cX0_writeHeld 12 = .ok (.istore 4, 2) := by decide +kernel
theorem dX0_writeHeld_14 : decode cX0_writeHeld 14 = .ok (.aload_n 0, 1) := by decide +kernel
theorem dX0_writeHeld_15 : decode cX0_writeHeld 15 = .ok (.getfield 24, 3) := by decide +kernel
theorem dX0_writeHeld_18 : decode cX0_writeHeld 18 = .ok (.getfield 49, 3) := by decide +kernel
theorem dX0_writeHeld_21 : decode cX0_writeHeld 21 = .ok (.istore 5, 2) := by decide +kernel
theorem dX0_writeHeld_23 : decode cX0_writeHeld 23 = .ok (.iconst 0, 1) := by decide +kernel
theorem dX0_writeHeld_24 : decode cX0_writeHeld 24 = .ok (.istore 6, 2) := by decide +kernel
theorem dX0_writeHeld_26 : decode cX0_writeHeld 26 = .ok (.iload 6, 2) := by decide +kernel
theorem dX0_writeHeld_28 : decode cX0_writeHeld 28 = .ok (.iload 4, 2) := by decide +kernel
theorem dX0_writeHeld_30 : decode cX0_writeHeld 30 = .ok (.if_icmp .ge 32, 3) := by decide +kernel
theorem dX0_writeHeld_33 : decode cX0_writeHeld 33 = .ok (.aload_n 0, 1) := by decide +kernel
theorem dX0_writeHeld_34 : decode cX0_writeHeld 34 = .ok (.bipush 34, 2) := by decide +kernel
theorem dX0_writeHeld_36 : decode cX0_writeHeld 36 = .ok (.iload_n 1, 1) := by decide +kernel
theorem dX0_writeHeld_37 : decode cX0_writeHeld 37 = .ok (.iload 6, 2) := by decide +kernel
theorem dX0_writeHeld_39 : decode cX0_writeHeld 39 = .ok (.invokevirtual 70, 3) := by decide +kernel
theorem dX0_writeHeld_42 : decode cX0_writeHeld 42 = .ok (.pop, 1) := by decide +kernel
theorem dX0_writeHeld_43 : decode cX0_writeHeld 43 = .ok (.aload_n 0, 1) := by decide +kernel
theorem dX0_writeHeld_44 : decode cX0_writeHeld 44 = .ok (.aload_n 0, 1) := by decide +kernel
theorem dX0_writeHeld_45 : decode cX0_writeHeld 45 = .ok (.iconst 0, 1) := by decide +kernel
theorem dX0_writeHeld_46 : decode cX0_writeHeld 46 = .ok (.aload_n 0, 1) := by decide +kernel
theorem dX0_writeHeld_47 : decode cX0_writeHeld 47 = .ok (.getfield 57, 3) := by decide +kernel
theorem dX0_writeHeld_50 : decode cX0_writeHeld 50 = .ok (.invokevirtual 139, 3) := by decide +kernel
theorem dX0_writeHeld_53 : decode cX0_writeHeld 53 = .ok (.putfield 57, 3) := by decide +kernel
theorem dX0_writeHeld_56 : decode cX0_writeHeld 56 = .ok (.iinc 6 1, 3) := by decide +kernel
theorem dX0_writeHeld_59 : decode cX0_writeHeld 59 = .ok (.goto (-33), 3) := by decide +kernel
theorem dX0_writeHeld_62 : decode cX0_writeHeld 62 = .ok (.iload 4, 2) := by decide +kernel
theorem dX0_writeHeld_64 : decode cX0_writeHeld 64 = .ok (.ifCond .le 12, 3) := by decide +kernel
theorem dX0_writeHeld_67 : decode cX0_writeHeld 67 = .ok (.aload_n 0, 1) := by decide +kernel
theorem dX0_writeHeld_68 : decode cX0_writeHeld 68 = .ok (.iconst 1, 1) := by decide +kernel
theorem dX0_writeHeld_69 : decode cX0_writeHeld 69 = .ok (.iload_n 1, 1) := by decide +kernel
theorem dX0_writeHeld_70 : decode cX0_writeHeld 70 = .ok (.invokevirtual 120, 3) := by decide +kernel
theorem dX0_writeHeld_73 : decode cX0_writeHeld 73 = .ok (.goto 5, 3) := by decide +kernel
theorem dX0_writeHeld_76 : decode cX0_writeHeld 76 = .ok (.bipush (-9), 2) := by decide +kernel
theorem dX0_writeHeld_78 : decode cX0_writeHeld 78 = .ok (.istore 6, 2) := by decide +kernel
theorem dX0_writeHeld_80 : decode cX0_writeHeld 80 = .ok (.aload_n 0, 1) := by decide +kernel
theorem dX0_writeHeld_81 : decode cX0_writeHeld 81 = .ok (.getfield 27, 3) := by decide +kernel
theorem dX0_writeHeld_84 : decode cX0_writeHeld 84 = .ok (.iload 6, 2) := by decide +kernel
theorem dX0_writeHeld_86 : decode cX0_writeHeld 86 = .ok (.iconst 5, 1) := by decide +kernel
theorem dX0_writeHeld_87 : decode cX0_writeHeld 87 = .ok (.iload 5, 2) := by decide +kernel
theorem dX0_writeHeld_89 : decode cX0_writeHeld 89 = .ok (.invokevirtual 53, 3) := by decide +kernel
theorem dX0_writeHeld_92 : decode cX0_writeHeld 92 = .ok (.aload_n 0, 1) := by decide +kernel
theorem dX0_writeHeld_93 : decode cX0_writeHeld 93 = .ok (.aload_n 0, 1) := by decide +kernel
theorem dX0_writeHeld_94 : decode cX0_writeHeld 94 = .ok (.getfield 9, 3) := by decide +kernel
theorem dX0_writeHeld_97 : decode cX0_writeHeld 97 = .ok (.getfield 81, 3) := by decide +kernel
theorem dX0_writeHeld_100 : decode cX0_writeHeld 100 = .ok (.iload_n 1, 1) := by decide +kernel
theorem dX0_writeHeld_101 : decode cX0_writeHeld 101 = .ok (.iconst 5, 1) := by decide +kernel
theorem dX0_writeHeld_102 : decode cX0_writeHeld 102 = .ok (.invokevirtual 63, 3) := by decide +kernel
theorem dX0_writeHeld_105 : decode cX0_writeHeld 105 = .ok (.iload_n 2, 1) := by decide +kernel
theorem dX0_writeHeld_106 : decode cX0_writeHeld 106 = .ok (.iconst 1, 1) := by decide +kernel
theorem dX0_writeHeld_107 : decode cX0_writeHeld 107 = .ok (.iadd, 1) := by decide +kernel
theorem dX0_writeHeld_108 : decode cX0_writeHeld 108 = .ok (.invokevirtual 67, 3) := by decide +kernel
theorem dX0_writeHeld_111 : decode cX0_writeHeld 111 = .ok (.iload 4, 2) := by decide +kernel
theorem dX0_writeHeld_113 : decode cX0_writeHeld 113 = .ok (.ifCond .le 9, 3) := by decide +kernel
theorem dX0_writeHeld_116 : decode cX0_writeHeld 116 = .ok (.aload_n 0, 1) := by decide +kernel
theorem dX0_writeHeld_117 : decode cX0_writeHeld 117 = .ok (.iload 6, 2) := by decide +kernel
theorem dX0_writeHeld_119 : decode cX0_writeHeld 119 = .ok (.invokevirtual 123, 3) := by decide +kernel
theorem dX0_writeHeld_122 : decode cX0_writeHeld 122 = .ok (.aload_n 0, 1) := by decide +kernel
theorem dX0_writeHeld_123 : decode cX0_writeHeld 123 = .ok (.iload_n 1, 1) := by decide +kernel
theorem dX0_writeHeld_124 : decode cX0_writeHeld 124 = .ok (.iload 5, 2) := by decide +kernel
theorem dX0_writeHeld_126 : decode cX0_writeHeld 126 = .ok (.invokevirtual 129, 3) := by decide +kernel
theorem dX0_writeHeld_129 : decode cX0_writeHeld 129 = .ok (.aload_n 0, 1) := by decide +kernel
theorem dX0_writeHeld_130 : decode cX0_writeHeld 130 = .ok (.iload_n 3, 1) := by decide +kernel
theorem dX0_writeHeld_131 : decode cX0_writeHeld 131 = .ok (.iload_n 2, 1) := by decide +kernel
theorem dX0_writeHeld_132 : decode cX0_writeHeld 132 = .ok (.bipush (-9), 2) := by decide +kernel
theorem dX0_writeHeld_134 : decode cX0_writeHeld 134 = .ok (.invokevirtual 158, 3) := by decide +kernel
theorem dX0_writeHeld_137 : decode cX0_writeHeld 137 = .ok (.istore 7, 2) := by decide +kernel
theorem dX0_writeHeld_139 : decode cX0_writeHeld 139 = .ok (.iload 4, 2) := by decide +kernel
theorem dX0_writeHeld_141 : decode cX0_writeHeld 141 = .ok (.iconst 1, 1) := by decide +kernel
theorem dX0_writeHeld_142 : decode cX0_writeHeld 142 = .ok (.isub, 1) := by decide +kernel
theorem dX0_writeHeld_143 : decode cX0_writeHeld 143 = .ok (.istore 8, 2) := by decide +kernel
theorem dX0_writeHeld_145 : decode cX0_writeHeld 145 = .ok (.iload 8, 2) := by decide +kernel
theorem dX0_writeHeld_147 : decode cX0_writeHeld 147 = .ok (.ifCond .lt 82, 3) := by decide +kernel
theorem dX0_writeHeld_150 : decode cX0_writeHeld 150 = .ok (.aload_n 0, 1) := by decide +kernel
theorem dX0_writeHeld_151 : decode cX0_writeHeld 151 = .ok (.getfield 24, 3) := by decide +kernel
theorem dX0_writeHeld_154 : decode cX0_writeHeld 154 = .ok (.iload 5, 2) := by decide +kernel
theorem dX0_writeHeld_156 : decode cX0_writeHeld 156 = .ok (.iload 8, 2) := by decide +kernel
theorem dX0_writeHeld_158 : decode cX0_writeHeld 158 = .ok (.iadd, 1) := by decide +kernel
theorem dX0_writeHeld_159 : decode cX0_writeHeld 159 = .ok (.iconst 1, 1) := by decide +kernel
theorem dX0_writeHeld_160 : decode cX0_writeHeld 160 = .ok (.aload_n 0, 1) := by decide +kernel
theorem dX0_writeHeld_161 : decode cX0_writeHeld 161 = .ok (.getfield 20, 3) := by decide +kernel
theorem dX0_writeHeld_164 : decode cX0_writeHeld 164 = .ok (.getfield 49, 3) := by decide +kernel
theorem dX0_writeHeld_167 : decode cX0_writeHeld 167 = .ok (.invokevirtual 53, 3) := by decide +kernel
theorem dX0_writeHeld_170 : decode cX0_writeHeld 170 = .ok (.aload_n 0, 1) := by decide +kernel
theorem dX0_writeHeld_171 : decode cX0_writeHeld 171 = .ok (.aload_n 0, 1) := by decide +kernel
theorem dX0_writeHeld_172 : decode cX0_writeHeld 172 = .ok (.getfield 24, 3) := by decide +kernel
theorem dX0_writeHeld_175 : decode cX0_writeHeld 175 = .ok (.iload 5, 2) := by decide +kernel
theorem dX0_writeHeld_177 : decode cX0_writeHeld 177 = .ok (.iload 8, 2) := by decide +kernel
theorem dX0_writeHeld_179 : decode cX0_writeHeld 179 = .ok (.iadd, 1) := by decide +kernel
theorem dX0_writeHeld_180 : decode cX0_writeHeld 180 = .ok (.iconst 2, 1) := by decide +kernel
theorem dX0_writeHeld_181 : decode cX0_writeHeld 181 = .ok (.invokevirtual 63, 3) := by decide +kernel
theorem dX0_writeHeld_184 : decode cX0_writeHeld 184 = .ok (.putfield 57, 3) := by decide +kernel
theorem dX0_writeHeld_187 : decode cX0_writeHeld 187 = .ok (.aload_n 0, 1) := by decide +kernel
theorem dX0_writeHeld_188 : decode cX0_writeHeld 188 = .ok (.bipush 29, 2) := by decide +kernel
theorem dX0_writeHeld_190 : decode cX0_writeHeld 190 = .ok (.aload_n 0, 1) := by decide +kernel
theorem dX0_writeHeld_191 : decode cX0_writeHeld 191 = .ok (.iload_n 1, 1) := by decide +kernel
theorem dX0_writeHeld_192 : decode cX0_writeHeld 192 = .ok (.invokevirtual 116, 3) := by decide +kernel
theorem dX0_writeHeld_195 : decode cX0_writeHeld 195 = .ok (.iconst 0, 1) := by decide +kernel
theorem dX0_writeHeld_196 : decode cX0_writeHeld 196 = .ok (.invokevirtual 70, 3) := by decide +kernel
theorem dX0_writeHeld_199 : decode cX0_writeHeld 199 = .ok (.pop, 1) := by decide +kernel
theorem dX0_writeHeld_200 : decode cX0_writeHeld 200 = .ok (.aload_n 0, 1) := by decide +kernel
theorem dX0_writeHeld_201 : decode cX0_writeHeld 201 = .ok (.bipush 36, 2) := by decide +kernel
theorem dX0_writeHeld_203 : decode cX0_writeHeld 203 = .ok (.iload_n 1, 1) := by decide +kernel
theorem dX0_writeHeld_204 : decode cX0_writeHeld 204 = .ok (.iload 8, 2) := by decide +kernel
theorem dX0_writeHeld_206 : decode cX0_writeHeld 206 = .ok (.invokevirtual 70, 3) := by decide +kernel
theorem dX0_writeHeld_209 : decode cX0_writeHeld 209 = .ok (.pop, 1) := by decide +kernel
theorem dX0_writeHeld_210 : decode cX0_writeHeld 210 = .ok (.aload_n 0, 1) := by decide +kernel
theorem dX0_writeHeld_211 : decode cX0_writeHeld 211 = .ok (.bipush 27, 2) := by decide +kernel
theorem dX0_writeHeld_213 : decode cX0_writeHeld 213 = .ok (.aload_n 0, 1) := by decide +kernel
theorem dX0_writeHeld_214 : decode cX0_writeHeld 214 = .ok (.iload_n 1, 1) := by decide +kernel
theorem dX0_writeHeld_215 : decode cX0_writeHeld 215 = .ok (.invokevirtual 116, 3) := by decide +kernel
theorem dX0_writeHeld_218 : decode cX0_writeHeld 218 = .ok (.iconst 0, 1) := by decide +kernel
theorem dX0_writeHeld_219 : decode cX0_writeHeld 219 = .ok (.invokevirtual 70, 3) := by decide +kernel
theorem dX0_writeHeld_222 : decode cX0_writeHeld 222 = .ok (.pop, 1) := by decide +kernel
theorem dX0_writeHeld_223 : decode cX0_writeHeld 223 = .ok (.iinc 8 (-1), 3) := by decide +kernel
theorem dX0_writeHeld_226 : decode cX0_writeHeld 226 = .ok (.goto (-81), 3) := by decide +kernel
theorem dX0_writeHeld_229 : decode cX0_writeHeld 229 = .ok (.iload 7, 2) := by decide +kernel
theorem dX0_writeHeld_231 : decode cX0_writeHeld 231 = .ok (.ireturn, 1) := by decide +kernel
set_option maxHeartbeats 8000000 in
set_option maxRecDepth 100000 in
theorem a_C_writeHeld (l : Launch) (D : va_G) (g : Nat → ClassId) (dn : Nat) (hdn : dn ≤ 16) (hB : ∀ (sz : Nat) (h : Nat) (ca : Nat → Nat) (ci : Nat → Int32) (cr : Nat → Nat) (cf : Nat → Nat → Int32) (da : Nat → Nat) (ph : Nat) (dr : Nat → Nat) (df : Nat → Nat → Int32) (pa : Nat → Nat) (pr : Nat → Nat) (pf : Nat → Nat → Int32) (n1 : Int32) (hw_c : ∀ k, cr k ≤ coW_lim k) (hw_d : ∀ k, dr k ≤ cdW_lim k) (hw_p : ∀ k, pr k ≤ pgW_lim k), vz_Mv l D (tyG g) yX0_writeBlock cX0_writeBlock 5 (7 * (17 - (dn + 1)) + 110) (203 * (17 - (dn + 1)) + 4000) 0 0 [.ref h, .int n1, .int (nI (dn + 1))] sz (vz_w [coW g h ca ci cr cf (da 0) (da 2) ph, cdW g da dr df, pgW g ph pa pr pf]) (fun u : (Nat → Int32) × (Nat → Nat) × (Nat → Nat → Int32) × (Nat → Nat) × (Nat → Nat → Int32) => (∀ k, u.2.1 k ≤ coW_lim k) ∧ (∀ k, u.2.2.2.1 k ≤ cdW_lim k)) (fun u => vz_w [coW g h ca u.1 u.2.1 u.2.2.1 (da 0) (da 2) ph, cdW g da u.2.2.2.1 u.2.2.2.2, pgW g ph pa pr pf])) (sz : Nat) (h : Nat) (ca : Nat → Nat) (ci : Nat → Int32) (cr : Nat → Nat) (cf : Nat → Nat → Int32) (da : Nat → Nat) (ph : Nat) (dr : Nat → Nat) (df : Nat → Nat → Int32) (pa : Nat → Nat) (pr : Nat → Nat) (pf : Nat → Nat → Int32) (n1 : Int32) (n3 : Int32) (hw_c : ∀ k, cr k ≤ coW_lim k) (hw_d : ∀ k, dr k ≤ cdW_lim k) (hw_p : ∀ k, pr k ≤ pgW_lim k) : vz_Mi l D (tyG g) yX0_writeHeld cX0_writeHeld 9 (7 * (16 - dn) + 114) (203 * (16 - dn) + 4116) 0 0 .int [.ref h, .int n1, .int (nI dn), .int n3] sz (vz_w [coW g h ca ci cr cf (da 0) (da 2) ph, cdW g da dr df, pgW g ph pa pr pf]) (fun r (u : (Nat → Int32) × (Nat → Nat) × (Nat → Nat → Int32) × (Nat → Nat) × (Nat → Nat → Int32)) => (∀ k, u.2.1 k ≤ coW_lim k) ∧ (∀ k, u.2.2.2.1 k ≤ cdW_lim k)) (fun u => vz_w [coW g h ca u.1 u.2.1 u.2.2.1 (da 0) (da 2) ph, cdW g da u.2.2.2.1 u.2.2.2.2, pgW g ph pa pr pf]) := by
  refine vz_siQ (by decide) (Nat.le_of_ble_eq_true rfl) (fun p e s m args below meth c hx hb hr hml hts hown hlk hin hK hsz A hA H locs hP hD hS ls hl Q hQ => ?_)
  have hl : lv_has ls 9 [(0, .ref h), (1, .int n1), (2, .int (nI dn)), (3, .int n3)] := hl
  have J145 : ∀ fu145 : Nat, ∀ (x4_145 : Int32), ∀ (x5_145 : Int32), ∀ (x6_145 : Int32), ∀ (x7_145 : Int32), ∀ (x8_145 : Int32), ∀ (ci_145 : Nat → Int32), ∀ (cr_145 : Nat → Nat), ∀ (cf_145 : Nat → Nat → Int32), ∀ (dr_145 : Nat → Nat), ∀ (df_145 : Nat → Nat → Int32), (x8_145.toInt + 1).toNat < fu145 → (∀ k, cr_145 k ≤ coW_lim k) → (∀ k, dr_145 k ≤ cdW_lim k) → ∀ (H : Heap) (locs : List Loc) (ls : Array Slot), va_P D vwCl (vz_w [coW g h ca ci_145 cr_145 cf_145 (da 0) (da 2) ph, cdW g da dr_145 df_145, pgW g ph pa pr pf]) H → va_D A (vz_w [coW g h ca ci_145 cr_145 cf_145 (da 0) (da 2) ph, cdW g da dr_145 df_145, pgW g ph pa pr pf]) → va_S A s.heap H locs → lv_has ls 9 [(0, .ref h), (1, .int n1), (2, .int (nI dn)), (3, .int n3), (4, .int x4_145), (5, .int x5_145), (6, .int x6_145), (7, .int x7_145), (8, .int x8_145)] → W p l e { frames := (7 * (16 - dn) + 114), cells := 0, slots := 0, locals := (203 * (16 - dn) + 4116) } s m args below meth c H locs 0 0 Q (F0 m 145 ls []) := by
    intro fu145
    induction fu145 with
    | zero => intro x4_145 x5_145 x6_145 x7_145 x8_145 ci_145 cr_145 cf_145 dr_145 df_145 hf145 hw_c_145 hw_d_145 H locs ls hP hD hS hl; exact absurd hf145 (Nat.not_lt_zero _)
    | succ fu145 ih145 =>
      intro x4_145 x5_145 x6_145 x7_145 x8_145 ci_145 cr_145 cf_145 dr_145 df_145 hf145 hw_c_145 hw_d_145 H locs ls hP hD hS hl
      refine lv_iload hx hb dX0_writeHeld_145 (lv_at hl 8 rfl) ?_
      refine lv_if_lt (tgt := 229) hx hb dX0_writeHeld_147 (by decide) (fun kc1 => ?_) (fun kc1 => ?_)
      · refine lv_iload hx hb dX0_writeHeld_229 (lv_at hl 7 rfl) ?_
        rw [hQ]
        exact vz_iret3 hx hb hr hlk hK hP hD hS (ci_145, cr_145, cf_145, dr_145, df_145) (⟨hw_c_145, hw_d_145⟩) rfl (Nat.le_refl 0) (Nat.le_refl 0) dX0_writeHeld_231
      · have hn145 : ((x8_145 + (-1)).toInt + 1).toNat < fu145 := by have hq := vz_dn kc1; omega
        refine lv_aload_n hx hb dX0_writeHeld_150 rfl (lv_at hl 0 rfl) ?_
        refine va_get (D := D) (ci := 0) (v := .ref (da 2)) (C := RX0) (T := TX0) (N := 8) hx hb hts inlX0 hown hK hP 0 rfl rfl 1 (by decide) (hts _ q111) (fun _ h => h) rfl dX0_writeHeld_151 ?_
        refine lv_iload hx hb dX0_writeHeld_154 (lv_at hl 5 rfl) ?_
        refine lv_iload hx hb dX0_writeHeld_156 (lv_at hl 8 rfl) ?_
        refine lv_iadd hx hb dX0_writeHeld_158 ?_
        refine lv_iconst (v := 1) hx hb dX0_writeHeld_159 (by decide) ?_
        refine lv_aload_n hx hb dX0_writeHeld_160 rfl (lv_at hl 0 rfl) ?_
        refine va_get (D := D) (ci := 0) (v := .ref (da 0)) (C := RX0) (T := TX0) (N := 8) hx hb hts inlX0 hown hK hP 0 rfl rfl 0 (by decide) (hts _ q110) (fun _ h => h) rfl dX0_writeHeld_161 ?_
        refine va_get (D := D) (ci := 6) (v := .int (nI (dr_145 0))) (C := RX6) (T := TX6) (N := 4) hx hb hts inlX6 hown hK hP 3 rfl rfl 3 (by decide) (hts _ q621) (fun _ h => h) rfl dX0_writeHeld_164 ?_
        refine vz_Vv2 (ws' := fun u : (Nat → Int32) => vz_w [coW g h ca ci_145 cr_145 cf_145 (da 0) (da 2) ph, cdW g da dr_145 (vz_uf df_145 1 u), pgW g ph pa pr pf]) (As := [.int (x5_145 + x8_145), .int 1, .int (nI (dr_145 0))]) (rest := []) hx hb hml hown hts hK hA hP hD hS (c_T_set l D g (da 2) (da 3) H.size 3 500 (dr_145 1) 1500 (df_145 1) (x5_145 + x8_145) 1 (nI (dr_145 0)) ⟨rfl, by decide, by decide, by decide, by decide, hw_d_145 1⟩) kv_X0_53 ⟨by dsimp only; omega, by dsimp only; omega⟩ (q0 := 5) (ci := 6) rfl rfl rfl [5, 6] rfl (by decide) (fun _ => rfl) (fun _ => rfl) hl.1 (Nat.le_of_ble_eq_true rfl) dX0_writeHeld_167 ⟨Nat.le_refl _, Nat.le_refl _⟩ rfl (fun nf2 H locs _ _ hP hD hS => ?_)
        obtain ⟨df_3, hP, hD⟩ : ∃ df_3 : Nat → Nat → Int32, va_P D vwCl (vz_w [coW g h ca ci_145 cr_145 cf_145 (da 0) (da 2) ph, cdW g da dr_145 df_3, pgW g ph pa pr pf]) H ∧ va_D A (vz_w [coW g h ca ci_145 cr_145 cf_145 (da 0) (da 2) ph, cdW g da dr_145 df_3, pgW g ph pa pr pf]) := ⟨(vz_uf df_145 1 nf2), hP, hD⟩
        refine lv_aload_n hx hb dX0_writeHeld_170 rfl (lv_at hl 0 rfl) ?_
        refine lv_aload_n hx hb dX0_writeHeld_171 rfl (lv_at hl 0 rfl) ?_
        refine va_get (D := D) (ci := 0) (v := .ref (da 2)) (C := RX0) (T := TX0) (N := 8) hx hb hts inlX0 hown hK hP 0 rfl rfl 1 (by decide) (hts _ q111) (fun _ h => h) rfl dX0_writeHeld_172 ?_
        refine lv_iload hx hb dX0_writeHeld_175 (lv_at hl 5 rfl) ?_
        refine lv_iload hx hb dX0_writeHeld_177 (lv_at hl 8 rfl) ?_
        refine lv_iadd hx hb dX0_writeHeld_179 ?_
        refine lv_iconst (v := 2) hx hb dX0_writeHeld_180 (by decide) ?_
        refine vz_Vi2 (ws' := fun u : Unit => vz_w [coW g h ca ci_145 cr_145 cf_145 (da 0) (da 2) ph, cdW g da dr_145 df_3, pgW g ph pa pr pf]) (As := [.int (x5_145 + x8_145), .int 2]) (rest := [.ref h]) hx hb hml hown hts hK hA hP hD hS (c_T_get l D g (da 2) (da 3) H.size 3 500 (dr_145 1) 1500 (df_3 1) (x5_145 + x8_145) 2 ⟨rfl, by decide, by decide, by decide, by decide, hw_d_145 1⟩) kv_X0_63 ⟨by dsimp only; omega, by dsimp only; omega⟩ (q0 := 5) (ci := 6) rfl rfl rfl [5, 6] rfl (by decide) (fun _ => rfl) (fun _ => rfl) hl.1 (Nat.le_of_ble_eq_true rfl) dX0_writeHeld_181 ⟨Nat.le_refl _, Nat.le_refl _⟩ rfl (fun v4 _ H locs he5 _ hP hD hS => ?_)
        refine va_put (D := D) (ci := 0) (v := .int v4) (ty := .int) (C := RX0) (T := TX0) (N := 8) hx hb hts inlX0 tyX0 tyX0_ok nmX0 hown hK hP hD hS 0 rfl rfl 6 (by decide) (hts _ q622) (fun _ h => h) rfl (by decide +kernel) rfl rfl (Nat.le_of_ble_eq_true rfl) dX0_writeHeld_184 (fun H locs hP hD hS => ?_)
        obtain ⟨ci_6, hci_6, hP, hD⟩ : ∃ ci_6 : Nat → Int32, (ci_6 = (upd ci_145 2 v4)) ∧ va_P D vwCl (vz_w [coW g h ca ci_6 cr_145 cf_145 (da 0) (da 2) ph, cdW g da dr_145 df_3, pgW g ph pa pr pf]) H ∧ va_D A (vz_w [coW g h ca ci_6 cr_145 cf_145 (da 0) (da 2) ph, cdW g da dr_145 df_3, pgW g ph pa pr pf]) := ⟨(upd ci_145 2 v4), rfl, hP, hD⟩
        refine lv_aload_n hx hb dX0_writeHeld_187 rfl (lv_at hl 0 rfl) ?_
        refine lv_bipush (v := 29) hx hb dX0_writeHeld_188 (by decide) ?_
        refine lv_aload_n hx hb dX0_writeHeld_190 rfl (lv_at hl 0 rfl) ?_
        refine lv_iload_n hx hb dX0_writeHeld_191 rfl (lv_at hl 1 rfl) ?_
        refine vz_Vi3 (As := [.int n1]) (rest := [.int 29, .ref h]) hx hb hml hown hts hK hA hP hD hS (a_C_levelOf l D g H.size h ca ci_6 cr_145 cf_145 da ph dr_145 df_3 pa pr pf n1 hw_c_145 hw_d_145 hw_p) kv_X0_116 ⟨by dsimp only; omega, by dsimp only; omega⟩ (q0 := 0) (ci := 0) rfl rfl rfl  hl.1 (Nat.le_of_ble_eq_true rfl) dX0_writeHeld_192 ⟨Nat.le_refl _, Nat.le_refl _⟩ rfl (fun v7 _ H locs _ _ hP hD hS => ?_)
        refine lv_iconst (v := 0) hx hb dX0_writeHeld_195 (by decide) ?_
        refine vz_Vi3 (As := [.int 29, .int v7, .int 0]) (rest := []) hx hb hml hown hts hK hA hP hD hS (a_C_emit l D g H.size h ca ci_6 cr_145 cf_145 da ph dr_145 df_3 pa pr pf 29 v7 0 hw_c_145 hw_d_145 hw_p) kv_X0_70 ⟨by dsimp only; omega, by dsimp only; omega⟩ (q0 := 0) (ci := 0) rfl rfl rfl  hl.1 (Nat.le_of_ble_eq_true rfl) dX0_writeHeld_196 ⟨Nat.le_refl _, Nat.le_refl _⟩ rfl (fun v12 ⟨ci_8, dr_9, df_10⟩ H locs hw_11 _ hP hD hS => ?_)
        try dsimp only at hw_11
        replace hP : va_P D vwCl (vz_w [coW g h ca ci_8 cr_145 cf_145 (da 0) (da 2) ph, cdW g da dr_9 df_10, pgW g ph pa pr pf]) H := hP
        replace hD : va_D A (vz_w [coW g h ca ci_8 cr_145 cf_145 (da 0) (da 2) ph, cdW g da dr_9 df_10, pgW g ph pa pr pf]) := hD
        refine lv_pop hx hb dX0_writeHeld_199 rfl ?_
        refine lv_aload_n hx hb dX0_writeHeld_200 rfl (lv_at hl 0 rfl) ?_
        refine lv_bipush (v := 36) hx hb dX0_writeHeld_201 (by decide) ?_
        refine lv_iload_n hx hb dX0_writeHeld_203 rfl (lv_at hl 1 rfl) ?_
        refine lv_iload hx hb dX0_writeHeld_204 (lv_at hl 8 rfl) ?_
        refine vz_Vi3 (As := [.int 36, .int n1, .int x8_145]) (rest := []) hx hb hml hown hts hK hA hP hD hS (a_C_emit l D g H.size h ca ci_8 cr_145 cf_145 da ph dr_9 df_10 pa pr pf 36 n1 x8_145 hw_c_145 hw_11 hw_p) kv_X0_70 ⟨by dsimp only; omega, by dsimp only; omega⟩ (q0 := 0) (ci := 0) rfl rfl rfl  hl.1 (Nat.le_of_ble_eq_true rfl) dX0_writeHeld_206 ⟨Nat.le_refl _, Nat.le_refl _⟩ rfl (fun v17 ⟨ci_13, dr_14, df_15⟩ H locs hw_16 _ hP hD hS => ?_)
        try dsimp only at hw_16
        replace hP : va_P D vwCl (vz_w [coW g h ca ci_13 cr_145 cf_145 (da 0) (da 2) ph, cdW g da dr_14 df_15, pgW g ph pa pr pf]) H := hP
        replace hD : va_D A (vz_w [coW g h ca ci_13 cr_145 cf_145 (da 0) (da 2) ph, cdW g da dr_14 df_15, pgW g ph pa pr pf]) := hD
        refine lv_pop hx hb dX0_writeHeld_209 rfl ?_
        refine lv_aload_n hx hb dX0_writeHeld_210 rfl (lv_at hl 0 rfl) ?_
        refine lv_bipush (v := 27) hx hb dX0_writeHeld_211 (by decide) ?_
        refine lv_aload_n hx hb dX0_writeHeld_213 rfl (lv_at hl 0 rfl) ?_
        refine lv_iload_n hx hb dX0_writeHeld_214 rfl (lv_at hl 1 rfl) ?_
        refine vz_Vi3 (As := [.int n1]) (rest := [.int 27, .ref h]) hx hb hml hown hts hK hA hP hD hS (a_C_levelOf l D g H.size h ca ci_13 cr_145 cf_145 da ph dr_14 df_15 pa pr pf n1 hw_c_145 hw_16 hw_p) kv_X0_116 ⟨by dsimp only; omega, by dsimp only; omega⟩ (q0 := 0) (ci := 0) rfl rfl rfl  hl.1 (Nat.le_of_ble_eq_true rfl) dX0_writeHeld_215 ⟨Nat.le_refl _, Nat.le_refl _⟩ rfl (fun v18 _ H locs _ _ hP hD hS => ?_)
        refine lv_iconst (v := 0) hx hb dX0_writeHeld_218 (by decide) ?_
        refine vz_Vi3 (As := [.int 27, .int v18, .int 0]) (rest := []) hx hb hml hown hts hK hA hP hD hS (a_C_emit l D g H.size h ca ci_13 cr_145 cf_145 da ph dr_14 df_15 pa pr pf 27 v18 0 hw_c_145 hw_16 hw_p) kv_X0_70 ⟨by dsimp only; omega, by dsimp only; omega⟩ (q0 := 0) (ci := 0) rfl rfl rfl  hl.1 (Nat.le_of_ble_eq_true rfl) dX0_writeHeld_219 ⟨Nat.le_refl _, Nat.le_refl _⟩ rfl (fun v23 ⟨ci_19, dr_20, df_21⟩ H locs hw_22 _ hP hD hS => ?_)
        try dsimp only at hw_22
        replace hP : va_P D vwCl (vz_w [coW g h ca ci_19 cr_145 cf_145 (da 0) (da 2) ph, cdW g da dr_20 df_21, pgW g ph pa pr pf]) H := hP
        replace hD : va_D A (vz_w [coW g h ca ci_19 cr_145 cf_145 (da 0) (da 2) ph, cdW g da dr_20 df_21, pgW g ph pa pr pf]) := hD
        refine lv_pop hx hb dX0_writeHeld_222 rfl ?_
        refine lv_iinc (v := (x8_145 + (-1))) (lv' := [(8, .int (x8_145 + (-1))), (0, .ref h), (1, .int n1), (2, .int (nI dn)), (3, .int n3), (4, .int x4_145), (5, .int x5_145), (6, .int x6_145), (7, .int x7_145)]) hx hb dX0_writeHeld_223 hl (k := 8) rfl (rfl) (by decide) rfl (fun ls hl => ?_)
        refine lv_goto (tgt := 145) hx hb dX0_writeHeld_226 (by decide) ?_
        exact ih145 x4_145 x5_145 x6_145 x7_145 (x8_145 + (-1)) ci_19 cr_145 cf_145 dr_20 df_21 hn145 hw_c_145 hw_22 H locs ls hP hD hS (lv_sub hl [1, 2, 3, 4, 5, 6, 7, 8, 0] rfl)
  have J122 : ∀ (x4_122 : Int32), ∀ (x5_122 : Int32), ∀ (x6_122 : Int32), ∀ (ci_122 : Nat → Int32), ∀ (cr_122 : Nat → Nat), ∀ (cf_122 : Nat → Nat → Int32), ∀ (dr_122 : Nat → Nat), ∀ (df_122 : Nat → Nat → Int32), (∀ k, cr_122 k ≤ coW_lim k) → (∀ k, dr_122 k ≤ cdW_lim k) → ∀ (H : Heap) (locs : List Loc) (ls : Array Slot), va_P D vwCl (vz_w [coW g h ca ci_122 cr_122 cf_122 (da 0) (da 2) ph, cdW g da dr_122 df_122, pgW g ph pa pr pf]) H → va_D A (vz_w [coW g h ca ci_122 cr_122 cf_122 (da 0) (da 2) ph, cdW g da dr_122 df_122, pgW g ph pa pr pf]) → va_S A s.heap H locs → lv_has ls 9 [(0, .ref h), (1, .int n1), (2, .int (nI dn)), (3, .int n3), (4, .int x4_122), (5, .int x5_122), (6, .int x6_122)] → W p l e { frames := (7 * (16 - dn) + 114), cells := 0, slots := 0, locals := (203 * (16 - dn) + 4116) } s m args below meth c H locs 0 0 Q (F0 m 122 ls []) := by
    intro x4_122 x5_122 x6_122 ci_122 cr_122 cf_122 dr_122 df_122 hw_c_122 hw_d_122 H locs ls hP hD hS hl
    refine lv_aload_n hx hb dX0_writeHeld_122 rfl (lv_at hl 0 rfl) ?_
    refine lv_iload_n hx hb dX0_writeHeld_123 rfl (lv_at hl 1 rfl) ?_
    refine lv_iload hx hb dX0_writeHeld_124 (lv_at hl 5 rfl) ?_
    refine vz_Vv3 (As := [.int n1, .int x5_122]) (rest := []) hx hb hml hown hts hK hA hP hD hS (a_C_writeClosings l D g H.size h ca ci_122 cr_122 cf_122 da ph dr_122 df_122 pa pr pf n1 x5_122 hw_c_122 hw_d_122 hw_p) kv_X0_129 ⟨by dsimp only; omega, by dsimp only; omega⟩ (q0 := 0) (ci := 0) rfl rfl rfl  hl.1 (Nat.le_of_ble_eq_true rfl) dX0_writeHeld_126 ⟨Nat.le_refl _, Nat.le_refl _⟩ rfl (fun ⟨ci_1, dr_2, df_3⟩ H locs hw_4 _ hP hD hS => ?_)
    try dsimp only at hw_4
    replace hP : va_P D vwCl (vz_w [coW g h ca ci_1 cr_122 cf_122 (da 0) (da 2) ph, cdW g da dr_2 df_3, pgW g ph pa pr pf]) H := hP
    replace hD : va_D A (vz_w [coW g h ca ci_1 cr_122 cf_122 (da 0) (da 2) ph, cdW g da dr_2 df_3, pgW g ph pa pr pf]) := hD
    refine lv_aload_n hx hb dX0_writeHeld_129 rfl (lv_at hl 0 rfl) ?_
    refine lv_iload_n hx hb dX0_writeHeld_130 rfl (lv_at hl 3 rfl) ?_
    refine lv_iload_n hx hb dX0_writeHeld_131 rfl (lv_at hl 2 rfl) ?_
    refine lv_bipush (v := (-9)) hx hb dX0_writeHeld_132 (by decide) ?_
    refine vz_Vi3 (As := [.int n3, .int (nI dn), .int (-9)]) (rest := []) hx hb hml hown hts hK hA hP hD hS (a_C_writeEnd l D g dn hdn hB H.size h ca ci_1 cr_122 cf_122 da ph dr_2 df_3 pa pr pf n3 (-9) hw_c_122 hw_4 hw_p) kv_X0_158 ⟨by dsimp only; omega, by dsimp only; omega⟩ (q0 := 0) (ci := 0) rfl rfl rfl  hl.1 (Nat.le_of_ble_eq_true rfl) dX0_writeHeld_134 ⟨Nat.le_refl _, Nat.le_refl _⟩ rfl (fun v12 ⟨ci_5, cr_6, cf_7, dr_8, df_9⟩ H locs ⟨hw_10, hw_11⟩ _ hP hD hS => ?_)
    try dsimp only at hw_10 hw_11
    replace hP : va_P D vwCl (vz_w [coW g h ca ci_5 cr_6 cf_7 (da 0) (da 2) ph, cdW g da dr_8 df_9, pgW g ph pa pr pf]) H := hP
    replace hD : va_D A (vz_w [coW g h ca ci_5 cr_6 cf_7 (da 0) (da 2) ph, cdW g da dr_8 df_9, pgW g ph pa pr pf]) := hD
    refine lv_istore (lv' := [(7, .int v12), (0, .ref h), (1, .int n1), (2, .int (nI dn)), (3, .int n3), (4, .int x4_122), (5, .int x5_122), (6, .int x6_122)]) hx hb dX0_writeHeld_137 hl (by decide) rfl (fun ls hl => ?_)
    refine lv_iload hx hb dX0_writeHeld_139 (lv_at hl 5 rfl) ?_
    refine lv_iconst (v := 1) hx hb dX0_writeHeld_141 (by decide) ?_
    refine lv_isub hx hb dX0_writeHeld_142 ?_
    refine lv_istore (lv' := [(8, .int (x4_122 - 1)), (7, .int v12), (0, .ref h), (1, .int n1), (2, .int (nI dn)), (3, .int n3), (4, .int x4_122), (5, .int x5_122), (6, .int x6_122)]) hx hb dX0_writeHeld_143 hl (by decide) rfl (fun ls hl => ?_)
    exact J145 (2 ^ 34) x4_122 x5_122 x6_122 v12 (x4_122 - 1) ci_5 cr_6 cf_7 dr_8 df_9 (vz_mc _) hw_10 hw_11 H locs ls hP hD hS (lv_sub hl [2, 3, 4, 5, 6, 7, 8, 1, 0] rfl)
  have J78 : ∀ (x4_78 : Int32), ∀ (x5_78 : Int32), ∀ (x6_78 : Int32), ∀ (y0_78 : Int32), ∀ (ci_78 : Nat → Int32), ∀ (cr_78 : Nat → Nat), ∀ (cf_78 : Nat → Nat → Int32), ∀ (dr_78 : Nat → Nat), ∀ (df_78 : Nat → Nat → Int32), (∀ k, cr_78 k ≤ coW_lim k) → (∀ k, dr_78 k ≤ cdW_lim k) → ∀ (H : Heap) (locs : List Loc) (ls : Array Slot), va_P D vwCl (vz_w [coW g h ca ci_78 cr_78 cf_78 (da 0) (da 2) ph, cdW g da dr_78 df_78, pgW g ph pa pr pf]) H → va_D A (vz_w [coW g h ca ci_78 cr_78 cf_78 (da 0) (da 2) ph, cdW g da dr_78 df_78, pgW g ph pa pr pf]) → va_S A s.heap H locs → lv_has ls 9 [(0, .ref h), (1, .int n1), (2, .int (nI dn)), (3, .int n3), (4, .int x4_78), (5, .int x5_78), (6, .int x6_78)] → W p l e { frames := (7 * (16 - dn) + 114), cells := 0, slots := 0, locals := (203 * (16 - dn) + 4116) } s m args below meth c H locs 0 0 Q (F0 m 78 ls [.int y0_78]) := by
    intro x4_78 x5_78 x6_78 y0_78 ci_78 cr_78 cf_78 dr_78 df_78 hw_c_78 hw_d_78 H locs ls hP hD hS hl
    refine lv_istore (lv' := [(6, .int y0_78), (0, .ref h), (1, .int n1), (2, .int (nI dn)), (3, .int n3), (4, .int x4_78), (5, .int x5_78)]) hx hb dX0_writeHeld_78 hl (by decide) rfl (fun ls hl => ?_)
    refine lv_aload_n hx hb dX0_writeHeld_80 rfl (lv_at hl 1 rfl) ?_
    refine va_get (D := D) (ci := 0) (v := .ref (ca 0)) (C := RX0) (T := TX0) (N := 8) hx hb hts inlX0 hown hK hP 0 rfl rfl 2 (by decide) (hts _ q112) (fun _ h => h) rfl dX0_writeHeld_81 ?_
    refine lv_iload hx hb dX0_writeHeld_84 (lv_at hl 0 rfl) ?_
    refine lv_iconst (v := 5) hx hb dX0_writeHeld_86 (by decide) ?_
    refine lv_iload hx hb dX0_writeHeld_87 (lv_at hl 6 rfl) ?_
    refine vz_Vv2 (ws' := fun u : (Nat → Int32) => vz_w [coW g h ca ci_78 cr_78 (vz_uf cf_78 0 u) (da 0) (da 2) ph, cdW g da dr_78 df_78, pgW g ph pa pr pf]) (As := [.int y0_78, .int 5, .int x5_78]) (rest := []) hx hb hml hown hts hK hA hP hD hS (c_T_set l D g (ca 0) (ca 1) H.size 6 64 (cr_78 0) 384 (cf_78 0) y0_78 5 x5_78 ⟨rfl, by decide, by decide, by decide, by decide, hw_c_78 0⟩) kv_X0_53 ⟨by dsimp only; omega, by dsimp only; omega⟩ (q0 := 1) (ci := 6) rfl rfl rfl [1, 2] rfl (by decide) (fun _ => rfl) (fun _ => rfl) hl.1 (Nat.le_of_ble_eq_true rfl) dX0_writeHeld_89 ⟨Nat.le_refl _, Nat.le_refl _⟩ rfl (fun nf1 H locs _ _ hP hD hS => ?_)
    obtain ⟨cf_2, hP, hD⟩ : ∃ cf_2 : Nat → Nat → Int32, va_P D vwCl (vz_w [coW g h ca ci_78 cr_78 cf_2 (da 0) (da 2) ph, cdW g da dr_78 df_78, pgW g ph pa pr pf]) H ∧ va_D A (vz_w [coW g h ca ci_78 cr_78 cf_2 (da 0) (da 2) ph, cdW g da dr_78 df_78, pgW g ph pa pr pf]) := ⟨(vz_uf cf_78 0 nf1), hP, hD⟩
    refine lv_aload_n hx hb dX0_writeHeld_92 rfl (lv_at hl 1 rfl) ?_
    refine lv_aload_n hx hb dX0_writeHeld_93 rfl (lv_at hl 1 rfl) ?_
    refine va_get (D := D) (ci := 0) (v := .ref ph) (C := RX0) (T := TX0) (N := 8) hx hb hts inlX0 hown hK hP 0 rfl rfl 3 (by decide) (hts _ q108) (fun _ h => h) rfl dX0_writeHeld_94 ?_
    refine va_get (D := D) (ci := 2) (v := .ref (pa 0)) (C := RX2) (T := TX2) (N := 5) hx hb hts inlX2 hown hK hP 7 rfl rfl 0 (by decide) (hts _ q631) (fun _ h => h) rfl dX0_writeHeld_97 ?_
    refine lv_iload_n hx hb dX0_writeHeld_100 rfl (lv_at hl 2 rfl) ?_
    refine lv_iconst (v := 5) hx hb dX0_writeHeld_101 (by decide) ?_
    refine vz_Vi2 (ws' := fun u : Unit => vz_w [coW g h ca ci_78 cr_78 cf_2 (da 0) (da 2) ph, cdW g da dr_78 df_78, pgW g ph pa pr pf]) (As := [.int n1, .int 5]) (rest := [.ref h]) hx hb hml hown hts hK hA hP hD hS (c_T_get l D g (pa 0) (pa 1) H.size 12 80 (pr 0) 960 (pf 0) n1 5 ⟨rfl, by decide, by decide, by decide, by decide, hw_p 0⟩) kv_X0_63 ⟨by dsimp only; omega, by dsimp only; omega⟩ (q0 := 8) (ci := 6) rfl rfl rfl [8, 9] rfl (by decide) (fun _ => rfl) (fun _ => rfl) hl.1 (Nat.le_of_ble_eq_true rfl) dX0_writeHeld_102 ⟨Nat.le_refl _, Nat.le_refl _⟩ rfl (fun v3 _ H locs he4 _ hP hD hS => ?_)
    refine lv_iload_n hx hb dX0_writeHeld_105 rfl (lv_at hl 3 rfl) ?_
    refine lv_iconst (v := 1) hx hb dX0_writeHeld_106 (by decide) ?_
    refine lv_iadd hx hb dX0_writeHeld_107 ?_
    refine lv_topi (nm_r (e' := (nI (dn + 1))) (nI_1 dn) ?_)
    refine vz_Vv3 (As := [.int v3, .int (nI (dn + 1))]) (rest := []) hx hb hml hown hts hK hA hP hD hS (hB H.size h ca ci_78 cr_78 cf_2 da ph dr_78 df_78 pa pr pf v3 hw_c_78 hw_d_78 hw_p) kv_X0_67 ⟨by dsimp only; omega, by dsimp only; omega⟩ (q0 := 0) (ci := 0) rfl rfl rfl  hl.1 (Nat.le_of_ble_eq_true rfl) dX0_writeHeld_108 ⟨Nat.le_refl _, Nat.le_refl _⟩ rfl (fun ⟨ci_5, cr_6, cf_7, dr_8, df_9⟩ H locs ⟨hw_10, hw_11⟩ _ hP hD hS => ?_)
    try dsimp only at hw_10 hw_11
    replace hP : va_P D vwCl (vz_w [coW g h ca ci_5 cr_6 cf_7 (da 0) (da 2) ph, cdW g da dr_8 df_9, pgW g ph pa pr pf]) H := hP
    replace hD : va_D A (vz_w [coW g h ca ci_5 cr_6 cf_7 (da 0) (da 2) ph, cdW g da dr_8 df_9, pgW g ph pa pr pf]) := hD
    refine lv_iload hx hb dX0_writeHeld_111 (lv_at hl 5 rfl) ?_
    refine lv_if_le (tgt := 122) hx hb dX0_writeHeld_113 (by decide) (fun kc12 => ?_) (fun kc12 => ?_)
    · exact J122 x4_78 x5_78 y0_78 ci_5 cr_6 cf_7 dr_8 df_9 hw_10 hw_11 H locs ls hP hD hS (lv_sub hl [1, 2, 3, 4, 5, 6, 0] rfl)
    · refine lv_aload_n hx hb dX0_writeHeld_116 rfl (lv_at hl 1 rfl) ?_
      refine lv_iload hx hb dX0_writeHeld_117 (lv_at hl 0 rfl) ?_
      refine vz_Vv3 (As := [.int y0_78]) (rest := []) hx hb hml hown hts hK hA hP hD hS (a_C_popContext l D g H.size h ca ci_5 cr_6 cf_7 da ph dr_8 df_9 pa pr pf y0_78 hw_10 hw_11 hw_p) kv_X0_123 ⟨by dsimp only; omega, by dsimp only; omega⟩ (q0 := 0) (ci := 0) rfl rfl rfl  hl.1 (Nat.le_of_ble_eq_true rfl) dX0_writeHeld_119 ⟨Nat.le_refl _, Nat.le_refl _⟩ rfl (fun ⟨ci_13, cr_14⟩ H locs hw_15 _ hP hD hS => ?_)
      try dsimp only at hw_15
      replace hP : va_P D vwCl (vz_w [coW g h ca ci_13 cr_14 cf_7 (da 0) (da 2) ph, cdW g da dr_8 df_9, pgW g ph pa pr pf]) H := hP
      replace hD : va_D A (vz_w [coW g h ca ci_13 cr_14 cf_7 (da 0) (da 2) ph, cdW g da dr_8 df_9, pgW g ph pa pr pf]) := hD
      exact J122 x4_78 x5_78 y0_78 ci_13 cr_14 cf_7 dr_8 df_9 hw_15 hw_11 H locs ls hP hD hS (lv_sub hl [1, 2, 3, 4, 5, 6, 0] rfl)
  have J26 : ∀ fu26 : Nat, ∀ (x4_26 : Int32), ∀ (x5_26 : Int32), ∀ (x6_26 : Int32), ∀ (ci_26 : Nat → Int32), ∀ (cr_26 : Nat → Nat), ∀ (cf_26 : Nat → Nat → Int32), ∀ (dr_26 : Nat → Nat), ∀ (df_26 : Nat → Nat → Int32), (x4_26.toInt - x6_26.toInt).toNat < fu26 → (∀ k, cr_26 k ≤ coW_lim k) → (∀ k, dr_26 k ≤ cdW_lim k) → ∀ (H : Heap) (locs : List Loc) (ls : Array Slot), va_P D vwCl (vz_w [coW g h ca ci_26 cr_26 cf_26 (da 0) (da 2) ph, cdW g da dr_26 df_26, pgW g ph pa pr pf]) H → va_D A (vz_w [coW g h ca ci_26 cr_26 cf_26 (da 0) (da 2) ph, cdW g da dr_26 df_26, pgW g ph pa pr pf]) → va_S A s.heap H locs → lv_has ls 9 [(0, .ref h), (1, .int n1), (2, .int (nI dn)), (3, .int n3), (4, .int x4_26), (5, .int x5_26), (6, .int x6_26)] → W p l e { frames := (7 * (16 - dn) + 114), cells := 0, slots := 0, locals := (203 * (16 - dn) + 4116) } s m args below meth c H locs 0 0 Q (F0 m 26 ls []) := by
    intro fu26
    induction fu26 with
    | zero => intro x4_26 x5_26 x6_26 ci_26 cr_26 cf_26 dr_26 df_26 hf26 hw_c_26 hw_d_26 H locs ls hP hD hS hl; exact absurd hf26 (Nat.not_lt_zero _)
    | succ fu26 ih26 =>
      intro x4_26 x5_26 x6_26 ci_26 cr_26 cf_26 dr_26 df_26 hf26 hw_c_26 hw_d_26 H locs ls hP hD hS hl
      refine lv_iload hx hb dX0_writeHeld_26 (lv_at hl 6 rfl) ?_
      refine lv_iload hx hb dX0_writeHeld_28 (lv_at hl 4 rfl) ?_
      refine lv_icmp_ge (tgt := 62) hx hb dX0_writeHeld_30 (by decide) (fun kc1 => ?_) (fun kc1 => ?_)
      · refine lv_iload hx hb dX0_writeHeld_62 (lv_at hl 4 rfl) ?_
        refine lv_if_le (tgt := 76) hx hb dX0_writeHeld_64 (by decide) (fun kc2 => ?_) (fun kc2 => ?_)
        · refine lv_bipush (v := (-9)) hx hb dX0_writeHeld_76 (by decide) ?_
          exact J78 x4_26 x5_26 x6_26 (-9) ci_26 cr_26 cf_26 dr_26 df_26 hw_c_26 hw_d_26 H locs ls hP hD hS (lv_sub hl [0, 1, 2, 3, 4, 5, 6] rfl)
        · refine lv_aload_n hx hb dX0_writeHeld_67 rfl (lv_at hl 0 rfl) ?_
          refine lv_iconst (v := 1) hx hb dX0_writeHeld_68 (by decide) ?_
          refine lv_iload_n hx hb dX0_writeHeld_69 rfl (lv_at hl 1 rfl) ?_
          refine vz_Vi3 (As := [.int 1, .int n1]) (rest := []) hx hb hml hown hts hK hA hP hD hS (a_C_pushContext l D g H.size h ca ci_26 cr_26 cf_26 da ph dr_26 df_26 pa pr pf 1 n1 hw_c_26 hw_d_26 hw_p) kv_X0_120 ⟨by dsimp only; omega, by dsimp only; omega⟩ (q0 := 0) (ci := 0) rfl rfl rfl  hl.1 (Nat.le_of_ble_eq_true rfl) dX0_writeHeld_70 ⟨Nat.le_refl _, Nat.le_refl _⟩ rfl (fun v7 ⟨ci_3, cr_4, cf_5⟩ H locs hw_6 _ hP hD hS => ?_)
          try dsimp only at hw_6
          replace hP : va_P D vwCl (vz_w [coW g h ca ci_3 cr_4 cf_5 (da 0) (da 2) ph, cdW g da dr_26 df_26, pgW g ph pa pr pf]) H := hP
          replace hD : va_D A (vz_w [coW g h ca ci_3 cr_4 cf_5 (da 0) (da 2) ph, cdW g da dr_26 df_26, pgW g ph pa pr pf]) := hD
          refine lv_goto (tgt := 78) hx hb dX0_writeHeld_73 (by decide) ?_
          exact J78 x4_26 x5_26 x6_26 v7 ci_3 cr_4 cf_5 dr_26 df_26 hw_6 hw_d_26 H locs ls hP hD hS (lv_sub hl [0, 1, 2, 3, 4, 5, 6] rfl)
      · have hn26 : (x4_26.toInt - (x6_26 + 1).toInt).toNat < fu26 := by have hq := vz_up kc1; omega
        refine lv_aload_n hx hb dX0_writeHeld_33 rfl (lv_at hl 0 rfl) ?_
        refine lv_bipush (v := 34) hx hb dX0_writeHeld_34 (by decide) ?_
        refine lv_iload_n hx hb dX0_writeHeld_36 rfl (lv_at hl 1 rfl) ?_
        refine lv_iload hx hb dX0_writeHeld_37 (lv_at hl 6 rfl) ?_
        refine vz_Vi3 (As := [.int 34, .int n1, .int x6_26]) (rest := []) hx hb hml hown hts hK hA hP hD hS (a_C_emit l D g H.size h ca ci_26 cr_26 cf_26 da ph dr_26 df_26 pa pr pf 34 n1 x6_26 hw_c_26 hw_d_26 hw_p) kv_X0_70 ⟨by dsimp only; omega, by dsimp only; omega⟩ (q0 := 0) (ci := 0) rfl rfl rfl  hl.1 (Nat.le_of_ble_eq_true rfl) dX0_writeHeld_39 ⟨Nat.le_refl _, Nat.le_refl _⟩ rfl (fun v12 ⟨ci_8, dr_9, df_10⟩ H locs hw_11 _ hP hD hS => ?_)
        try dsimp only at hw_11
        replace hP : va_P D vwCl (vz_w [coW g h ca ci_8 cr_26 cf_26 (da 0) (da 2) ph, cdW g da dr_9 df_10, pgW g ph pa pr pf]) H := hP
        replace hD : va_D A (vz_w [coW g h ca ci_8 cr_26 cf_26 (da 0) (da 2) ph, cdW g da dr_9 df_10, pgW g ph pa pr pf]) := hD
        refine lv_pop hx hb dX0_writeHeld_42 rfl ?_
        refine lv_aload_n hx hb dX0_writeHeld_43 rfl (lv_at hl 0 rfl) ?_
        refine lv_aload_n hx hb dX0_writeHeld_44 rfl (lv_at hl 0 rfl) ?_
        refine lv_iconst (v := 0) hx hb dX0_writeHeld_45 (by decide) ?_
        refine lv_aload_n hx hb dX0_writeHeld_46 rfl (lv_at hl 0 rfl) ?_
        refine va_get (D := D) (ci := 0) (v := .int (ci_8 2)) (C := RX0) (T := TX0) (N := 8) hx hb hts inlX0 hown hK hP 0 rfl rfl 6 (by decide) (hts _ q622) (fun _ h => h) rfl dX0_writeHeld_47 ?_
        refine vz_Vi3 (As := [.int 0, .int (ci_8 2)]) (rest := [.ref h]) hx hb hml hown hts hK hA hP hD hS (a_C_newHandler l D g H.size h ca ci_8 cr_26 cf_26 da ph dr_9 df_10 pa pr pf 0 (ci_8 2) hw_c_26 hw_11 hw_p) kv_X0_139 ⟨by dsimp only; omega, by dsimp only; omega⟩ (q0 := 0) (ci := 0) rfl rfl rfl  hl.1 (Nat.le_of_ble_eq_true rfl) dX0_writeHeld_50 ⟨Nat.le_refl _, Nat.le_refl _⟩ rfl (fun v17 ⟨ci_13, dr_14, df_15⟩ H locs hw_16 _ hP hD hS => ?_)
        try dsimp only at hw_16
        replace hP : va_P D vwCl (vz_w [coW g h ca ci_13 cr_26 cf_26 (da 0) (da 2) ph, cdW g da dr_14 df_15, pgW g ph pa pr pf]) H := hP
        replace hD : va_D A (vz_w [coW g h ca ci_13 cr_26 cf_26 (da 0) (da 2) ph, cdW g da dr_14 df_15, pgW g ph pa pr pf]) := hD
        refine va_put (D := D) (ci := 0) (v := .int v17) (ty := .int) (C := RX0) (T := TX0) (N := 8) hx hb hts inlX0 tyX0 tyX0_ok nmX0 hown hK hP hD hS 0 rfl rfl 6 (by decide) (hts _ q622) (fun _ h => h) rfl (by decide +kernel) rfl rfl (Nat.le_of_ble_eq_true rfl) dX0_writeHeld_53 (fun H locs hP hD hS => ?_)
        obtain ⟨ci_18, hci_18, hP, hD⟩ : ∃ ci_18 : Nat → Int32, (ci_18 = (upd ci_13 2 v17)) ∧ va_P D vwCl (vz_w [coW g h ca ci_18 cr_26 cf_26 (da 0) (da 2) ph, cdW g da dr_14 df_15, pgW g ph pa pr pf]) H ∧ va_D A (vz_w [coW g h ca ci_18 cr_26 cf_26 (da 0) (da 2) ph, cdW g da dr_14 df_15, pgW g ph pa pr pf]) := ⟨(upd ci_13 2 v17), rfl, hP, hD⟩
        refine lv_iinc (v := (x6_26 + 1)) (lv' := [(6, .int (x6_26 + 1)), (0, .ref h), (1, .int n1), (2, .int (nI dn)), (3, .int n3), (4, .int x4_26), (5, .int x5_26)]) hx hb dX0_writeHeld_56 hl (k := 6) rfl (rfl) (by decide) rfl (fun ls hl => ?_)
        refine lv_goto (tgt := 26) hx hb dX0_writeHeld_59 (by decide) ?_
        exact ih26 x4_26 x5_26 (x6_26 + 1) ci_18 cr_26 cf_26 dr_14 df_15 hn26 hw_c_26 hw_16 H locs ls hP hD hS (lv_sub hl [1, 2, 3, 4, 5, 6, 0] rfl)
  refine lv_aload_n hx hb dX0_writeHeld_0 rfl (lv_at hl 0 rfl) ?_
  refine va_get (D := D) (ci := 0) (v := .ref ph) (C := RX0) (T := TX0) (N := 8) hx hb hts inlX0 hown hK hP 0 rfl rfl 3 (by decide) (hts _ q108) (fun _ h => h) rfl dX0_writeHeld_1 ?_
  refine va_get (D := D) (ci := 2) (v := .ref (pa 0)) (C := RX2) (T := TX2) (N := 5) hx hb hts inlX2 hown hK hP 7 rfl rfl 0 (by decide) (hts _ q631) (fun _ h => h) rfl dX0_writeHeld_4 ?_
  refine lv_iload_n hx hb dX0_writeHeld_7 rfl (lv_at hl 1 rfl) ?_
  refine lv_iconst (v := 1) hx hb dX0_writeHeld_8 (by decide) ?_
  refine vz_Vi2 (ws' := fun u : Unit => vz_w [coW g h ca ci cr cf (da 0) (da 2) ph, cdW g da dr df, pgW g ph pa pr pf]) (As := [.int n1, .int 1]) (rest := []) hx hb hml hown hts hK hA hP hD hS (c_T_get l D g (pa 0) (pa 1) H.size 12 80 (pr 0) 960 (pf 0) n1 1 ⟨rfl, by decide, by decide, by decide, by decide, hw_p 0⟩) kv_X0_63 ⟨by dsimp only; omega, by dsimp only; omega⟩ (q0 := 8) (ci := 6) rfl rfl rfl [8, 9] rfl (by decide) (fun _ => rfl) (fun _ => rfl) hl.1 (Nat.le_of_ble_eq_true rfl) dX0_writeHeld_9 ⟨Nat.le_refl _, Nat.le_refl _⟩ rfl (fun v1 _ H locs he2 _ hP hD hS => ?_)
  refine lv_istore (lv' := [(4, .int v1), (0, .ref h), (1, .int n1), (2, .int (nI dn)), (3, .int n3)]) hx hb dX0_writeHeld_12 hl (by decide) rfl (fun ls hl => ?_)
  refine lv_aload_n hx hb dX0_writeHeld_14 rfl (lv_at hl 1 rfl) ?_
  refine va_get (D := D) (ci := 0) (v := .ref (da 2)) (C := RX0) (T := TX0) (N := 8) hx hb hts inlX0 hown hK hP 0 rfl rfl 1 (by decide) (hts _ q111) (fun _ h => h) rfl dX0_writeHeld_15 ?_
  refine va_get (D := D) (ci := 6) (v := .int (nI (dr 1))) (C := RX6) (T := TX6) (N := 4) hx hb hts inlX6 hown hK hP 5 rfl rfl 3 (by decide) (hts _ q621) (fun _ h => h) rfl dX0_writeHeld_18 ?_
  refine lv_istore (lv' := [(5, .int (nI (dr 1))), (4, .int v1), (0, .ref h), (1, .int n1), (2, .int (nI dn)), (3, .int n3)]) hx hb dX0_writeHeld_21 hl (by decide) rfl (fun ls hl => ?_)
  refine lv_iconst (v := 0) hx hb dX0_writeHeld_23 (by decide) ?_
  refine lv_istore (lv' := [(6, .int 0), (5, .int (nI (dr 1))), (4, .int v1), (0, .ref h), (1, .int n1), (2, .int (nI dn)), (3, .int n3)]) hx hb dX0_writeHeld_24 hl (by decide) rfl (fun ls hl => ?_)
  exact J26 (2 ^ 34) v1 (nI (dr 1)) 0 ci cr cf dr df (vz_mb _ _) hw_c hw_d H locs ls hP hD hS (lv_sub hl [3, 4, 5, 6, 2, 1, 0] rfl)
theorem dX0_writeCatches_0 : decode cX0_writeCatches 0 = .ok (.iload 5, 2) := by decide +kernel
theorem dX0_writeCatches_2 : decode cX0_writeCatches 2 = .ok (.istore 6, 2) := by decide +kernel
theorem dX0_writeCatches_4 : decode cX0_writeCatches 4 = .ok (.aload_n 0, 1) := by decide +kernel
theorem dX0_writeCatches_5 : decode cX0_writeCatches 5 = .ok (.getfield 9, 3) := by decide +kernel
theorem dX0_writeCatches_8 : decode cX0_writeCatches 8 = .ok (.getfield 81, 3) := by decide +kernel
theorem dX0_writeCatches_11 : decode cX0_writeCatches 11 = .ok (.iload_n 1, 1) := by decide +kernel
theorem dX0_writeCatches_12 : decode cX0_writeCatches 12 = .ok (.bipush 11, 2) := by decide +kernel
theorem dX0_writeCatches_14 : decode cX0_writeCatches 14 = .ok (.invokevirtual 63, 3) := by decide +kernel
theorem dX0_writeCatches_17 : decode cX0_writeCatches 17 = .ok (.istore 7, 2) := by decide +kernel
theorem dX0_writeCatches_19 : decode cX0_writeCatches 19 = .ok (.iconst 0, 1) := by decide +kernel
theorem dX0_writeCatches_20 : decode cX0_writeCatches 20 = .ok (.istore 8, 2) := by decide +kernel
theorem dX0_writeCatches_22 : decode cX0_writeCatches 22 = .ok (.iload 8, 2) := by decide +kernel
theorem dX0_writeCatches_24 : decode cX0_writeCatches 24 = .ok (.bipush 112, 2) := by decide +kernel
theorem dX0_writeCatches_26 : decode cX0_writeCatches 26 = .ok (.if_icmp .ge 101, 3) := by decide +kernel
theorem dX0_writeCatches_29 : decode cX0_writeCatches 29 = .ok (.iload 7, 2) := by decide +kernel
theorem dX0_writeCatches_31 : decode cX0_writeCatches 31 = .ok (.bipush (-9), 2) := by decide +kernel
theorem dX0_writeCatches_33 : decode cX0_writeCatches 33 = .ok (.if_icmp .eq 94, 3) := by decide +kernel
theorem dX0_writeCatches_36 : decode cX0_writeCatches 36 = .ok (.aload_n 0, 1) := by decide +kernel
theorem dX0_writeCatches_37 : decode cX0_writeCatches 37 = .ok (.getfield 34, 3) := by decide +kernel
theorem dX0_writeCatches_40 : decode cX0_writeCatches 40 = .ok (.ifCond .ne 87, 3) := by decide +kernel
theorem dX0_writeCatches_43 : decode cX0_writeCatches 43 = .ok (.aload_n 0, 1) := by decide +kernel
theorem dX0_writeCatches_44 : decode cX0_writeCatches 44 = .ok (.getfield 24, 3) := by decide +kernel
theorem dX0_writeCatches_47 : decode cX0_writeCatches 47 = .ok (.iload 4, 2) := by decide +kernel
theorem dX0_writeCatches_49 : decode cX0_writeCatches 49 = .ok (.iload 8, 2) := by decide +kernel
theorem dX0_writeCatches_51 : decode cX0_writeCatches 51 = .ok (.iadd, 1) := by decide +kernel
theorem dX0_writeCatches_52 : decode cX0_writeCatches 52 = .ok (.iconst 1, 1) := by decide +kernel
theorem dX0_writeCatches_53 : decode cX0_writeCatches 53 = .ok (.aload_n 0, 1) := by decide +kernel
theorem dX0_writeCatches_54 : decode cX0_writeCatches 54 = .ok (.getfield 20, 3) := by decide +kernel
theorem dX0_writeCatches_57 : decode cX0_writeCatches 57 = .ok (.getfield 49, 3) := by decide +kernel
theorem dX0_writeCatches_60 : decode cX0_writeCatches 60 = .ok (.invokevirtual 53, 3) := by decide +kernel
theorem dX0_writeCatches_63 : decode cX0_writeCatches 63 = .ok (.aload_n 0, 1) := by decide +kernel
theorem dX0_writeCatches_64 : decode cX0_writeCatches 64 = .ok (.bipush 28, 2) := by decide +kernel
theorem dX0_writeCatches_66 : decode cX0_writeCatches 66 = .ok (.aload_n 0, 1) := by decide +kernel
theorem dX0_writeCatches_67 : decode cX0_writeCatches 67 = .ok (.iload_n 1, 1) := by decide +kernel
theorem dX0_writeCatches_68 : decode cX0_writeCatches 68 = .ok (.invokevirtual 116, 3) := by decide +kernel
theorem dX0_writeCatches_71 : decode cX0_writeCatches 71 = .ok (.iconst 0, 1) := by decide +kernel
theorem dX0_writeCatches_72 : decode cX0_writeCatches 72 = .ok (.invokevirtual 70, 3) := by decide +kernel
theorem dX0_writeCatches_75 : decode cX0_writeCatches 75 = .ok (.pop, 1) := by decide +kernel
theorem dX0_writeCatches_76 : decode cX0_writeCatches 76 = .ok (.aload_n 0, 1) := by decide +kernel
theorem dX0_writeCatches_77 : decode cX0_writeCatches 77 = .ok (.aload_n 0, 1) := by decide +kernel
theorem dX0_writeCatches_78 : decode cX0_writeCatches 78 = .ok (.getfield 9, 3) := by decide +kernel
theorem dX0_writeCatches_81 : decode cX0_writeCatches 81 = .ok (.getfield 155, 3) := by decide +kernel
theorem dX0_writeCatches_84 : decode cX0_writeCatches 84 = .ok (.iload 7, 2) := by decide +kernel
theorem dX0_writeCatches_86 : decode cX0_writeCatches 86 = .ok (.iconst 3, 1) := by decide +kernel
theorem dX0_writeCatches_87 : decode cX0_writeCatches 87 = .ok (.invokevirtual 63, 3) := by decide +kernel
theorem dX0_writeCatches_90 : decode cX0_writeCatches 90 = .ok (.iload_n 2, 1) := by decide +kernel
theorem dX0_writeCatches_91 : decode cX0_writeCatches 91 = .ok (.iconst 1, 1) := by decide +kernel
theorem dX0_writeCatches_92 : decode cX0_writeCatches 92 = .ok (.iadd, 1) := by decide +kernel
theorem dX0_writeCatches_93 : decode cX0_writeCatches 93 = .ok (.invokevirtual 67, 3) := by decide +kernel
theorem dX0_writeCatches_96 : decode cX0_writeCatches 96 = .ok (.aload_n 0, 1) := by decide +kernel
theorem dX0_writeCatches_97 : decode cX0_writeCatches 97 = .ok (.iload_n 3, 1) := by decide +kernel
theorem dX0_writeCatches_98 : decode cX0_writeCatches 98 = .ok (.iload_n 2, 1) := by decide +kernel
theorem dX0_writeCatches_99 : decode cX0_writeCatches 99 = .ok (.iload 6, 2) := by decide +kernel
theorem dX0_writeCatches_101 : decode cX0_writeCatches 101 = .ok (.invokevirtual 158, 3) := by decide +kernel
theorem dX0_writeCatches_104 : decode cX0_writeCatches 104 = .ok (.istore 6, 2) := by decide +kernel
theorem dX0_writeCatches_106 : decode cX0_writeCatches 106 = .ok (.aload_n 0, 1) := by decide +kernel
theorem dX0_writeCatches_107 : decode cX0_writeCatches 107 = .ok (.getfield 9, 3) := by decide +kernel
theorem dX0_writeCatches_110 : decode cX0_writeCatches 110 = .ok (.getfield 155, 3) := by decide +kernel
theorem dX0_writeCatches_113 : decode cX0_writeCatches 113 = .ok (.iload 7, 2) := by decide +kernel
theorem dX0_writeCatches_115 : decode cX0_writeCatches 115 = .ok (.iconst 4, 1) := by decide +kernel
theorem dX0_writeCatches_116 : decode cX0_writeCatches 116 = .ok (.invokevirtual 63, 3) := by decide +kernel
theorem dX0_writeCatches_119 : decode cX0_writeCatches 119 = .ok (.istore 7, 2) := by decide +kernel
theorem dX0_writeCatches_121 : decode cX0_writeCatches 121 = .ok (.iinc 8 1, 3) := by decide +kernel
theorem dX0_writeCatches_124 : decode cX0_writeCatches 124 = .ok (.goto (-102), 3) := by decide +kernel
theorem dX0_writeCatches_127 : decode cX0_writeCatches 127 = .ok (.iload 6, 2) := by decide +kernel
theorem dX0_writeCatches_129 : decode cX0_writeCatches 129 = .ok (.ireturn, 1) := by decide +kernel
set_option maxHeartbeats 8000000 in
set_option maxRecDepth 100000 in
theorem a_C_writeCatches (l : Launch) (D : va_G) (g : Nat → ClassId) (dn : Nat) (hdn : dn ≤ 16) (hB : ∀ (sz : Nat) (h : Nat) (ca : Nat → Nat) (ci : Nat → Int32) (cr : Nat → Nat) (cf : Nat → Nat → Int32) (da : Nat → Nat) (ph : Nat) (dr : Nat → Nat) (df : Nat → Nat → Int32) (pa : Nat → Nat) (pr : Nat → Nat) (pf : Nat → Nat → Int32) (n1 : Int32) (hw_c : ∀ k, cr k ≤ coW_lim k) (hw_d : ∀ k, dr k ≤ cdW_lim k) (hw_p : ∀ k, pr k ≤ pgW_lim k), vz_Mv l D (tyG g) yX0_writeBlock cX0_writeBlock 5 (7 * (17 - (dn + 1)) + 110) (203 * (17 - (dn + 1)) + 4000) 0 0 [.ref h, .int n1, .int (nI (dn + 1))] sz (vz_w [coW g h ca ci cr cf (da 0) (da 2) ph, cdW g da dr df, pgW g ph pa pr pf]) (fun u : (Nat → Int32) × (Nat → Nat) × (Nat → Nat → Int32) × (Nat → Nat) × (Nat → Nat → Int32) => (∀ k, u.2.1 k ≤ coW_lim k) ∧ (∀ k, u.2.2.2.1 k ≤ cdW_lim k)) (fun u => vz_w [coW g h ca u.1 u.2.1 u.2.2.1 (da 0) (da 2) ph, cdW g da u.2.2.2.1 u.2.2.2.2, pgW g ph pa pr pf])) (sz : Nat) (h : Nat) (ca : Nat → Nat) (ci : Nat → Int32) (cr : Nat → Nat) (cf : Nat → Nat → Int32) (da : Nat → Nat) (ph : Nat) (dr : Nat → Nat) (df : Nat → Nat → Int32) (pa : Nat → Nat) (pr : Nat → Nat) (pf : Nat → Nat → Int32) (n1 : Int32) (n3 : Int32) (n4 : Int32) (n5 : Int32) (hw_c : ∀ k, cr k ≤ coW_lim k) (hw_d : ∀ k, dr k ≤ cdW_lim k) (hw_p : ∀ k, pr k ≤ pgW_lim k) : vz_Mi l D (tyG g) yX0_writeCatches cX0_writeCatches 9 (7 * (16 - dn) + 114) (203 * (16 - dn) + 4116) 0 0 .int [.ref h, .int n1, .int (nI dn), .int n3, .int n4, .int n5] sz (vz_w [coW g h ca ci cr cf (da 0) (da 2) ph, cdW g da dr df, pgW g ph pa pr pf]) (fun r (u : (Nat → Int32) × (Nat → Nat) × (Nat → Nat → Int32) × (Nat → Nat) × (Nat → Nat → Int32)) => (∀ k, u.2.1 k ≤ coW_lim k) ∧ (∀ k, u.2.2.2.1 k ≤ cdW_lim k)) (fun u => vz_w [coW g h ca u.1 u.2.1 u.2.2.1 (da 0) (da 2) ph, cdW g da u.2.2.2.1 u.2.2.2.2, pgW g ph pa pr pf]) := by
  refine vz_siQ (by decide) (Nat.le_of_ble_eq_true rfl) (fun p e s m args below meth c hx hb hr hml hts hown hlk hin hK hsz A hA H locs hP hD hS ls hl Q hQ => ?_)
  have hl : lv_has ls 9 [(0, .ref h), (1, .int n1), (2, .int (nI dn)), (3, .int n3), (4, .int n4), (5, .int n5)] := hl
  have J127 : ∀ (x6_127 : Int32), ∀ (x7_127 : Int32), ∀ (x8_127 : Int32), ∀ (ci_127 : Nat → Int32), ∀ (cr_127 : Nat → Nat), ∀ (cf_127 : Nat → Nat → Int32), ∀ (dr_127 : Nat → Nat), ∀ (df_127 : Nat → Nat → Int32), (∀ k, cr_127 k ≤ coW_lim k) → (∀ k, dr_127 k ≤ cdW_lim k) → ∀ (H : Heap) (locs : List Loc) (ls : Array Slot), va_P D vwCl (vz_w [coW g h ca ci_127 cr_127 cf_127 (da 0) (da 2) ph, cdW g da dr_127 df_127, pgW g ph pa pr pf]) H → va_D A (vz_w [coW g h ca ci_127 cr_127 cf_127 (da 0) (da 2) ph, cdW g da dr_127 df_127, pgW g ph pa pr pf]) → va_S A s.heap H locs → lv_has ls 9 [(0, .ref h), (1, .int n1), (2, .int (nI dn)), (3, .int n3), (4, .int n4), (5, .int n5), (6, .int x6_127), (7, .int x7_127), (8, .int x8_127)] → W p l e { frames := (7 * (16 - dn) + 114), cells := 0, slots := 0, locals := (203 * (16 - dn) + 4116) } s m args below meth c H locs 0 0 Q (F0 m 127 ls []) := by
    intro x6_127 x7_127 x8_127 ci_127 cr_127 cf_127 dr_127 df_127 hw_c_127 hw_d_127 H locs ls hP hD hS hl
    refine lv_iload hx hb dX0_writeCatches_127 (lv_at hl 6 rfl) ?_
    rw [hQ]
    exact vz_iret3 hx hb hr hlk hK hP hD hS (ci_127, cr_127, cf_127, dr_127, df_127) (⟨hw_c_127, hw_d_127⟩) rfl (Nat.le_refl 0) (Nat.le_refl 0) dX0_writeCatches_129
  have J22 : ∀ (fu22 n22 : Nat), 112 - n22 < fu22 → n22 ≤ 112 → ∀ (x6_22 : Int32), ∀ (x7_22 : Int32), ∀ (ci_22 : Nat → Int32), ∀ (cr_22 : Nat → Nat), ∀ (cf_22 : Nat → Nat → Int32), ∀ (dr_22 : Nat → Nat), ∀ (df_22 : Nat → Nat → Int32), (∀ k, cr_22 k ≤ coW_lim k) → (∀ k, dr_22 k ≤ cdW_lim k) → ∀ (H : Heap) (locs : List Loc) (ls : Array Slot), va_P D vwCl (vz_w [coW g h ca ci_22 cr_22 cf_22 (da 0) (da 2) ph, cdW g da dr_22 df_22, pgW g ph pa pr pf]) H → va_D A (vz_w [coW g h ca ci_22 cr_22 cf_22 (da 0) (da 2) ph, cdW g da dr_22 df_22, pgW g ph pa pr pf]) → va_S A s.heap H locs → lv_has ls 9 [(0, .ref h), (1, .int n1), (2, .int (nI dn)), (3, .int n3), (4, .int n4), (5, .int n5), (6, .int x6_22), (7, .int x7_22), (8, .int (nI n22))] → W p l e { frames := (7 * (16 - dn) + 114), cells := 0, slots := 0, locals := (203 * (16 - dn) + 4116) } s m args below meth c H locs 0 0 Q (F0 m 22 ls []) := by
    intro fu22
    induction fu22 with
    | zero => intro n22 z; omega
    | succ fu22 ih22 =>
      intro n22 hf22 hb22 x6_22 x7_22 ci_22 cr_22 cf_22 dr_22 df_22 hw_c_22 hw_d_22 H locs ls hP hD hS hl
      refine lv_iload hx hb dX0_writeCatches_22 (lv_at hl 8 rfl) ?_
      refine lv_bipush (v := 112) hx hb dX0_writeCatches_24 (by decide) ?_
      refine lv_icmp_ge (tgt := 127) hx hb dX0_writeCatches_26 (by decide) (fun kc1 => ?_) (fun kc1 => ?_)
      · exact J127 x6_22 x7_22 (nI n22) ci_22 cr_22 cf_22 dr_22 df_22 hw_c_22 hw_d_22 H locs ls hP hD hS (lv_sub hl [0, 1, 2, 3, 4, 5, 6, 7, 8] rfl)
      · have hn22 : n22 < 112 := vz_ltge (B := 112) (by omega) kc1
        refine lv_iload hx hb dX0_writeCatches_29 (lv_at hl 7 rfl) ?_
        refine lv_bipush (v := (-9)) hx hb dX0_writeCatches_31 (by decide) ?_
        refine lv_icmp_eq (tgt := 127) hx hb dX0_writeCatches_33 (by decide) (fun kc2 => ?_) (fun kc2 => ?_)
        · exact J127 x6_22 x7_22 (nI n22) ci_22 cr_22 cf_22 dr_22 df_22 hw_c_22 hw_d_22 H locs ls hP hD hS (lv_sub hl [0, 1, 2, 3, 4, 5, 6, 7, 8] rfl)
        · refine lv_aload_n hx hb dX0_writeCatches_36 rfl (lv_at hl 0 rfl) ?_
          refine va_get (D := D) (ci := 0) (v := .int (ci_22 1)) (C := RX0) (T := TX0) (N := 8) hx hb hts inlX0 hown hK hP 0 rfl rfl 5 (by decide) (hts _ q614) (fun _ h => h) rfl dX0_writeCatches_37 ?_
          refine lv_if_ne (tgt := 127) hx hb dX0_writeCatches_40 (by decide) (fun kc3 => ?_) (fun kc3 => ?_)
          · exact J127 x6_22 x7_22 (nI n22) ci_22 cr_22 cf_22 dr_22 df_22 hw_c_22 hw_d_22 H locs ls hP hD hS (lv_sub hl [0, 1, 2, 3, 4, 5, 6, 7, 8] rfl)
          · refine lv_aload_n hx hb dX0_writeCatches_43 rfl (lv_at hl 0 rfl) ?_
            refine va_get (D := D) (ci := 0) (v := .ref (da 2)) (C := RX0) (T := TX0) (N := 8) hx hb hts inlX0 hown hK hP 0 rfl rfl 1 (by decide) (hts _ q111) (fun _ h => h) rfl dX0_writeCatches_44 ?_
            refine lv_iload hx hb dX0_writeCatches_47 (lv_at hl 4 rfl) ?_
            refine lv_iload hx hb dX0_writeCatches_49 (lv_at hl 8 rfl) ?_
            refine lv_iadd hx hb dX0_writeCatches_51 ?_
            refine lv_iconst (v := 1) hx hb dX0_writeCatches_52 (by decide) ?_
            refine lv_aload_n hx hb dX0_writeCatches_53 rfl (lv_at hl 0 rfl) ?_
            refine va_get (D := D) (ci := 0) (v := .ref (da 0)) (C := RX0) (T := TX0) (N := 8) hx hb hts inlX0 hown hK hP 0 rfl rfl 0 (by decide) (hts _ q110) (fun _ h => h) rfl dX0_writeCatches_54 ?_
            refine va_get (D := D) (ci := 6) (v := .int (nI (dr_22 0))) (C := RX6) (T := TX6) (N := 4) hx hb hts inlX6 hown hK hP 3 rfl rfl 3 (by decide) (hts _ q621) (fun _ h => h) rfl dX0_writeCatches_57 ?_
            refine vz_Vv2 (ws' := fun u : (Nat → Int32) => vz_w [coW g h ca ci_22 cr_22 cf_22 (da 0) (da 2) ph, cdW g da dr_22 (vz_uf df_22 1 u), pgW g ph pa pr pf]) (As := [.int (n4 + (nI n22)), .int 1, .int (nI (dr_22 0))]) (rest := []) hx hb hml hown hts hK hA hP hD hS (c_T_set l D g (da 2) (da 3) H.size 3 500 (dr_22 1) 1500 (df_22 1) (n4 + (nI n22)) 1 (nI (dr_22 0)) ⟨rfl, by decide, by decide, by decide, by decide, hw_d_22 1⟩) kv_X0_53 ⟨by dsimp only; omega, by dsimp only; omega⟩ (q0 := 5) (ci := 6) rfl rfl rfl [5, 6] rfl (by decide) (fun _ => rfl) (fun _ => rfl) hl.1 (Nat.le_of_ble_eq_true rfl) dX0_writeCatches_60 ⟨Nat.le_refl _, Nat.le_refl _⟩ rfl (fun nf4 H locs _ _ hP hD hS => ?_)
            obtain ⟨df_5, hP, hD⟩ : ∃ df_5 : Nat → Nat → Int32, va_P D vwCl (vz_w [coW g h ca ci_22 cr_22 cf_22 (da 0) (da 2) ph, cdW g da dr_22 df_5, pgW g ph pa pr pf]) H ∧ va_D A (vz_w [coW g h ca ci_22 cr_22 cf_22 (da 0) (da 2) ph, cdW g da dr_22 df_5, pgW g ph pa pr pf]) := ⟨(vz_uf df_22 1 nf4), hP, hD⟩
            refine lv_aload_n hx hb dX0_writeCatches_63 rfl (lv_at hl 0 rfl) ?_
            refine lv_bipush (v := 28) hx hb dX0_writeCatches_64 (by decide) ?_
            refine lv_aload_n hx hb dX0_writeCatches_66 rfl (lv_at hl 0 rfl) ?_
            refine lv_iload_n hx hb dX0_writeCatches_67 rfl (lv_at hl 1 rfl) ?_
            refine vz_Vi3 (As := [.int n1]) (rest := [.int 28, .ref h]) hx hb hml hown hts hK hA hP hD hS (a_C_levelOf l D g H.size h ca ci_22 cr_22 cf_22 da ph dr_22 df_5 pa pr pf n1 hw_c_22 hw_d_22 hw_p) kv_X0_116 ⟨by dsimp only; omega, by dsimp only; omega⟩ (q0 := 0) (ci := 0) rfl rfl rfl  hl.1 (Nat.le_of_ble_eq_true rfl) dX0_writeCatches_68 ⟨Nat.le_refl _, Nat.le_refl _⟩ rfl (fun v6 _ H locs _ _ hP hD hS => ?_)
            refine lv_iconst (v := 0) hx hb dX0_writeCatches_71 (by decide) ?_
            refine vz_Vi3 (As := [.int 28, .int v6, .int 0]) (rest := []) hx hb hml hown hts hK hA hP hD hS (a_C_emit l D g H.size h ca ci_22 cr_22 cf_22 da ph dr_22 df_5 pa pr pf 28 v6 0 hw_c_22 hw_d_22 hw_p) kv_X0_70 ⟨by dsimp only; omega, by dsimp only; omega⟩ (q0 := 0) (ci := 0) rfl rfl rfl  hl.1 (Nat.le_of_ble_eq_true rfl) dX0_writeCatches_72 ⟨Nat.le_refl _, Nat.le_refl _⟩ rfl (fun v11 ⟨ci_7, dr_8, df_9⟩ H locs hw_10 _ hP hD hS => ?_)
            try dsimp only at hw_10
            replace hP : va_P D vwCl (vz_w [coW g h ca ci_7 cr_22 cf_22 (da 0) (da 2) ph, cdW g da dr_8 df_9, pgW g ph pa pr pf]) H := hP
            replace hD : va_D A (vz_w [coW g h ca ci_7 cr_22 cf_22 (da 0) (da 2) ph, cdW g da dr_8 df_9, pgW g ph pa pr pf]) := hD
            refine lv_pop hx hb dX0_writeCatches_75 rfl ?_
            refine lv_aload_n hx hb dX0_writeCatches_76 rfl (lv_at hl 0 rfl) ?_
            refine lv_aload_n hx hb dX0_writeCatches_77 rfl (lv_at hl 0 rfl) ?_
            refine va_get (D := D) (ci := 0) (v := .ref ph) (C := RX0) (T := TX0) (N := 8) hx hb hts inlX0 hown hK hP 0 rfl rfl 3 (by decide) (hts _ q108) (fun _ h => h) rfl dX0_writeCatches_78 ?_
            refine va_get (D := D) (ci := 2) (v := .ref (pa 4)) (C := RX2) (T := TX2) (N := 5) hx hb hts inlX2 hown hK hP 7 rfl rfl 2 (by decide) (hts _ q636) (fun _ h => h) rfl dX0_writeCatches_81 ?_
            refine lv_iload hx hb dX0_writeCatches_84 (lv_at hl 7 rfl) ?_
            refine lv_iconst (v := 3) hx hb dX0_writeCatches_86 (by decide) ?_
            refine vz_Vi2 (ws' := fun u : Unit => vz_w [coW g h ca ci_7 cr_22 cf_22 (da 0) (da 2) ph, cdW g da dr_8 df_9, pgW g ph pa pr pf]) (As := [.int x7_22, .int 3]) (rest := [.ref h]) hx hb hml hown hts hK hA hP hD hS (c_T_get l D g (pa 4) (pa 5) H.size 5 112 (pr 2) 560 (pf 2) x7_22 3 ⟨rfl, by decide, by decide, by decide, by decide, hw_p 2⟩) kv_X0_63 ⟨by dsimp only; omega, by dsimp only; omega⟩ (q0 := 12) (ci := 6) rfl rfl rfl [12, 13] rfl (by decide) (fun _ => rfl) (fun _ => rfl) hl.1 (Nat.le_of_ble_eq_true rfl) dX0_writeCatches_87 ⟨Nat.le_refl _, Nat.le_refl _⟩ rfl (fun v12 _ H locs he13 _ hP hD hS => ?_)
            refine lv_iload_n hx hb dX0_writeCatches_90 rfl (lv_at hl 2 rfl) ?_
            refine lv_iconst (v := 1) hx hb dX0_writeCatches_91 (by decide) ?_
            refine lv_iadd hx hb dX0_writeCatches_92 ?_
            refine lv_topi (nm_r (e' := (nI (dn + 1))) (nI_1 dn) ?_)
            refine vz_Vv3 (As := [.int v12, .int (nI (dn + 1))]) (rest := []) hx hb hml hown hts hK hA hP hD hS (hB H.size h ca ci_7 cr_22 cf_22 da ph dr_8 df_9 pa pr pf v12 hw_c_22 hw_10 hw_p) kv_X0_67 ⟨by dsimp only; omega, by dsimp only; omega⟩ (q0 := 0) (ci := 0) rfl rfl rfl  hl.1 (Nat.le_of_ble_eq_true rfl) dX0_writeCatches_93 ⟨Nat.le_refl _, Nat.le_refl _⟩ rfl (fun ⟨ci_14, cr_15, cf_16, dr_17, df_18⟩ H locs ⟨hw_19, hw_20⟩ _ hP hD hS => ?_)
            try dsimp only at hw_19 hw_20
            replace hP : va_P D vwCl (vz_w [coW g h ca ci_14 cr_15 cf_16 (da 0) (da 2) ph, cdW g da dr_17 df_18, pgW g ph pa pr pf]) H := hP
            replace hD : va_D A (vz_w [coW g h ca ci_14 cr_15 cf_16 (da 0) (da 2) ph, cdW g da dr_17 df_18, pgW g ph pa pr pf]) := hD
            refine lv_aload_n hx hb dX0_writeCatches_96 rfl (lv_at hl 0 rfl) ?_
            refine lv_iload_n hx hb dX0_writeCatches_97 rfl (lv_at hl 3 rfl) ?_
            refine lv_iload_n hx hb dX0_writeCatches_98 rfl (lv_at hl 2 rfl) ?_
            refine lv_iload hx hb dX0_writeCatches_99 (lv_at hl 6 rfl) ?_
            refine vz_Vi3 (As := [.int n3, .int (nI dn), .int x6_22]) (rest := []) hx hb hml hown hts hK hA hP hD hS (a_C_writeEnd l D g dn hdn hB H.size h ca ci_14 cr_15 cf_16 da ph dr_17 df_18 pa pr pf n3 x6_22 hw_19 hw_20 hw_p) kv_X0_158 ⟨by dsimp only; omega, by dsimp only; omega⟩ (q0 := 0) (ci := 0) rfl rfl rfl  hl.1 (Nat.le_of_ble_eq_true rfl) dX0_writeCatches_101 ⟨Nat.le_refl _, Nat.le_refl _⟩ rfl (fun v28 ⟨ci_21, cr_22, cf_23, dr_24, df_25⟩ H locs ⟨hw_26, hw_27⟩ _ hP hD hS => ?_)
            try dsimp only at hw_26 hw_27
            replace hP : va_P D vwCl (vz_w [coW g h ca ci_21 cr_22 cf_23 (da 0) (da 2) ph, cdW g da dr_24 df_25, pgW g ph pa pr pf]) H := hP
            replace hD : va_D A (vz_w [coW g h ca ci_21 cr_22 cf_23 (da 0) (da 2) ph, cdW g da dr_24 df_25, pgW g ph pa pr pf]) := hD
            refine lv_istore (lv' := [(6, .int v28), (0, .ref h), (1, .int n1), (2, .int (nI dn)), (3, .int n3), (4, .int n4), (5, .int n5), (7, .int x7_22), (8, .int (nI n22))]) hx hb dX0_writeCatches_104 hl (by decide) rfl (fun ls hl => ?_)
            refine lv_aload_n hx hb dX0_writeCatches_106 rfl (lv_at hl 1 rfl) ?_
            refine va_get (D := D) (ci := 0) (v := .ref ph) (C := RX0) (T := TX0) (N := 8) hx hb hts inlX0 hown hK hP 0 rfl rfl 3 (by decide) (hts _ q108) (fun _ h => h) rfl dX0_writeCatches_107 ?_
            refine va_get (D := D) (ci := 2) (v := .ref (pa 4)) (C := RX2) (T := TX2) (N := 5) hx hb hts inlX2 hown hK hP 7 rfl rfl 2 (by decide) (hts _ q636) (fun _ h => h) rfl dX0_writeCatches_110 ?_
            refine lv_iload hx hb dX0_writeCatches_113 (lv_at hl 7 rfl) ?_
            refine lv_iconst (v := 4) hx hb dX0_writeCatches_115 (by decide) ?_
            refine vz_Vi2 (ws' := fun u : Unit => vz_w [coW g h ca ci_21 cr_22 cf_23 (da 0) (da 2) ph, cdW g da dr_24 df_25, pgW g ph pa pr pf]) (As := [.int x7_22, .int 4]) (rest := []) hx hb hml hown hts hK hA hP hD hS (c_T_get l D g (pa 4) (pa 5) H.size 5 112 (pr 2) 560 (pf 2) x7_22 4 ⟨rfl, by decide, by decide, by decide, by decide, hw_p 2⟩) kv_X0_63 ⟨by dsimp only; omega, by dsimp only; omega⟩ (q0 := 12) (ci := 6) rfl rfl rfl [12, 13] rfl (by decide) (fun _ => rfl) (fun _ => rfl) hl.1 (Nat.le_of_ble_eq_true rfl) dX0_writeCatches_116 ⟨Nat.le_refl _, Nat.le_refl _⟩ rfl (fun v29 _ H locs he30 _ hP hD hS => ?_)
            refine lv_istore (lv' := [(7, .int v29), (6, .int v28), (0, .ref h), (1, .int n1), (2, .int (nI dn)), (3, .int n3), (4, .int n4), (5, .int n5), (8, .int (nI n22))]) hx hb dX0_writeCatches_119 hl (by decide) rfl (fun ls hl => ?_)
            refine lv_iinc (v := (nI (n22 + 1))) (lv' := [(8, .int (nI (n22 + 1))), (7, .int v29), (6, .int v28), (0, .ref h), (1, .int n1), (2, .int (nI dn)), (3, .int n3), (4, .int n4), (5, .int n5)]) hx hb dX0_writeCatches_121 hl (k := 8) rfl (nI_1 n22) (by decide) rfl (fun ls hl => ?_)
            refine lv_goto (tgt := 22) hx hb dX0_writeCatches_124 (by decide) ?_
            exact ih22 (n22 + 1) (by omega) (by omega) v28 v29 ci_21 cr_22 cf_23 dr_24 df_25 hw_26 hw_27 H locs ls hP hD hS (lv_sub hl [3, 4, 5, 6, 7, 8, 2, 1, 0] rfl)
  refine lv_iload hx hb dX0_writeCatches_0 (lv_at hl 5 rfl) ?_
  refine lv_istore (lv' := [(6, .int n5), (0, .ref h), (1, .int n1), (2, .int (nI dn)), (3, .int n3), (4, .int n4), (5, .int n5)]) hx hb dX0_writeCatches_2 hl (by decide) rfl (fun ls hl => ?_)
  refine lv_aload_n hx hb dX0_writeCatches_4 rfl (lv_at hl 1 rfl) ?_
  refine va_get (D := D) (ci := 0) (v := .ref ph) (C := RX0) (T := TX0) (N := 8) hx hb hts inlX0 hown hK hP 0 rfl rfl 3 (by decide) (hts _ q108) (fun _ h => h) rfl dX0_writeCatches_5 ?_
  refine va_get (D := D) (ci := 2) (v := .ref (pa 0)) (C := RX2) (T := TX2) (N := 5) hx hb hts inlX2 hown hK hP 7 rfl rfl 0 (by decide) (hts _ q631) (fun _ h => h) rfl dX0_writeCatches_8 ?_
  refine lv_iload_n hx hb dX0_writeCatches_11 rfl (lv_at hl 2 rfl) ?_
  refine lv_bipush (v := 11) hx hb dX0_writeCatches_12 (by decide) ?_
  refine vz_Vi2 (ws' := fun u : Unit => vz_w [coW g h ca ci cr cf (da 0) (da 2) ph, cdW g da dr df, pgW g ph pa pr pf]) (As := [.int n1, .int 11]) (rest := []) hx hb hml hown hts hK hA hP hD hS (c_T_get l D g (pa 0) (pa 1) H.size 12 80 (pr 0) 960 (pf 0) n1 11 ⟨rfl, by decide, by decide, by decide, by decide, hw_p 0⟩) kv_X0_63 ⟨by dsimp only; omega, by dsimp only; omega⟩ (q0 := 8) (ci := 6) rfl rfl rfl [8, 9] rfl (by decide) (fun _ => rfl) (fun _ => rfl) hl.1 (Nat.le_of_ble_eq_true rfl) dX0_writeCatches_14 ⟨Nat.le_refl _, Nat.le_refl _⟩ rfl (fun v1 _ H locs he2 _ hP hD hS => ?_)
  refine lv_istore (lv' := [(7, .int v1), (6, .int n5), (0, .ref h), (1, .int n1), (2, .int (nI dn)), (3, .int n3), (4, .int n4), (5, .int n5)]) hx hb dX0_writeCatches_17 hl (by decide) rfl (fun ls hl => ?_)
  refine lv_iconst (v := 0) hx hb dX0_writeCatches_19 (by decide) ?_
  refine lv_istore (lv' := [(8, .int 0), (7, .int v1), (6, .int n5), (0, .ref h), (1, .int n1), (2, .int (nI dn)), (3, .int n3), (4, .int n4), (5, .int n5)]) hx hb dX0_writeCatches_20 hl (by decide) rfl (fun ls hl => ?_)
  exact J22 (113) 0 (by omega) (by omega) n5 v1 ci cr cf dr df hw_c hw_d H locs ls hP hD hS (lv_sub hl [3, 4, 5, 6, 7, 8, 2, 1, 0] rfl)
theorem dX0_writeLast_0 : decode cX0_writeLast 0 = .ok (.aload_n 0, 1) := by decide +kernel
theorem dX0_writeLast_1 : decode cX0_writeLast 1 = .ok (.bipush 29, 2) := by decide +kernel
theorem dX0_writeLast_3 : decode cX0_writeLast 3 = .ok (.aload_n 0, 1) := by decide +kernel
theorem dX0_writeLast_4 : decode cX0_writeLast 4 = .ok (.iload_n 1, 1) := by decide +kernel
theorem dX0_writeLast_5 : decode cX0_writeLast 5 = .ok (.invokevirtual 116, 3) := by decide +kernel
theorem dX0_writeLast_8 : decode cX0_writeLast 8 = .ok (.iconst 0, 1) := by decide +kernel
theorem dX0_writeLast_9 : decode cX0_writeLast 9 = .ok (.invokevirtual 70, 3) := by decide +kernel
theorem dX0_writeLast_12 : decode cX0_writeLast 12 = .ok (.pop, 1) := by decide +kernel
theorem dX0_writeLast_13 : decode cX0_writeLast 13 = .ok (.aload_n 0, 1) := by decide +kernel
theorem dX0_writeLast_14 : decode cX0_writeLast 14 = .ok (.getfield 38, 3) := by decide +kernel
theorem dX0_writeLast_17 : decode cX0_writeLast 17 = .ok (.ifCond .eq 52, 3) := by decide +kernel
theorem dX0_writeLast_20 : decode cX0_writeLast 20 = .ok (.aload_n 0, 1) := by decide +kernel
theorem dX0_writeLast_21 : decode cX0_writeLast 21 = .ok (.bipush 20, 2) := by decide +kernel
theorem dX0_writeLast_23 : decode cX0_writeLast 23 = .ok (.iload_n 3, 1) := by decide +kernel
theorem dX0_writeLast_24 : decode cX0_writeLast 24 = .ok (.aload_n 0, 1) := by decide +kernel
theorem dX0_writeLast_25 : decode cX0_writeLast 25 = .ok (.iload_n 1, 1) := by decide +kernel
theorem dX0_writeLast_26 : decode cX0_writeLast 26 = .ok (.invokevirtual 116, 3) := by decide +kernel
theorem dX0_writeLast_29 : decode cX0_writeLast 29 = .ok (.invokevirtual 70, 3) := by decide +kernel
theorem dX0_writeLast_32 : decode cX0_writeLast 32 = .ok (.istore 4, 2) := by decide +kernel
theorem dX0_writeLast_34 : decode cX0_writeLast 34 = .ok (.aload_n 0, 1) := by decide +kernel
theorem dX0_writeLast_35 : decode cX0_writeLast 35 = .ok (.bipush 27, 2) := by decide +kernel
theorem dX0_writeLast_37 : decode cX0_writeLast 37 = .ok (.aload_n 0, 1) := by decide +kernel
theorem dX0_writeLast_38 : decode cX0_writeLast 38 = .ok (.iload_n 1, 1) := by decide +kernel
theorem dX0_writeLast_39 : decode cX0_writeLast 39 = .ok (.invokevirtual 116, 3) := by decide +kernel
theorem dX0_writeLast_42 : decode cX0_writeLast 42 = .ok (.iconst 0, 1) := by decide +kernel
theorem dX0_writeLast_43 : decode cX0_writeLast 43 = .ok (.invokevirtual 70, 3) := by decide +kernel
theorem dX0_writeLast_46 : decode cX0_writeLast 46 = .ok (.pop, 1) := by decide +kernel
theorem dX0_writeLast_47 : decode cX0_writeLast 47 = .ok (.aload_n 0, 1) := by decide +kernel
theorem dX0_writeLast_48 : decode cX0_writeLast 48 = .ok (.iload 4, 2) := by decide +kernel
theorem dX0_writeLast_50 : decode cX0_writeLast 50 = .ok (.aload_n 0, 1) := by decide +kernel
theorem dX0_writeLast_51 : decode cX0_writeLast 51 = .ok (.getfield 20, 3) := by decide +kernel
theorem dX0_writeLast_54 : decode cX0_writeLast 54 = .ok (.getfield 49, 3) := by decide +kernel
theorem dX0_writeLast_57 : decode cX0_writeLast 57 = .ok (.invokevirtual 113, 3) := by decide +kernel
theorem dX0_writeLast_60 : decode cX0_writeLast 60 = .ok (.aload_n 0, 1) := by decide +kernel
theorem dX0_writeLast_61 : decode cX0_writeLast 61 = .ok (.iload_n 1, 1) := by decide +kernel
theorem dX0_writeLast_62 : decode cX0_writeLast 62 = .ok (.iload_n 2, 1) := by decide +kernel
theorem dX0_writeLast_63 : decode cX0_writeLast 63 = .ok (.invokevirtual 161, 3) := by decide +kernel
theorem dX0_writeLast_66 : decode cX0_writeLast 66 = .ok (.goto 22, 3) := by decide +kernel
theorem dX0_writeLast_69 : decode cX0_writeLast 69 = .ok (.aload_n 0, 1) := by decide +kernel
theorem dX0_writeLast_70 : decode cX0_writeLast 70 = .ok (.iload_n 1, 1) := by decide +kernel
theorem dX0_writeLast_71 : decode cX0_writeLast 71 = .ok (.iload_n 2, 1) := by decide +kernel
theorem dX0_writeLast_72 : decode cX0_writeLast 72 = .ok (.invokevirtual 161, 3) := by decide +kernel
theorem dX0_writeLast_75 : decode cX0_writeLast 75 = .ok (.aload_n 0, 1) := by decide +kernel
theorem dX0_writeLast_76 : decode cX0_writeLast 76 = .ok (.bipush 27, 2) := by decide +kernel
theorem dX0_writeLast_78 : decode cX0_writeLast 78 = .ok (.aload_n 0, 1) := by decide +kernel
theorem dX0_writeLast_79 : decode cX0_writeLast 79 = .ok (.iload_n 1, 1) := by decide +kernel
theorem dX0_writeLast_80 : decode cX0_writeLast 80 = .ok (.invokevirtual 116, 3) := by decide +kernel
theorem dX0_writeLast_83 : decode cX0_writeLast 83 = .ok (.iconst 0, 1) := by decide +kernel
theorem dX0_writeLast_84 : decode cX0_writeLast 84 = .ok (.invokevirtual 70, 3) := by decide +kernel
theorem dX0_writeLast_87 : decode cX0_writeLast 87 = .ok (.pop, 1) := by decide +kernel
theorem dX0_writeLast_88 : decode cX0_writeLast 88 = .ok (.return_, 1) := by decide +kernel
set_option maxHeartbeats 8000000 in
set_option maxRecDepth 100000 in
theorem a_C_writeLast (l : Launch) (D : va_G) (g : Nat → ClassId) (dn : Nat) (hdn : dn ≤ 16) (hB : ∀ (sz : Nat) (h : Nat) (ca : Nat → Nat) (ci : Nat → Int32) (cr : Nat → Nat) (cf : Nat → Nat → Int32) (da : Nat → Nat) (ph : Nat) (dr : Nat → Nat) (df : Nat → Nat → Int32) (pa : Nat → Nat) (pr : Nat → Nat) (pf : Nat → Nat → Int32) (n1 : Int32) (hw_c : ∀ k, cr k ≤ coW_lim k) (hw_d : ∀ k, dr k ≤ cdW_lim k) (hw_p : ∀ k, pr k ≤ pgW_lim k), vz_Mv l D (tyG g) yX0_writeBlock cX0_writeBlock 5 (7 * (17 - (dn + 1)) + 110) (203 * (17 - (dn + 1)) + 4000) 0 0 [.ref h, .int n1, .int (nI (dn + 1))] sz (vz_w [coW g h ca ci cr cf (da 0) (da 2) ph, cdW g da dr df, pgW g ph pa pr pf]) (fun u : (Nat → Int32) × (Nat → Nat) × (Nat → Nat → Int32) × (Nat → Nat) × (Nat → Nat → Int32) => (∀ k, u.2.1 k ≤ coW_lim k) ∧ (∀ k, u.2.2.2.1 k ≤ cdW_lim k)) (fun u => vz_w [coW g h ca u.1 u.2.1 u.2.2.1 (da 0) (da 2) ph, cdW g da u.2.2.2.1 u.2.2.2.2, pgW g ph pa pr pf])) (sz : Nat) (h : Nat) (ca : Nat → Nat) (ci : Nat → Int32) (cr : Nat → Nat) (cf : Nat → Nat → Int32) (da : Nat → Nat) (ph : Nat) (dr : Nat → Nat) (df : Nat → Nat → Int32) (pa : Nat → Nat) (pr : Nat → Nat) (pf : Nat → Nat → Int32) (n1 : Int32) (n3 : Int32) (hw_c : ∀ k, cr k ≤ coW_lim k) (hw_d : ∀ k, dr k ≤ cdW_lim k) (hw_p : ∀ k, pr k ≤ pgW_lim k) : vz_Mv l D (tyG g) yX0_writeLast cX0_writeLast 5 (7 * (16 - dn) + 112) (203 * (16 - dn) + 4058) 0 0 [.ref h, .int n1, .int (nI dn), .int n3] sz (vz_w [coW g h ca ci cr cf (da 0) (da 2) ph, cdW g da dr df, pgW g ph pa pr pf]) (fun u : (Nat → Int32) × (Nat → Nat) × (Nat → Nat → Int32) × (Nat → Nat) × (Nat → Nat → Int32) => (∀ k, u.2.1 k ≤ coW_lim k) ∧ (∀ k, u.2.2.2.1 k ≤ cdW_lim k)) (fun u => vz_w [coW g h ca u.1 u.2.1 u.2.2.1 (da 0) (da 2) ph, cdW g da u.2.2.2.1 u.2.2.2.2, pgW g ph pa pr pf]) := by
  refine vz_svQ (by decide) (Nat.le_of_ble_eq_true rfl) (fun p e s m args below meth c hx hb hr hml hts hown hlk hin hK hsz A hA H locs hP hD hS ls hl Q hQ => ?_)
  have hl : lv_has ls 5 [(0, .ref h), (1, .int n1), (2, .int (nI dn)), (3, .int n3)] := hl
  have J88 : ∀ (ci_88 : Nat → Int32), ∀ (cr_88 : Nat → Nat), ∀ (cf_88 : Nat → Nat → Int32), ∀ (dr_88 : Nat → Nat), ∀ (df_88 : Nat → Nat → Int32), (∀ k, cr_88 k ≤ coW_lim k) → (∀ k, dr_88 k ≤ cdW_lim k) → ∀ (H : Heap) (locs : List Loc) (ls : Array Slot), va_P D vwCl (vz_w [coW g h ca ci_88 cr_88 cf_88 (da 0) (da 2) ph, cdW g da dr_88 df_88, pgW g ph pa pr pf]) H → va_D A (vz_w [coW g h ca ci_88 cr_88 cf_88 (da 0) (da 2) ph, cdW g da dr_88 df_88, pgW g ph pa pr pf]) → va_S A s.heap H locs → lv_has ls 5 [(0, .ref h), (1, .int n1), (2, .int (nI dn)), (3, .int n3)] → W p l e { frames := (7 * (16 - dn) + 112), cells := 0, slots := 0, locals := (203 * (16 - dn) + 4058) } s m args below meth c H locs 0 0 Q (F0 m 88 ls []) := by
    intro ci_88 cr_88 cf_88 dr_88 df_88 hw_c_88 hw_d_88 H locs ls hP hD hS hl
    rw [hQ]
    exact vz_vret3 hx hb hr hlk hK hP hD hS (ci_88, cr_88, cf_88, dr_88, df_88) (⟨hw_c_88, hw_d_88⟩) rfl (Nat.le_refl 0) (Nat.le_refl 0) dX0_writeLast_88
  refine lv_aload_n hx hb dX0_writeLast_0 rfl (lv_at hl 0 rfl) ?_
  refine lv_bipush (v := 29) hx hb dX0_writeLast_1 (by decide) ?_
  refine lv_aload_n hx hb dX0_writeLast_3 rfl (lv_at hl 0 rfl) ?_
  refine lv_iload_n hx hb dX0_writeLast_4 rfl (lv_at hl 1 rfl) ?_
  refine vz_Vi3 (As := [.int n1]) (rest := [.int 29, .ref h]) hx hb hml hown hts hK hA hP hD hS (a_C_levelOf l D g H.size h ca ci cr cf da ph dr df pa pr pf n1 hw_c hw_d hw_p) kv_X0_116 ⟨by dsimp only; omega, by dsimp only; omega⟩ (q0 := 0) (ci := 0) rfl rfl rfl  hl.1 (Nat.le_of_ble_eq_true rfl) dX0_writeLast_5 ⟨Nat.le_refl _, Nat.le_refl _⟩ rfl (fun v1 _ H locs _ _ hP hD hS => ?_)
  refine lv_iconst (v := 0) hx hb dX0_writeLast_8 (by decide) ?_
  refine vz_Vi3 (As := [.int 29, .int v1, .int 0]) (rest := []) hx hb hml hown hts hK hA hP hD hS (a_C_emit l D g H.size h ca ci cr cf da ph dr df pa pr pf 29 v1 0 hw_c hw_d hw_p) kv_X0_70 ⟨by dsimp only; omega, by dsimp only; omega⟩ (q0 := 0) (ci := 0) rfl rfl rfl  hl.1 (Nat.le_of_ble_eq_true rfl) dX0_writeLast_9 ⟨Nat.le_refl _, Nat.le_refl _⟩ rfl (fun v6 ⟨ci_2, dr_3, df_4⟩ H locs hw_5 _ hP hD hS => ?_)
  try dsimp only at hw_5
  replace hP : va_P D vwCl (vz_w [coW g h ca ci_2 cr cf (da 0) (da 2) ph, cdW g da dr_3 df_4, pgW g ph pa pr pf]) H := hP
  replace hD : va_D A (vz_w [coW g h ca ci_2 cr cf (da 0) (da 2) ph, cdW g da dr_3 df_4, pgW g ph pa pr pf]) := hD
  refine lv_pop hx hb dX0_writeLast_12 rfl ?_
  refine lv_aload_n hx hb dX0_writeLast_13 rfl (lv_at hl 0 rfl) ?_
  refine va_get (D := D) (ci := 0) (v := .int (ci_2 0)) (C := RX0) (T := TX0) (N := 8) hx hb hts inlX0 hown hK hP 0 rfl rfl 4 (by decide) (hts _ q619) (fun _ h => h) rfl dX0_writeLast_14 ?_
  refine lv_if_eq (tgt := 69) hx hb dX0_writeLast_17 (by decide) (fun kc7 => ?_) (fun kc7 => ?_)
  · refine lv_aload_n hx hb dX0_writeLast_69 rfl (lv_at hl 0 rfl) ?_
    refine lv_iload_n hx hb dX0_writeLast_70 rfl (lv_at hl 1 rfl) ?_
    refine lv_iload_n hx hb dX0_writeLast_71 rfl (lv_at hl 2 rfl) ?_
    refine vz_Vv3 (As := [.int n1, .int (nI dn)]) (rest := []) hx hb hml hown hts hK hA hP hD hS (a_C_writeFinishing l D g dn hdn hB H.size h ca ci_2 cr cf da ph dr_3 df_4 pa pr pf n1 hw_c hw_5 hw_p) kv_X0_161 ⟨by dsimp only; omega, by dsimp only; omega⟩ (q0 := 0) (ci := 0) rfl rfl rfl  hl.1 (Nat.le_of_ble_eq_true rfl) dX0_writeLast_72 ⟨Nat.le_refl _, Nat.le_refl _⟩ rfl (fun ⟨ci_8, cr_9, cf_10, dr_11, df_12⟩ H locs ⟨hw_13, hw_14⟩ _ hP hD hS => ?_)
    try dsimp only at hw_13 hw_14
    replace hP : va_P D vwCl (vz_w [coW g h ca ci_8 cr_9 cf_10 (da 0) (da 2) ph, cdW g da dr_11 df_12, pgW g ph pa pr pf]) H := hP
    replace hD : va_D A (vz_w [coW g h ca ci_8 cr_9 cf_10 (da 0) (da 2) ph, cdW g da dr_11 df_12, pgW g ph pa pr pf]) := hD
    refine lv_aload_n hx hb dX0_writeLast_75 rfl (lv_at hl 0 rfl) ?_
    refine lv_bipush (v := 27) hx hb dX0_writeLast_76 (by decide) ?_
    refine lv_aload_n hx hb dX0_writeLast_78 rfl (lv_at hl 0 rfl) ?_
    refine lv_iload_n hx hb dX0_writeLast_79 rfl (lv_at hl 1 rfl) ?_
    refine vz_Vi3 (As := [.int n1]) (rest := [.int 27, .ref h]) hx hb hml hown hts hK hA hP hD hS (a_C_levelOf l D g H.size h ca ci_8 cr_9 cf_10 da ph dr_11 df_12 pa pr pf n1 hw_13 hw_14 hw_p) kv_X0_116 ⟨by dsimp only; omega, by dsimp only; omega⟩ (q0 := 0) (ci := 0) rfl rfl rfl  hl.1 (Nat.le_of_ble_eq_true rfl) dX0_writeLast_80 ⟨Nat.le_refl _, Nat.le_refl _⟩ rfl (fun v15 _ H locs _ _ hP hD hS => ?_)
    refine lv_iconst (v := 0) hx hb dX0_writeLast_83 (by decide) ?_
    refine vz_Vi3 (As := [.int 27, .int v15, .int 0]) (rest := []) hx hb hml hown hts hK hA hP hD hS (a_C_emit l D g H.size h ca ci_8 cr_9 cf_10 da ph dr_11 df_12 pa pr pf 27 v15 0 hw_13 hw_14 hw_p) kv_X0_70 ⟨by dsimp only; omega, by dsimp only; omega⟩ (q0 := 0) (ci := 0) rfl rfl rfl  hl.1 (Nat.le_of_ble_eq_true rfl) dX0_writeLast_84 ⟨Nat.le_refl _, Nat.le_refl _⟩ rfl (fun v20 ⟨ci_16, dr_17, df_18⟩ H locs hw_19 _ hP hD hS => ?_)
    try dsimp only at hw_19
    replace hP : va_P D vwCl (vz_w [coW g h ca ci_16 cr_9 cf_10 (da 0) (da 2) ph, cdW g da dr_17 df_18, pgW g ph pa pr pf]) H := hP
    replace hD : va_D A (vz_w [coW g h ca ci_16 cr_9 cf_10 (da 0) (da 2) ph, cdW g da dr_17 df_18, pgW g ph pa pr pf]) := hD
    refine lv_pop hx hb dX0_writeLast_87 rfl ?_
    exact J88 ci_16 cr_9 cf_10 dr_17 df_18 hw_13 hw_19 H locs ls hP hD hS (lv_sub hl [0, 1, 2, 3] rfl)
  · refine lv_aload_n hx hb dX0_writeLast_20 rfl (lv_at hl 0 rfl) ?_
    refine lv_bipush (v := 20) hx hb dX0_writeLast_21 (by decide) ?_
    refine lv_iload_n hx hb dX0_writeLast_23 rfl (lv_at hl 3 rfl) ?_
    refine lv_aload_n hx hb dX0_writeLast_24 rfl (lv_at hl 0 rfl) ?_
    refine lv_iload_n hx hb dX0_writeLast_25 rfl (lv_at hl 1 rfl) ?_
    refine vz_Vi3 (As := [.int n1]) (rest := [.int n3, .int 20, .ref h]) hx hb hml hown hts hK hA hP hD hS (a_C_levelOf l D g H.size h ca ci_2 cr cf da ph dr_3 df_4 pa pr pf n1 hw_c hw_5 hw_p) kv_X0_116 ⟨by dsimp only; omega, by dsimp only; omega⟩ (q0 := 0) (ci := 0) rfl rfl rfl  hl.1 (Nat.le_of_ble_eq_true rfl) dX0_writeLast_26 ⟨Nat.le_refl _, Nat.le_refl _⟩ rfl (fun v21 _ H locs _ _ hP hD hS => ?_)
    refine vz_Vi3 (As := [.int 20, .int n3, .int v21]) (rest := []) hx hb hml hown hts hK hA hP hD hS (a_C_emit l D g H.size h ca ci_2 cr cf da ph dr_3 df_4 pa pr pf 20 n3 v21 hw_c hw_5 hw_p) kv_X0_70 ⟨by dsimp only; omega, by dsimp only; omega⟩ (q0 := 0) (ci := 0) rfl rfl rfl  hl.1 (Nat.le_of_ble_eq_true rfl) dX0_writeLast_29 ⟨Nat.le_refl _, Nat.le_refl _⟩ rfl (fun v26 ⟨ci_22, dr_23, df_24⟩ H locs hw_25 _ hP hD hS => ?_)
    try dsimp only at hw_25
    replace hP : va_P D vwCl (vz_w [coW g h ca ci_22 cr cf (da 0) (da 2) ph, cdW g da dr_23 df_24, pgW g ph pa pr pf]) H := hP
    replace hD : va_D A (vz_w [coW g h ca ci_22 cr cf (da 0) (da 2) ph, cdW g da dr_23 df_24, pgW g ph pa pr pf]) := hD
    refine lv_istore (lv' := [(4, .int v26), (0, .ref h), (1, .int n1), (2, .int (nI dn)), (3, .int n3)]) hx hb dX0_writeLast_32 hl (by decide) rfl (fun ls hl => ?_)
    refine lv_aload_n hx hb dX0_writeLast_34 rfl (lv_at hl 1 rfl) ?_
    refine lv_bipush (v := 27) hx hb dX0_writeLast_35 (by decide) ?_
    refine lv_aload_n hx hb dX0_writeLast_37 rfl (lv_at hl 1 rfl) ?_
    refine lv_iload_n hx hb dX0_writeLast_38 rfl (lv_at hl 2 rfl) ?_
    refine vz_Vi3 (As := [.int n1]) (rest := [.int 27, .ref h]) hx hb hml hown hts hK hA hP hD hS (a_C_levelOf l D g H.size h ca ci_22 cr cf da ph dr_23 df_24 pa pr pf n1 hw_c hw_25 hw_p) kv_X0_116 ⟨by dsimp only; omega, by dsimp only; omega⟩ (q0 := 0) (ci := 0) rfl rfl rfl  hl.1 (Nat.le_of_ble_eq_true rfl) dX0_writeLast_39 ⟨Nat.le_refl _, Nat.le_refl _⟩ rfl (fun v27 _ H locs _ _ hP hD hS => ?_)
    refine lv_iconst (v := 0) hx hb dX0_writeLast_42 (by decide) ?_
    refine vz_Vi3 (As := [.int 27, .int v27, .int 0]) (rest := []) hx hb hml hown hts hK hA hP hD hS (a_C_emit l D g H.size h ca ci_22 cr cf da ph dr_23 df_24 pa pr pf 27 v27 0 hw_c hw_25 hw_p) kv_X0_70 ⟨by dsimp only; omega, by dsimp only; omega⟩ (q0 := 0) (ci := 0) rfl rfl rfl  hl.1 (Nat.le_of_ble_eq_true rfl) dX0_writeLast_43 ⟨Nat.le_refl _, Nat.le_refl _⟩ rfl (fun v32 ⟨ci_28, dr_29, df_30⟩ H locs hw_31 _ hP hD hS => ?_)
    try dsimp only at hw_31
    replace hP : va_P D vwCl (vz_w [coW g h ca ci_28 cr cf (da 0) (da 2) ph, cdW g da dr_29 df_30, pgW g ph pa pr pf]) H := hP
    replace hD : va_D A (vz_w [coW g h ca ci_28 cr cf (da 0) (da 2) ph, cdW g da dr_29 df_30, pgW g ph pa pr pf]) := hD
    refine lv_pop hx hb dX0_writeLast_46 rfl ?_
    refine lv_aload_n hx hb dX0_writeLast_47 rfl (lv_at hl 1 rfl) ?_
    refine lv_iload hx hb dX0_writeLast_48 (lv_at hl 0 rfl) ?_
    refine lv_aload_n hx hb dX0_writeLast_50 rfl (lv_at hl 1 rfl) ?_
    refine va_get (D := D) (ci := 0) (v := .ref (da 0)) (C := RX0) (T := TX0) (N := 8) hx hb hts inlX0 hown hK hP 0 rfl rfl 0 (by decide) (hts _ q110) (fun _ h => h) rfl dX0_writeLast_51 ?_
    refine va_get (D := D) (ci := 6) (v := .int (nI (dr_29 0))) (C := RX6) (T := TX6) (N := 4) hx hb hts inlX6 hown hK hP 3 rfl rfl 3 (by decide) (hts _ q621) (fun _ h => h) rfl dX0_writeLast_54 ?_
    refine vz_Vv3 (As := [.int v26, .int (nI (dr_29 0))]) (rest := []) hx hb hml hown hts hK hA hP hD hS (a_C_patch l D g H.size h ca ci_28 cr cf da ph dr_29 df_30 pa pr pf v26 (nI (dr_29 0)) hw_c hw_31 hw_p) kv_X0_113 ⟨by dsimp only; omega, by dsimp only; omega⟩ (q0 := 0) (ci := 0) rfl rfl rfl  hl.1 (Nat.le_of_ble_eq_true rfl) dX0_writeLast_57 ⟨Nat.le_refl _, Nat.le_refl _⟩ rfl (fun df_33 H locs _ _ hP hD hS => ?_)
    replace hP : va_P D vwCl (vz_w [coW g h ca ci_28 cr cf (da 0) (da 2) ph, cdW g da dr_29 df_33, pgW g ph pa pr pf]) H := hP
    replace hD : va_D A (vz_w [coW g h ca ci_28 cr cf (da 0) (da 2) ph, cdW g da dr_29 df_33, pgW g ph pa pr pf]) := hD
    refine lv_aload_n hx hb dX0_writeLast_60 rfl (lv_at hl 1 rfl) ?_
    refine lv_iload_n hx hb dX0_writeLast_61 rfl (lv_at hl 2 rfl) ?_
    refine lv_iload_n hx hb dX0_writeLast_62 rfl (lv_at hl 3 rfl) ?_
    refine vz_Vv3 (As := [.int n1, .int (nI dn)]) (rest := []) hx hb hml hown hts hK hA hP hD hS (a_C_writeFinishing l D g dn hdn hB H.size h ca ci_28 cr cf da ph dr_29 df_33 pa pr pf n1 hw_c hw_31 hw_p) kv_X0_161 ⟨by dsimp only; omega, by dsimp only; omega⟩ (q0 := 0) (ci := 0) rfl rfl rfl  hl.1 (Nat.le_of_ble_eq_true rfl) dX0_writeLast_63 ⟨Nat.le_refl _, Nat.le_refl _⟩ rfl (fun ⟨ci_34, cr_35, cf_36, dr_37, df_38⟩ H locs ⟨hw_39, hw_40⟩ _ hP hD hS => ?_)
    try dsimp only at hw_39 hw_40
    replace hP : va_P D vwCl (vz_w [coW g h ca ci_34 cr_35 cf_36 (da 0) (da 2) ph, cdW g da dr_37 df_38, pgW g ph pa pr pf]) H := hP
    replace hD : va_D A (vz_w [coW g h ca ci_34 cr_35 cf_36 (da 0) (da 2) ph, cdW g da dr_37 df_38, pgW g ph pa pr pf]) := hD
    refine lv_goto (tgt := 88) hx hb dX0_writeLast_66 (by decide) ?_
    exact J88 ci_34 cr_35 cf_36 dr_37 df_38 hw_39 hw_40 H locs ls hP hD hS (lv_sub hl [1, 2, 3, 4] rfl)
theorem q676 : Cond.methodLink RX0 142 yX0_newCatchHandlers ∈ wsL_law := mT_4 (List.mem_of_getElem? (i := 105) rfl) rfl
theorem q677 : Cond.instanceMethod yX0_newCatchHandlers ∈ wsL_law := mT_4 (List.mem_of_getElem? (i := 107) rfl) rfl
theorem q678 : Cond.selects RX0 yX0_newCatchHandlers yX0_newCatchHandlers ∈ wsL_law := mS_4 (q := (yX0_newCatchHandlers, 8)) (List.mem_of_getElem? (i := 1) rfl) rfl
theorem q679 : Cond.code yX0_newCatchHandlers cX0_newCatchHandlers 8 (some .int) ∈ wsL_law := mT_4 (List.mem_of_getElem? (i := 108) rfl) rfl
theorem kv_X0_142 : vz_cv RX0 142 yX0_newCatchHandlers cX0_newCatchHandlers 8 (some .int) 2 := ⟨q676, q677, q678, q33, q679, by decide +kernel⟩
theorem q680 : Cond.methodLink RX0 145 yX0_writeHeld ∈ wsL_law := mT_4 (List.mem_of_getElem? (i := 109) rfl) rfl
theorem q681 : Cond.instanceMethod yX0_writeHeld ∈ wsL_law := mT_4 (List.mem_of_getElem? (i := 111) rfl) rfl
theorem q682 : Cond.selects RX0 yX0_writeHeld yX0_writeHeld ∈ wsL_law := mS_4 (q := (yX0_writeHeld, 8)) (List.mem_of_getElem? (i := 2) rfl) rfl
theorem q689 : Cond.code yX0_writeHeld cX0_writeHeld 9 (some .int) ∈ wsL_law := mT_4 (List.mem_of_getElem? (i := 112) rfl) rfl
theorem kv_X0_145 : vz_cv RX0 145 yX0_writeHeld cX0_writeHeld 9 (some .int) 3 := ⟨q680, q681, q682, q33, q689, by decide +kernel⟩
theorem q683 : Cond.methodLink RX0 148 yX0_writeCatches ∈ wsL_law := mT_4 (List.mem_of_getElem? (i := 129) rfl) rfl
theorem q684 : Cond.instanceMethod yX0_writeCatches ∈ wsL_law := mT_4 (List.mem_of_getElem? (i := 131) rfl) rfl
theorem q685 : Cond.selects RX0 yX0_writeCatches yX0_writeCatches ∈ wsL_law := mS_4 (q := (yX0_writeCatches, 8)) (List.mem_of_getElem? (i := 7) rfl) rfl
theorem q635 : Cond.code yX0_writeCatches cX0_writeCatches 9 (some .int) ∈ wsL_law := mT_4 (List.mem_of_getElem? (i := 132) rfl) rfl
theorem kv_X0_148 : vz_cv RX0 148 yX0_writeCatches cX0_writeCatches 9 (some .int) 5 := ⟨q683, q684, q685, q33, q635, by decide +kernel⟩
theorem q686 : Cond.methodLink RX0 152 yX0_writeLast ∈ wsL_law := mT_4 (List.mem_of_getElem? (i := 133) rfl) rfl
theorem q687 : Cond.instanceMethod yX0_writeLast ∈ wsL_law := mT_4 (List.mem_of_getElem? (i := 135) rfl) rfl
theorem q688 : Cond.selects RX0 yX0_writeLast yX0_writeLast ∈ wsL_law := mS_4 (q := (yX0_writeLast, 8)) (List.mem_of_getElem? (i := 8) rfl) rfl
theorem q703 : Cond.code yX0_writeLast cX0_writeLast 5 none ∈ wsL_law := mT_4 (List.mem_of_getElem? (i := 136) rfl) rfl
theorem kv_X0_152 : vz_cv RX0 152 yX0_writeLast cX0_writeLast 5 none 3 := ⟨q686, q687, q688, q33, q703, by decide +kernel⟩
theorem dX0_writeGuard_0 : decode cX0_writeGuard 0 = .ok (.aload_n 0, 1) := by decide +kernel
theorem dX0_writeGuard_1 : decode cX0_writeGuard 1 = .ok (.getfield 57, 3) := by decide +kernel
theorem dX0_writeGuard_4 : decode cX0_writeGuard 4 = .ok (.istore_n 3, 1) := by decide +kernel
theorem dX0_writeGuard_5 : decode cX0_writeGuard 5 = .ok (.aload_n 0, 1) := by decide +kernel
theorem dX0_writeGuard_6 : decode cX0_writeGuard 6 = .ok (.getfield 9, 3) := by decide +kernel
theorem dX0_writeGuard_9 : decode cX0_writeGuard 9 = .ok (.getfield 81, 3) := by decide +kernel
theorem dX0_writeGuard_12 : decode cX0_writeGuard 12 = .ok (.iload_n 1, 1) := by decide +kernel
theorem dX0_writeGuard_13 : decode cX0_writeGuard 13 = .ok (.bipush 7, 2) := by decide +kernel
theorem dX0_writeGuard_15 : decode cX0_writeGuard 15 = .ok (.invokevirtual 63, 3) := by decide +kernel
theorem dX0_writeGuard_18 : decode cX0_writeGuard 18 = .ok (.iconst 1, 1) := by decide +kernel
theorem dX0_writeGuard_19 : decode cX0_writeGuard 19 = .ok (.if_icmp .ne 7, 3) := by decide +kernel
theorem dX0_writeGuard_22 : decode cX0_writeGuard 22 = .ok (.iconst 1, 1) := by decide +kernel
theorem dX0_writeGuard_23 : decode cX0_writeGuard 23 = .ok (.goto 4, 3) := by decide +kernel
theorem dX0_writeGuard_26 : decode cX0_writeGuard 26 = .ok (.iconst 0, 1) := by decide +kernel
theorem dX0_writeGuard_27 : decode cX0_writeGuard 27 = .ok (.istore 4, 2) := by decide +kernel
theorem dX0_writeGuard_29 : decode cX0_writeGuard 29 = .ok (.iload 4, 2) := by decide +kernel
theorem dX0_writeGuard_31 : decode cX0_writeGuard 31 = .ok (.ifCond .eq 12, 3) := by decide +kernel
theorem dX0_writeGuard_34 : decode cX0_writeGuard 34 = .ok (.aload_n 0, 1) := by decide +kernel
theorem dX0_writeGuard_35 : decode cX0_writeGuard 35 = .ok (.iconst 0, 1) := by decide +kernel
theorem dX0_writeGuard_36 : decode cX0_writeGuard 36 = .ok (.iload_n 3, 1) := by decide +kernel
theorem dX0_writeGuard_37 : decode cX0_writeGuard 37 = .ok (.invokevirtual 139, 3) := by decide +kernel
theorem dX0_writeGuard_40 : decode cX0_writeGuard 40 = .ok (.goto 4, 3) := by decide +kernel
theorem dX0_writeGuard_43 : decode cX0_writeGuard 43 = .ok (.iload_n 3, 1) := by decide +kernel
theorem dX0_writeGuard_44 : decode cX0_writeGuard 44 = .ok (.istore 5, 2) := by decide +kernel
theorem dX0_writeGuard_46 : decode cX0_writeGuard 46 = .ok (.iload 4, 2) := by decide +kernel
theorem dX0_writeGuard_48 : decode cX0_writeGuard 48 = .ok (.ifCond .eq 12, 3) := by decide +kernel
theorem dX0_writeGuard_51 : decode cX0_writeGuard 51 = .ok (.aload_n 0, 1) := by decide +kernel
theorem dX0_writeGuard_52 : decode cX0_writeGuard 52 = .ok (.iconst 2, 1) := by decide +kernel
theorem dX0_writeGuard_53 : decode cX0_writeGuard 53 = .ok (.iload_n 1, 1) := by decide +kernel
theorem dX0_writeGuard_54 : decode cX0_writeGuard 54 = .ok (.invokevirtual 120, 3) := by decide +kernel
theorem dX0_writeGuard_57 : decode cX0_writeGuard 57 = .ok (.goto 5, 3) := by decide +kernel
theorem dX0_writeGuard_60 : decode cX0_writeGuard 60 = .ok (.bipush (-9), 2) := by decide +kernel
theorem dX0_writeGuard_62 : decode cX0_writeGuard 62 = .ok (.istore 6, 2) := by decide +kernel
theorem dX0_writeGuard_64 : decode cX0_writeGuard 64 = .ok (.aload_n 0, 1) := by decide +kernel
theorem dX0_writeGuard_65 : decode cX0_writeGuard 65 = .ok (.getfield 24, 3) := by decide +kernel
theorem dX0_writeGuard_68 : decode cX0_writeGuard 68 = .ok (.getfield 49, 3) := by decide +kernel
theorem dX0_writeGuard_71 : decode cX0_writeGuard 71 = .ok (.istore 7, 2) := by decide +kernel
theorem dX0_writeGuard_73 : decode cX0_writeGuard 73 = .ok (.aload_n 0, 1) := by decide +kernel
theorem dX0_writeGuard_74 : decode cX0_writeGuard 74 = .ok (.aload_n 0, 1) := by decide +kernel
theorem dX0_writeGuard_75 : decode cX0_writeGuard 75 = .ok (.iload_n 1, 1) := by decide +kernel
theorem dX0_writeGuard_76 : decode cX0_writeGuard 76 = .ok (.iload 5, 2) := by decide +kernel
theorem dX0_writeGuard_78 : decode cX0_writeGuard 78 = .ok (.invokevirtual 142, 3) := by decide +kernel
theorem dX0_writeGuard_81 : decode cX0_writeGuard 81 = .ok (.putfield 57, 3) := by decide +kernel
theorem dX0_writeGuard_84 : decode cX0_writeGuard 84 = .ok (.aload_n 0, 1) := by decide +kernel
theorem dX0_writeGuard_85 : decode cX0_writeGuard 85 = .ok (.iload_n 1, 1) := by decide +kernel
theorem dX0_writeGuard_86 : decode cX0_writeGuard 86 = .ok (.iload_n 2, 1) := by decide +kernel
theorem dX0_writeGuard_87 : decode cX0_writeGuard 87 = .ok (.iload 6, 2) := by decide +kernel
theorem dX0_writeGuard_89 : decode cX0_writeGuard 89 = .ok (.invokevirtual 145, 3) := by decide +kernel
theorem dX0_writeGuard_92 : decode cX0_writeGuard 92 = .ok (.istore 8, 2) := by decide +kernel
theorem dX0_writeGuard_94 : decode cX0_writeGuard 94 = .ok (.aload_n 0, 1) := by decide +kernel
theorem dX0_writeGuard_95 : decode cX0_writeGuard 95 = .ok (.iload 5, 2) := by decide +kernel
theorem dX0_writeGuard_97 : decode cX0_writeGuard 97 = .ok (.putfield 57, 3) := by decide +kernel
theorem dX0_writeGuard_100 : decode cX0_writeGuard 100 = .ok (.aload_n 0, 1) := by decide +kernel
theorem dX0_writeGuard_101 : decode cX0_writeGuard 101 = .ok (.iload_n 1, 1) := by decide +kernel
theorem dX0_writeGuard_102 : decode cX0_writeGuard 102 = .ok (.iload_n 2, 1) := by decide +kernel
theorem dX0_writeGuard_103 : decode cX0_writeGuard 103 = .ok (.iload 6, 2) := by decide +kernel
theorem dX0_writeGuard_105 : decode cX0_writeGuard 105 = .ok (.iload 7, 2) := by decide +kernel
theorem dX0_writeGuard_107 : decode cX0_writeGuard 107 = .ok (.iload 8, 2) := by decide +kernel
theorem dX0_writeGuard_109 : decode cX0_writeGuard 109 = .ok (.invokevirtual 148, 3) := by decide +kernel
theorem dX0_writeGuard_112 : decode cX0_writeGuard 112 = .ok (.istore 8, 2) := by decide +kernel
theorem dX0_writeGuard_114 : decode cX0_writeGuard 114 = .ok (.aload_n 0, 1) := by decide +kernel
theorem dX0_writeGuard_115 : decode cX0_writeGuard 115 = .ok (.iload_n 3, 1) := by decide +kernel
theorem dX0_writeGuard_116 : decode cX0_writeGuard 116 = .ok (.putfield 57, 3) := by decide +kernel
theorem dX0_writeGuard_119 : decode cX0_writeGuard 119 = .ok (.iload 4, 2) := by decide +kernel
theorem dX0_writeGuard_121 : decode cX0_writeGuard 121 = .ok (.ifCond .eq 46, 3) := by decide +kernel
theorem dX0_writeGuard_124 : decode cX0_writeGuard 124 = .ok (.aload_n 0, 1) := by decide +kernel
theorem dX0_writeGuard_125 : decode cX0_writeGuard 125 = .ok (.getfield 27, 3) := by decide +kernel
theorem dX0_writeGuard_128 : decode cX0_writeGuard 128 = .ok (.iload 6, 2) := by decide +kernel
theorem dX0_writeGuard_130 : decode cX0_writeGuard 130 = .ok (.iconst 4, 1) := by decide +kernel
theorem dX0_writeGuard_131 : decode cX0_writeGuard 131 = .ok (.invokevirtual 63, 3) := by decide +kernel
theorem dX0_writeGuard_134 : decode cX0_writeGuard 134 = .ok (.istore 9, 2) := by decide +kernel
theorem dX0_writeGuard_136 : decode cX0_writeGuard 136 = .ok (.aload_n 0, 1) := by decide +kernel
theorem dX0_writeGuard_137 : decode cX0_writeGuard 137 = .ok (.iload 6, 2) := by decide +kernel
theorem dX0_writeGuard_139 : decode cX0_writeGuard 139 = .ok (.invokevirtual 123, 3) := by decide +kernel
theorem dX0_writeGuard_142 : decode cX0_writeGuard 142 = .ok (.aload_n 0, 1) := by decide +kernel
theorem dX0_writeGuard_143 : decode cX0_writeGuard 143 = .ok (.getfield 24, 3) := by decide +kernel
theorem dX0_writeGuard_146 : decode cX0_writeGuard 146 = .ok (.iload 5, 2) := by decide +kernel
theorem dX0_writeGuard_148 : decode cX0_writeGuard 148 = .ok (.iconst 1, 1) := by decide +kernel
theorem dX0_writeGuard_149 : decode cX0_writeGuard 149 = .ok (.aload_n 0, 1) := by decide +kernel
theorem dX0_writeGuard_150 : decode cX0_writeGuard 150 = .ok (.getfield 20, 3) := by decide +kernel
theorem dX0_writeGuard_153 : decode cX0_writeGuard 153 = .ok (.getfield 49, 3) := by decide +kernel
theorem dX0_writeGuard_156 : decode cX0_writeGuard 156 = .ok (.invokevirtual 53, 3) := by decide +kernel
theorem dX0_writeGuard_159 : decode cX0_writeGuard 159 = .ok (.aload_n 0, 1) := by decide +kernel
theorem dX0_writeGuard_160 : decode cX0_writeGuard 160 = .ok (.iload_n 1, 1) := by decide +kernel
theorem dX0_writeGuard_161 : decode cX0_writeGuard 161 = .ok (.iload_n 2, 1) := by decide +kernel
theorem dX0_writeGuard_162 : decode cX0_writeGuard 162 = .ok (.iload 9, 2) := by decide +kernel
theorem dX0_writeGuard_164 : decode cX0_writeGuard 164 = .ok (.invokevirtual 152, 3) := by decide +kernel
theorem dX0_writeGuard_167 : decode cX0_writeGuard 167 = .ok (.aload_n 0, 1) := by decide +kernel
theorem dX0_writeGuard_168 : decode cX0_writeGuard 168 = .ok (.iload 8, 2) := by decide +kernel
theorem dX0_writeGuard_170 : decode cX0_writeGuard 170 = .ok (.aload_n 0, 1) := by decide +kernel
theorem dX0_writeGuard_171 : decode cX0_writeGuard 171 = .ok (.getfield 20, 3) := by decide +kernel
theorem dX0_writeGuard_174 : decode cX0_writeGuard 174 = .ok (.getfield 49, 3) := by decide +kernel
theorem dX0_writeGuard_177 : decode cX0_writeGuard 177 = .ok (.invokevirtual 113, 3) := by decide +kernel
theorem dX0_writeGuard_180 : decode cX0_writeGuard 180 = .ok (.return_, 1) := by decide +kernel
set_option maxHeartbeats 8000000 in
set_option maxRecDepth 100000 in
theorem a_C_writeGuard (l : Launch) (D : va_G) (g : Nat → ClassId) (dn : Nat) (hdn : dn ≤ 16) (hB : ∀ (sz : Nat) (h : Nat) (ca : Nat → Nat) (ci : Nat → Int32) (cr : Nat → Nat) (cf : Nat → Nat → Int32) (da : Nat → Nat) (ph : Nat) (dr : Nat → Nat) (df : Nat → Nat → Int32) (pa : Nat → Nat) (pr : Nat → Nat) (pf : Nat → Nat → Int32) (n1 : Int32) (hw_c : ∀ k, cr k ≤ coW_lim k) (hw_d : ∀ k, dr k ≤ cdW_lim k) (hw_p : ∀ k, pr k ≤ pgW_lim k), vz_Mv l D (tyG g) yX0_writeBlock cX0_writeBlock 5 (7 * (17 - (dn + 1)) + 110) (203 * (17 - (dn + 1)) + 4000) 0 0 [.ref h, .int n1, .int (nI (dn + 1))] sz (vz_w [coW g h ca ci cr cf (da 0) (da 2) ph, cdW g da dr df, pgW g ph pa pr pf]) (fun u : (Nat → Int32) × (Nat → Nat) × (Nat → Nat → Int32) × (Nat → Nat) × (Nat → Nat → Int32) => (∀ k, u.2.1 k ≤ coW_lim k) ∧ (∀ k, u.2.2.2.1 k ≤ cdW_lim k)) (fun u => vz_w [coW g h ca u.1 u.2.1 u.2.2.1 (da 0) (da 2) ph, cdW g da u.2.2.2.1 u.2.2.2.2, pgW g ph pa pr pf])) (sz : Nat) (h : Nat) (ca : Nat → Nat) (ci : Nat → Int32) (cr : Nat → Nat) (cf : Nat → Nat → Int32) (da : Nat → Nat) (ph : Nat) (dr : Nat → Nat) (df : Nat → Nat → Int32) (pa : Nat → Nat) (pr : Nat → Nat) (pf : Nat → Nat → Int32) (n1 : Int32) (hw_c : ∀ k, cr k ≤ coW_lim k) (hw_d : ∀ k, dr k ≤ cdW_lim k) (hw_p : ∀ k, pr k ≤ pgW_lim k) : vz_Mv l D (tyG g) yX0_writeGuard cX0_writeGuard 10 (7 * (16 - dn) + 115) (203 * (16 - dn) + 4145) 0 0 [.ref h, .int n1, .int (nI dn)] sz (vz_w [coW g h ca ci cr cf (da 0) (da 2) ph, cdW g da dr df, pgW g ph pa pr pf]) (fun u : (Nat → Int32) × (Nat → Nat) × (Nat → Nat → Int32) × (Nat → Nat) × (Nat → Nat → Int32) => (∀ k, u.2.1 k ≤ coW_lim k) ∧ (∀ k, u.2.2.2.1 k ≤ cdW_lim k)) (fun u => vz_w [coW g h ca u.1 u.2.1 u.2.2.1 (da 0) (da 2) ph, cdW g da u.2.2.2.1 u.2.2.2.2, pgW g ph pa pr pf]) := by
  refine vz_svQ (by decide) (Nat.le_of_ble_eq_true rfl) (fun p e s m args below meth c hx hb hr hml hts hown hlk hin hK hsz A hA H locs hP hD hS ls hl Q hQ => ?_)
  have hl : lv_has ls 10 [(0, .ref h), (1, .int n1), (2, .int (nI dn))] := hl
  have J167 : ∀ (x3_167 : Int32), ∀ (x4_167 : Int32), ∀ (x5_167 : Int32), ∀ (x6_167 : Int32), ∀ (x7_167 : Int32), ∀ (x8_167 : Int32), ∀ (ci_167 : Nat → Int32), ∀ (cr_167 : Nat → Nat), ∀ (cf_167 : Nat → Nat → Int32), ∀ (dr_167 : Nat → Nat), ∀ (df_167 : Nat → Nat → Int32), (x4_167 = 0 ∨ x4_167 = 1) → (∀ k, cr_167 k ≤ coW_lim k) → (∀ k, dr_167 k ≤ cdW_lim k) → ∀ (H : Heap) (locs : List Loc) (ls : Array Slot), va_P D vwCl (vz_w [coW g h ca ci_167 cr_167 cf_167 (da 0) (da 2) ph, cdW g da dr_167 df_167, pgW g ph pa pr pf]) H → va_D A (vz_w [coW g h ca ci_167 cr_167 cf_167 (da 0) (da 2) ph, cdW g da dr_167 df_167, pgW g ph pa pr pf]) → va_S A s.heap H locs → lv_has ls 10 [(0, .ref h), (1, .int n1), (2, .int (nI dn)), (3, .int x3_167), (4, .int x4_167), (5, .int x5_167), (6, .int x6_167), (7, .int x7_167), (8, .int x8_167)] → W p l e { frames := (7 * (16 - dn) + 115), cells := 0, slots := 0, locals := (203 * (16 - dn) + 4145) } s m args below meth c H locs 0 0 Q (F0 m 167 ls []) := by
    intro x3_167 x4_167 x5_167 x6_167 x7_167 x8_167 ci_167 cr_167 cf_167 dr_167 df_167 hz_x4_167 hw_c_167 hw_d_167 H locs ls hP hD hS hl
    refine lv_aload_n hx hb dX0_writeGuard_167 rfl (lv_at hl 0 rfl) ?_
    refine lv_iload hx hb dX0_writeGuard_168 (lv_at hl 8 rfl) ?_
    refine lv_aload_n hx hb dX0_writeGuard_170 rfl (lv_at hl 0 rfl) ?_
    refine va_get (D := D) (ci := 0) (v := .ref (da 0)) (C := RX0) (T := TX0) (N := 8) hx hb hts inlX0 hown hK hP 0 rfl rfl 0 (by decide) (hts _ q110) (fun _ h => h) rfl dX0_writeGuard_171 ?_
    refine va_get (D := D) (ci := 6) (v := .int (nI (dr_167 0))) (C := RX6) (T := TX6) (N := 4) hx hb hts inlX6 hown hK hP 3 rfl rfl 3 (by decide) (hts _ q621) (fun _ h => h) rfl dX0_writeGuard_174 ?_
    refine vz_Vv3 (As := [.int x8_167, .int (nI (dr_167 0))]) (rest := []) hx hb hml hown hts hK hA hP hD hS (a_C_patch l D g H.size h ca ci_167 cr_167 cf_167 da ph dr_167 df_167 pa pr pf x8_167 (nI (dr_167 0)) hw_c_167 hw_d_167 hw_p) kv_X0_113 ⟨by dsimp only; omega, by dsimp only; omega⟩ (q0 := 0) (ci := 0) rfl rfl rfl  hl.1 (Nat.le_of_ble_eq_true rfl) dX0_writeGuard_177 ⟨Nat.le_refl _, Nat.le_refl _⟩ rfl (fun df_1 H locs _ _ hP hD hS => ?_)
    replace hP : va_P D vwCl (vz_w [coW g h ca ci_167 cr_167 cf_167 (da 0) (da 2) ph, cdW g da dr_167 df_1, pgW g ph pa pr pf]) H := hP
    replace hD : va_D A (vz_w [coW g h ca ci_167 cr_167 cf_167 (da 0) (da 2) ph, cdW g da dr_167 df_1, pgW g ph pa pr pf]) := hD
    rw [hQ]
    exact vz_vret3 hx hb hr hlk hK hP hD hS (ci_167, cr_167, cf_167, dr_167, df_1) (⟨hw_c_167, hw_d_167⟩) rfl (Nat.le_refl 0) (Nat.le_refl 0) dX0_writeGuard_180
  have J62 : ∀ (x3_62 : Int32), ∀ (x4_62 : Int32), ∀ (x5_62 : Int32), ∀ (y0_62 : Int32), ∀ (ci_62 : Nat → Int32), ∀ (cr_62 : Nat → Nat), ∀ (cf_62 : Nat → Nat → Int32), ∀ (dr_62 : Nat → Nat), ∀ (df_62 : Nat → Nat → Int32), (x4_62 = 0 ∨ x4_62 = 1) → (∀ k, cr_62 k ≤ coW_lim k) → (∀ k, dr_62 k ≤ cdW_lim k) → ∀ (H : Heap) (locs : List Loc) (ls : Array Slot), va_P D vwCl (vz_w [coW g h ca ci_62 cr_62 cf_62 (da 0) (da 2) ph, cdW g da dr_62 df_62, pgW g ph pa pr pf]) H → va_D A (vz_w [coW g h ca ci_62 cr_62 cf_62 (da 0) (da 2) ph, cdW g da dr_62 df_62, pgW g ph pa pr pf]) → va_S A s.heap H locs → lv_has ls 10 [(0, .ref h), (1, .int n1), (2, .int (nI dn)), (3, .int x3_62), (4, .int x4_62), (5, .int x5_62)] → W p l e { frames := (7 * (16 - dn) + 115), cells := 0, slots := 0, locals := (203 * (16 - dn) + 4145) } s m args below meth c H locs 0 0 Q (F0 m 62 ls [.int y0_62]) := by
    intro x3_62 x4_62 x5_62 y0_62 ci_62 cr_62 cf_62 dr_62 df_62 hz_x4_62 hw_c_62 hw_d_62 H locs ls hP hD hS hl
    refine lv_istore (lv' := [(6, .int y0_62), (0, .ref h), (1, .int n1), (2, .int (nI dn)), (3, .int x3_62), (4, .int x4_62), (5, .int x5_62)]) hx hb dX0_writeGuard_62 hl (by decide) rfl (fun ls hl => ?_)
    refine lv_aload_n hx hb dX0_writeGuard_64 rfl (lv_at hl 1 rfl) ?_
    refine va_get (D := D) (ci := 0) (v := .ref (da 2)) (C := RX0) (T := TX0) (N := 8) hx hb hts inlX0 hown hK hP 0 rfl rfl 1 (by decide) (hts _ q111) (fun _ h => h) rfl dX0_writeGuard_65 ?_
    refine va_get (D := D) (ci := 6) (v := .int (nI (dr_62 1))) (C := RX6) (T := TX6) (N := 4) hx hb hts inlX6 hown hK hP 5 rfl rfl 3 (by decide) (hts _ q621) (fun _ h => h) rfl dX0_writeGuard_68 ?_
    refine lv_istore (lv' := [(7, .int (nI (dr_62 1))), (6, .int y0_62), (0, .ref h), (1, .int n1), (2, .int (nI dn)), (3, .int x3_62), (4, .int x4_62), (5, .int x5_62)]) hx hb dX0_writeGuard_71 hl (by decide) rfl (fun ls hl => ?_)
    refine lv_aload_n hx hb dX0_writeGuard_73 rfl (lv_at hl 2 rfl) ?_
    refine lv_aload_n hx hb dX0_writeGuard_74 rfl (lv_at hl 2 rfl) ?_
    refine lv_iload_n hx hb dX0_writeGuard_75 rfl (lv_at hl 3 rfl) ?_
    refine lv_iload hx hb dX0_writeGuard_76 (lv_at hl 7 rfl) ?_
    refine vz_Vi3 (As := [.int n1, .int x5_62]) (rest := [.ref h]) hx hb hml hown hts hK hA hP hD hS (a_C_newCatchHandlers l D g H.size h ca ci_62 cr_62 cf_62 da ph dr_62 df_62 pa pr pf n1 x5_62 hw_c_62 hw_d_62 hw_p) kv_X0_142 ⟨by dsimp only; omega, by dsimp only; omega⟩ (q0 := 0) (ci := 0) rfl rfl rfl  hl.1 (Nat.le_of_ble_eq_true rfl) dX0_writeGuard_78 ⟨Nat.le_refl _, Nat.le_refl _⟩ rfl (fun v5 ⟨ci_1, dr_2, df_3⟩ H locs hw_4 _ hP hD hS => ?_)
    try dsimp only at hw_4
    replace hP : va_P D vwCl (vz_w [coW g h ca ci_1 cr_62 cf_62 (da 0) (da 2) ph, cdW g da dr_2 df_3, pgW g ph pa pr pf]) H := hP
    replace hD : va_D A (vz_w [coW g h ca ci_1 cr_62 cf_62 (da 0) (da 2) ph, cdW g da dr_2 df_3, pgW g ph pa pr pf]) := hD
    refine va_put (D := D) (ci := 0) (v := .int v5) (ty := .int) (C := RX0) (T := TX0) (N := 8) hx hb hts inlX0 tyX0 tyX0_ok nmX0 hown hK hP hD hS 0 rfl rfl 6 (by decide) (hts _ q622) (fun _ h => h) rfl (by decide +kernel) rfl rfl (Nat.le_of_ble_eq_true rfl) dX0_writeGuard_81 (fun H locs hP hD hS => ?_)
    obtain ⟨ci_6, hci_6, hP, hD⟩ : ∃ ci_6 : Nat → Int32, (ci_6 = (upd ci_1 2 v5)) ∧ va_P D vwCl (vz_w [coW g h ca ci_6 cr_62 cf_62 (da 0) (da 2) ph, cdW g da dr_2 df_3, pgW g ph pa pr pf]) H ∧ va_D A (vz_w [coW g h ca ci_6 cr_62 cf_62 (da 0) (da 2) ph, cdW g da dr_2 df_3, pgW g ph pa pr pf]) := ⟨(upd ci_1 2 v5), rfl, hP, hD⟩
    refine lv_aload_n hx hb dX0_writeGuard_84 rfl (lv_at hl 2 rfl) ?_
    refine lv_iload_n hx hb dX0_writeGuard_85 rfl (lv_at hl 3 rfl) ?_
    refine lv_iload_n hx hb dX0_writeGuard_86 rfl (lv_at hl 4 rfl) ?_
    refine lv_iload hx hb dX0_writeGuard_87 (lv_at hl 1 rfl) ?_
    refine vz_Vi3 (As := [.int n1, .int (nI dn), .int y0_62]) (rest := []) hx hb hml hown hts hK hA hP hD hS (a_C_writeHeld l D g dn hdn hB H.size h ca ci_6 cr_62 cf_62 da ph dr_2 df_3 pa pr pf n1 y0_62 hw_c_62 hw_4 hw_p) kv_X0_145 ⟨by dsimp only; omega, by dsimp only; omega⟩ (q0 := 0) (ci := 0) rfl rfl rfl  hl.1 (Nat.le_of_ble_eq_true rfl) dX0_writeGuard_89 ⟨Nat.le_refl _, Nat.le_refl _⟩ rfl (fun v14 ⟨ci_7, cr_8, cf_9, dr_10, df_11⟩ H locs ⟨hw_12, hw_13⟩ _ hP hD hS => ?_)
    try dsimp only at hw_12 hw_13
    replace hP : va_P D vwCl (vz_w [coW g h ca ci_7 cr_8 cf_9 (da 0) (da 2) ph, cdW g da dr_10 df_11, pgW g ph pa pr pf]) H := hP
    replace hD : va_D A (vz_w [coW g h ca ci_7 cr_8 cf_9 (da 0) (da 2) ph, cdW g da dr_10 df_11, pgW g ph pa pr pf]) := hD
    refine lv_istore (lv' := [(8, .int v14), (7, .int (nI (dr_62 1))), (6, .int y0_62), (0, .ref h), (1, .int n1), (2, .int (nI dn)), (3, .int x3_62), (4, .int x4_62), (5, .int x5_62)]) hx hb dX0_writeGuard_92 hl (by decide) rfl (fun ls hl => ?_)
    refine lv_aload_n hx hb dX0_writeGuard_94 rfl (lv_at hl 3 rfl) ?_
    refine lv_iload hx hb dX0_writeGuard_95 (lv_at hl 8 rfl) ?_
    refine va_put (D := D) (ci := 0) (v := .int x5_62) (ty := .int) (C := RX0) (T := TX0) (N := 8) hx hb hts inlX0 tyX0 tyX0_ok nmX0 hown hK hP hD hS 0 rfl rfl 6 (by decide) (hts _ q622) (fun _ h => h) rfl (by decide +kernel) rfl rfl (Nat.le_of_ble_eq_true rfl) dX0_writeGuard_97 (fun H locs hP hD hS => ?_)
    obtain ⟨ci_15, hci_15, hP, hD⟩ : ∃ ci_15 : Nat → Int32, (ci_15 = (upd ci_7 2 x5_62)) ∧ va_P D vwCl (vz_w [coW g h ca ci_15 cr_8 cf_9 (da 0) (da 2) ph, cdW g da dr_10 df_11, pgW g ph pa pr pf]) H ∧ va_D A (vz_w [coW g h ca ci_15 cr_8 cf_9 (da 0) (da 2) ph, cdW g da dr_10 df_11, pgW g ph pa pr pf]) := ⟨(upd ci_7 2 x5_62), rfl, hP, hD⟩
    refine lv_aload_n hx hb dX0_writeGuard_100 rfl (lv_at hl 3 rfl) ?_
    refine lv_iload_n hx hb dX0_writeGuard_101 rfl (lv_at hl 4 rfl) ?_
    refine lv_iload_n hx hb dX0_writeGuard_102 rfl (lv_at hl 5 rfl) ?_
    refine lv_iload hx hb dX0_writeGuard_103 (lv_at hl 2 rfl) ?_
    refine lv_iload hx hb dX0_writeGuard_105 (lv_at hl 1 rfl) ?_
    refine lv_iload hx hb dX0_writeGuard_107 (lv_at hl 0 rfl) ?_
    refine vz_Vi3 (As := [.int n1, .int (nI dn), .int y0_62, .int (nI (dr_62 1)), .int v14]) (rest := []) hx hb hml hown hts hK hA hP hD hS (a_C_writeCatches l D g dn hdn hB H.size h ca ci_15 cr_8 cf_9 da ph dr_10 df_11 pa pr pf n1 y0_62 (nI (dr_62 1)) v14 hw_12 hw_13 hw_p) kv_X0_148 ⟨by dsimp only; omega, by dsimp only; omega⟩ (q0 := 0) (ci := 0) rfl rfl rfl  hl.1 (Nat.le_of_ble_eq_true rfl) dX0_writeGuard_109 ⟨Nat.le_refl _, Nat.le_refl _⟩ rfl (fun v23 ⟨ci_16, cr_17, cf_18, dr_19, df_20⟩ H locs ⟨hw_21, hw_22⟩ _ hP hD hS => ?_)
    try dsimp only at hw_21 hw_22
    replace hP : va_P D vwCl (vz_w [coW g h ca ci_16 cr_17 cf_18 (da 0) (da 2) ph, cdW g da dr_19 df_20, pgW g ph pa pr pf]) H := hP
    replace hD : va_D A (vz_w [coW g h ca ci_16 cr_17 cf_18 (da 0) (da 2) ph, cdW g da dr_19 df_20, pgW g ph pa pr pf]) := hD
    refine lv_istore (lv' := [(8, .int v23), (7, .int (nI (dr_62 1))), (6, .int y0_62), (0, .ref h), (1, .int n1), (2, .int (nI dn)), (3, .int x3_62), (4, .int x4_62), (5, .int x5_62)]) hx hb dX0_writeGuard_112 hl (by decide) rfl (fun ls hl => ?_)
    refine lv_aload_n hx hb dX0_writeGuard_114 rfl (lv_at hl 3 rfl) ?_
    refine lv_iload_n hx hb dX0_writeGuard_115 rfl (lv_at hl 6 rfl) ?_
    refine va_put (D := D) (ci := 0) (v := .int x3_62) (ty := .int) (C := RX0) (T := TX0) (N := 8) hx hb hts inlX0 tyX0 tyX0_ok nmX0 hown hK hP hD hS 0 rfl rfl 6 (by decide) (hts _ q622) (fun _ h => h) rfl (by decide +kernel) rfl rfl (Nat.le_of_ble_eq_true rfl) dX0_writeGuard_116 (fun H locs hP hD hS => ?_)
    obtain ⟨ci_24, hci_24, hP, hD⟩ : ∃ ci_24 : Nat → Int32, (ci_24 = (upd ci_16 2 x3_62)) ∧ va_P D vwCl (vz_w [coW g h ca ci_24 cr_17 cf_18 (da 0) (da 2) ph, cdW g da dr_19 df_20, pgW g ph pa pr pf]) H ∧ va_D A (vz_w [coW g h ca ci_24 cr_17 cf_18 (da 0) (da 2) ph, cdW g da dr_19 df_20, pgW g ph pa pr pf]) := ⟨(upd ci_16 2 x3_62), rfl, hP, hD⟩
    refine lv_iload hx hb dX0_writeGuard_119 (lv_at hl 7 rfl) ?_
    refine lv_if_eq (tgt := 167) hx hb dX0_writeGuard_121 (by decide) (fun kc25 => ?_) (fun kc25 => ?_)
    · exact J167 x3_62 x4_62 x5_62 y0_62 (nI (dr_62 1)) v23 ci_24 cr_17 cf_18 dr_19 df_20 hz_x4_62 hw_21 hw_22 H locs ls hP hD hS (lv_sub hl [3, 4, 5, 6, 7, 8, 2, 1, 0] rfl)
    · refine lv_aload_n hx hb dX0_writeGuard_124 rfl (lv_at hl 3 rfl) ?_
      refine va_get (D := D) (ci := 0) (v := .ref (ca 0)) (C := RX0) (T := TX0) (N := 8) hx hb hts inlX0 hown hK hP 0 rfl rfl 2 (by decide) (hts _ q112) (fun _ h => h) rfl dX0_writeGuard_125 ?_
      refine lv_iload hx hb dX0_writeGuard_128 (lv_at hl 2 rfl) ?_
      refine lv_iconst (v := 4) hx hb dX0_writeGuard_130 (by decide) ?_
      refine vz_Vi2 (ws' := fun u : Unit => vz_w [coW g h ca ci_24 cr_17 cf_18 (da 0) (da 2) ph, cdW g da dr_19 df_20, pgW g ph pa pr pf]) (As := [.int y0_62, .int 4]) (rest := []) hx hb hml hown hts hK hA hP hD hS (c_T_get l D g (ca 0) (ca 1) H.size 6 64 (cr_17 0) 384 (cf_18 0) y0_62 4 ⟨rfl, by decide, by decide, by decide, by decide, hw_21 0⟩) kv_X0_63 ⟨by dsimp only; omega, by dsimp only; omega⟩ (q0 := 1) (ci := 6) rfl rfl rfl [1, 2] rfl (by decide) (fun _ => rfl) (fun _ => rfl) hl.1 (Nat.le_of_ble_eq_true rfl) dX0_writeGuard_131 ⟨Nat.le_refl _, Nat.le_refl _⟩ rfl (fun v26 _ H locs he27 _ hP hD hS => ?_)
      refine lv_istore (lv' := [(9, .int v26), (8, .int v23), (7, .int (nI (dr_62 1))), (6, .int y0_62), (0, .ref h), (1, .int n1), (2, .int (nI dn)), (3, .int x3_62), (4, .int x4_62), (5, .int x5_62)]) hx hb dX0_writeGuard_134 hl (by decide) rfl (fun ls hl => ?_)
      refine lv_aload_n hx hb dX0_writeGuard_136 rfl (lv_at hl 4 rfl) ?_
      refine lv_iload hx hb dX0_writeGuard_137 (lv_at hl 3 rfl) ?_
      refine vz_Vv3 (As := [.int y0_62]) (rest := []) hx hb hml hown hts hK hA hP hD hS (a_C_popContext l D g H.size h ca ci_24 cr_17 cf_18 da ph dr_19 df_20 pa pr pf y0_62 hw_21 hw_22 hw_p) kv_X0_123 ⟨by dsimp only; omega, by dsimp only; omega⟩ (q0 := 0) (ci := 0) rfl rfl rfl  hl.1 (Nat.le_of_ble_eq_true rfl) dX0_writeGuard_139 ⟨Nat.le_refl _, Nat.le_refl _⟩ rfl (fun ⟨ci_28, cr_29⟩ H locs hw_30 _ hP hD hS => ?_)
      try dsimp only at hw_30
      replace hP : va_P D vwCl (vz_w [coW g h ca ci_28 cr_29 cf_18 (da 0) (da 2) ph, cdW g da dr_19 df_20, pgW g ph pa pr pf]) H := hP
      replace hD : va_D A (vz_w [coW g h ca ci_28 cr_29 cf_18 (da 0) (da 2) ph, cdW g da dr_19 df_20, pgW g ph pa pr pf]) := hD
      refine lv_aload_n hx hb dX0_writeGuard_142 rfl (lv_at hl 4 rfl) ?_
      refine va_get (D := D) (ci := 0) (v := .ref (da 2)) (C := RX0) (T := TX0) (N := 8) hx hb hts inlX0 hown hK hP 0 rfl rfl 1 (by decide) (hts _ q111) (fun _ h => h) rfl dX0_writeGuard_143 ?_
      refine lv_iload hx hb dX0_writeGuard_146 (lv_at hl 9 rfl) ?_
      refine lv_iconst (v := 1) hx hb dX0_writeGuard_148 (by decide) ?_
      refine lv_aload_n hx hb dX0_writeGuard_149 rfl (lv_at hl 4 rfl) ?_
      refine va_get (D := D) (ci := 0) (v := .ref (da 0)) (C := RX0) (T := TX0) (N := 8) hx hb hts inlX0 hown hK hP 0 rfl rfl 0 (by decide) (hts _ q110) (fun _ h => h) rfl dX0_writeGuard_150 ?_
      refine va_get (D := D) (ci := 6) (v := .int (nI (dr_19 0))) (C := RX6) (T := TX6) (N := 4) hx hb hts inlX6 hown hK hP 3 rfl rfl 3 (by decide) (hts _ q621) (fun _ h => h) rfl dX0_writeGuard_153 ?_
      refine vz_Vv2 (ws' := fun u : (Nat → Int32) => vz_w [coW g h ca ci_28 cr_29 cf_18 (da 0) (da 2) ph, cdW g da dr_19 (vz_uf df_20 1 u), pgW g ph pa pr pf]) (As := [.int x5_62, .int 1, .int (nI (dr_19 0))]) (rest := []) hx hb hml hown hts hK hA hP hD hS (c_T_set l D g (da 2) (da 3) H.size 3 500 (dr_19 1) 1500 (df_20 1) x5_62 1 (nI (dr_19 0)) ⟨rfl, by decide, by decide, by decide, by decide, hw_22 1⟩) kv_X0_53 ⟨by dsimp only; omega, by dsimp only; omega⟩ (q0 := 5) (ci := 6) rfl rfl rfl [5, 6] rfl (by decide) (fun _ => rfl) (fun _ => rfl) hl.1 (Nat.le_of_ble_eq_true rfl) dX0_writeGuard_156 ⟨Nat.le_refl _, Nat.le_refl _⟩ rfl (fun nf31 H locs _ _ hP hD hS => ?_)
      obtain ⟨df_32, hP, hD⟩ : ∃ df_32 : Nat → Nat → Int32, va_P D vwCl (vz_w [coW g h ca ci_28 cr_29 cf_18 (da 0) (da 2) ph, cdW g da dr_19 df_32, pgW g ph pa pr pf]) H ∧ va_D A (vz_w [coW g h ca ci_28 cr_29 cf_18 (da 0) (da 2) ph, cdW g da dr_19 df_32, pgW g ph pa pr pf]) := ⟨(vz_uf df_20 1 nf31), hP, hD⟩
      refine lv_aload_n hx hb dX0_writeGuard_159 rfl (lv_at hl 4 rfl) ?_
      refine lv_iload_n hx hb dX0_writeGuard_160 rfl (lv_at hl 5 rfl) ?_
      refine lv_iload_n hx hb dX0_writeGuard_161 rfl (lv_at hl 6 rfl) ?_
      refine lv_iload hx hb dX0_writeGuard_162 (lv_at hl 0 rfl) ?_
      refine vz_Vv3 (As := [.int n1, .int (nI dn), .int v26]) (rest := []) hx hb hml hown hts hK hA hP hD hS (a_C_writeLast l D g dn hdn hB H.size h ca ci_28 cr_29 cf_18 da ph dr_19 df_32 pa pr pf n1 v26 hw_30 hw_22 hw_p) kv_X0_152 ⟨by dsimp only; omega, by dsimp only; omega⟩ (q0 := 0) (ci := 0) rfl rfl rfl  hl.1 (Nat.le_of_ble_eq_true rfl) dX0_writeGuard_164 ⟨Nat.le_refl _, Nat.le_refl _⟩ rfl (fun ⟨ci_33, cr_34, cf_35, dr_36, df_37⟩ H locs ⟨hw_38, hw_39⟩ _ hP hD hS => ?_)
      try dsimp only at hw_38 hw_39
      replace hP : va_P D vwCl (vz_w [coW g h ca ci_33 cr_34 cf_35 (da 0) (da 2) ph, cdW g da dr_36 df_37, pgW g ph pa pr pf]) H := hP
      replace hD : va_D A (vz_w [coW g h ca ci_33 cr_34 cf_35 (da 0) (da 2) ph, cdW g da dr_36 df_37, pgW g ph pa pr pf]) := hD
      exact J167 x3_62 x4_62 x5_62 y0_62 (nI (dr_62 1)) v23 ci_33 cr_34 cf_35 dr_36 df_37 hz_x4_62 hw_38 hw_39 H locs ls hP hD hS (lv_sub hl [4, 5, 6, 7, 8, 9, 3, 2, 1] rfl)
  have J44 : ∀ (x3_44 : Int32), ∀ (x4_44 : Int32), ∀ (y0_44 : Int32), ∀ (ci_44 : Nat → Int32), ∀ (cr_44 : Nat → Nat), ∀ (cf_44 : Nat → Nat → Int32), ∀ (dr_44 : Nat → Nat), ∀ (df_44 : Nat → Nat → Int32), (x4_44 = 0 ∨ x4_44 = 1) → (∀ k, cr_44 k ≤ coW_lim k) → (∀ k, dr_44 k ≤ cdW_lim k) → ∀ (H : Heap) (locs : List Loc) (ls : Array Slot), va_P D vwCl (vz_w [coW g h ca ci_44 cr_44 cf_44 (da 0) (da 2) ph, cdW g da dr_44 df_44, pgW g ph pa pr pf]) H → va_D A (vz_w [coW g h ca ci_44 cr_44 cf_44 (da 0) (da 2) ph, cdW g da dr_44 df_44, pgW g ph pa pr pf]) → va_S A s.heap H locs → lv_has ls 10 [(0, .ref h), (1, .int n1), (2, .int (nI dn)), (3, .int x3_44), (4, .int x4_44)] → W p l e { frames := (7 * (16 - dn) + 115), cells := 0, slots := 0, locals := (203 * (16 - dn) + 4145) } s m args below meth c H locs 0 0 Q (F0 m 44 ls [.int y0_44]) := by
    intro x3_44 x4_44 y0_44 ci_44 cr_44 cf_44 dr_44 df_44 hz_x4_44 hw_c_44 hw_d_44 H locs ls hP hD hS hl
    refine lv_istore (lv' := [(5, .int y0_44), (0, .ref h), (1, .int n1), (2, .int (nI dn)), (3, .int x3_44), (4, .int x4_44)]) hx hb dX0_writeGuard_44 hl (by decide) rfl (fun ls hl => ?_)
    refine lv_iload hx hb dX0_writeGuard_46 (lv_at hl 5 rfl) ?_
    refine lv_if_eq (tgt := 60) hx hb dX0_writeGuard_48 (by decide) (fun kc1 => ?_) (fun kc1 => ?_)
    · refine lv_bipush (v := (-9)) hx hb dX0_writeGuard_60 (by decide) ?_
      exact J62 x3_44 x4_44 y0_44 (-9) ci_44 cr_44 cf_44 dr_44 df_44 hz_x4_44 hw_c_44 hw_d_44 H locs ls hP hD hS (lv_sub hl [1, 2, 3, 4, 5, 0] rfl)
    · refine lv_aload_n hx hb dX0_writeGuard_51 rfl (lv_at hl 1 rfl) ?_
      refine lv_iconst (v := 2) hx hb dX0_writeGuard_52 (by decide) ?_
      refine lv_iload_n hx hb dX0_writeGuard_53 rfl (lv_at hl 2 rfl) ?_
      refine vz_Vi3 (As := [.int 2, .int n1]) (rest := []) hx hb hml hown hts hK hA hP hD hS (a_C_pushContext l D g H.size h ca ci_44 cr_44 cf_44 da ph dr_44 df_44 pa pr pf 2 n1 hw_c_44 hw_d_44 hw_p) kv_X0_120 ⟨by dsimp only; omega, by dsimp only; omega⟩ (q0 := 0) (ci := 0) rfl rfl rfl  hl.1 (Nat.le_of_ble_eq_true rfl) dX0_writeGuard_54 ⟨Nat.le_refl _, Nat.le_refl _⟩ rfl (fun v6 ⟨ci_2, cr_3, cf_4⟩ H locs hw_5 _ hP hD hS => ?_)
      try dsimp only at hw_5
      replace hP : va_P D vwCl (vz_w [coW g h ca ci_2 cr_3 cf_4 (da 0) (da 2) ph, cdW g da dr_44 df_44, pgW g ph pa pr pf]) H := hP
      replace hD : va_D A (vz_w [coW g h ca ci_2 cr_3 cf_4 (da 0) (da 2) ph, cdW g da dr_44 df_44, pgW g ph pa pr pf]) := hD
      refine lv_goto (tgt := 62) hx hb dX0_writeGuard_57 (by decide) ?_
      exact J62 x3_44 x4_44 y0_44 v6 ci_2 cr_3 cf_4 dr_44 df_44 hz_x4_44 hw_5 hw_d_44 H locs ls hP hD hS (lv_sub hl [1, 2, 3, 4, 5, 0] rfl)
  have J27 : ∀ (x3_27 : Int32), ∀ (y0_27 : Int32), ∀ (ci_27 : Nat → Int32), ∀ (cr_27 : Nat → Nat), ∀ (cf_27 : Nat → Nat → Int32), ∀ (dr_27 : Nat → Nat), ∀ (df_27 : Nat → Nat → Int32), (y0_27 = 0 ∨ y0_27 = 1) → (∀ k, cr_27 k ≤ coW_lim k) → (∀ k, dr_27 k ≤ cdW_lim k) → ∀ (H : Heap) (locs : List Loc) (ls : Array Slot), va_P D vwCl (vz_w [coW g h ca ci_27 cr_27 cf_27 (da 0) (da 2) ph, cdW g da dr_27 df_27, pgW g ph pa pr pf]) H → va_D A (vz_w [coW g h ca ci_27 cr_27 cf_27 (da 0) (da 2) ph, cdW g da dr_27 df_27, pgW g ph pa pr pf]) → va_S A s.heap H locs → lv_has ls 10 [(0, .ref h), (1, .int n1), (2, .int (nI dn)), (3, .int x3_27)] → W p l e { frames := (7 * (16 - dn) + 115), cells := 0, slots := 0, locals := (203 * (16 - dn) + 4145) } s m args below meth c H locs 0 0 Q (F0 m 27 ls [.int y0_27]) := by
    intro x3_27 y0_27 ci_27 cr_27 cf_27 dr_27 df_27 hz_y0_27 hw_c_27 hw_d_27 H locs ls hP hD hS hl
    refine lv_istore (lv' := [(4, .int y0_27), (0, .ref h), (1, .int n1), (2, .int (nI dn)), (3, .int x3_27)]) hx hb dX0_writeGuard_27 hl (by decide) rfl (fun ls hl => ?_)
    refine lv_iload hx hb dX0_writeGuard_29 (lv_at hl 0 rfl) ?_
    refine lv_if_eq (tgt := 43) hx hb dX0_writeGuard_31 (by decide) (fun kc1 => ?_) (fun kc1 => ?_)
    · refine lv_iload_n hx hb dX0_writeGuard_43 rfl (lv_at hl 4 rfl) ?_
      exact J44 x3_27 y0_27 x3_27 ci_27 cr_27 cf_27 dr_27 df_27 hz_y0_27 hw_c_27 hw_d_27 H locs ls hP hD hS (lv_sub hl [1, 2, 3, 4, 0] rfl)
    · refine lv_aload_n hx hb dX0_writeGuard_34 rfl (lv_at hl 1 rfl) ?_
      refine lv_iconst (v := 0) hx hb dX0_writeGuard_35 (by decide) ?_
      refine lv_iload_n hx hb dX0_writeGuard_36 rfl (lv_at hl 4 rfl) ?_
      refine vz_Vi3 (As := [.int 0, .int x3_27]) (rest := []) hx hb hml hown hts hK hA hP hD hS (a_C_newHandler l D g H.size h ca ci_27 cr_27 cf_27 da ph dr_27 df_27 pa pr pf 0 x3_27 hw_c_27 hw_d_27 hw_p) kv_X0_139 ⟨by dsimp only; omega, by dsimp only; omega⟩ (q0 := 0) (ci := 0) rfl rfl rfl  hl.1 (Nat.le_of_ble_eq_true rfl) dX0_writeGuard_37 ⟨Nat.le_refl _, Nat.le_refl _⟩ rfl (fun v6 ⟨ci_2, dr_3, df_4⟩ H locs hw_5 _ hP hD hS => ?_)
      try dsimp only at hw_5
      replace hP : va_P D vwCl (vz_w [coW g h ca ci_2 cr_27 cf_27 (da 0) (da 2) ph, cdW g da dr_3 df_4, pgW g ph pa pr pf]) H := hP
      replace hD : va_D A (vz_w [coW g h ca ci_2 cr_27 cf_27 (da 0) (da 2) ph, cdW g da dr_3 df_4, pgW g ph pa pr pf]) := hD
      refine lv_goto (tgt := 44) hx hb dX0_writeGuard_40 (by decide) ?_
      exact J44 x3_27 y0_27 v6 ci_2 cr_27 cf_27 dr_3 df_4 hz_y0_27 hw_c_27 hw_5 H locs ls hP hD hS (lv_sub hl [1, 2, 3, 4, 0] rfl)
  refine lv_aload_n hx hb dX0_writeGuard_0 rfl (lv_at hl 0 rfl) ?_
  refine va_get (D := D) (ci := 0) (v := .int (ci 2)) (C := RX0) (T := TX0) (N := 8) hx hb hts inlX0 hown hK hP 0 rfl rfl 6 (by decide) (hts _ q622) (fun _ h => h) rfl dX0_writeGuard_1 ?_
  refine lv_istore_n (lv' := [(3, .int (ci 2)), (0, .ref h), (1, .int n1), (2, .int (nI dn))]) hx hb dX0_writeGuard_4 rfl hl (by decide) rfl (fun ls hl => ?_)
  refine lv_aload_n hx hb dX0_writeGuard_5 rfl (lv_at hl 1 rfl) ?_
  refine va_get (D := D) (ci := 0) (v := .ref ph) (C := RX0) (T := TX0) (N := 8) hx hb hts inlX0 hown hK hP 0 rfl rfl 3 (by decide) (hts _ q108) (fun _ h => h) rfl dX0_writeGuard_6 ?_
  refine va_get (D := D) (ci := 2) (v := .ref (pa 0)) (C := RX2) (T := TX2) (N := 5) hx hb hts inlX2 hown hK hP 7 rfl rfl 0 (by decide) (hts _ q631) (fun _ h => h) rfl dX0_writeGuard_9 ?_
  refine lv_iload_n hx hb dX0_writeGuard_12 rfl (lv_at hl 2 rfl) ?_
  refine lv_bipush (v := 7) hx hb dX0_writeGuard_13 (by decide) ?_
  refine vz_Vi2 (ws' := fun u : Unit => vz_w [coW g h ca ci cr cf (da 0) (da 2) ph, cdW g da dr df, pgW g ph pa pr pf]) (As := [.int n1, .int 7]) (rest := []) hx hb hml hown hts hK hA hP hD hS (c_T_get l D g (pa 0) (pa 1) H.size 12 80 (pr 0) 960 (pf 0) n1 7 ⟨rfl, by decide, by decide, by decide, by decide, hw_p 0⟩) kv_X0_63 ⟨by dsimp only; omega, by dsimp only; omega⟩ (q0 := 8) (ci := 6) rfl rfl rfl [8, 9] rfl (by decide) (fun _ => rfl) (fun _ => rfl) hl.1 (Nat.le_of_ble_eq_true rfl) dX0_writeGuard_15 ⟨Nat.le_refl _, Nat.le_refl _⟩ rfl (fun v1 _ H locs he2 _ hP hD hS => ?_)
  refine lv_iconst (v := 1) hx hb dX0_writeGuard_18 (by decide) ?_
  refine lv_icmp_ne (tgt := 26) hx hb dX0_writeGuard_19 (by decide) (fun kc3 => ?_) (fun kc3 => ?_)
  · refine lv_iconst (v := 0) hx hb dX0_writeGuard_26 (by decide) ?_
    exact J27 (ci 2) 0 ci cr cf dr df (Or.inl rfl) hw_c hw_d H locs ls hP hD hS (lv_sub hl [1, 2, 3, 0] rfl)
  · refine lv_iconst (v := 1) hx hb dX0_writeGuard_22 (by decide) ?_
    refine lv_goto (tgt := 27) hx hb dX0_writeGuard_23 (by decide) ?_
    exact J27 (ci 2) 1 ci cr cf dr df (Or.inr rfl) hw_c hw_d H locs ls hP hD hS (lv_sub hl [1, 2, 3, 0] rfl)
theorem dX0_writeLoop_0 : decode cX0_writeLoop 0 = .ok (.aload_n 0, 1) := by decide +kernel
theorem dX0_writeLoop_1 : decode cX0_writeLoop 1 = .ok (.bipush 16, 2) := by decide +kernel
theorem dX0_writeLoop_3 : decode cX0_writeLoop 3 = .ok (.aload_n 0, 1) := by decide +kernel
theorem dX0_writeLoop_4 : decode cX0_writeLoop 4 = .ok (.iload_n 1, 1) := by decide +kernel
theorem dX0_writeLoop_5 : decode cX0_writeLoop 5 = .ok (.invokevirtual 116, 3) := by decide +kernel
theorem dX0_writeLoop_8 : decode cX0_writeLoop 8 = .ok (.iconst 0, 1) := by decide +kernel
theorem dX0_writeLoop_9 : decode cX0_writeLoop 9 = .ok (.invokevirtual 70, 3) := by decide +kernel
theorem dX0_writeLoop_12 : decode cX0_writeLoop 12 = .ok (.pop, 1) := by decide +kernel
theorem dX0_writeLoop_13 : decode cX0_writeLoop 13 = .ok (.aload_n 0, 1) := by decide +kernel
theorem dX0_writeLoop_14 : decode cX0_writeLoop 14 = .ok (.bipush 17, 2) := by decide +kernel
theorem dX0_writeLoop_16 : decode cX0_writeLoop 16 = .ok (.bipush (-9), 2) := by decide +kernel
theorem dX0_writeLoop_18 : decode cX0_writeLoop 18 = .ok (.aload_n 0, 1) := by decide +kernel
theorem dX0_writeLoop_19 : decode cX0_writeLoop 19 = .ok (.iload_n 1, 1) := by decide +kernel
theorem dX0_writeLoop_20 : decode cX0_writeLoop 20 = .ok (.invokevirtual 116, 3) := by decide +kernel
theorem dX0_writeLoop_23 : decode cX0_writeLoop 23 = .ok (.invokevirtual 70, 3) := by decide +kernel
theorem dX0_writeLoop_26 : decode cX0_writeLoop 26 = .ok (.istore_n 3, 1) := by decide +kernel
theorem dX0_writeLoop_27 : decode cX0_writeLoop 27 = .ok (.aload_n 0, 1) := by decide +kernel
theorem dX0_writeLoop_28 : decode cX0_writeLoop 28 = .ok (.iconst 0, 1) := by decide +kernel
theorem dX0_writeLoop_29 : decode cX0_writeLoop 29 = .ok (.iload_n 1, 1) := by decide +kernel
theorem dX0_writeLoop_30 : decode cX0_writeLoop 30 = .ok (.invokevirtual 120, 3) := by decide +kernel
theorem dX0_writeLoop_33 : decode cX0_writeLoop 33 = .ok (.istore 4, 2) := by decide +kernel
theorem dX0_writeLoop_35 : decode cX0_writeLoop 35 = .ok (.aload_n 0, 1) := by decide +kernel
theorem dX0_writeLoop_36 : decode cX0_writeLoop 36 = .ok (.getfield 27, 3) := by decide +kernel
theorem dX0_writeLoop_39 : decode cX0_writeLoop 39 = .ok (.iload 4, 2) := by decide +kernel
theorem dX0_writeLoop_41 : decode cX0_writeLoop 41 = .ok (.iconst 5, 1) := by decide +kernel
theorem dX0_writeLoop_42 : decode cX0_writeLoop 42 = .ok (.iload_n 3, 1) := by decide +kernel
theorem dX0_writeLoop_43 : decode cX0_writeLoop 43 = .ok (.invokevirtual 53, 3) := by decide +kernel
theorem dX0_writeLoop_46 : decode cX0_writeLoop 46 = .ok (.aload_n 0, 1) := by decide +kernel
theorem dX0_writeLoop_47 : decode cX0_writeLoop 47 = .ok (.aload_n 0, 1) := by decide +kernel
theorem dX0_writeLoop_48 : decode cX0_writeLoop 48 = .ok (.getfield 9, 3) := by decide +kernel
theorem dX0_writeLoop_51 : decode cX0_writeLoop 51 = .ok (.getfield 81, 3) := by decide +kernel
theorem dX0_writeLoop_54 : decode cX0_writeLoop 54 = .ok (.iload_n 1, 1) := by decide +kernel
theorem dX0_writeLoop_55 : decode cX0_writeLoop 55 = .ok (.iconst 5, 1) := by decide +kernel
theorem dX0_writeLoop_56 : decode cX0_writeLoop 56 = .ok (.invokevirtual 63, 3) := by decide +kernel
theorem dX0_writeLoop_59 : decode cX0_writeLoop 59 = .ok (.iload_n 2, 1) := by decide +kernel
theorem dX0_writeLoop_60 : decode cX0_writeLoop 60 = .ok (.iconst 1, 1) := by decide +kernel
theorem dX0_writeLoop_61 : decode cX0_writeLoop 61 = .ok (.iadd, 1) := by decide +kernel
theorem dX0_writeLoop_62 : decode cX0_writeLoop 62 = .ok (.invokevirtual 67, 3) := by decide +kernel
theorem dX0_writeLoop_65 : decode cX0_writeLoop 65 = .ok (.aload_n 0, 1) := by decide +kernel
theorem dX0_writeLoop_66 : decode cX0_writeLoop 66 = .ok (.bipush 15, 2) := by decide +kernel
theorem dX0_writeLoop_68 : decode cX0_writeLoop 68 = .ok (.iload_n 3, 1) := by decide +kernel
theorem dX0_writeLoop_69 : decode cX0_writeLoop 69 = .ok (.iconst 0, 1) := by decide +kernel
theorem dX0_writeLoop_70 : decode cX0_writeLoop 70 = .ok (.invokevirtual 70, 3) := by decide +kernel
theorem dX0_writeLoop_73 : decode cX0_writeLoop 73 = .ok (.pop, 1) := by decide +kernel
theorem dX0_writeLoop_74 : decode cX0_writeLoop 74 = .ok (.aload_n 0, 1) := by decide +kernel
theorem dX0_writeLoop_75 : decode cX0_writeLoop 75 = .ok (.aload_n 0, 1) := by decide +kernel
theorem dX0_writeLoop_76 : decode cX0_writeLoop 76 = .ok (.getfield 27, 3) := by decide +kernel
theorem dX0_writeLoop_79 : decode cX0_writeLoop 79 = .ok (.iload 4, 2) := by decide +kernel
theorem dX0_writeLoop_81 : decode cX0_writeLoop 81 = .ok (.iconst 4, 1) := by decide +kernel
theorem dX0_writeLoop_82 : decode cX0_writeLoop 82 = .ok (.invokevirtual 63, 3) := by decide +kernel
theorem dX0_writeLoop_85 : decode cX0_writeLoop 85 = .ok (.aload_n 0, 1) := by decide +kernel
theorem dX0_writeLoop_86 : decode cX0_writeLoop 86 = .ok (.getfield 20, 3) := by decide +kernel
theorem dX0_writeLoop_89 : decode cX0_writeLoop 89 = .ok (.getfield 49, 3) := by decide +kernel
theorem dX0_writeLoop_92 : decode cX0_writeLoop 92 = .ok (.invokevirtual 113, 3) := by decide +kernel
theorem dX0_writeLoop_95 : decode cX0_writeLoop 95 = .ok (.aload_n 0, 1) := by decide +kernel
theorem dX0_writeLoop_96 : decode cX0_writeLoop 96 = .ok (.iload_n 3, 1) := by decide +kernel
theorem dX0_writeLoop_97 : decode cX0_writeLoop 97 = .ok (.aload_n 0, 1) := by decide +kernel
theorem dX0_writeLoop_98 : decode cX0_writeLoop 98 = .ok (.getfield 20, 3) := by decide +kernel
theorem dX0_writeLoop_101 : decode cX0_writeLoop 101 = .ok (.getfield 49, 3) := by decide +kernel
theorem dX0_writeLoop_104 : decode cX0_writeLoop 104 = .ok (.invokevirtual 113, 3) := by decide +kernel
theorem dX0_writeLoop_107 : decode cX0_writeLoop 107 = .ok (.aload_n 0, 1) := by decide +kernel
theorem dX0_writeLoop_108 : decode cX0_writeLoop 108 = .ok (.iload 4, 2) := by decide +kernel
theorem dX0_writeLoop_110 : decode cX0_writeLoop 110 = .ok (.invokevirtual 123, 3) := by decide +kernel
theorem dX0_writeLoop_113 : decode cX0_writeLoop 113 = .ok (.return_, 1) := by decide +kernel
set_option maxHeartbeats 8000000 in
set_option maxRecDepth 100000 in
theorem a_C_writeLoop (l : Launch) (D : va_G) (g : Nat → ClassId) (dn : Nat) (hdn : dn ≤ 16) (hB : ∀ (sz : Nat) (h : Nat) (ca : Nat → Nat) (ci : Nat → Int32) (cr : Nat → Nat) (cf : Nat → Nat → Int32) (da : Nat → Nat) (ph : Nat) (dr : Nat → Nat) (df : Nat → Nat → Int32) (pa : Nat → Nat) (pr : Nat → Nat) (pf : Nat → Nat → Int32) (n1 : Int32) (hw_c : ∀ k, cr k ≤ coW_lim k) (hw_d : ∀ k, dr k ≤ cdW_lim k) (hw_p : ∀ k, pr k ≤ pgW_lim k), vz_Mv l D (tyG g) yX0_writeBlock cX0_writeBlock 5 (7 * (17 - (dn + 1)) + 110) (203 * (17 - (dn + 1)) + 4000) 0 0 [.ref h, .int n1, .int (nI (dn + 1))] sz (vz_w [coW g h ca ci cr cf (da 0) (da 2) ph, cdW g da dr df, pgW g ph pa pr pf]) (fun u : (Nat → Int32) × (Nat → Nat) × (Nat → Nat → Int32) × (Nat → Nat) × (Nat → Nat → Int32) => (∀ k, u.2.1 k ≤ coW_lim k) ∧ (∀ k, u.2.2.2.1 k ≤ cdW_lim k)) (fun u => vz_w [coW g h ca u.1 u.2.1 u.2.2.1 (da 0) (da 2) ph, cdW g da u.2.2.2.1 u.2.2.2.2, pgW g ph pa pr pf])) (sz : Nat) (h : Nat) (ca : Nat → Nat) (ci : Nat → Int32) (cr : Nat → Nat) (cf : Nat → Nat → Int32) (da : Nat → Nat) (ph : Nat) (dr : Nat → Nat) (df : Nat → Nat → Int32) (pa : Nat → Nat) (pr : Nat → Nat) (pf : Nat → Nat → Int32) (n1 : Int32) (hw_c : ∀ k, cr k ≤ coW_lim k) (hw_d : ∀ k, dr k ≤ cdW_lim k) (hw_p : ∀ k, pr k ≤ pgW_lim k) : vz_Mv l D (tyG g) yX0_writeLoop cX0_writeLoop 5 (7 * (16 - dn) + 111) (203 * (16 - dn) + 4029) 0 0 [.ref h, .int n1, .int (nI dn)] sz (vz_w [coW g h ca ci cr cf (da 0) (da 2) ph, cdW g da dr df, pgW g ph pa pr pf]) (fun u : (Nat → Int32) × (Nat → Nat) × (Nat → Nat → Int32) × (Nat → Nat) × (Nat → Nat → Int32) => (∀ k, u.2.1 k ≤ coW_lim k) ∧ (∀ k, u.2.2.2.1 k ≤ cdW_lim k)) (fun u => vz_w [coW g h ca u.1 u.2.1 u.2.2.1 (da 0) (da 2) ph, cdW g da u.2.2.2.1 u.2.2.2.2, pgW g ph pa pr pf]) := by
  refine vz_svQ (by decide) (Nat.le_of_ble_eq_true rfl) (fun p e s m args below meth c hx hb hr hml hts hown hlk hin hK hsz A hA H locs hP hD hS ls hl Q hQ => ?_)
  have hl : lv_has ls 5 [(0, .ref h), (1, .int n1), (2, .int (nI dn))] := hl
  refine lv_aload_n hx hb dX0_writeLoop_0 rfl (lv_at hl 0 rfl) ?_
  refine lv_bipush (v := 16) hx hb dX0_writeLoop_1 (by decide) ?_
  refine lv_aload_n hx hb dX0_writeLoop_3 rfl (lv_at hl 0 rfl) ?_
  refine lv_iload_n hx hb dX0_writeLoop_4 rfl (lv_at hl 1 rfl) ?_
  refine vz_Vi3 (As := [.int n1]) (rest := [.int 16, .ref h]) hx hb hml hown hts hK hA hP hD hS (a_C_levelOf l D g H.size h ca ci cr cf da ph dr df pa pr pf n1 hw_c hw_d hw_p) kv_X0_116 ⟨by dsimp only; omega, by dsimp only; omega⟩ (q0 := 0) (ci := 0) rfl rfl rfl  hl.1 (Nat.le_of_ble_eq_true rfl) dX0_writeLoop_5 ⟨Nat.le_refl _, Nat.le_refl _⟩ rfl (fun v1 _ H locs _ _ hP hD hS => ?_)
  refine lv_iconst (v := 0) hx hb dX0_writeLoop_8 (by decide) ?_
  refine vz_Vi3 (As := [.int 16, .int v1, .int 0]) (rest := []) hx hb hml hown hts hK hA hP hD hS (a_C_emit l D g H.size h ca ci cr cf da ph dr df pa pr pf 16 v1 0 hw_c hw_d hw_p) kv_X0_70 ⟨by dsimp only; omega, by dsimp only; omega⟩ (q0 := 0) (ci := 0) rfl rfl rfl  hl.1 (Nat.le_of_ble_eq_true rfl) dX0_writeLoop_9 ⟨Nat.le_refl _, Nat.le_refl _⟩ rfl (fun v6 ⟨ci_2, dr_3, df_4⟩ H locs hw_5 _ hP hD hS => ?_)
  try dsimp only at hw_5
  replace hP : va_P D vwCl (vz_w [coW g h ca ci_2 cr cf (da 0) (da 2) ph, cdW g da dr_3 df_4, pgW g ph pa pr pf]) H := hP
  replace hD : va_D A (vz_w [coW g h ca ci_2 cr cf (da 0) (da 2) ph, cdW g da dr_3 df_4, pgW g ph pa pr pf]) := hD
  refine lv_pop hx hb dX0_writeLoop_12 rfl ?_
  refine lv_aload_n hx hb dX0_writeLoop_13 rfl (lv_at hl 0 rfl) ?_
  refine lv_bipush (v := 17) hx hb dX0_writeLoop_14 (by decide) ?_
  refine lv_bipush (v := (-9)) hx hb dX0_writeLoop_16 (by decide) ?_
  refine lv_aload_n hx hb dX0_writeLoop_18 rfl (lv_at hl 0 rfl) ?_
  refine lv_iload_n hx hb dX0_writeLoop_19 rfl (lv_at hl 1 rfl) ?_
  refine vz_Vi3 (As := [.int n1]) (rest := [.int (-9), .int 17, .ref h]) hx hb hml hown hts hK hA hP hD hS (a_C_levelOf l D g H.size h ca ci_2 cr cf da ph dr_3 df_4 pa pr pf n1 hw_c hw_5 hw_p) kv_X0_116 ⟨by dsimp only; omega, by dsimp only; omega⟩ (q0 := 0) (ci := 0) rfl rfl rfl  hl.1 (Nat.le_of_ble_eq_true rfl) dX0_writeLoop_20 ⟨Nat.le_refl _, Nat.le_refl _⟩ rfl (fun v7 _ H locs _ _ hP hD hS => ?_)
  refine vz_Vi3 (As := [.int 17, .int (-9), .int v7]) (rest := []) hx hb hml hown hts hK hA hP hD hS (a_C_emit l D g H.size h ca ci_2 cr cf da ph dr_3 df_4 pa pr pf 17 (-9) v7 hw_c hw_5 hw_p) kv_X0_70 ⟨by dsimp only; omega, by dsimp only; omega⟩ (q0 := 0) (ci := 0) rfl rfl rfl  hl.1 (Nat.le_of_ble_eq_true rfl) dX0_writeLoop_23 ⟨Nat.le_refl _, Nat.le_refl _⟩ rfl (fun v12 ⟨ci_8, dr_9, df_10⟩ H locs hw_11 _ hP hD hS => ?_)
  try dsimp only at hw_11
  replace hP : va_P D vwCl (vz_w [coW g h ca ci_8 cr cf (da 0) (da 2) ph, cdW g da dr_9 df_10, pgW g ph pa pr pf]) H := hP
  replace hD : va_D A (vz_w [coW g h ca ci_8 cr cf (da 0) (da 2) ph, cdW g da dr_9 df_10, pgW g ph pa pr pf]) := hD
  refine lv_istore_n (lv' := [(3, .int v12), (0, .ref h), (1, .int n1), (2, .int (nI dn))]) hx hb dX0_writeLoop_26 rfl hl (by decide) rfl (fun ls hl => ?_)
  refine lv_aload_n hx hb dX0_writeLoop_27 rfl (lv_at hl 1 rfl) ?_
  refine lv_iconst (v := 0) hx hb dX0_writeLoop_28 (by decide) ?_
  refine lv_iload_n hx hb dX0_writeLoop_29 rfl (lv_at hl 2 rfl) ?_
  refine vz_Vi3 (As := [.int 0, .int n1]) (rest := []) hx hb hml hown hts hK hA hP hD hS (a_C_pushContext l D g H.size h ca ci_8 cr cf da ph dr_9 df_10 pa pr pf 0 n1 hw_c hw_11 hw_p) kv_X0_120 ⟨by dsimp only; omega, by dsimp only; omega⟩ (q0 := 0) (ci := 0) rfl rfl rfl  hl.1 (Nat.le_of_ble_eq_true rfl) dX0_writeLoop_30 ⟨Nat.le_refl _, Nat.le_refl _⟩ rfl (fun v17 ⟨ci_13, cr_14, cf_15⟩ H locs hw_16 _ hP hD hS => ?_)
  try dsimp only at hw_16
  replace hP : va_P D vwCl (vz_w [coW g h ca ci_13 cr_14 cf_15 (da 0) (da 2) ph, cdW g da dr_9 df_10, pgW g ph pa pr pf]) H := hP
  replace hD : va_D A (vz_w [coW g h ca ci_13 cr_14 cf_15 (da 0) (da 2) ph, cdW g da dr_9 df_10, pgW g ph pa pr pf]) := hD
  refine lv_istore (lv' := [(4, .int v17), (3, .int v12), (0, .ref h), (1, .int n1), (2, .int (nI dn))]) hx hb dX0_writeLoop_33 hl (by decide) rfl (fun ls hl => ?_)
  refine lv_aload_n hx hb dX0_writeLoop_35 rfl (lv_at hl 2 rfl) ?_
  refine va_get (D := D) (ci := 0) (v := .ref (ca 0)) (C := RX0) (T := TX0) (N := 8) hx hb hts inlX0 hown hK hP 0 rfl rfl 2 (by decide) (hts _ q112) (fun _ h => h) rfl dX0_writeLoop_36 ?_
  refine lv_iload hx hb dX0_writeLoop_39 (lv_at hl 0 rfl) ?_
  refine lv_iconst (v := 5) hx hb dX0_writeLoop_41 (by decide) ?_
  refine lv_iload_n hx hb dX0_writeLoop_42 rfl (lv_at hl 1 rfl) ?_
  refine vz_Vv2 (ws' := fun u : (Nat → Int32) => vz_w [coW g h ca ci_13 cr_14 (vz_uf cf_15 0 u) (da 0) (da 2) ph, cdW g da dr_9 df_10, pgW g ph pa pr pf]) (As := [.int v17, .int 5, .int v12]) (rest := []) hx hb hml hown hts hK hA hP hD hS (c_T_set l D g (ca 0) (ca 1) H.size 6 64 (cr_14 0) 384 (cf_15 0) v17 5 v12 ⟨rfl, by decide, by decide, by decide, by decide, hw_16 0⟩) kv_X0_53 ⟨by dsimp only; omega, by dsimp only; omega⟩ (q0 := 1) (ci := 6) rfl rfl rfl [1, 2] rfl (by decide) (fun _ => rfl) (fun _ => rfl) hl.1 (Nat.le_of_ble_eq_true rfl) dX0_writeLoop_43 ⟨Nat.le_refl _, Nat.le_refl _⟩ rfl (fun nf18 H locs _ _ hP hD hS => ?_)
  obtain ⟨cf_19, hP, hD⟩ : ∃ cf_19 : Nat → Nat → Int32, va_P D vwCl (vz_w [coW g h ca ci_13 cr_14 cf_19 (da 0) (da 2) ph, cdW g da dr_9 df_10, pgW g ph pa pr pf]) H ∧ va_D A (vz_w [coW g h ca ci_13 cr_14 cf_19 (da 0) (da 2) ph, cdW g da dr_9 df_10, pgW g ph pa pr pf]) := ⟨(vz_uf cf_15 0 nf18), hP, hD⟩
  refine lv_aload_n hx hb dX0_writeLoop_46 rfl (lv_at hl 2 rfl) ?_
  refine lv_aload_n hx hb dX0_writeLoop_47 rfl (lv_at hl 2 rfl) ?_
  refine va_get (D := D) (ci := 0) (v := .ref ph) (C := RX0) (T := TX0) (N := 8) hx hb hts inlX0 hown hK hP 0 rfl rfl 3 (by decide) (hts _ q108) (fun _ h => h) rfl dX0_writeLoop_48 ?_
  refine va_get (D := D) (ci := 2) (v := .ref (pa 0)) (C := RX2) (T := TX2) (N := 5) hx hb hts inlX2 hown hK hP 7 rfl rfl 0 (by decide) (hts _ q631) (fun _ h => h) rfl dX0_writeLoop_51 ?_
  refine lv_iload_n hx hb dX0_writeLoop_54 rfl (lv_at hl 3 rfl) ?_
  refine lv_iconst (v := 5) hx hb dX0_writeLoop_55 (by decide) ?_
  refine vz_Vi2 (ws' := fun u : Unit => vz_w [coW g h ca ci_13 cr_14 cf_19 (da 0) (da 2) ph, cdW g da dr_9 df_10, pgW g ph pa pr pf]) (As := [.int n1, .int 5]) (rest := [.ref h]) hx hb hml hown hts hK hA hP hD hS (c_T_get l D g (pa 0) (pa 1) H.size 12 80 (pr 0) 960 (pf 0) n1 5 ⟨rfl, by decide, by decide, by decide, by decide, hw_p 0⟩) kv_X0_63 ⟨by dsimp only; omega, by dsimp only; omega⟩ (q0 := 8) (ci := 6) rfl rfl rfl [8, 9] rfl (by decide) (fun _ => rfl) (fun _ => rfl) hl.1 (Nat.le_of_ble_eq_true rfl) dX0_writeLoop_56 ⟨Nat.le_refl _, Nat.le_refl _⟩ rfl (fun v20 _ H locs he21 _ hP hD hS => ?_)
  refine lv_iload_n hx hb dX0_writeLoop_59 rfl (lv_at hl 4 rfl) ?_
  refine lv_iconst (v := 1) hx hb dX0_writeLoop_60 (by decide) ?_
  refine lv_iadd hx hb dX0_writeLoop_61 ?_
  refine lv_topi (nm_r (e' := (nI (dn + 1))) (nI_1 dn) ?_)
  refine vz_Vv3 (As := [.int v20, .int (nI (dn + 1))]) (rest := []) hx hb hml hown hts hK hA hP hD hS (hB H.size h ca ci_13 cr_14 cf_19 da ph dr_9 df_10 pa pr pf v20 hw_16 hw_11 hw_p) kv_X0_67 ⟨by dsimp only; omega, by dsimp only; omega⟩ (q0 := 0) (ci := 0) rfl rfl rfl  hl.1 (Nat.le_of_ble_eq_true rfl) dX0_writeLoop_62 ⟨Nat.le_refl _, Nat.le_refl _⟩ rfl (fun ⟨ci_22, cr_23, cf_24, dr_25, df_26⟩ H locs ⟨hw_27, hw_28⟩ _ hP hD hS => ?_)
  try dsimp only at hw_27 hw_28
  replace hP : va_P D vwCl (vz_w [coW g h ca ci_22 cr_23 cf_24 (da 0) (da 2) ph, cdW g da dr_25 df_26, pgW g ph pa pr pf]) H := hP
  replace hD : va_D A (vz_w [coW g h ca ci_22 cr_23 cf_24 (da 0) (da 2) ph, cdW g da dr_25 df_26, pgW g ph pa pr pf]) := hD
  refine lv_aload_n hx hb dX0_writeLoop_65 rfl (lv_at hl 2 rfl) ?_
  refine lv_bipush (v := 15) hx hb dX0_writeLoop_66 (by decide) ?_
  refine lv_iload_n hx hb dX0_writeLoop_68 rfl (lv_at hl 1 rfl) ?_
  refine lv_iconst (v := 0) hx hb dX0_writeLoop_69 (by decide) ?_
  refine vz_Vi3 (As := [.int 15, .int v12, .int 0]) (rest := []) hx hb hml hown hts hK hA hP hD hS (a_C_emit l D g H.size h ca ci_22 cr_23 cf_24 da ph dr_25 df_26 pa pr pf 15 v12 0 hw_27 hw_28 hw_p) kv_X0_70 ⟨by dsimp only; omega, by dsimp only; omega⟩ (q0 := 0) (ci := 0) rfl rfl rfl  hl.1 (Nat.le_of_ble_eq_true rfl) dX0_writeLoop_70 ⟨Nat.le_refl _, Nat.le_refl _⟩ rfl (fun v33 ⟨ci_29, dr_30, df_31⟩ H locs hw_32 _ hP hD hS => ?_)
  try dsimp only at hw_32
  replace hP : va_P D vwCl (vz_w [coW g h ca ci_29 cr_23 cf_24 (da 0) (da 2) ph, cdW g da dr_30 df_31, pgW g ph pa pr pf]) H := hP
  replace hD : va_D A (vz_w [coW g h ca ci_29 cr_23 cf_24 (da 0) (da 2) ph, cdW g da dr_30 df_31, pgW g ph pa pr pf]) := hD
  refine lv_pop hx hb dX0_writeLoop_73 rfl ?_
  refine lv_aload_n hx hb dX0_writeLoop_74 rfl (lv_at hl 2 rfl) ?_
  refine lv_aload_n hx hb dX0_writeLoop_75 rfl (lv_at hl 2 rfl) ?_
  refine va_get (D := D) (ci := 0) (v := .ref (ca 0)) (C := RX0) (T := TX0) (N := 8) hx hb hts inlX0 hown hK hP 0 rfl rfl 2 (by decide) (hts _ q112) (fun _ h => h) rfl dX0_writeLoop_76 ?_
  refine lv_iload hx hb dX0_writeLoop_79 (lv_at hl 0 rfl) ?_
  refine lv_iconst (v := 4) hx hb dX0_writeLoop_81 (by decide) ?_
  refine vz_Vi2 (ws' := fun u : Unit => vz_w [coW g h ca ci_29 cr_23 cf_24 (da 0) (da 2) ph, cdW g da dr_30 df_31, pgW g ph pa pr pf]) (As := [.int v17, .int 4]) (rest := [.ref h]) hx hb hml hown hts hK hA hP hD hS (c_T_get l D g (ca 0) (ca 1) H.size 6 64 (cr_23 0) 384 (cf_24 0) v17 4 ⟨rfl, by decide, by decide, by decide, by decide, hw_27 0⟩) kv_X0_63 ⟨by dsimp only; omega, by dsimp only; omega⟩ (q0 := 1) (ci := 6) rfl rfl rfl [1, 2] rfl (by decide) (fun _ => rfl) (fun _ => rfl) hl.1 (Nat.le_of_ble_eq_true rfl) dX0_writeLoop_82 ⟨Nat.le_refl _, Nat.le_refl _⟩ rfl (fun v34 _ H locs he35 _ hP hD hS => ?_)
  refine lv_aload_n hx hb dX0_writeLoop_85 rfl (lv_at hl 2 rfl) ?_
  refine va_get (D := D) (ci := 0) (v := .ref (da 0)) (C := RX0) (T := TX0) (N := 8) hx hb hts inlX0 hown hK hP 0 rfl rfl 0 (by decide) (hts _ q110) (fun _ h => h) rfl dX0_writeLoop_86 ?_
  refine va_get (D := D) (ci := 6) (v := .int (nI (dr_30 0))) (C := RX6) (T := TX6) (N := 4) hx hb hts inlX6 hown hK hP 3 rfl rfl 3 (by decide) (hts _ q621) (fun _ h => h) rfl dX0_writeLoop_89 ?_
  refine vz_Vv3 (As := [.int v34, .int (nI (dr_30 0))]) (rest := []) hx hb hml hown hts hK hA hP hD hS (a_C_patch l D g H.size h ca ci_29 cr_23 cf_24 da ph dr_30 df_31 pa pr pf v34 (nI (dr_30 0)) hw_27 hw_32 hw_p) kv_X0_113 ⟨by dsimp only; omega, by dsimp only; omega⟩ (q0 := 0) (ci := 0) rfl rfl rfl  hl.1 (Nat.le_of_ble_eq_true rfl) dX0_writeLoop_92 ⟨Nat.le_refl _, Nat.le_refl _⟩ rfl (fun df_36 H locs _ _ hP hD hS => ?_)
  replace hP : va_P D vwCl (vz_w [coW g h ca ci_29 cr_23 cf_24 (da 0) (da 2) ph, cdW g da dr_30 df_36, pgW g ph pa pr pf]) H := hP
  replace hD : va_D A (vz_w [coW g h ca ci_29 cr_23 cf_24 (da 0) (da 2) ph, cdW g da dr_30 df_36, pgW g ph pa pr pf]) := hD
  refine lv_aload_n hx hb dX0_writeLoop_95 rfl (lv_at hl 2 rfl) ?_
  refine lv_iload_n hx hb dX0_writeLoop_96 rfl (lv_at hl 1 rfl) ?_
  refine lv_aload_n hx hb dX0_writeLoop_97 rfl (lv_at hl 2 rfl) ?_
  refine va_get (D := D) (ci := 0) (v := .ref (da 0)) (C := RX0) (T := TX0) (N := 8) hx hb hts inlX0 hown hK hP 0 rfl rfl 0 (by decide) (hts _ q110) (fun _ h => h) rfl dX0_writeLoop_98 ?_
  refine va_get (D := D) (ci := 6) (v := .int (nI (dr_30 0))) (C := RX6) (T := TX6) (N := 4) hx hb hts inlX6 hown hK hP 3 rfl rfl 3 (by decide) (hts _ q621) (fun _ h => h) rfl dX0_writeLoop_101 ?_
  refine vz_Vv3 (As := [.int v12, .int (nI (dr_30 0))]) (rest := []) hx hb hml hown hts hK hA hP hD hS (a_C_patch l D g H.size h ca ci_29 cr_23 cf_24 da ph dr_30 df_36 pa pr pf v12 (nI (dr_30 0)) hw_27 hw_32 hw_p) kv_X0_113 ⟨by dsimp only; omega, by dsimp only; omega⟩ (q0 := 0) (ci := 0) rfl rfl rfl  hl.1 (Nat.le_of_ble_eq_true rfl) dX0_writeLoop_104 ⟨Nat.le_refl _, Nat.le_refl _⟩ rfl (fun df_37 H locs _ _ hP hD hS => ?_)
  replace hP : va_P D vwCl (vz_w [coW g h ca ci_29 cr_23 cf_24 (da 0) (da 2) ph, cdW g da dr_30 df_37, pgW g ph pa pr pf]) H := hP
  replace hD : va_D A (vz_w [coW g h ca ci_29 cr_23 cf_24 (da 0) (da 2) ph, cdW g da dr_30 df_37, pgW g ph pa pr pf]) := hD
  refine lv_aload_n hx hb dX0_writeLoop_107 rfl (lv_at hl 2 rfl) ?_
  refine lv_iload hx hb dX0_writeLoop_108 (lv_at hl 0 rfl) ?_
  refine vz_Vv3 (As := [.int v17]) (rest := []) hx hb hml hown hts hK hA hP hD hS (a_C_popContext l D g H.size h ca ci_29 cr_23 cf_24 da ph dr_30 df_37 pa pr pf v17 hw_27 hw_32 hw_p) kv_X0_123 ⟨by dsimp only; omega, by dsimp only; omega⟩ (q0 := 0) (ci := 0) rfl rfl rfl  hl.1 (Nat.le_of_ble_eq_true rfl) dX0_writeLoop_110 ⟨Nat.le_refl _, Nat.le_refl _⟩ rfl (fun ⟨ci_38, cr_39⟩ H locs hw_40 _ hP hD hS => ?_)
  try dsimp only at hw_40
  replace hP : va_P D vwCl (vz_w [coW g h ca ci_38 cr_39 cf_24 (da 0) (da 2) ph, cdW g da dr_30 df_37, pgW g ph pa pr pf]) H := hP
  replace hD : va_D A (vz_w [coW g h ca ci_38 cr_39 cf_24 (da 0) (da 2) ph, cdW g da dr_30 df_37, pgW g ph pa pr pf]) := hD
  rw [hQ]
  exact vz_vret3 hx hb hr hlk hK hP hD hS (ci_38, cr_39, cf_24, dr_30, df_37) (⟨hw_40, hw_32⟩) rfl (Nat.le_refl 0) (Nat.le_refl 0) dX0_writeLoop_113
theorem dX0_writeIf_0 : decode cX0_writeIf 0 = .ok (.aload_n 0, 1) := by decide +kernel
theorem dX0_writeIf_1 : decode cX0_writeIf 1 = .ok (.bipush 14, 2) := by decide +kernel
theorem dX0_writeIf_3 : decode cX0_writeIf 3 = .ok (.bipush (-9), 2) := by decide +kernel
theorem dX0_writeIf_5 : decode cX0_writeIf 5 = .ok (.aload_n 0, 1) := by decide +kernel
theorem dX0_writeIf_6 : decode cX0_writeIf 6 = .ok (.getfield 9, 3) := by decide +kernel
theorem dX0_writeIf_9 : decode cX0_writeIf 9 = .ok (.getfield 81, 3) := by decide +kernel
theorem dX0_writeIf_12 : decode cX0_writeIf 12 = .ok (.iload_n 1, 1) := by decide +kernel
theorem dX0_writeIf_13 : decode cX0_writeIf 13 = .ok (.iconst 1, 1) := by decide +kernel
theorem dX0_writeIf_14 : decode cX0_writeIf 14 = .ok (.invokevirtual 63, 3) := by decide +kernel
theorem dX0_writeIf_17 : decode cX0_writeIf 17 = .ok (.invokevirtual 70, 3) := by decide +kernel
theorem dX0_writeIf_20 : decode cX0_writeIf 20 = .ok (.istore_n 3, 1) := by decide +kernel
theorem dX0_writeIf_21 : decode cX0_writeIf 21 = .ok (.aload_n 0, 1) := by decide +kernel
theorem dX0_writeIf_22 : decode cX0_writeIf 22 = .ok (.aload_n 0, 1) := by decide +kernel
theorem dX0_writeIf_23 : decode cX0_writeIf 23 = .ok (.getfield 9, 3) := by decide +kernel
theorem dX0_writeIf_26 : decode cX0_writeIf 26 = .ok (.getfield 81, 3) := by decide +kernel
theorem dX0_writeIf_29 : decode cX0_writeIf 29 = .ok (.iload_n 1, 1) := by decide +kernel
theorem dX0_writeIf_30 : decode cX0_writeIf 30 = .ok (.iconst 5, 1) := by decide +kernel
theorem dX0_writeIf_31 : decode cX0_writeIf 31 = .ok (.invokevirtual 63, 3) := by decide +kernel
theorem dX0_writeIf_34 : decode cX0_writeIf 34 = .ok (.iload_n 2, 1) := by decide +kernel
theorem dX0_writeIf_35 : decode cX0_writeIf 35 = .ok (.iconst 1, 1) := by decide +kernel
theorem dX0_writeIf_36 : decode cX0_writeIf 36 = .ok (.iadd, 1) := by decide +kernel
theorem dX0_writeIf_37 : decode cX0_writeIf 37 = .ok (.invokevirtual 67, 3) := by decide +kernel
theorem dX0_writeIf_40 : decode cX0_writeIf 40 = .ok (.aload_n 0, 1) := by decide +kernel
theorem dX0_writeIf_41 : decode cX0_writeIf 41 = .ok (.bipush 15, 2) := by decide +kernel
theorem dX0_writeIf_43 : decode cX0_writeIf 43 = .ok (.bipush (-9), 2) := by decide +kernel
theorem dX0_writeIf_45 : decode cX0_writeIf 45 = .ok (.iconst 0, 1) := by decide +kernel
theorem dX0_writeIf_46 : decode cX0_writeIf 46 = .ok (.invokevirtual 70, 3) := by decide +kernel
theorem dX0_writeIf_49 : decode cX0_writeIf 49 = .ok (.istore 4, 2) := by decide +kernel
theorem dX0_writeIf_51 : decode cX0_writeIf 51 = .ok (.aload_n 0, 1) := by decide +kernel
theorem dX0_writeIf_52 : decode cX0_writeIf 52 = .ok (.iload_n 3, 1) := by decide +kernel
theorem dX0_writeIf_53 : decode cX0_writeIf 53 = .ok (.aload_n 0, 1) := by decide +kernel
theorem dX0_writeIf_54 : decode cX0_writeIf 54 = .ok (.getfield 20, 3) := by decide +kernel
theorem dX0_writeIf_57 : decode cX0_writeIf 57 = .ok (.getfield 49, 3) := by decide +kernel
theorem dX0_writeIf_60 : decode cX0_writeIf 60 = .ok (.invokevirtual 113, 3) := by decide +kernel
theorem dX0_writeIf_63 : decode cX0_writeIf 63 = .ok (.aload_n 0, 1) := by decide +kernel
theorem dX0_writeIf_64 : decode cX0_writeIf 64 = .ok (.aload_n 0, 1) := by decide +kernel
theorem dX0_writeIf_65 : decode cX0_writeIf 65 = .ok (.getfield 9, 3) := by decide +kernel
theorem dX0_writeIf_68 : decode cX0_writeIf 68 = .ok (.getfield 81, 3) := by decide +kernel
theorem dX0_writeIf_71 : decode cX0_writeIf 71 = .ok (.iload_n 1, 1) := by decide +kernel
theorem dX0_writeIf_72 : decode cX0_writeIf 72 = .ok (.bipush 6, 2) := by decide +kernel
theorem dX0_writeIf_74 : decode cX0_writeIf 74 = .ok (.invokevirtual 63, 3) := by decide +kernel
theorem dX0_writeIf_77 : decode cX0_writeIf 77 = .ok (.iload_n 2, 1) := by decide +kernel
theorem dX0_writeIf_78 : decode cX0_writeIf 78 = .ok (.iconst 1, 1) := by decide +kernel
theorem dX0_writeIf_79 : decode cX0_writeIf 79 = .ok (.iadd, 1) := by decide +kernel
theorem dX0_writeIf_80 : decode cX0_writeIf 80 = .ok (.invokevirtual 67, 3) := by decide +kernel
theorem dX0_writeIf_83 : decode cX0_writeIf 83 = .ok (.aload_n 0, 1) := by decide +kernel
theorem dX0_writeIf_84 : decode cX0_writeIf 84 = .ok (.iload 4, 2) := by decide +kernel
theorem dX0_writeIf_86 : decode cX0_writeIf 86 = .ok (.aload_n 0, 1) := by decide +kernel
theorem dX0_writeIf_87 : decode cX0_writeIf 87 = .ok (.getfield 20, 3) := by decide +kernel
theorem dX0_writeIf_90 : decode cX0_writeIf 90 = .ok (.getfield 49, 3) := by decide +kernel
theorem dX0_writeIf_93 : decode cX0_writeIf 93 = .ok (.invokevirtual 113, 3) := by decide +kernel
theorem dX0_writeIf_96 : decode cX0_writeIf 96 = .ok (.return_, 1) := by decide +kernel
set_option maxHeartbeats 8000000 in
set_option maxRecDepth 100000 in
theorem a_C_writeIf (l : Launch) (D : va_G) (g : Nat → ClassId) (dn : Nat) (hdn : dn ≤ 16) (hB : ∀ (sz : Nat) (h : Nat) (ca : Nat → Nat) (ci : Nat → Int32) (cr : Nat → Nat) (cf : Nat → Nat → Int32) (da : Nat → Nat) (ph : Nat) (dr : Nat → Nat) (df : Nat → Nat → Int32) (pa : Nat → Nat) (pr : Nat → Nat) (pf : Nat → Nat → Int32) (n1 : Int32) (hw_c : ∀ k, cr k ≤ coW_lim k) (hw_d : ∀ k, dr k ≤ cdW_lim k) (hw_p : ∀ k, pr k ≤ pgW_lim k), vz_Mv l D (tyG g) yX0_writeBlock cX0_writeBlock 5 (7 * (17 - (dn + 1)) + 110) (203 * (17 - (dn + 1)) + 4000) 0 0 [.ref h, .int n1, .int (nI (dn + 1))] sz (vz_w [coW g h ca ci cr cf (da 0) (da 2) ph, cdW g da dr df, pgW g ph pa pr pf]) (fun u : (Nat → Int32) × (Nat → Nat) × (Nat → Nat → Int32) × (Nat → Nat) × (Nat → Nat → Int32) => (∀ k, u.2.1 k ≤ coW_lim k) ∧ (∀ k, u.2.2.2.1 k ≤ cdW_lim k)) (fun u => vz_w [coW g h ca u.1 u.2.1 u.2.2.1 (da 0) (da 2) ph, cdW g da u.2.2.2.1 u.2.2.2.2, pgW g ph pa pr pf])) (sz : Nat) (h : Nat) (ca : Nat → Nat) (ci : Nat → Int32) (cr : Nat → Nat) (cf : Nat → Nat → Int32) (da : Nat → Nat) (ph : Nat) (dr : Nat → Nat) (df : Nat → Nat → Int32) (pa : Nat → Nat) (pr : Nat → Nat) (pf : Nat → Nat → Int32) (n1 : Int32) (hw_c : ∀ k, cr k ≤ coW_lim k) (hw_d : ∀ k, dr k ≤ cdW_lim k) (hw_p : ∀ k, pr k ≤ pgW_lim k) : vz_Mv l D (tyG g) yX0_writeIf cX0_writeIf 5 (7 * (16 - dn) + 111) (203 * (16 - dn) + 4029) 0 0 [.ref h, .int n1, .int (nI dn)] sz (vz_w [coW g h ca ci cr cf (da 0) (da 2) ph, cdW g da dr df, pgW g ph pa pr pf]) (fun u : (Nat → Int32) × (Nat → Nat) × (Nat → Nat → Int32) × (Nat → Nat) × (Nat → Nat → Int32) => (∀ k, u.2.1 k ≤ coW_lim k) ∧ (∀ k, u.2.2.2.1 k ≤ cdW_lim k)) (fun u => vz_w [coW g h ca u.1 u.2.1 u.2.2.1 (da 0) (da 2) ph, cdW g da u.2.2.2.1 u.2.2.2.2, pgW g ph pa pr pf]) := by
  refine vz_svQ (by decide) (Nat.le_of_ble_eq_true rfl) (fun p e s m args below meth c hx hb hr hml hts hown hlk hin hK hsz A hA H locs hP hD hS ls hl Q hQ => ?_)
  have hl : lv_has ls 5 [(0, .ref h), (1, .int n1), (2, .int (nI dn))] := hl
  refine lv_aload_n hx hb dX0_writeIf_0 rfl (lv_at hl 0 rfl) ?_
  refine lv_bipush (v := 14) hx hb dX0_writeIf_1 (by decide) ?_
  refine lv_bipush (v := (-9)) hx hb dX0_writeIf_3 (by decide) ?_
  refine lv_aload_n hx hb dX0_writeIf_5 rfl (lv_at hl 0 rfl) ?_
  refine va_get (D := D) (ci := 0) (v := .ref ph) (C := RX0) (T := TX0) (N := 8) hx hb hts inlX0 hown hK hP 0 rfl rfl 3 (by decide) (hts _ q108) (fun _ h => h) rfl dX0_writeIf_6 ?_
  refine va_get (D := D) (ci := 2) (v := .ref (pa 0)) (C := RX2) (T := TX2) (N := 5) hx hb hts inlX2 hown hK hP 7 rfl rfl 0 (by decide) (hts _ q631) (fun _ h => h) rfl dX0_writeIf_9 ?_
  refine lv_iload_n hx hb dX0_writeIf_12 rfl (lv_at hl 1 rfl) ?_
  refine lv_iconst (v := 1) hx hb dX0_writeIf_13 (by decide) ?_
  refine vz_Vi2 (ws' := fun u : Unit => vz_w [coW g h ca ci cr cf (da 0) (da 2) ph, cdW g da dr df, pgW g ph pa pr pf]) (As := [.int n1, .int 1]) (rest := [.int (-9), .int 14, .ref h]) hx hb hml hown hts hK hA hP hD hS (c_T_get l D g (pa 0) (pa 1) H.size 12 80 (pr 0) 960 (pf 0) n1 1 ⟨rfl, by decide, by decide, by decide, by decide, hw_p 0⟩) kv_X0_63 ⟨by dsimp only; omega, by dsimp only; omega⟩ (q0 := 8) (ci := 6) rfl rfl rfl [8, 9] rfl (by decide) (fun _ => rfl) (fun _ => rfl) hl.1 (Nat.le_of_ble_eq_true rfl) dX0_writeIf_14 ⟨Nat.le_refl _, Nat.le_refl _⟩ rfl (fun v1 _ H locs he2 _ hP hD hS => ?_)
  refine vz_Vi3 (As := [.int 14, .int (-9), .int v1]) (rest := []) hx hb hml hown hts hK hA hP hD hS (a_C_emit l D g H.size h ca ci cr cf da ph dr df pa pr pf 14 (-9) v1 hw_c hw_d hw_p) kv_X0_70 ⟨by dsimp only; omega, by dsimp only; omega⟩ (q0 := 0) (ci := 0) rfl rfl rfl  hl.1 (Nat.le_of_ble_eq_true rfl) dX0_writeIf_17 ⟨Nat.le_refl _, Nat.le_refl _⟩ rfl (fun v7 ⟨ci_3, dr_4, df_5⟩ H locs hw_6 _ hP hD hS => ?_)
  try dsimp only at hw_6
  replace hP : va_P D vwCl (vz_w [coW g h ca ci_3 cr cf (da 0) (da 2) ph, cdW g da dr_4 df_5, pgW g ph pa pr pf]) H := hP
  replace hD : va_D A (vz_w [coW g h ca ci_3 cr cf (da 0) (da 2) ph, cdW g da dr_4 df_5, pgW g ph pa pr pf]) := hD
  refine lv_istore_n (lv' := [(3, .int v7), (0, .ref h), (1, .int n1), (2, .int (nI dn))]) hx hb dX0_writeIf_20 rfl hl (by decide) rfl (fun ls hl => ?_)
  refine lv_aload_n hx hb dX0_writeIf_21 rfl (lv_at hl 1 rfl) ?_
  refine lv_aload_n hx hb dX0_writeIf_22 rfl (lv_at hl 1 rfl) ?_
  refine va_get (D := D) (ci := 0) (v := .ref ph) (C := RX0) (T := TX0) (N := 8) hx hb hts inlX0 hown hK hP 0 rfl rfl 3 (by decide) (hts _ q108) (fun _ h => h) rfl dX0_writeIf_23 ?_
  refine va_get (D := D) (ci := 2) (v := .ref (pa 0)) (C := RX2) (T := TX2) (N := 5) hx hb hts inlX2 hown hK hP 7 rfl rfl 0 (by decide) (hts _ q631) (fun _ h => h) rfl dX0_writeIf_26 ?_
  refine lv_iload_n hx hb dX0_writeIf_29 rfl (lv_at hl 2 rfl) ?_
  refine lv_iconst (v := 5) hx hb dX0_writeIf_30 (by decide) ?_
  refine vz_Vi2 (ws' := fun u : Unit => vz_w [coW g h ca ci_3 cr cf (da 0) (da 2) ph, cdW g da dr_4 df_5, pgW g ph pa pr pf]) (As := [.int n1, .int 5]) (rest := [.ref h]) hx hb hml hown hts hK hA hP hD hS (c_T_get l D g (pa 0) (pa 1) H.size 12 80 (pr 0) 960 (pf 0) n1 5 ⟨rfl, by decide, by decide, by decide, by decide, hw_p 0⟩) kv_X0_63 ⟨by dsimp only; omega, by dsimp only; omega⟩ (q0 := 8) (ci := 6) rfl rfl rfl [8, 9] rfl (by decide) (fun _ => rfl) (fun _ => rfl) hl.1 (Nat.le_of_ble_eq_true rfl) dX0_writeIf_31 ⟨Nat.le_refl _, Nat.le_refl _⟩ rfl (fun v8 _ H locs he9 _ hP hD hS => ?_)
  refine lv_iload_n hx hb dX0_writeIf_34 rfl (lv_at hl 3 rfl) ?_
  refine lv_iconst (v := 1) hx hb dX0_writeIf_35 (by decide) ?_
  refine lv_iadd hx hb dX0_writeIf_36 ?_
  refine lv_topi (nm_r (e' := (nI (dn + 1))) (nI_1 dn) ?_)
  refine vz_Vv3 (As := [.int v8, .int (nI (dn + 1))]) (rest := []) hx hb hml hown hts hK hA hP hD hS (hB H.size h ca ci_3 cr cf da ph dr_4 df_5 pa pr pf v8 hw_c hw_6 hw_p) kv_X0_67 ⟨by dsimp only; omega, by dsimp only; omega⟩ (q0 := 0) (ci := 0) rfl rfl rfl  hl.1 (Nat.le_of_ble_eq_true rfl) dX0_writeIf_37 ⟨Nat.le_refl _, Nat.le_refl _⟩ rfl (fun ⟨ci_10, cr_11, cf_12, dr_13, df_14⟩ H locs ⟨hw_15, hw_16⟩ _ hP hD hS => ?_)
  try dsimp only at hw_15 hw_16
  replace hP : va_P D vwCl (vz_w [coW g h ca ci_10 cr_11 cf_12 (da 0) (da 2) ph, cdW g da dr_13 df_14, pgW g ph pa pr pf]) H := hP
  replace hD : va_D A (vz_w [coW g h ca ci_10 cr_11 cf_12 (da 0) (da 2) ph, cdW g da dr_13 df_14, pgW g ph pa pr pf]) := hD
  refine lv_aload_n hx hb dX0_writeIf_40 rfl (lv_at hl 1 rfl) ?_
  refine lv_bipush (v := 15) hx hb dX0_writeIf_41 (by decide) ?_
  refine lv_bipush (v := (-9)) hx hb dX0_writeIf_43 (by decide) ?_
  refine lv_iconst (v := 0) hx hb dX0_writeIf_45 (by decide) ?_
  refine vz_Vi3 (As := [.int 15, .int (-9), .int 0]) (rest := []) hx hb hml hown hts hK hA hP hD hS (a_C_emit l D g H.size h ca ci_10 cr_11 cf_12 da ph dr_13 df_14 pa pr pf 15 (-9) 0 hw_15 hw_16 hw_p) kv_X0_70 ⟨by dsimp only; omega, by dsimp only; omega⟩ (q0 := 0) (ci := 0) rfl rfl rfl  hl.1 (Nat.le_of_ble_eq_true rfl) dX0_writeIf_46 ⟨Nat.le_refl _, Nat.le_refl _⟩ rfl (fun v21 ⟨ci_17, dr_18, df_19⟩ H locs hw_20 _ hP hD hS => ?_)
  try dsimp only at hw_20
  replace hP : va_P D vwCl (vz_w [coW g h ca ci_17 cr_11 cf_12 (da 0) (da 2) ph, cdW g da dr_18 df_19, pgW g ph pa pr pf]) H := hP
  replace hD : va_D A (vz_w [coW g h ca ci_17 cr_11 cf_12 (da 0) (da 2) ph, cdW g da dr_18 df_19, pgW g ph pa pr pf]) := hD
  refine lv_istore (lv' := [(4, .int v21), (3, .int v7), (0, .ref h), (1, .int n1), (2, .int (nI dn))]) hx hb dX0_writeIf_49 hl (by decide) rfl (fun ls hl => ?_)
  refine lv_aload_n hx hb dX0_writeIf_51 rfl (lv_at hl 2 rfl) ?_
  refine lv_iload_n hx hb dX0_writeIf_52 rfl (lv_at hl 1 rfl) ?_
  refine lv_aload_n hx hb dX0_writeIf_53 rfl (lv_at hl 2 rfl) ?_
  refine va_get (D := D) (ci := 0) (v := .ref (da 0)) (C := RX0) (T := TX0) (N := 8) hx hb hts inlX0 hown hK hP 0 rfl rfl 0 (by decide) (hts _ q110) (fun _ h => h) rfl dX0_writeIf_54 ?_
  refine va_get (D := D) (ci := 6) (v := .int (nI (dr_18 0))) (C := RX6) (T := TX6) (N := 4) hx hb hts inlX6 hown hK hP 3 rfl rfl 3 (by decide) (hts _ q621) (fun _ h => h) rfl dX0_writeIf_57 ?_
  refine vz_Vv3 (As := [.int v7, .int (nI (dr_18 0))]) (rest := []) hx hb hml hown hts hK hA hP hD hS (a_C_patch l D g H.size h ca ci_17 cr_11 cf_12 da ph dr_18 df_19 pa pr pf v7 (nI (dr_18 0)) hw_15 hw_20 hw_p) kv_X0_113 ⟨by dsimp only; omega, by dsimp only; omega⟩ (q0 := 0) (ci := 0) rfl rfl rfl  hl.1 (Nat.le_of_ble_eq_true rfl) dX0_writeIf_60 ⟨Nat.le_refl _, Nat.le_refl _⟩ rfl (fun df_22 H locs _ _ hP hD hS => ?_)
  replace hP : va_P D vwCl (vz_w [coW g h ca ci_17 cr_11 cf_12 (da 0) (da 2) ph, cdW g da dr_18 df_22, pgW g ph pa pr pf]) H := hP
  replace hD : va_D A (vz_w [coW g h ca ci_17 cr_11 cf_12 (da 0) (da 2) ph, cdW g da dr_18 df_22, pgW g ph pa pr pf]) := hD
  refine lv_aload_n hx hb dX0_writeIf_63 rfl (lv_at hl 2 rfl) ?_
  refine lv_aload_n hx hb dX0_writeIf_64 rfl (lv_at hl 2 rfl) ?_
  refine va_get (D := D) (ci := 0) (v := .ref ph) (C := RX0) (T := TX0) (N := 8) hx hb hts inlX0 hown hK hP 0 rfl rfl 3 (by decide) (hts _ q108) (fun _ h => h) rfl dX0_writeIf_65 ?_
  refine va_get (D := D) (ci := 2) (v := .ref (pa 0)) (C := RX2) (T := TX2) (N := 5) hx hb hts inlX2 hown hK hP 7 rfl rfl 0 (by decide) (hts _ q631) (fun _ h => h) rfl dX0_writeIf_68 ?_
  refine lv_iload_n hx hb dX0_writeIf_71 rfl (lv_at hl 3 rfl) ?_
  refine lv_bipush (v := 6) hx hb dX0_writeIf_72 (by decide) ?_
  refine vz_Vi2 (ws' := fun u : Unit => vz_w [coW g h ca ci_17 cr_11 cf_12 (da 0) (da 2) ph, cdW g da dr_18 df_22, pgW g ph pa pr pf]) (As := [.int n1, .int 6]) (rest := [.ref h]) hx hb hml hown hts hK hA hP hD hS (c_T_get l D g (pa 0) (pa 1) H.size 12 80 (pr 0) 960 (pf 0) n1 6 ⟨rfl, by decide, by decide, by decide, by decide, hw_p 0⟩) kv_X0_63 ⟨by dsimp only; omega, by dsimp only; omega⟩ (q0 := 8) (ci := 6) rfl rfl rfl [8, 9] rfl (by decide) (fun _ => rfl) (fun _ => rfl) hl.1 (Nat.le_of_ble_eq_true rfl) dX0_writeIf_74 ⟨Nat.le_refl _, Nat.le_refl _⟩ rfl (fun v23 _ H locs he24 _ hP hD hS => ?_)
  refine lv_iload_n hx hb dX0_writeIf_77 rfl (lv_at hl 4 rfl) ?_
  refine lv_iconst (v := 1) hx hb dX0_writeIf_78 (by decide) ?_
  refine lv_iadd hx hb dX0_writeIf_79 ?_
  refine lv_topi (nm_r (e' := (nI (dn + 1))) (nI_1 dn) ?_)
  refine vz_Vv3 (As := [.int v23, .int (nI (dn + 1))]) (rest := []) hx hb hml hown hts hK hA hP hD hS (hB H.size h ca ci_17 cr_11 cf_12 da ph dr_18 df_22 pa pr pf v23 hw_15 hw_20 hw_p) kv_X0_67 ⟨by dsimp only; omega, by dsimp only; omega⟩ (q0 := 0) (ci := 0) rfl rfl rfl  hl.1 (Nat.le_of_ble_eq_true rfl) dX0_writeIf_80 ⟨Nat.le_refl _, Nat.le_refl _⟩ rfl (fun ⟨ci_25, cr_26, cf_27, dr_28, df_29⟩ H locs ⟨hw_30, hw_31⟩ _ hP hD hS => ?_)
  try dsimp only at hw_30 hw_31
  replace hP : va_P D vwCl (vz_w [coW g h ca ci_25 cr_26 cf_27 (da 0) (da 2) ph, cdW g da dr_28 df_29, pgW g ph pa pr pf]) H := hP
  replace hD : va_D A (vz_w [coW g h ca ci_25 cr_26 cf_27 (da 0) (da 2) ph, cdW g da dr_28 df_29, pgW g ph pa pr pf]) := hD
  refine lv_aload_n hx hb dX0_writeIf_83 rfl (lv_at hl 2 rfl) ?_
  refine lv_iload hx hb dX0_writeIf_84 (lv_at hl 0 rfl) ?_
  refine lv_aload_n hx hb dX0_writeIf_86 rfl (lv_at hl 2 rfl) ?_
  refine va_get (D := D) (ci := 0) (v := .ref (da 0)) (C := RX0) (T := TX0) (N := 8) hx hb hts inlX0 hown hK hP 0 rfl rfl 0 (by decide) (hts _ q110) (fun _ h => h) rfl dX0_writeIf_87 ?_
  refine va_get (D := D) (ci := 6) (v := .int (nI (dr_28 0))) (C := RX6) (T := TX6) (N := 4) hx hb hts inlX6 hown hK hP 3 rfl rfl 3 (by decide) (hts _ q621) (fun _ h => h) rfl dX0_writeIf_90 ?_
  refine vz_Vv3 (As := [.int v21, .int (nI (dr_28 0))]) (rest := []) hx hb hml hown hts hK hA hP hD hS (a_C_patch l D g H.size h ca ci_25 cr_26 cf_27 da ph dr_28 df_29 pa pr pf v21 (nI (dr_28 0)) hw_30 hw_31 hw_p) kv_X0_113 ⟨by dsimp only; omega, by dsimp only; omega⟩ (q0 := 0) (ci := 0) rfl rfl rfl  hl.1 (Nat.le_of_ble_eq_true rfl) dX0_writeIf_93 ⟨Nat.le_refl _, Nat.le_refl _⟩ rfl (fun df_32 H locs _ _ hP hD hS => ?_)
  replace hP : va_P D vwCl (vz_w [coW g h ca ci_25 cr_26 cf_27 (da 0) (da 2) ph, cdW g da dr_28 df_32, pgW g ph pa pr pf]) H := hP
  replace hD : va_D A (vz_w [coW g h ca ci_25 cr_26 cf_27 (da 0) (da 2) ph, cdW g da dr_28 df_32, pgW g ph pa pr pf]) := hD
  rw [hQ]
  exact vz_vret3 hx hb hr hlk hK hP hD hS (ci_25, cr_26, cf_27, dr_28, df_32) (⟨hw_30, hw_31⟩) rfl (Nat.le_refl 0) (Nat.le_refl 0) dX0_writeIf_96
theorem q696 : Cond.methodLink RX0 126 yX0_contextOf ∈ wsL_law := mT_4 (List.mem_of_getElem? (i := 141) rfl) rfl
theorem q697 : Cond.instanceMethod yX0_contextOf ∈ wsL_law := mT_4 (List.mem_of_getElem? (i := 143) rfl) rfl
theorem q698 : Cond.selects RX0 yX0_contextOf yX0_contextOf ∈ wsL_law := mS_4 (q := (yX0_contextOf, 8)) (List.mem_of_getElem? (i := 10) rfl) rfl
theorem q699 : Cond.code yX0_contextOf cX0_contextOf 4 (some .int) ∈ wsL_law := mT_4 (List.mem_of_getElem? (i := 144) rfl) rfl
theorem kv_X0_126 : vz_cv RX0 126 yX0_contextOf cX0_contextOf 4 (some .int) 1 := ⟨q696, q697, q698, q33, q699, by decide +kernel⟩
theorem q700 : Cond.methodLink RX0 110 yX0_writeWayOut ∈ wsL_law := mT_4 (List.mem_of_getElem? (i := 145) rfl) rfl
theorem q701 : Cond.instanceMethod yX0_writeWayOut ∈ wsL_law := mT_4 (List.mem_of_getElem? (i := 147) rfl) rfl
theorem q702 : Cond.selects RX0 yX0_writeWayOut yX0_writeWayOut ∈ wsL_law := mS_4 (q := (yX0_writeWayOut, 8)) (List.mem_of_getElem? (i := 11) rfl) rfl
theorem q736 : Cond.code yX0_writeWayOut cX0_writeWayOut 7 none ∈ wsL_law := mT_4 (List.mem_of_getElem? (i := 148) rfl) rfl
theorem kv_X0_110 : vz_cv RX0 110 yX0_writeWayOut cX0_writeWayOut 7 none 3 := ⟨q700, q701, q702, q33, q736, by decide +kernel⟩
theorem dX0_writeJump_0 : decode cX0_writeJump 0 = .ok (.aload_n 0, 1) := by decide +kernel
theorem dX0_writeJump_1 : decode cX0_writeJump 1 = .ok (.getfield 57, 3) := by decide +kernel
theorem dX0_writeJump_4 : decode cX0_writeJump 4 = .ok (.istore 4, 2) := by decide +kernel
theorem dX0_writeJump_6 : decode cX0_writeJump 6 = .ok (.aload_n 0, 1) := by decide +kernel
theorem dX0_writeJump_7 : decode cX0_writeJump 7 = .ok (.aload_n 0, 1) := by decide +kernel
theorem dX0_writeJump_8 : decode cX0_writeJump 8 = .ok (.getfield 9, 3) := by decide +kernel
theorem dX0_writeJump_11 : decode cX0_writeJump 11 = .ok (.getfield 81, 3) := by decide +kernel
theorem dX0_writeJump_14 : decode cX0_writeJump 14 = .ok (.iload_n 1, 1) := by decide +kernel
theorem dX0_writeJump_15 : decode cX0_writeJump 15 = .ok (.iconst 1, 1) := by decide +kernel
theorem dX0_writeJump_16 : decode cX0_writeJump 16 = .ok (.invokevirtual 63, 3) := by decide +kernel
theorem dX0_writeJump_19 : decode cX0_writeJump 19 = .ok (.invokevirtual 126, 3) := by decide +kernel
theorem dX0_writeJump_22 : decode cX0_writeJump 22 = .ok (.istore 5, 2) := by decide +kernel
theorem dX0_writeJump_24 : decode cX0_writeJump 24 = .ok (.aload_n 0, 1) := by decide +kernel
theorem dX0_writeJump_25 : decode cX0_writeJump 25 = .ok (.iload 5, 2) := by decide +kernel
theorem dX0_writeJump_27 : decode cX0_writeJump 27 = .ok (.iconst 0, 1) := by decide +kernel
theorem dX0_writeJump_28 : decode cX0_writeJump 28 = .ok (.iload_n 3, 1) := by decide +kernel
theorem dX0_writeJump_29 : decode cX0_writeJump 29 = .ok (.invokevirtual 110, 3) := by decide +kernel
theorem dX0_writeJump_32 : decode cX0_writeJump 32 = .ok (.iload_n 2, 1) := by decide +kernel
theorem dX0_writeJump_33 : decode cX0_writeJump 33 = .ok (.ifCond .eq 24, 3) := by decide +kernel
theorem dX0_writeJump_36 : decode cX0_writeJump 36 = .ok (.aload_n 0, 1) := by decide +kernel
theorem dX0_writeJump_37 : decode cX0_writeJump 37 = .ok (.bipush 15, 2) := by decide +kernel
theorem dX0_writeJump_39 : decode cX0_writeJump 39 = .ok (.aload_n 0, 1) := by decide +kernel
theorem dX0_writeJump_40 : decode cX0_writeJump 40 = .ok (.getfield 27, 3) := by decide +kernel
theorem dX0_writeJump_43 : decode cX0_writeJump 43 = .ok (.iload 5, 2) := by decide +kernel
theorem dX0_writeJump_45 : decode cX0_writeJump 45 = .ok (.iconst 5, 1) := by decide +kernel
theorem dX0_writeJump_46 : decode cX0_writeJump 46 = .ok (.invokevirtual 63, 3) := by decide +kernel
theorem dX0_writeJump_49 : decode cX0_writeJump 49 = .ok (.iconst 0, 1) := by decide +kernel
theorem dX0_writeJump_50 : decode cX0_writeJump 50 = .ok (.invokevirtual 70, 3) := by decide +kernel
theorem dX0_writeJump_53 : decode cX0_writeJump 53 = .ok (.pop, 1) := by decide +kernel
theorem dX0_writeJump_54 : decode cX0_writeJump 54 = .ok (.goto 30, 3) := by decide +kernel
theorem dX0_writeJump_57 : decode cX0_writeJump 57 = .ok (.aload_n 0, 1) := by decide +kernel
theorem dX0_writeJump_58 : decode cX0_writeJump 58 = .ok (.getfield 27, 3) := by decide +kernel
theorem dX0_writeJump_61 : decode cX0_writeJump 61 = .ok (.iload 5, 2) := by decide +kernel
theorem dX0_writeJump_63 : decode cX0_writeJump 63 = .ok (.iconst 4, 1) := by decide +kernel
theorem dX0_writeJump_64 : decode cX0_writeJump 64 = .ok (.aload_n 0, 1) := by decide +kernel
theorem dX0_writeJump_65 : decode cX0_writeJump 65 = .ok (.bipush 15, 2) := by decide +kernel
theorem dX0_writeJump_67 : decode cX0_writeJump 67 = .ok (.aload_n 0, 1) := by decide +kernel
theorem dX0_writeJump_68 : decode cX0_writeJump 68 = .ok (.getfield 27, 3) := by decide +kernel
theorem dX0_writeJump_71 : decode cX0_writeJump 71 = .ok (.iload 5, 2) := by decide +kernel
theorem dX0_writeJump_73 : decode cX0_writeJump 73 = .ok (.iconst 4, 1) := by decide +kernel
theorem dX0_writeJump_74 : decode cX0_writeJump 74 = .ok (.invokevirtual 63, 3) := by decide +kernel
theorem dX0_writeJump_77 : decode cX0_writeJump 77 = .ok (.iconst 0, 1) := by decide +kernel
theorem dX0_writeJump_78 : decode cX0_writeJump 78 = .ok (.invokevirtual 70, 3) := by decide +kernel
theorem dX0_writeJump_81 : decode cX0_writeJump 81 = .ok (.invokevirtual 53, 3) := by decide +kernel
theorem dX0_writeJump_84 : decode cX0_writeJump 84 = .ok (.aload_n 0, 1) := by decide +kernel
theorem dX0_writeJump_85 : decode cX0_writeJump 85 = .ok (.iload 4, 2) := by decide +kernel
theorem dX0_writeJump_87 : decode cX0_writeJump 87 = .ok (.putfield 57, 3) := by decide +kernel
theorem dX0_writeJump_90 : decode cX0_writeJump 90 = .ok (.return_, 1) := by decide +kernel
set_option maxHeartbeats 8000000 in
set_option maxRecDepth 100000 in
theorem a_C_writeJump (l : Launch) (D : va_G) (g : Nat → ClassId) (dn : Nat) (hdn : dn ≤ 16) (hB : ∀ (sz : Nat) (h : Nat) (ca : Nat → Nat) (ci : Nat → Int32) (cr : Nat → Nat) (cf : Nat → Nat → Int32) (da : Nat → Nat) (ph : Nat) (dr : Nat → Nat) (df : Nat → Nat → Int32) (pa : Nat → Nat) (pr : Nat → Nat) (pf : Nat → Nat → Int32) (n1 : Int32) (hw_c : ∀ k, cr k ≤ coW_lim k) (hw_d : ∀ k, dr k ≤ cdW_lim k) (hw_p : ∀ k, pr k ≤ pgW_lim k), vz_Mv l D (tyG g) yX0_writeBlock cX0_writeBlock 5 (7 * (17 - (dn + 1)) + 110) (203 * (17 - (dn + 1)) + 4000) 0 0 [.ref h, .int n1, .int (nI (dn + 1))] sz (vz_w [coW g h ca ci cr cf (da 0) (da 2) ph, cdW g da dr df, pgW g ph pa pr pf]) (fun u : (Nat → Int32) × (Nat → Nat) × (Nat → Nat → Int32) × (Nat → Nat) × (Nat → Nat → Int32) => (∀ k, u.2.1 k ≤ coW_lim k) ∧ (∀ k, u.2.2.2.1 k ≤ cdW_lim k)) (fun u => vz_w [coW g h ca u.1 u.2.1 u.2.2.1 (da 0) (da 2) ph, cdW g da u.2.2.2.1 u.2.2.2.2, pgW g ph pa pr pf])) (sz : Nat) (h : Nat) (ca : Nat → Nat) (ci : Nat → Int32) (cr : Nat → Nat) (cf : Nat → Nat → Int32) (da : Nat → Nat) (ph : Nat) (dr : Nat → Nat) (df : Nat → Nat → Int32) (pa : Nat → Nat) (pr : Nat → Nat) (pf : Nat → Nat → Int32) (n1 : Int32) (n2 : Int32) (hw_c : ∀ k, cr k ≤ coW_lim k) (hw_d : ∀ k, dr k ≤ cdW_lim k) (hw_p : ∀ k, pr k ≤ pgW_lim k) : vz_Mv l D (tyG g) yX0_writeJump cX0_writeJump 6 (7 * (16 - dn) + 115) (203 * (16 - dn) + 4145) 0 0 [.ref h, .int n1, .int n2, .int (nI dn)] sz (vz_w [coW g h ca ci cr cf (da 0) (da 2) ph, cdW g da dr df, pgW g ph pa pr pf]) (fun u : (Nat → Int32) × (Nat → Nat) × (Nat → Nat → Int32) × (Nat → Nat) × (Nat → Nat → Int32) => (∀ k, u.2.1 k ≤ coW_lim k) ∧ (∀ k, u.2.2.2.1 k ≤ cdW_lim k)) (fun u => vz_w [coW g h ca u.1 u.2.1 u.2.2.1 (da 0) (da 2) ph, cdW g da u.2.2.2.1 u.2.2.2.2, pgW g ph pa pr pf]) := by
  refine vz_svQ (by decide) (Nat.le_of_ble_eq_true rfl) (fun p e s m args below meth c hx hb hr hml hts hown hlk hin hK hsz A hA H locs hP hD hS ls hl Q hQ => ?_)
  have hl : lv_has ls 6 [(0, .ref h), (1, .int n1), (2, .int n2), (3, .int (nI dn))] := hl
  have J84 : ∀ (x4_84 : Int32), ∀ (x5_84 : Int32), ∀ (ci_84 : Nat → Int32), ∀ (cr_84 : Nat → Nat), ∀ (cf_84 : Nat → Nat → Int32), ∀ (dr_84 : Nat → Nat), ∀ (df_84 : Nat → Nat → Int32), (∀ k, cr_84 k ≤ coW_lim k) → (∀ k, dr_84 k ≤ cdW_lim k) → ∀ (H : Heap) (locs : List Loc) (ls : Array Slot), va_P D vwCl (vz_w [coW g h ca ci_84 cr_84 cf_84 (da 0) (da 2) ph, cdW g da dr_84 df_84, pgW g ph pa pr pf]) H → va_D A (vz_w [coW g h ca ci_84 cr_84 cf_84 (da 0) (da 2) ph, cdW g da dr_84 df_84, pgW g ph pa pr pf]) → va_S A s.heap H locs → lv_has ls 6 [(0, .ref h), (1, .int n1), (2, .int n2), (3, .int (nI dn)), (4, .int x4_84), (5, .int x5_84)] → W p l e { frames := (7 * (16 - dn) + 115), cells := 0, slots := 0, locals := (203 * (16 - dn) + 4145) } s m args below meth c H locs 0 0 Q (F0 m 84 ls []) := by
    intro x4_84 x5_84 ci_84 cr_84 cf_84 dr_84 df_84 hw_c_84 hw_d_84 H locs ls hP hD hS hl
    refine lv_aload_n hx hb dX0_writeJump_84 rfl (lv_at hl 0 rfl) ?_
    refine lv_iload hx hb dX0_writeJump_85 (lv_at hl 4 rfl) ?_
    refine va_put (D := D) (ci := 0) (v := .int x4_84) (ty := .int) (C := RX0) (T := TX0) (N := 8) hx hb hts inlX0 tyX0 tyX0_ok nmX0 hown hK hP hD hS 0 rfl rfl 6 (by decide) (hts _ q622) (fun _ h => h) rfl (by decide +kernel) rfl rfl (Nat.le_of_ble_eq_true rfl) dX0_writeJump_87 (fun H locs hP hD hS => ?_)
    obtain ⟨ci_1, hci_1, hP, hD⟩ : ∃ ci_1 : Nat → Int32, (ci_1 = (upd ci_84 2 x4_84)) ∧ va_P D vwCl (vz_w [coW g h ca ci_1 cr_84 cf_84 (da 0) (da 2) ph, cdW g da dr_84 df_84, pgW g ph pa pr pf]) H ∧ va_D A (vz_w [coW g h ca ci_1 cr_84 cf_84 (da 0) (da 2) ph, cdW g da dr_84 df_84, pgW g ph pa pr pf]) := ⟨(upd ci_84 2 x4_84), rfl, hP, hD⟩
    rw [hQ]
    exact vz_vret3 hx hb hr hlk hK hP hD hS (ci_1, cr_84, cf_84, dr_84, df_84) (⟨hw_c_84, hw_d_84⟩) rfl (Nat.le_refl 0) (Nat.le_refl 0) dX0_writeJump_90
  refine lv_aload_n hx hb dX0_writeJump_0 rfl (lv_at hl 0 rfl) ?_
  refine va_get (D := D) (ci := 0) (v := .int (ci 2)) (C := RX0) (T := TX0) (N := 8) hx hb hts inlX0 hown hK hP 0 rfl rfl 6 (by decide) (hts _ q622) (fun _ h => h) rfl dX0_writeJump_1 ?_
  refine lv_istore (lv' := [(4, .int (ci 2)), (0, .ref h), (1, .int n1), (2, .int n2), (3, .int (nI dn))]) hx hb dX0_writeJump_4 hl (by decide) rfl (fun ls hl => ?_)
  refine lv_aload_n hx hb dX0_writeJump_6 rfl (lv_at hl 1 rfl) ?_
  refine lv_aload_n hx hb dX0_writeJump_7 rfl (lv_at hl 1 rfl) ?_
  refine va_get (D := D) (ci := 0) (v := .ref ph) (C := RX0) (T := TX0) (N := 8) hx hb hts inlX0 hown hK hP 0 rfl rfl 3 (by decide) (hts _ q108) (fun _ h => h) rfl dX0_writeJump_8 ?_
  refine va_get (D := D) (ci := 2) (v := .ref (pa 0)) (C := RX2) (T := TX2) (N := 5) hx hb hts inlX2 hown hK hP 7 rfl rfl 0 (by decide) (hts _ q631) (fun _ h => h) rfl dX0_writeJump_11 ?_
  refine lv_iload_n hx hb dX0_writeJump_14 rfl (lv_at hl 2 rfl) ?_
  refine lv_iconst (v := 1) hx hb dX0_writeJump_15 (by decide) ?_
  refine vz_Vi2 (ws' := fun u : Unit => vz_w [coW g h ca ci cr cf (da 0) (da 2) ph, cdW g da dr df, pgW g ph pa pr pf]) (As := [.int n1, .int 1]) (rest := [.ref h]) hx hb hml hown hts hK hA hP hD hS (c_T_get l D g (pa 0) (pa 1) H.size 12 80 (pr 0) 960 (pf 0) n1 1 ⟨rfl, by decide, by decide, by decide, by decide, hw_p 0⟩) kv_X0_63 ⟨by dsimp only; omega, by dsimp only; omega⟩ (q0 := 8) (ci := 6) rfl rfl rfl [8, 9] rfl (by decide) (fun _ => rfl) (fun _ => rfl) hl.1 (Nat.le_of_ble_eq_true rfl) dX0_writeJump_16 ⟨Nat.le_refl _, Nat.le_refl _⟩ rfl (fun v1 _ H locs he2 _ hP hD hS => ?_)
  refine vz_Vi3 (As := [.int v1]) (rest := []) hx hb hml hown hts hK hA hP hD hS (a_C_contextOf l D g H.size h ca ci cr cf da ph dr df pa pr pf v1 hw_c hw_d hw_p) kv_X0_126 ⟨by dsimp only; omega, by dsimp only; omega⟩ (q0 := 0) (ci := 0) rfl rfl rfl  hl.1 (Nat.le_of_ble_eq_true rfl) dX0_writeJump_19 ⟨Nat.le_refl _, Nat.le_refl _⟩ rfl (fun v3 _ H locs _ _ hP hD hS => ?_)
  refine lv_istore (lv' := [(5, .int v3), (4, .int (ci 2)), (0, .ref h), (1, .int n1), (2, .int n2), (3, .int (nI dn))]) hx hb dX0_writeJump_22 hl (by decide) rfl (fun ls hl => ?_)
  refine lv_aload_n hx hb dX0_writeJump_24 rfl (lv_at hl 2 rfl) ?_
  refine lv_iload hx hb dX0_writeJump_25 (lv_at hl 0 rfl) ?_
  refine lv_iconst (v := 0) hx hb dX0_writeJump_27 (by decide) ?_
  refine lv_iload_n hx hb dX0_writeJump_28 rfl (lv_at hl 5 rfl) ?_
  refine vz_Vv3 (As := [.int v3, .int 0, .int (nI dn)]) (rest := []) hx hb hml hown hts hK hA hP hD hS (a_C_writeWayOut l D g dn hdn hB H.size h ca ci cr cf da ph dr df pa pr pf v3 0 hw_c hw_d hw_p) kv_X0_110 ⟨by dsimp only; omega, by dsimp only; omega⟩ (q0 := 0) (ci := 0) rfl rfl rfl  hl.1 (Nat.le_of_ble_eq_true rfl) dX0_writeJump_29 ⟨Nat.le_refl _, Nat.le_refl _⟩ rfl (fun ⟨ci_4, cr_5, cf_6, dr_7, df_8⟩ H locs ⟨hw_9, hw_10⟩ _ hP hD hS => ?_)
  try dsimp only at hw_9 hw_10
  replace hP : va_P D vwCl (vz_w [coW g h ca ci_4 cr_5 cf_6 (da 0) (da 2) ph, cdW g da dr_7 df_8, pgW g ph pa pr pf]) H := hP
  replace hD : va_D A (vz_w [coW g h ca ci_4 cr_5 cf_6 (da 0) (da 2) ph, cdW g da dr_7 df_8, pgW g ph pa pr pf]) := hD
  refine lv_iload_n hx hb dX0_writeJump_32 rfl (lv_at hl 4 rfl) ?_
  refine lv_if_eq (tgt := 57) hx hb dX0_writeJump_33 (by decide) (fun kc11 => ?_) (fun kc11 => ?_)
  · refine lv_aload_n hx hb dX0_writeJump_57 rfl (lv_at hl 2 rfl) ?_
    refine va_get (D := D) (ci := 0) (v := .ref (ca 0)) (C := RX0) (T := TX0) (N := 8) hx hb hts inlX0 hown hK hP 0 rfl rfl 2 (by decide) (hts _ q112) (fun _ h => h) rfl dX0_writeJump_58 ?_
    refine lv_iload hx hb dX0_writeJump_61 (lv_at hl 0 rfl) ?_
    refine lv_iconst (v := 4) hx hb dX0_writeJump_63 (by decide) ?_
    refine lv_aload_n hx hb dX0_writeJump_64 rfl (lv_at hl 2 rfl) ?_
    refine lv_bipush (v := 15) hx hb dX0_writeJump_65 (by decide) ?_
    refine lv_aload_n hx hb dX0_writeJump_67 rfl (lv_at hl 2 rfl) ?_
    refine va_get (D := D) (ci := 0) (v := .ref (ca 0)) (C := RX0) (T := TX0) (N := 8) hx hb hts inlX0 hown hK hP 0 rfl rfl 2 (by decide) (hts _ q112) (fun _ h => h) rfl dX0_writeJump_68 ?_
    refine lv_iload hx hb dX0_writeJump_71 (lv_at hl 0 rfl) ?_
    refine lv_iconst (v := 4) hx hb dX0_writeJump_73 (by decide) ?_
    refine vz_Vi2 (ws' := fun u : Unit => vz_w [coW g h ca ci_4 cr_5 cf_6 (da 0) (da 2) ph, cdW g da dr_7 df_8, pgW g ph pa pr pf]) (As := [.int v3, .int 4]) (rest := [.int 15, .ref h, .int 4, .int v3, .ref (ca 0)]) hx hb hml hown hts hK hA hP hD hS (c_T_get l D g (ca 0) (ca 1) H.size 6 64 (cr_5 0) 384 (cf_6 0) v3 4 ⟨rfl, by decide, by decide, by decide, by decide, hw_9 0⟩) kv_X0_63 ⟨by dsimp only; omega, by dsimp only; omega⟩ (q0 := 1) (ci := 6) rfl rfl rfl [1, 2] rfl (by decide) (fun _ => rfl) (fun _ => rfl) hl.1 (Nat.le_of_ble_eq_true rfl) dX0_writeJump_74 ⟨Nat.le_refl _, Nat.le_refl _⟩ rfl (fun v12 _ H locs he13 _ hP hD hS => ?_)
    refine lv_iconst (v := 0) hx hb dX0_writeJump_77 (by decide) ?_
    refine vz_Vi3 (As := [.int 15, .int v12, .int 0]) (rest := [.int 4, .int v3, .ref (ca 0)]) hx hb hml hown hts hK hA hP hD hS (a_C_emit l D g H.size h ca ci_4 cr_5 cf_6 da ph dr_7 df_8 pa pr pf 15 v12 0 hw_9 hw_10 hw_p) kv_X0_70 ⟨by dsimp only; omega, by dsimp only; omega⟩ (q0 := 0) (ci := 0) rfl rfl rfl  hl.1 (Nat.le_of_ble_eq_true rfl) dX0_writeJump_78 ⟨Nat.le_refl _, Nat.le_refl _⟩ rfl (fun v18 ⟨ci_14, dr_15, df_16⟩ H locs hw_17 _ hP hD hS => ?_)
    try dsimp only at hw_17
    replace hP : va_P D vwCl (vz_w [coW g h ca ci_14 cr_5 cf_6 (da 0) (da 2) ph, cdW g da dr_15 df_16, pgW g ph pa pr pf]) H := hP
    replace hD : va_D A (vz_w [coW g h ca ci_14 cr_5 cf_6 (da 0) (da 2) ph, cdW g da dr_15 df_16, pgW g ph pa pr pf]) := hD
    refine vz_Vv2 (ws' := fun u : (Nat → Int32) => vz_w [coW g h ca ci_14 cr_5 (vz_uf cf_6 0 u) (da 0) (da 2) ph, cdW g da dr_15 df_16, pgW g ph pa pr pf]) (As := [.int v3, .int 4, .int v18]) (rest := []) hx hb hml hown hts hK hA hP hD hS (c_T_set l D g (ca 0) (ca 1) H.size 6 64 (cr_5 0) 384 (cf_6 0) v3 4 v18 ⟨rfl, by decide, by decide, by decide, by decide, hw_9 0⟩) kv_X0_53 ⟨by dsimp only; omega, by dsimp only; omega⟩ (q0 := 1) (ci := 6) rfl rfl rfl [1, 2] rfl (by decide) (fun _ => rfl) (fun _ => rfl) hl.1 (Nat.le_of_ble_eq_true rfl) dX0_writeJump_81 ⟨Nat.le_refl _, Nat.le_refl _⟩ rfl (fun nf19 H locs _ _ hP hD hS => ?_)
    obtain ⟨cf_20, hP, hD⟩ : ∃ cf_20 : Nat → Nat → Int32, va_P D vwCl (vz_w [coW g h ca ci_14 cr_5 cf_20 (da 0) (da 2) ph, cdW g da dr_15 df_16, pgW g ph pa pr pf]) H ∧ va_D A (vz_w [coW g h ca ci_14 cr_5 cf_20 (da 0) (da 2) ph, cdW g da dr_15 df_16, pgW g ph pa pr pf]) := ⟨(vz_uf cf_6 0 nf19), hP, hD⟩
    exact J84 (ci 2) v3 ci_14 cr_5 cf_20 dr_15 df_16 hw_9 hw_17 H locs ls hP hD hS (lv_sub hl [2, 3, 4, 5, 1, 0] rfl)
  · refine lv_aload_n hx hb dX0_writeJump_36 rfl (lv_at hl 2 rfl) ?_
    refine lv_bipush (v := 15) hx hb dX0_writeJump_37 (by decide) ?_
    refine lv_aload_n hx hb dX0_writeJump_39 rfl (lv_at hl 2 rfl) ?_
    refine va_get (D := D) (ci := 0) (v := .ref (ca 0)) (C := RX0) (T := TX0) (N := 8) hx hb hts inlX0 hown hK hP 0 rfl rfl 2 (by decide) (hts _ q112) (fun _ h => h) rfl dX0_writeJump_40 ?_
    refine lv_iload hx hb dX0_writeJump_43 (lv_at hl 0 rfl) ?_
    refine lv_iconst (v := 5) hx hb dX0_writeJump_45 (by decide) ?_
    refine vz_Vi2 (ws' := fun u : Unit => vz_w [coW g h ca ci_4 cr_5 cf_6 (da 0) (da 2) ph, cdW g da dr_7 df_8, pgW g ph pa pr pf]) (As := [.int v3, .int 5]) (rest := [.int 15, .ref h]) hx hb hml hown hts hK hA hP hD hS (c_T_get l D g (ca 0) (ca 1) H.size 6 64 (cr_5 0) 384 (cf_6 0) v3 5 ⟨rfl, by decide, by decide, by decide, by decide, hw_9 0⟩) kv_X0_63 ⟨by dsimp only; omega, by dsimp only; omega⟩ (q0 := 1) (ci := 6) rfl rfl rfl [1, 2] rfl (by decide) (fun _ => rfl) (fun _ => rfl) hl.1 (Nat.le_of_ble_eq_true rfl) dX0_writeJump_46 ⟨Nat.le_refl _, Nat.le_refl _⟩ rfl (fun v21 _ H locs he22 _ hP hD hS => ?_)
    refine lv_iconst (v := 0) hx hb dX0_writeJump_49 (by decide) ?_
    refine vz_Vi3 (As := [.int 15, .int v21, .int 0]) (rest := []) hx hb hml hown hts hK hA hP hD hS (a_C_emit l D g H.size h ca ci_4 cr_5 cf_6 da ph dr_7 df_8 pa pr pf 15 v21 0 hw_9 hw_10 hw_p) kv_X0_70 ⟨by dsimp only; omega, by dsimp only; omega⟩ (q0 := 0) (ci := 0) rfl rfl rfl  hl.1 (Nat.le_of_ble_eq_true rfl) dX0_writeJump_50 ⟨Nat.le_refl _, Nat.le_refl _⟩ rfl (fun v27 ⟨ci_23, dr_24, df_25⟩ H locs hw_26 _ hP hD hS => ?_)
    try dsimp only at hw_26
    replace hP : va_P D vwCl (vz_w [coW g h ca ci_23 cr_5 cf_6 (da 0) (da 2) ph, cdW g da dr_24 df_25, pgW g ph pa pr pf]) H := hP
    replace hD : va_D A (vz_w [coW g h ca ci_23 cr_5 cf_6 (da 0) (da 2) ph, cdW g da dr_24 df_25, pgW g ph pa pr pf]) := hD
    refine lv_pop hx hb dX0_writeJump_53 rfl ?_
    refine lv_goto (tgt := 84) hx hb dX0_writeJump_54 (by decide) ?_
    exact J84 (ci 2) v3 ci_23 cr_5 cf_6 dr_24 df_25 hw_9 hw_26 H locs ls hP hD hS (lv_sub hl [2, 3, 4, 5, 1, 0] rfl)
theorem dX0_writeReturn_0 : decode cX0_writeReturn 0 = .ok (.aload_n 0, 1) := by decide +kernel
theorem dX0_writeReturn_1 : decode cX0_writeReturn 1 = .ok (.getfield 57, 3) := by decide +kernel
theorem dX0_writeReturn_4 : decode cX0_writeReturn 4 = .ok (.istore_n 2, 1) := by decide +kernel
theorem dX0_writeReturn_5 : decode cX0_writeReturn 5 = .ok (.aload_n 0, 1) := by decide +kernel
theorem dX0_writeReturn_6 : decode cX0_writeReturn 6 = .ok (.bipush (-9), 2) := by decide +kernel
theorem dX0_writeReturn_8 : decode cX0_writeReturn 8 = .ok (.iconst 1, 1) := by decide +kernel
theorem dX0_writeReturn_9 : decode cX0_writeReturn 9 = .ok (.iload_n 1, 1) := by decide +kernel
theorem dX0_writeReturn_10 : decode cX0_writeReturn 10 = .ok (.invokevirtual 110, 3) := by decide +kernel
theorem dX0_writeReturn_13 : decode cX0_writeReturn 13 = .ok (.aload_n 0, 1) := by decide +kernel
theorem dX0_writeReturn_14 : decode cX0_writeReturn 14 = .ok (.bipush 19, 2) := by decide +kernel
theorem dX0_writeReturn_16 : decode cX0_writeReturn 16 = .ok (.iconst 0, 1) := by decide +kernel
theorem dX0_writeReturn_17 : decode cX0_writeReturn 17 = .ok (.iconst 0, 1) := by decide +kernel
theorem dX0_writeReturn_18 : decode cX0_writeReturn 18 = .ok (.invokevirtual 70, 3) := by decide +kernel
theorem dX0_writeReturn_21 : decode cX0_writeReturn 21 = .ok (.pop, 1) := by decide +kernel
theorem dX0_writeReturn_22 : decode cX0_writeReturn 22 = .ok (.aload_n 0, 1) := by decide +kernel
theorem dX0_writeReturn_23 : decode cX0_writeReturn 23 = .ok (.iload_n 2, 1) := by decide +kernel
theorem dX0_writeReturn_24 : decode cX0_writeReturn 24 = .ok (.putfield 57, 3) := by decide +kernel
theorem dX0_writeReturn_27 : decode cX0_writeReturn 27 = .ok (.return_, 1) := by decide +kernel
set_option maxHeartbeats 8000000 in
set_option maxRecDepth 100000 in
theorem a_C_writeReturn (l : Launch) (D : va_G) (g : Nat → ClassId) (dn : Nat) (hdn : dn ≤ 16) (hB : ∀ (sz : Nat) (h : Nat) (ca : Nat → Nat) (ci : Nat → Int32) (cr : Nat → Nat) (cf : Nat → Nat → Int32) (da : Nat → Nat) (ph : Nat) (dr : Nat → Nat) (df : Nat → Nat → Int32) (pa : Nat → Nat) (pr : Nat → Nat) (pf : Nat → Nat → Int32) (n1 : Int32) (hw_c : ∀ k, cr k ≤ coW_lim k) (hw_d : ∀ k, dr k ≤ cdW_lim k) (hw_p : ∀ k, pr k ≤ pgW_lim k), vz_Mv l D (tyG g) yX0_writeBlock cX0_writeBlock 5 (7 * (17 - (dn + 1)) + 110) (203 * (17 - (dn + 1)) + 4000) 0 0 [.ref h, .int n1, .int (nI (dn + 1))] sz (vz_w [coW g h ca ci cr cf (da 0) (da 2) ph, cdW g da dr df, pgW g ph pa pr pf]) (fun u : (Nat → Int32) × (Nat → Nat) × (Nat → Nat → Int32) × (Nat → Nat) × (Nat → Nat → Int32) => (∀ k, u.2.1 k ≤ coW_lim k) ∧ (∀ k, u.2.2.2.1 k ≤ cdW_lim k)) (fun u => vz_w [coW g h ca u.1 u.2.1 u.2.2.1 (da 0) (da 2) ph, cdW g da u.2.2.2.1 u.2.2.2.2, pgW g ph pa pr pf])) (sz : Nat) (h : Nat) (ca : Nat → Nat) (ci : Nat → Int32) (cr : Nat → Nat) (cf : Nat → Nat → Int32) (da : Nat → Nat) (ph : Nat) (dr : Nat → Nat) (df : Nat → Nat → Int32) (pa : Nat → Nat) (pr : Nat → Nat) (pf : Nat → Nat → Int32) (hw_c : ∀ k, cr k ≤ coW_lim k) (hw_d : ∀ k, dr k ≤ cdW_lim k) (hw_p : ∀ k, pr k ≤ pgW_lim k) : vz_Mv l D (tyG g) yX0_writeReturn cX0_writeReturn 3 (7 * (16 - dn) + 115) (203 * (16 - dn) + 4145) 0 0 [.ref h, .int (nI dn)] sz (vz_w [coW g h ca ci cr cf (da 0) (da 2) ph, cdW g da dr df, pgW g ph pa pr pf]) (fun u : (Nat → Int32) × (Nat → Nat) × (Nat → Nat → Int32) × (Nat → Nat) × (Nat → Nat → Int32) => (∀ k, u.2.1 k ≤ coW_lim k) ∧ (∀ k, u.2.2.2.1 k ≤ cdW_lim k)) (fun u => vz_w [coW g h ca u.1 u.2.1 u.2.2.1 (da 0) (da 2) ph, cdW g da u.2.2.2.1 u.2.2.2.2, pgW g ph pa pr pf]) := by
  refine vz_svQ (by decide) (Nat.le_of_ble_eq_true rfl) (fun p e s m args below meth c hx hb hr hml hts hown hlk hin hK hsz A hA H locs hP hD hS ls hl Q hQ => ?_)
  have hl : lv_has ls 3 [(0, .ref h), (1, .int (nI dn))] := hl
  refine lv_aload_n hx hb dX0_writeReturn_0 rfl (lv_at hl 0 rfl) ?_
  refine va_get (D := D) (ci := 0) (v := .int (ci 2)) (C := RX0) (T := TX0) (N := 8) hx hb hts inlX0 hown hK hP 0 rfl rfl 6 (by decide) (hts _ q622) (fun _ h => h) rfl dX0_writeReturn_1 ?_
  refine lv_istore_n (lv' := [(2, .int (ci 2)), (0, .ref h), (1, .int (nI dn))]) hx hb dX0_writeReturn_4 rfl hl (by decide) rfl (fun ls hl => ?_)
  refine lv_aload_n hx hb dX0_writeReturn_5 rfl (lv_at hl 1 rfl) ?_
  refine lv_bipush (v := (-9)) hx hb dX0_writeReturn_6 (by decide) ?_
  refine lv_iconst (v := 1) hx hb dX0_writeReturn_8 (by decide) ?_
  refine lv_iload_n hx hb dX0_writeReturn_9 rfl (lv_at hl 2 rfl) ?_
  refine vz_Vv3 (As := [.int (-9), .int 1, .int (nI dn)]) (rest := []) hx hb hml hown hts hK hA hP hD hS (a_C_writeWayOut l D g dn hdn hB H.size h ca ci cr cf da ph dr df pa pr pf (-9) 1 hw_c hw_d hw_p) kv_X0_110 ⟨by dsimp only; omega, by dsimp only; omega⟩ (q0 := 0) (ci := 0) rfl rfl rfl  hl.1 (Nat.le_of_ble_eq_true rfl) dX0_writeReturn_10 ⟨Nat.le_refl _, Nat.le_refl _⟩ rfl (fun ⟨ci_1, cr_2, cf_3, dr_4, df_5⟩ H locs ⟨hw_6, hw_7⟩ _ hP hD hS => ?_)
  try dsimp only at hw_6 hw_7
  replace hP : va_P D vwCl (vz_w [coW g h ca ci_1 cr_2 cf_3 (da 0) (da 2) ph, cdW g da dr_4 df_5, pgW g ph pa pr pf]) H := hP
  replace hD : va_D A (vz_w [coW g h ca ci_1 cr_2 cf_3 (da 0) (da 2) ph, cdW g da dr_4 df_5, pgW g ph pa pr pf]) := hD
  refine lv_aload_n hx hb dX0_writeReturn_13 rfl (lv_at hl 1 rfl) ?_
  refine lv_bipush (v := 19) hx hb dX0_writeReturn_14 (by decide) ?_
  refine lv_iconst (v := 0) hx hb dX0_writeReturn_16 (by decide) ?_
  refine lv_iconst (v := 0) hx hb dX0_writeReturn_17 (by decide) ?_
  refine vz_Vi3 (As := [.int 19, .int 0, .int 0]) (rest := []) hx hb hml hown hts hK hA hP hD hS (a_C_emit l D g H.size h ca ci_1 cr_2 cf_3 da ph dr_4 df_5 pa pr pf 19 0 0 hw_6 hw_7 hw_p) kv_X0_70 ⟨by dsimp only; omega, by dsimp only; omega⟩ (q0 := 0) (ci := 0) rfl rfl rfl  hl.1 (Nat.le_of_ble_eq_true rfl) dX0_writeReturn_18 ⟨Nat.le_refl _, Nat.le_refl _⟩ rfl (fun v12 ⟨ci_8, dr_9, df_10⟩ H locs hw_11 _ hP hD hS => ?_)
  try dsimp only at hw_11
  replace hP : va_P D vwCl (vz_w [coW g h ca ci_8 cr_2 cf_3 (da 0) (da 2) ph, cdW g da dr_9 df_10, pgW g ph pa pr pf]) H := hP
  replace hD : va_D A (vz_w [coW g h ca ci_8 cr_2 cf_3 (da 0) (da 2) ph, cdW g da dr_9 df_10, pgW g ph pa pr pf]) := hD
  refine lv_pop hx hb dX0_writeReturn_21 rfl ?_
  refine lv_aload_n hx hb dX0_writeReturn_22 rfl (lv_at hl 1 rfl) ?_
  refine lv_iload_n hx hb dX0_writeReturn_23 rfl (lv_at hl 0 rfl) ?_
  refine va_put (D := D) (ci := 0) (v := .int (ci 2)) (ty := .int) (C := RX0) (T := TX0) (N := 8) hx hb hts inlX0 tyX0 tyX0_ok nmX0 hown hK hP hD hS 0 rfl rfl 6 (by decide) (hts _ q622) (fun _ h => h) rfl (by decide +kernel) rfl rfl (Nat.le_of_ble_eq_true rfl) dX0_writeReturn_24 (fun H locs hP hD hS => ?_)
  obtain ⟨ci_13, hci_13, hP, hD⟩ : ∃ ci_13 : Nat → Int32, (ci_13 = (upd ci_8 2 (ci 2))) ∧ va_P D vwCl (vz_w [coW g h ca ci_13 cr_2 cf_3 (da 0) (da 2) ph, cdW g da dr_9 df_10, pgW g ph pa pr pf]) H ∧ va_D A (vz_w [coW g h ca ci_13 cr_2 cf_3 (da 0) (da 2) ph, cdW g da dr_9 df_10, pgW g ph pa pr pf]) := ⟨(upd ci_8 2 (ci 2)), rfl, hP, hD⟩
  rw [hQ]
  exact vz_vret3 hx hb hr hlk hK hP hD hS (ci_13, cr_2, cf_3, dr_9, df_10) (⟨hw_6, hw_11⟩) rfl (Nat.le_refl 0) (Nat.le_refl 0) dX0_writeReturn_27
theorem q732 : Cond.methodLink RX0 107 yX0_writePlain ∈ wsL_law := mT_4 (List.mem_of_getElem? (i := 157) rfl) rfl
theorem q733 : Cond.instanceMethod yX0_writePlain ∈ wsL_law := mT_4 (List.mem_of_getElem? (i := 159) rfl) rfl
theorem q734 : Cond.selects RX0 yX0_writePlain yX0_writePlain ∈ wsL_law := mS_4 (q := (yX0_writePlain, 8)) (List.mem_of_getElem? (i := 14) rfl) rfl
theorem q735 : Cond.code yX0_writePlain cX0_writePlain 4 none ∈ wsL_law := mT_4 (List.mem_of_getElem? (i := 160) rfl) rfl
theorem kv_X0_107 : vz_cv RX0 107 yX0_writePlain cX0_writePlain 4 none 1 := ⟨q732, q733, q734, q33, q735, by decide +kernel⟩
theorem q729 : Cond.methodLink RX0 103 yX0_writeReturn ∈ wsL_law := mT_4 (List.mem_of_getElem? (i := 153) rfl) rfl
theorem q730 : Cond.instanceMethod yX0_writeReturn ∈ wsL_law := mT_4 (List.mem_of_getElem? (i := 155) rfl) rfl
theorem q731 : Cond.selects RX0 yX0_writeReturn yX0_writeReturn ∈ wsL_law := mS_4 (q := (yX0_writeReturn, 8)) (List.mem_of_getElem? (i := 13) rfl) rfl
theorem q706 : Cond.code yX0_writeReturn cX0_writeReturn 3 none ∈ wsL_law := mT_4 (List.mem_of_getElem? (i := 156) rfl) rfl
theorem kv_X0_103 : vz_cv RX0 103 yX0_writeReturn cX0_writeReturn 3 none 1 := ⟨q729, q730, q731, q33, q706, by decide +kernel⟩
theorem q726 : Cond.methodLink RX0 99 yX0_writeJump ∈ wsL_law := mT_4 (List.mem_of_getElem? (i := 137) rfl) rfl
theorem q727 : Cond.instanceMethod yX0_writeJump ∈ wsL_law := mT_4 (List.mem_of_getElem? (i := 139) rfl) rfl
theorem q728 : Cond.selects RX0 yX0_writeJump yX0_writeJump ∈ wsL_law := mS_4 (q := (yX0_writeJump, 8)) (List.mem_of_getElem? (i := 9) rfl) rfl
theorem q695 : Cond.code yX0_writeJump cX0_writeJump 6 none ∈ wsL_law := mT_4 (List.mem_of_getElem? (i := 140) rfl) rfl
theorem kv_X0_99 : vz_cv RX0 99 yX0_writeJump cX0_writeJump 6 none 3 := ⟨q726, q727, q728, q33, q695, by decide +kernel⟩
theorem q723 : Cond.methodLink RX0 96 yX0_writeGuard ∈ wsL_law := mT_4 (List.mem_of_getElem? (i := 97) rfl) rfl
theorem q724 : Cond.instanceMethod yX0_writeGuard ∈ wsL_law := mT_4 (List.mem_of_getElem? (i := 99) rfl) rfl
theorem q725 : Cond.selects RX0 yX0_writeGuard yX0_writeGuard ∈ wsL_law := mS_3 (q := (yX0_writeGuard, 8)) (List.mem_of_getElem? (i := 15) rfl) rfl
theorem q675 : Cond.code yX0_writeGuard cX0_writeGuard 10 none ∈ wsL_law := mT_4 (List.mem_of_getElem? (i := 100) rfl) rfl
theorem kv_X0_96 : vz_cv RX0 96 yX0_writeGuard cX0_writeGuard 10 none 2 := ⟨q723, q724, q725, q33, q675, by decide +kernel⟩
theorem q720 : Cond.methodLink RX0 93 yX0_writeLoop ∈ wsL_law := mT_4 (List.mem_of_getElem? (i := 80) rfl) rfl
theorem q721 : Cond.instanceMethod yX0_writeLoop ∈ wsL_law := mT_4 (List.mem_of_getElem? (i := 82) rfl) rfl
theorem q722 : Cond.selects RX0 yX0_writeLoop yX0_writeLoop ∈ wsL_law := mS_3 (q := (yX0_writeLoop, 8)) (List.mem_of_getElem? (i := 11) rfl) rfl
theorem q704 : Cond.code yX0_writeLoop cX0_writeLoop 5 none ∈ wsL_law := mT_4 (List.mem_of_getElem? (i := 83) rfl) rfl
theorem kv_X0_93 : vz_cv RX0 93 yX0_writeLoop cX0_writeLoop 5 none 2 := ⟨q720, q721, q722, q33, q704, by decide +kernel⟩
theorem q717 : Cond.methodLink RX0 90 yX0_writeIf ∈ wsL_law := mT_4 (List.mem_of_getElem? (i := 72) rfl) rfl
theorem q718 : Cond.instanceMethod yX0_writeIf ∈ wsL_law := mT_4 (List.mem_of_getElem? (i := 74) rfl) rfl
theorem q719 : Cond.selects RX0 yX0_writeIf yX0_writeIf ∈ wsL_law := mS_3 (q := (yX0_writeIf, 8)) (List.mem_of_getElem? (i := 9) rfl) rfl
theorem q694 : Cond.code yX0_writeIf cX0_writeIf 5 none ∈ wsL_law := mT_4 (List.mem_of_getElem? (i := 75) rfl) rfl
theorem kv_X0_90 : vz_cv RX0 90 yX0_writeIf cX0_writeIf 5 none 2 := ⟨q717, q718, q719, q33, q694, by decide +kernel⟩
theorem dX0_writeStatement_0 : decode cX0_writeStatement 0 = .ok (.aload_n 0, 1) := by decide +kernel
theorem dX0_writeStatement_1 : decode cX0_writeStatement 1 = .ok (.getfield 9, 3) := by decide +kernel
theorem dX0_writeStatement_4 : decode cX0_writeStatement 4 = .ok (.getfield 81, 3) := by decide +kernel
theorem dX0_writeStatement_7 : decode cX0_writeStatement 7 = .ok (.astore_n 3, 1) := by decide +kernel
theorem dX0_writeStatement_8 : decode cX0_writeStatement 8 = .ok (.aload_n 0, 1) := by decide +kernel
theorem dX0_writeStatement_9 : decode cX0_writeStatement 9 = .ok (.bipush 6, 2) := by decide +kernel
theorem dX0_writeStatement_11 : decode cX0_writeStatement 11 = .ok (.iload_n 1, 1) := by decide +kernel
theorem dX0_writeStatement_12 : decode cX0_writeStatement 12 = .ok (.iconst 0, 1) := by decide +kernel
theorem dX0_writeStatement_13 : decode cX0_writeStatement 13 = .ok (.invokevirtual 70, 3) := by decide +kernel
theorem dX0_writeStatement_16 : decode cX0_writeStatement 16 = .ok (.pop, 1) := by decide +kernel
theorem dX0_writeStatement_17 : decode cX0_writeStatement 17 = .ok (.aload_n 0, 1) := by decide +kernel
theorem dX0_writeStatement_18 : decode cX0_writeStatement 18 = .ok (.aload_n 3, 1) := by decide +kernel
theorem dX0_writeStatement_19 : decode cX0_writeStatement 19 = .ok (.iload_n 1, 1) := by decide +kernel
theorem dX0_writeStatement_20 : decode cX0_writeStatement 20 = .ok (.iconst 3, 1) := by decide +kernel
theorem dX0_writeStatement_21 : decode cX0_writeStatement 21 = .ok (.invokevirtual 63, 3) := by decide +kernel
theorem dX0_writeStatement_24 : decode cX0_writeStatement 24 = .ok (.iconst 0, 1) := by decide +kernel
theorem dX0_writeStatement_25 : decode cX0_writeStatement 25 = .ok (.invokevirtual 87, 3) := by decide +kernel
theorem dX0_writeStatement_28 : decode cX0_writeStatement 28 = .ok (.aload_n 0, 1) := by decide +kernel
theorem dX0_writeStatement_29 : decode cX0_writeStatement 29 = .ok (.aload_n 3, 1) := by decide +kernel
theorem dX0_writeStatement_30 : decode cX0_writeStatement 30 = .ok (.iload_n 1, 1) := by decide +kernel
theorem dX0_writeStatement_31 : decode cX0_writeStatement 31 = .ok (.iconst 4, 1) := by decide +kernel
theorem dX0_writeStatement_32 : decode cX0_writeStatement 32 = .ok (.invokevirtual 63, 3) := by decide +kernel
theorem dX0_writeStatement_35 : decode cX0_writeStatement 35 = .ok (.iconst 0, 1) := by decide +kernel
theorem dX0_writeStatement_36 : decode cX0_writeStatement 36 = .ok (.invokevirtual 87, 3) := by decide +kernel
theorem dX0_writeStatement_39 : decode cX0_writeStatement 39 = .ok (.aload_n 3, 1) := by decide +kernel
theorem dX0_writeStatement_40 : decode cX0_writeStatement 40 = .ok (.iload_n 1, 1) := by decide +kernel
theorem dX0_writeStatement_41 : decode cX0_writeStatement 41 = .ok (.iconst 0, 1) := by decide +kernel
theorem dX0_writeStatement_42 : decode cX0_writeStatement 42 = .ok (.invokevirtual 63, 3) := by decide +kernel
theorem dX0_writeStatement_45 : decode cX0_writeStatement 45 = .ok (.tableswitch 106 7 15 #[98, 51, 60, 78, 88, 106, 106, 106, 69], 51) := by decide +kernel
theorem dX0_writeStatement_96 : decode cX0_writeStatement 96 = .ok (.aload_n 0, 1) := by decide +kernel
theorem dX0_writeStatement_97 : decode cX0_writeStatement 97 = .ok (.iload_n 1, 1) := by decide +kernel
theorem dX0_writeStatement_98 : decode cX0_writeStatement 98 = .ok (.iload_n 2, 1) := by decide +kernel
theorem dX0_writeStatement_99 : decode cX0_writeStatement 99 = .ok (.invokevirtual 90, 3) := by decide +kernel
theorem dX0_writeStatement_102 : decode cX0_writeStatement 102 = .ok (.goto 54, 3) := by decide +kernel
theorem dX0_writeStatement_105 : decode cX0_writeStatement 105 = .ok (.aload_n 0, 1) := by decide +kernel
theorem dX0_writeStatement_106 : decode cX0_writeStatement 106 = .ok (.iload_n 1, 1) := by decide +kernel
theorem dX0_writeStatement_107 : decode cX0_writeStatement 107 = .ok (.iload_n 2, 1) := by decide +kernel
theorem dX0_writeStatement_108 : decode cX0_writeStatement 108 = .ok (.invokevirtual 93, 3) := by decide +kernel
theorem dX0_writeStatement_111 : decode cX0_writeStatement 111 = .ok (.goto 45, 3) := by decide +kernel
theorem dX0_writeStatement_114 : decode cX0_writeStatement 114 = .ok (.aload_n 0, 1) := by decide +kernel
theorem dX0_writeStatement_115 : decode cX0_writeStatement 115 = .ok (.iload_n 1, 1) := by decide +kernel
theorem dX0_writeStatement_116 : decode cX0_writeStatement 116 = .ok (.iload_n 2, 1) := by decide +kernel
theorem dX0_writeStatement_117 : decode cX0_writeStatement 117 = .ok (.invokevirtual 96, 3) := by decide +kernel
theorem dX0_writeStatement_120 : decode cX0_writeStatement 120 = .ok (.goto 36, 3) := by decide +kernel
theorem dX0_writeStatement_123 : decode cX0_writeStatement 123 = .ok (.aload_n 0, 1) := by decide +kernel
theorem dX0_writeStatement_124 : decode cX0_writeStatement 124 = .ok (.iload_n 1, 1) := by decide +kernel
theorem dX0_writeStatement_125 : decode cX0_writeStatement 125 = .ok (.iconst 0, 1) := by decide +kernel
theorem dX0_writeStatement_126 : decode cX0_writeStatement 126 = .ok (.iload_n 2, 1) := by decide +kernel
theorem dX0_writeStatement_127 : decode cX0_writeStatement 127 = .ok (.invokevirtual 99, 3) := by decide +kernel
theorem dX0_writeStatement_130 : decode cX0_writeStatement 130 = .ok (.goto 26, 3) := by decide +kernel
theorem dX0_writeStatement_133 : decode cX0_writeStatement 133 = .ok (.aload_n 0, 1) := by decide +kernel
theorem dX0_writeStatement_134 : decode cX0_writeStatement 134 = .ok (.iload_n 1, 1) := by decide +kernel
theorem dX0_writeStatement_135 : decode cX0_writeStatement 135 = .ok (.iconst 1, 1) := by decide +kernel
theorem dX0_writeStatement_136 : decode cX0_writeStatement 136 = .ok (.iload_n 2, 1) := by decide +kernel
theorem dX0_writeStatement_137 : decode cX0_writeStatement 137 = .ok (.invokevirtual 99, 3) := by decide +kernel
theorem dX0_writeStatement_140 : decode cX0_writeStatement 140 = .ok (.goto 16, 3) := by decide +kernel
theorem dX0_writeStatement_143 : decode cX0_writeStatement 143 = .ok (.aload_n 0, 1) := by decide +kernel
theorem dX0_writeStatement_144 : decode cX0_writeStatement 144 = .ok (.iload_n 2, 1) := by decide +kernel
theorem dX0_writeStatement_145 : decode cX0_writeStatement 145 = .ok (.invokevirtual 103, 3) := by decide +kernel
theorem dX0_writeStatement_148 : decode cX0_writeStatement 148 = .ok (.goto 8, 3) := by decide +kernel
theorem dX0_writeStatement_151 : decode cX0_writeStatement 151 = .ok (.aload_n 0, 1) := by decide +kernel
theorem dX0_writeStatement_152 : decode cX0_writeStatement 152 = .ok (.iload_n 1, 1) := by decide +kernel
theorem dX0_writeStatement_153 : decode cX0_writeStatement 153 = .ok (.invokevirtual 107, 3) := by decide +kernel
theorem dX0_writeStatement_156 : decode cX0_writeStatement 156 = .ok (.return_, 1) := by decide +kernel
set_option maxHeartbeats 8000000 in
set_option maxRecDepth 100000 in
theorem a_C_writeStatement (l : Launch) (D : va_G) (g : Nat → ClassId) (dn : Nat) (hdn : dn ≤ 16) (hB : ∀ (sz : Nat) (h : Nat) (ca : Nat → Nat) (ci : Nat → Int32) (cr : Nat → Nat) (cf : Nat → Nat → Int32) (da : Nat → Nat) (ph : Nat) (dr : Nat → Nat) (df : Nat → Nat → Int32) (pa : Nat → Nat) (pr : Nat → Nat) (pf : Nat → Nat → Int32) (n1 : Int32) (hw_c : ∀ k, cr k ≤ coW_lim k) (hw_d : ∀ k, dr k ≤ cdW_lim k) (hw_p : ∀ k, pr k ≤ pgW_lim k), vz_Mv l D (tyG g) yX0_writeBlock cX0_writeBlock 5 (7 * (17 - (dn + 1)) + 110) (203 * (17 - (dn + 1)) + 4000) 0 0 [.ref h, .int n1, .int (nI (dn + 1))] sz (vz_w [coW g h ca ci cr cf (da 0) (da 2) ph, cdW g da dr df, pgW g ph pa pr pf]) (fun u : (Nat → Int32) × (Nat → Nat) × (Nat → Nat → Int32) × (Nat → Nat) × (Nat → Nat → Int32) => (∀ k, u.2.1 k ≤ coW_lim k) ∧ (∀ k, u.2.2.2.1 k ≤ cdW_lim k)) (fun u => vz_w [coW g h ca u.1 u.2.1 u.2.2.1 (da 0) (da 2) ph, cdW g da u.2.2.2.1 u.2.2.2.2, pgW g ph pa pr pf])) (sz : Nat) (h : Nat) (ca : Nat → Nat) (ci : Nat → Int32) (cr : Nat → Nat) (cf : Nat → Nat → Int32) (da : Nat → Nat) (ph : Nat) (dr : Nat → Nat) (df : Nat → Nat → Int32) (pa : Nat → Nat) (pr : Nat → Nat) (pf : Nat → Nat → Int32) (n1 : Int32) (hw_c : ∀ k, cr k ≤ coW_lim k) (hw_d : ∀ k, dr k ≤ cdW_lim k) (hw_p : ∀ k, pr k ≤ pgW_lim k) : vz_Mv l D (tyG g) yX0_writeStatement cX0_writeStatement 4 (7 * (16 - dn) + 116) (203 * (16 - dn) + 4174) 0 0 [.ref h, .int n1, .int (nI dn)] sz (vz_w [coW g h ca ci cr cf (da 0) (da 2) ph, cdW g da dr df, pgW g ph pa pr pf]) (fun u : (Nat → Int32) × (Nat → Nat) × (Nat → Nat → Int32) × (Nat → Nat) × (Nat → Nat → Int32) => (∀ k, u.2.1 k ≤ coW_lim k) ∧ (∀ k, u.2.2.2.1 k ≤ cdW_lim k)) (fun u => vz_w [coW g h ca u.1 u.2.1 u.2.2.1 (da 0) (da 2) ph, cdW g da u.2.2.2.1 u.2.2.2.2, pgW g ph pa pr pf]) := by
  refine vz_svQ (by decide) (Nat.le_of_ble_eq_true rfl) (fun p e s m args below meth c hx hb hr hml hts hown hlk hin hK hsz A hA H locs hP hD hS ls hl Q hQ => ?_)
  have hl : lv_has ls 4 [(0, .ref h), (1, .int n1), (2, .int (nI dn))] := hl
  have J156 : ∀ (ci_156 : Nat → Int32), ∀ (cr_156 : Nat → Nat), ∀ (cf_156 : Nat → Nat → Int32), ∀ (dr_156 : Nat → Nat), ∀ (df_156 : Nat → Nat → Int32), (∀ k, cr_156 k ≤ coW_lim k) → (∀ k, dr_156 k ≤ cdW_lim k) → ∀ (H : Heap) (locs : List Loc) (ls : Array Slot), va_P D vwCl (vz_w [coW g h ca ci_156 cr_156 cf_156 (da 0) (da 2) ph, cdW g da dr_156 df_156, pgW g ph pa pr pf]) H → va_D A (vz_w [coW g h ca ci_156 cr_156 cf_156 (da 0) (da 2) ph, cdW g da dr_156 df_156, pgW g ph pa pr pf]) → va_S A s.heap H locs → lv_has ls 4 [(0, .ref h), (1, .int n1), (2, .int (nI dn)), (3, .ref (pa 0))] → W p l e { frames := (7 * (16 - dn) + 116), cells := 0, slots := 0, locals := (203 * (16 - dn) + 4174) } s m args below meth c H locs 0 0 Q (F0 m 156 ls []) := by
    intro ci_156 cr_156 cf_156 dr_156 df_156 hw_c_156 hw_d_156 H locs ls hP hD hS hl
    rw [hQ]
    exact vz_vret3 hx hb hr hlk hK hP hD hS (ci_156, cr_156, cf_156, dr_156, df_156) (⟨hw_c_156, hw_d_156⟩) rfl (Nat.le_refl 0) (Nat.le_refl 0) dX0_writeStatement_156
  refine lv_aload_n hx hb dX0_writeStatement_0 rfl (lv_at hl 0 rfl) ?_
  refine va_get (D := D) (ci := 0) (v := .ref ph) (C := RX0) (T := TX0) (N := 8) hx hb hts inlX0 hown hK hP 0 rfl rfl 3 (by decide) (hts _ q108) (fun _ h => h) rfl dX0_writeStatement_1 ?_
  refine va_get (D := D) (ci := 2) (v := .ref (pa 0)) (C := RX2) (T := TX2) (N := 5) hx hb hts inlX2 hown hK hP 7 rfl rfl 0 (by decide) (hts _ q631) (fun _ h => h) rfl dX0_writeStatement_4 ?_
  refine lv_astore_n (lv' := [(3, .ref (pa 0)), (0, .ref h), (1, .int n1), (2, .int (nI dn))]) hx hb dX0_writeStatement_7 rfl hl (by decide) rfl (fun ls hl => ?_)
  refine lv_aload_n hx hb dX0_writeStatement_8 rfl (lv_at hl 1 rfl) ?_
  refine lv_bipush (v := 6) hx hb dX0_writeStatement_9 (by decide) ?_
  refine lv_iload_n hx hb dX0_writeStatement_11 rfl (lv_at hl 2 rfl) ?_
  refine lv_iconst (v := 0) hx hb dX0_writeStatement_12 (by decide) ?_
  refine vz_Vi3 (As := [.int 6, .int n1, .int 0]) (rest := []) hx hb hml hown hts hK hA hP hD hS (a_C_emit l D g H.size h ca ci cr cf da ph dr df pa pr pf 6 n1 0 hw_c hw_d hw_p) kv_X0_70 ⟨by dsimp only; omega, by dsimp only; omega⟩ (q0 := 0) (ci := 0) rfl rfl rfl  hl.1 (Nat.le_of_ble_eq_true rfl) dX0_writeStatement_13 ⟨Nat.le_refl _, Nat.le_refl _⟩ rfl (fun v5 ⟨ci_1, dr_2, df_3⟩ H locs hw_4 _ hP hD hS => ?_)
  try dsimp only at hw_4
  replace hP : va_P D vwCl (vz_w [coW g h ca ci_1 cr cf (da 0) (da 2) ph, cdW g da dr_2 df_3, pgW g ph pa pr pf]) H := hP
  replace hD : va_D A (vz_w [coW g h ca ci_1 cr cf (da 0) (da 2) ph, cdW g da dr_2 df_3, pgW g ph pa pr pf]) := hD
  refine lv_pop hx hb dX0_writeStatement_16 rfl ?_
  refine lv_aload_n hx hb dX0_writeStatement_17 rfl (lv_at hl 1 rfl) ?_
  refine lv_aload_n hx hb dX0_writeStatement_18 rfl (lv_at hl 0 rfl) ?_
  refine lv_iload_n hx hb dX0_writeStatement_19 rfl (lv_at hl 2 rfl) ?_
  refine lv_iconst (v := 3) hx hb dX0_writeStatement_20 (by decide) ?_
  refine vz_Vi2 (ws' := fun u : Unit => vz_w [coW g h ca ci_1 cr cf (da 0) (da 2) ph, cdW g da dr_2 df_3, pgW g ph pa pr pf]) (As := [.int n1, .int 3]) (rest := [.ref h]) hx hb hml hown hts hK hA hP hD hS (c_T_get l D g (pa 0) (pa 1) H.size 12 80 (pr 0) 960 (pf 0) n1 3 ⟨rfl, by decide, by decide, by decide, by decide, hw_p 0⟩) kv_X0_63 ⟨by dsimp only; omega, by dsimp only; omega⟩ (q0 := 8) (ci := 6) rfl rfl rfl [8, 9] rfl (by decide) (fun _ => rfl) (fun _ => rfl) hl.1 (Nat.le_of_ble_eq_true rfl) dX0_writeStatement_21 ⟨Nat.le_refl _, Nat.le_refl _⟩ rfl (fun v6 _ H locs he7 _ hP hD hS => ?_)
  refine lv_iconst (v := 0) hx hb dX0_writeStatement_24 (by decide) ?_
  refine vz_Vv3 (As := [.int v6, .int 0]) (rest := []) hx hb hml hown hts hK hA hP hD hS (a_C_sum9 l D g 41 0 (by decide) H.size h ca ci_1 cr cf da ph dr_2 df_3 pa pr pf v6 hw_c hw_4 hw_p) kv_X0_87 ⟨by dsimp only; omega, by dsimp only; omega⟩ (q0 := 0) (ci := 0) rfl rfl rfl  hl.1 (Nat.le_of_ble_eq_true rfl) dX0_writeStatement_25 ⟨Nat.le_refl _, Nat.le_refl _⟩ rfl (fun ⟨ci_8, dr_9, df_10⟩ H locs hw_11 _ hP hD hS => ?_)
  try dsimp only at hw_11
  replace hP : va_P D vwCl (vz_w [coW g h ca ci_8 cr cf (da 0) (da 2) ph, cdW g da dr_9 df_10, pgW g ph pa pr pf]) H := hP
  replace hD : va_D A (vz_w [coW g h ca ci_8 cr cf (da 0) (da 2) ph, cdW g da dr_9 df_10, pgW g ph pa pr pf]) := hD
  refine lv_aload_n hx hb dX0_writeStatement_28 rfl (lv_at hl 1 rfl) ?_
  refine lv_aload_n hx hb dX0_writeStatement_29 rfl (lv_at hl 0 rfl) ?_
  refine lv_iload_n hx hb dX0_writeStatement_30 rfl (lv_at hl 2 rfl) ?_
  refine lv_iconst (v := 4) hx hb dX0_writeStatement_31 (by decide) ?_
  refine vz_Vi2 (ws' := fun u : Unit => vz_w [coW g h ca ci_8 cr cf (da 0) (da 2) ph, cdW g da dr_9 df_10, pgW g ph pa pr pf]) (As := [.int n1, .int 4]) (rest := [.ref h]) hx hb hml hown hts hK hA hP hD hS (c_T_get l D g (pa 0) (pa 1) H.size 12 80 (pr 0) 960 (pf 0) n1 4 ⟨rfl, by decide, by decide, by decide, by decide, hw_p 0⟩) kv_X0_63 ⟨by dsimp only; omega, by dsimp only; omega⟩ (q0 := 8) (ci := 6) rfl rfl rfl [8, 9] rfl (by decide) (fun _ => rfl) (fun _ => rfl) hl.1 (Nat.le_of_ble_eq_true rfl) dX0_writeStatement_32 ⟨Nat.le_refl _, Nat.le_refl _⟩ rfl (fun v12 _ H locs he13 _ hP hD hS => ?_)
  refine lv_iconst (v := 0) hx hb dX0_writeStatement_35 (by decide) ?_
  refine vz_Vv3 (As := [.int v12, .int 0]) (rest := []) hx hb hml hown hts hK hA hP hD hS (a_C_sum9 l D g 41 0 (by decide) H.size h ca ci_8 cr cf da ph dr_9 df_10 pa pr pf v12 hw_c hw_11 hw_p) kv_X0_87 ⟨by dsimp only; omega, by dsimp only; omega⟩ (q0 := 0) (ci := 0) rfl rfl rfl  hl.1 (Nat.le_of_ble_eq_true rfl) dX0_writeStatement_36 ⟨Nat.le_refl _, Nat.le_refl _⟩ rfl (fun ⟨ci_14, dr_15, df_16⟩ H locs hw_17 _ hP hD hS => ?_)
  try dsimp only at hw_17
  replace hP : va_P D vwCl (vz_w [coW g h ca ci_14 cr cf (da 0) (da 2) ph, cdW g da dr_15 df_16, pgW g ph pa pr pf]) H := hP
  replace hD : va_D A (vz_w [coW g h ca ci_14 cr cf (da 0) (da 2) ph, cdW g da dr_15 df_16, pgW g ph pa pr pf]) := hD
  refine lv_aload_n hx hb dX0_writeStatement_39 rfl (lv_at hl 0 rfl) ?_
  refine lv_iload_n hx hb dX0_writeStatement_40 rfl (lv_at hl 2 rfl) ?_
  refine lv_iconst (v := 0) hx hb dX0_writeStatement_41 (by decide) ?_
  refine vz_Vi2 (ws' := fun u : Unit => vz_w [coW g h ca ci_14 cr cf (da 0) (da 2) ph, cdW g da dr_15 df_16, pgW g ph pa pr pf]) (As := [.int n1, .int 0]) (rest := []) hx hb hml hown hts hK hA hP hD hS (c_T_get l D g (pa 0) (pa 1) H.size 12 80 (pr 0) 960 (pf 0) n1 0 ⟨rfl, by decide, by decide, by decide, by decide, hw_p 0⟩) kv_X0_63 ⟨by dsimp only; omega, by dsimp only; omega⟩ (q0 := 8) (ci := 6) rfl rfl rfl [8, 9] rfl (by decide) (fun _ => rfl) (fun _ => rfl) hl.1 (Nat.le_of_ble_eq_true rfl) dX0_writeStatement_42 ⟨Nat.le_refl _, Nat.le_refl _⟩ rfl (fun v18 _ H locs he19 _ hP hD hS => ?_)
  have S45_96 : W p l e { frames := (7 * (16 - dn) + 116), cells := 0, slots := 0, locals := (203 * (16 - dn) + 4174) } s m args below meth c H locs 0 0 Q (F0 m 96 ls []) := by
    refine lv_aload_n hx hb dX0_writeStatement_96 rfl (lv_at hl 1 rfl) ?_
    refine lv_iload_n hx hb dX0_writeStatement_97 rfl (lv_at hl 2 rfl) ?_
    refine lv_iload_n hx hb dX0_writeStatement_98 rfl (lv_at hl 3 rfl) ?_
    refine vz_Vv3 (As := [.int n1, .int (nI dn)]) (rest := []) hx hb hml hown hts hK hA hP hD hS (a_C_writeIf l D g dn hdn hB H.size h ca ci_14 cr cf da ph dr_15 df_16 pa pr pf n1 hw_c hw_17 hw_p) kv_X0_90 ⟨by dsimp only; omega, by dsimp only; omega⟩ (q0 := 0) (ci := 0) rfl rfl rfl  hl.1 (Nat.le_of_ble_eq_true rfl) dX0_writeStatement_99 ⟨Nat.le_refl _, Nat.le_refl _⟩ rfl (fun ⟨ci_20, cr_21, cf_22, dr_23, df_24⟩ H locs ⟨hw_25, hw_26⟩ _ hP hD hS => ?_)
    try dsimp only at hw_25 hw_26
    replace hP : va_P D vwCl (vz_w [coW g h ca ci_20 cr_21 cf_22 (da 0) (da 2) ph, cdW g da dr_23 df_24, pgW g ph pa pr pf]) H := hP
    replace hD : va_D A (vz_w [coW g h ca ci_20 cr_21 cf_22 (da 0) (da 2) ph, cdW g da dr_23 df_24, pgW g ph pa pr pf]) := hD
    refine lv_goto (tgt := 156) hx hb dX0_writeStatement_102 (by decide) ?_
    exact J156 ci_20 cr_21 cf_22 dr_23 df_24 hw_25 hw_26 H locs ls hP hD hS (lv_sub hl [1, 2, 3, 0] rfl)
  have S45_105 : W p l e { frames := (7 * (16 - dn) + 116), cells := 0, slots := 0, locals := (203 * (16 - dn) + 4174) } s m args below meth c H locs 0 0 Q (F0 m 105 ls []) := by
    refine lv_aload_n hx hb dX0_writeStatement_105 rfl (lv_at hl 1 rfl) ?_
    refine lv_iload_n hx hb dX0_writeStatement_106 rfl (lv_at hl 2 rfl) ?_
    refine lv_iload_n hx hb dX0_writeStatement_107 rfl (lv_at hl 3 rfl) ?_
    refine vz_Vv3 (As := [.int n1, .int (nI dn)]) (rest := []) hx hb hml hown hts hK hA hP hD hS (a_C_writeLoop l D g dn hdn hB H.size h ca ci_14 cr cf da ph dr_15 df_16 pa pr pf n1 hw_c hw_17 hw_p) kv_X0_93 ⟨by dsimp only; omega, by dsimp only; omega⟩ (q0 := 0) (ci := 0) rfl rfl rfl  hl.1 (Nat.le_of_ble_eq_true rfl) dX0_writeStatement_108 ⟨Nat.le_refl _, Nat.le_refl _⟩ rfl (fun ⟨ci_27, cr_28, cf_29, dr_30, df_31⟩ H locs ⟨hw_32, hw_33⟩ _ hP hD hS => ?_)
    try dsimp only at hw_32 hw_33
    replace hP : va_P D vwCl (vz_w [coW g h ca ci_27 cr_28 cf_29 (da 0) (da 2) ph, cdW g da dr_30 df_31, pgW g ph pa pr pf]) H := hP
    replace hD : va_D A (vz_w [coW g h ca ci_27 cr_28 cf_29 (da 0) (da 2) ph, cdW g da dr_30 df_31, pgW g ph pa pr pf]) := hD
    refine lv_goto (tgt := 156) hx hb dX0_writeStatement_111 (by decide) ?_
    exact J156 ci_27 cr_28 cf_29 dr_30 df_31 hw_32 hw_33 H locs ls hP hD hS (lv_sub hl [1, 2, 3, 0] rfl)
  have S45_114 : W p l e { frames := (7 * (16 - dn) + 116), cells := 0, slots := 0, locals := (203 * (16 - dn) + 4174) } s m args below meth c H locs 0 0 Q (F0 m 114 ls []) := by
    refine lv_aload_n hx hb dX0_writeStatement_114 rfl (lv_at hl 1 rfl) ?_
    refine lv_iload_n hx hb dX0_writeStatement_115 rfl (lv_at hl 2 rfl) ?_
    refine lv_iload_n hx hb dX0_writeStatement_116 rfl (lv_at hl 3 rfl) ?_
    refine vz_Vv3 (As := [.int n1, .int (nI dn)]) (rest := []) hx hb hml hown hts hK hA hP hD hS (a_C_writeGuard l D g dn hdn hB H.size h ca ci_14 cr cf da ph dr_15 df_16 pa pr pf n1 hw_c hw_17 hw_p) kv_X0_96 ⟨by dsimp only; omega, by dsimp only; omega⟩ (q0 := 0) (ci := 0) rfl rfl rfl  hl.1 (Nat.le_of_ble_eq_true rfl) dX0_writeStatement_117 ⟨Nat.le_refl _, Nat.le_refl _⟩ rfl (fun ⟨ci_34, cr_35, cf_36, dr_37, df_38⟩ H locs ⟨hw_39, hw_40⟩ _ hP hD hS => ?_)
    try dsimp only at hw_39 hw_40
    replace hP : va_P D vwCl (vz_w [coW g h ca ci_34 cr_35 cf_36 (da 0) (da 2) ph, cdW g da dr_37 df_38, pgW g ph pa pr pf]) H := hP
    replace hD : va_D A (vz_w [coW g h ca ci_34 cr_35 cf_36 (da 0) (da 2) ph, cdW g da dr_37 df_38, pgW g ph pa pr pf]) := hD
    refine lv_goto (tgt := 156) hx hb dX0_writeStatement_120 (by decide) ?_
    exact J156 ci_34 cr_35 cf_36 dr_37 df_38 hw_39 hw_40 H locs ls hP hD hS (lv_sub hl [1, 2, 3, 0] rfl)
  have S45_123 : W p l e { frames := (7 * (16 - dn) + 116), cells := 0, slots := 0, locals := (203 * (16 - dn) + 4174) } s m args below meth c H locs 0 0 Q (F0 m 123 ls []) := by
    refine lv_aload_n hx hb dX0_writeStatement_123 rfl (lv_at hl 1 rfl) ?_
    refine lv_iload_n hx hb dX0_writeStatement_124 rfl (lv_at hl 2 rfl) ?_
    refine lv_iconst (v := 0) hx hb dX0_writeStatement_125 (by decide) ?_
    refine lv_iload_n hx hb dX0_writeStatement_126 rfl (lv_at hl 3 rfl) ?_
    refine vz_Vv3 (As := [.int n1, .int 0, .int (nI dn)]) (rest := []) hx hb hml hown hts hK hA hP hD hS (a_C_writeJump l D g dn hdn hB H.size h ca ci_14 cr cf da ph dr_15 df_16 pa pr pf n1 0 hw_c hw_17 hw_p) kv_X0_99 ⟨by dsimp only; omega, by dsimp only; omega⟩ (q0 := 0) (ci := 0) rfl rfl rfl  hl.1 (Nat.le_of_ble_eq_true rfl) dX0_writeStatement_127 ⟨Nat.le_refl _, Nat.le_refl _⟩ rfl (fun ⟨ci_41, cr_42, cf_43, dr_44, df_45⟩ H locs ⟨hw_46, hw_47⟩ _ hP hD hS => ?_)
    try dsimp only at hw_46 hw_47
    replace hP : va_P D vwCl (vz_w [coW g h ca ci_41 cr_42 cf_43 (da 0) (da 2) ph, cdW g da dr_44 df_45, pgW g ph pa pr pf]) H := hP
    replace hD : va_D A (vz_w [coW g h ca ci_41 cr_42 cf_43 (da 0) (da 2) ph, cdW g da dr_44 df_45, pgW g ph pa pr pf]) := hD
    refine lv_goto (tgt := 156) hx hb dX0_writeStatement_130 (by decide) ?_
    exact J156 ci_41 cr_42 cf_43 dr_44 df_45 hw_46 hw_47 H locs ls hP hD hS (lv_sub hl [1, 2, 3, 0] rfl)
  have S45_133 : W p l e { frames := (7 * (16 - dn) + 116), cells := 0, slots := 0, locals := (203 * (16 - dn) + 4174) } s m args below meth c H locs 0 0 Q (F0 m 133 ls []) := by
    refine lv_aload_n hx hb dX0_writeStatement_133 rfl (lv_at hl 1 rfl) ?_
    refine lv_iload_n hx hb dX0_writeStatement_134 rfl (lv_at hl 2 rfl) ?_
    refine lv_iconst (v := 1) hx hb dX0_writeStatement_135 (by decide) ?_
    refine lv_iload_n hx hb dX0_writeStatement_136 rfl (lv_at hl 3 rfl) ?_
    refine vz_Vv3 (As := [.int n1, .int 1, .int (nI dn)]) (rest := []) hx hb hml hown hts hK hA hP hD hS (a_C_writeJump l D g dn hdn hB H.size h ca ci_14 cr cf da ph dr_15 df_16 pa pr pf n1 1 hw_c hw_17 hw_p) kv_X0_99 ⟨by dsimp only; omega, by dsimp only; omega⟩ (q0 := 0) (ci := 0) rfl rfl rfl  hl.1 (Nat.le_of_ble_eq_true rfl) dX0_writeStatement_137 ⟨Nat.le_refl _, Nat.le_refl _⟩ rfl (fun ⟨ci_48, cr_49, cf_50, dr_51, df_52⟩ H locs ⟨hw_53, hw_54⟩ _ hP hD hS => ?_)
    try dsimp only at hw_53 hw_54
    replace hP : va_P D vwCl (vz_w [coW g h ca ci_48 cr_49 cf_50 (da 0) (da 2) ph, cdW g da dr_51 df_52, pgW g ph pa pr pf]) H := hP
    replace hD : va_D A (vz_w [coW g h ca ci_48 cr_49 cf_50 (da 0) (da 2) ph, cdW g da dr_51 df_52, pgW g ph pa pr pf]) := hD
    refine lv_goto (tgt := 156) hx hb dX0_writeStatement_140 (by decide) ?_
    exact J156 ci_48 cr_49 cf_50 dr_51 df_52 hw_53 hw_54 H locs ls hP hD hS (lv_sub hl [1, 2, 3, 0] rfl)
  have S45_143 : W p l e { frames := (7 * (16 - dn) + 116), cells := 0, slots := 0, locals := (203 * (16 - dn) + 4174) } s m args below meth c H locs 0 0 Q (F0 m 143 ls []) := by
    refine lv_aload_n hx hb dX0_writeStatement_143 rfl (lv_at hl 1 rfl) ?_
    refine lv_iload_n hx hb dX0_writeStatement_144 rfl (lv_at hl 3 rfl) ?_
    refine vz_Vv3 (As := [.int (nI dn)]) (rest := []) hx hb hml hown hts hK hA hP hD hS (a_C_writeReturn l D g dn hdn hB H.size h ca ci_14 cr cf da ph dr_15 df_16 pa pr pf hw_c hw_17 hw_p) kv_X0_103 ⟨by dsimp only; omega, by dsimp only; omega⟩ (q0 := 0) (ci := 0) rfl rfl rfl  hl.1 (Nat.le_of_ble_eq_true rfl) dX0_writeStatement_145 ⟨Nat.le_refl _, Nat.le_refl _⟩ rfl (fun ⟨ci_55, cr_56, cf_57, dr_58, df_59⟩ H locs ⟨hw_60, hw_61⟩ _ hP hD hS => ?_)
    try dsimp only at hw_60 hw_61
    replace hP : va_P D vwCl (vz_w [coW g h ca ci_55 cr_56 cf_57 (da 0) (da 2) ph, cdW g da dr_58 df_59, pgW g ph pa pr pf]) H := hP
    replace hD : va_D A (vz_w [coW g h ca ci_55 cr_56 cf_57 (da 0) (da 2) ph, cdW g da dr_58 df_59, pgW g ph pa pr pf]) := hD
    refine lv_goto (tgt := 156) hx hb dX0_writeStatement_148 (by decide) ?_
    exact J156 ci_55 cr_56 cf_57 dr_58 df_59 hw_60 hw_61 H locs ls hP hD hS (lv_sub hl [1, 2, 3, 0] rfl)
  have S45_151 : W p l e { frames := (7 * (16 - dn) + 116), cells := 0, slots := 0, locals := (203 * (16 - dn) + 4174) } s m args below meth c H locs 0 0 Q (F0 m 151 ls []) := by
    refine lv_aload_n hx hb dX0_writeStatement_151 rfl (lv_at hl 1 rfl) ?_
    refine lv_iload_n hx hb dX0_writeStatement_152 rfl (lv_at hl 2 rfl) ?_
    refine vz_Vv3 (As := [.int n1]) (rest := []) hx hb hml hown hts hK hA hP hD hS (a_C_writePlain l D g H.size h ca ci_14 cr cf da ph dr_15 df_16 pa pr pf n1 hw_c hw_17 hw_p) kv_X0_107 ⟨by dsimp only; omega, by dsimp only; omega⟩ (q0 := 0) (ci := 0) rfl rfl rfl  hl.1 (Nat.le_of_ble_eq_true rfl) dX0_writeStatement_153 ⟨Nat.le_refl _, Nat.le_refl _⟩ rfl (fun ⟨ci_62, dr_63, df_64⟩ H locs hw_65 _ hP hD hS => ?_)
    try dsimp only at hw_65
    replace hP : va_P D vwCl (vz_w [coW g h ca ci_62 cr cf (da 0) (da 2) ph, cdW g da dr_63 df_64, pgW g ph pa pr pf]) H := hP
    replace hD : va_D A (vz_w [coW g h ca ci_62 cr cf (da 0) (da 2) ph, cdW g da dr_63 df_64, pgW g ph pa pr pf]) := hD
    exact J156 ci_62 cr cf dr_63 df_64 hw_c hw_65 H locs ls hP hD hS (lv_sub hl [1, 2, 3, 0] rfl)
  refine vz_tsw (td := 151) hx hb dX0_writeStatement_45 (by decide) [143, 96, 105, 123, 133, 151, 151, 151, 114] (by decide) (by decide) (fun hv => ?_) (fun k t hk hv => ?_)
  · exact S45_151
  · have hm := List.mem_of_getElem? hk
    simp only [List.mem_cons, List.not_mem_nil, or_false] at hm
    rcases hm with rfl | rfl | rfl | rfl | rfl | rfl | rfl | rfl | rfl
    · exact S45_143
    · exact S45_96
    · exact S45_105
    · exact S45_123
    · exact S45_133
    · exact S45_151
    · exact S45_151
    · exact S45_151
    · exact S45_114
theorem q632 : Cond.methodLink RX0 84 yX0_writeStatement ∈ wsL_law := mT_4 (List.mem_of_getElem? (i := 55) rfl) rfl
theorem q633 : Cond.instanceMethod yX0_writeStatement ∈ wsL_law := mT_4 (List.mem_of_getElem? (i := 57) rfl) rfl
theorem q634 : Cond.selects RX0 yX0_writeStatement yX0_writeStatement ∈ wsL_law := mS_3 (q := (yX0_writeStatement, 8)) (List.mem_of_getElem? (i := 5) rfl) rfl
theorem q707 : Cond.code yX0_writeStatement cX0_writeStatement 4 none ∈ wsL_law := mT_4 (List.mem_of_getElem? (i := 58) rfl) rfl
theorem kv_X0_84 : vz_cv RX0 84 yX0_writeStatement cX0_writeStatement 4 none 2 := ⟨q632, q633, q634, q33, q707, by decide +kernel⟩
theorem dX0_writeBlock_0 : decode cX0_writeBlock 0 = .ok (.iload_n 2, 1) := by decide +kernel
theorem dX0_writeBlock_1 : decode cX0_writeBlock 1 = .ok (.bipush 16, 2) := by decide +kernel
theorem dX0_writeBlock_3 : decode cX0_writeBlock 3 = .ok (.if_icmp .le 9, 3) := by decide +kernel
theorem dX0_writeBlock_6 : decode cX0_writeBlock 6 = .ok (.aload_n 0, 1) := by decide +kernel
theorem dX0_writeBlock_7 : decode cX0_writeBlock 7 = .ok (.iconst 1, 1) := by decide +kernel
theorem dX0_writeBlock_8 : decode cX0_writeBlock 8 = .ok (.putfield 34, 3) := by decide +kernel
theorem dX0_writeBlock_11 : decode cX0_writeBlock 11 = .ok (.return_, 1) := by decide +kernel
theorem dX0_writeBlock_12 : decode cX0_writeBlock 12 = .ok (.iload_n 1, 1) := by decide +kernel
theorem dX0_writeBlock_13 : decode cX0_writeBlock 13 = .ok (.istore_n 3, 1) := by decide +kernel
theorem dX0_writeBlock_14 : decode cX0_writeBlock 14 = .ok (.iconst 0, 1) := by decide +kernel
theorem dX0_writeBlock_15 : decode cX0_writeBlock 15 = .ok (.istore 4, 2) := by decide +kernel
theorem dX0_writeBlock_17 : decode cX0_writeBlock 17 = .ok (.iload 4, 2) := by decide +kernel
theorem dX0_writeBlock_19 : decode cX0_writeBlock 19 = .ok (.bipush 80, 2) := by decide +kernel
theorem dX0_writeBlock_21 : decode cX0_writeBlock 21 = .ok (.if_icmp .ge 42, 3) := by decide +kernel
theorem dX0_writeBlock_24 : decode cX0_writeBlock 24 = .ok (.iload_n 3, 1) := by decide +kernel
theorem dX0_writeBlock_25 : decode cX0_writeBlock 25 = .ok (.bipush (-9), 2) := by decide +kernel
theorem dX0_writeBlock_27 : decode cX0_writeBlock 27 = .ok (.if_icmp .eq 36, 3) := by decide +kernel
theorem dX0_writeBlock_30 : decode cX0_writeBlock 30 = .ok (.aload_n 0, 1) := by decide +kernel
theorem dX0_writeBlock_31 : decode cX0_writeBlock 31 = .ok (.getfield 34, 3) := by decide +kernel
theorem dX0_writeBlock_34 : decode cX0_writeBlock 34 = .ok (.ifCond .ne 29, 3) := by decide +kernel
theorem dX0_writeBlock_37 : decode cX0_writeBlock 37 = .ok (.aload_n 0, 1) := by decide +kernel
theorem dX0_writeBlock_38 : decode cX0_writeBlock 38 = .ok (.iload_n 3, 1) := by decide +kernel
theorem dX0_writeBlock_39 : decode cX0_writeBlock 39 = .ok (.iload_n 2, 1) := by decide +kernel
theorem dX0_writeBlock_40 : decode cX0_writeBlock 40 = .ok (.invokevirtual 84, 3) := by decide +kernel
theorem dX0_writeBlock_43 : decode cX0_writeBlock 43 = .ok (.aload_n 0, 1) := by decide +kernel
theorem dX0_writeBlock_44 : decode cX0_writeBlock 44 = .ok (.getfield 9, 3) := by decide +kernel
theorem dX0_writeBlock_47 : decode cX0_writeBlock 47 = .ok (.getfield 81, 3) := by decide +kernel
theorem dX0_writeBlock_50 : decode cX0_writeBlock 50 = .ok (.iload_n 3, 1) := by decide +kernel
theorem dX0_writeBlock_51 : decode cX0_writeBlock 51 = .ok (.bipush 8, 2) := by decide +kernel
theorem dX0_writeBlock_53 : decode cX0_writeBlock 53 = .ok (.invokevirtual 63, 3) := by decide +kernel
theorem dX0_writeBlock_56 : decode cX0_writeBlock 56 = .ok (.istore_n 3, 1) := by decide +kernel
theorem dX0_writeBlock_57 : decode cX0_writeBlock 57 = .ok (.iinc 4 1, 3) := by decide +kernel
theorem dX0_writeBlock_60 : decode cX0_writeBlock 60 = .ok (.goto (-43), 3) := by decide +kernel
theorem dX0_writeBlock_63 : decode cX0_writeBlock 63 = .ok (.return_, 1) := by decide +kernel
set_option maxHeartbeats 8000000 in
set_option maxRecDepth 100000 in
theorem a_C_block (l : Launch) (D : va_G) (g : Nat → ClassId) (dn : Nat) (hdn : dn ≤ 17) (hB : dn ≤ 16 → ∀ (sz : Nat) (h : Nat) (ca : Nat → Nat) (ci : Nat → Int32) (cr : Nat → Nat) (cf : Nat → Nat → Int32) (da : Nat → Nat) (ph : Nat) (dr : Nat → Nat) (df : Nat → Nat → Int32) (pa : Nat → Nat) (pr : Nat → Nat) (pf : Nat → Nat → Int32) (n1 : Int32) (hw_c : ∀ k, cr k ≤ coW_lim k) (hw_d : ∀ k, dr k ≤ cdW_lim k) (hw_p : ∀ k, pr k ≤ pgW_lim k), vz_Mv l D (tyG g) yX0_writeBlock cX0_writeBlock 5 (7 * (17 - (dn + 1)) + 110) (203 * (17 - (dn + 1)) + 4000) 0 0 [.ref h, .int n1, .int (nI (dn + 1))] sz (vz_w [coW g h ca ci cr cf (da 0) (da 2) ph, cdW g da dr df, pgW g ph pa pr pf]) (fun u : (Nat → Int32) × (Nat → Nat) × (Nat → Nat → Int32) × (Nat → Nat) × (Nat → Nat → Int32) => (∀ k, u.2.1 k ≤ coW_lim k) ∧ (∀ k, u.2.2.2.1 k ≤ cdW_lim k)) (fun u => vz_w [coW g h ca u.1 u.2.1 u.2.2.1 (da 0) (da 2) ph, cdW g da u.2.2.2.1 u.2.2.2.2, pgW g ph pa pr pf])) (sz : Nat) (h : Nat) (ca : Nat → Nat) (ci : Nat → Int32) (cr : Nat → Nat) (cf : Nat → Nat → Int32) (da : Nat → Nat) (ph : Nat) (dr : Nat → Nat) (df : Nat → Nat → Int32) (pa : Nat → Nat) (pr : Nat → Nat) (pf : Nat → Nat → Int32) (n1 : Int32) (hw_c : ∀ k, cr k ≤ coW_lim k) (hw_d : ∀ k, dr k ≤ cdW_lim k) (hw_p : ∀ k, pr k ≤ pgW_lim k) : vz_Mv l D (tyG g) yX0_writeBlock cX0_writeBlock 5 (7 * (17 - dn) + 110) (203 * (17 - dn) + 4000) 0 0 [.ref h, .int n1, .int (nI dn)] sz (vz_w [coW g h ca ci cr cf (da 0) (da 2) ph, cdW g da dr df, pgW g ph pa pr pf]) (fun u : (Nat → Int32) × (Nat → Nat) × (Nat → Nat → Int32) × (Nat → Nat) × (Nat → Nat → Int32) => (∀ k, u.2.1 k ≤ coW_lim k) ∧ (∀ k, u.2.2.2.1 k ≤ cdW_lim k)) (fun u => vz_w [coW g h ca u.1 u.2.1 u.2.2.1 (da 0) (da 2) ph, cdW g da u.2.2.2.1 u.2.2.2.2, pgW g ph pa pr pf]) := by
  refine vz_svQ (by decide) (Nat.le_of_ble_eq_true rfl) (fun p e s m args below meth c hx hb hr hml hts hown hlk hin hK hsz A hA H locs hP hD hS ls hl Q hQ => ?_)
  have hl : lv_has ls 5 [(0, .ref h), (1, .int n1), (2, .int (nI dn))] := hl
  have J63 : ∀ (x3_63 : Int32), ∀ (x4_63 : Int32), ∀ (ci_63 : Nat → Int32), ∀ (cr_63 : Nat → Nat), ∀ (cf_63 : Nat → Nat → Int32), ∀ (dr_63 : Nat → Nat), ∀ (df_63 : Nat → Nat → Int32), (∀ k, cr_63 k ≤ coW_lim k) → (∀ k, dr_63 k ≤ cdW_lim k) → ∀ (H : Heap) (locs : List Loc) (ls : Array Slot), va_P D vwCl (vz_w [coW g h ca ci_63 cr_63 cf_63 (da 0) (da 2) ph, cdW g da dr_63 df_63, pgW g ph pa pr pf]) H → va_D A (vz_w [coW g h ca ci_63 cr_63 cf_63 (da 0) (da 2) ph, cdW g da dr_63 df_63, pgW g ph pa pr pf]) → va_S A s.heap H locs → lv_has ls 5 [(0, .ref h), (1, .int n1), (2, .int (nI dn)), (3, .int x3_63), (4, .int x4_63)] → W p l e { frames := (7 * (17 - dn) + 110), cells := 0, slots := 0, locals := (203 * (17 - dn) + 4000) } s m args below meth c H locs 0 0 Q (F0 m 63 ls []) := by
    intro x3_63 x4_63 ci_63 cr_63 cf_63 dr_63 df_63 hw_c_63 hw_d_63 H locs ls hP hD hS hl
    rw [hQ]
    exact vz_vret3 hx hb hr hlk hK hP hD hS (ci_63, cr_63, cf_63, dr_63, df_63) (⟨hw_c_63, hw_d_63⟩) rfl (Nat.le_refl 0) (Nat.le_refl 0) dX0_writeBlock_63
  have J17 : ∀ (fu17 n17 : Nat), 80 - n17 < fu17 → n17 ≤ 80 → ∀ (x3_17 : Int32), ∀ (ci_17 : Nat → Int32), ∀ (cr_17 : Nat → Nat), ∀ (cf_17 : Nat → Nat → Int32), ∀ (dr_17 : Nat → Nat), ∀ (df_17 : Nat → Nat → Int32), (∀ k, cr_17 k ≤ coW_lim k) → (∀ k, dr_17 k ≤ cdW_lim k) → (nI dn ≤ 16) → ∀ (H : Heap) (locs : List Loc) (ls : Array Slot), va_P D vwCl (vz_w [coW g h ca ci_17 cr_17 cf_17 (da 0) (da 2) ph, cdW g da dr_17 df_17, pgW g ph pa pr pf]) H → va_D A (vz_w [coW g h ca ci_17 cr_17 cf_17 (da 0) (da 2) ph, cdW g da dr_17 df_17, pgW g ph pa pr pf]) → va_S A s.heap H locs → lv_has ls 5 [(0, .ref h), (1, .int n1), (2, .int (nI dn)), (3, .int x3_17), (4, .int (nI n17))] → W p l e { frames := (7 * (17 - dn) + 110), cells := 0, slots := 0, locals := (203 * (17 - dn) + 4000) } s m args below meth c H locs 0 0 Q (F0 m 17 ls []) := by
    intro fu17
    induction fu17 with
    | zero => intro n17 z; omega
    | succ fu17 ih17 =>
      intro n17 hf17 hb17 x3_17 ci_17 cr_17 cf_17 dr_17 df_17 hw_c_17 hw_d_17 hj17_0 H locs ls hP hD hS hl
      refine lv_iload hx hb dX0_writeBlock_17 (lv_at hl 4 rfl) ?_
      refine lv_bipush (v := 80) hx hb dX0_writeBlock_19 (by decide) ?_
      refine lv_icmp_ge (tgt := 63) hx hb dX0_writeBlock_21 (by decide) (fun kc1 => ?_) (fun kc1 => ?_)
      · exact J63 x3_17 (nI n17) ci_17 cr_17 cf_17 dr_17 df_17 hw_c_17 hw_d_17 H locs ls hP hD hS (lv_sub hl [0, 1, 2, 3, 4] rfl)
      · have hn17 : n17 < 80 := vz_ltge (B := 80) (by omega) kc1
        refine lv_iload_n hx hb dX0_writeBlock_24 rfl (lv_at hl 3 rfl) ?_
        refine lv_bipush (v := (-9)) hx hb dX0_writeBlock_25 (by decide) ?_
        refine lv_icmp_eq (tgt := 63) hx hb dX0_writeBlock_27 (by decide) (fun kc2 => ?_) (fun kc2 => ?_)
        · exact J63 x3_17 (nI n17) ci_17 cr_17 cf_17 dr_17 df_17 hw_c_17 hw_d_17 H locs ls hP hD hS (lv_sub hl [0, 1, 2, 3, 4] rfl)
        · refine lv_aload_n hx hb dX0_writeBlock_30 rfl (lv_at hl 0 rfl) ?_
          refine va_get (D := D) (ci := 0) (v := .int (ci_17 1)) (C := RX0) (T := TX0) (N := 8) hx hb hts inlX0 hown hK hP 0 rfl rfl 5 (by decide) (hts _ q614) (fun _ h => h) rfl dX0_writeBlock_31 ?_
          refine lv_if_ne (tgt := 63) hx hb dX0_writeBlock_34 (by decide) (fun kc3 => ?_) (fun kc3 => ?_)
          · exact J63 x3_17 (nI n17) ci_17 cr_17 cf_17 dr_17 df_17 hw_c_17 hw_d_17 H locs ls hP hD hS (lv_sub hl [0, 1, 2, 3, 4] rfl)
          · refine lv_aload_n hx hb dX0_writeBlock_37 rfl (lv_at hl 0 rfl) ?_
            refine lv_iload_n hx hb dX0_writeBlock_38 rfl (lv_at hl 3 rfl) ?_
            refine lv_iload_n hx hb dX0_writeBlock_39 rfl (lv_at hl 2 rfl) ?_
            refine vz_Vv3 (As := [.int x3_17, .int (nI dn)]) (rest := []) hx hb hml hown hts hK hA hP hD hS (a_C_writeStatement l D g dn (vz_lec (B := 16) (by decide) (by omega) hj17_0) (hB (vz_lec (B := 16) (by decide) (by omega) hj17_0)) H.size h ca ci_17 cr_17 cf_17 da ph dr_17 df_17 pa pr pf x3_17 hw_c_17 hw_d_17 hw_p) kv_X0_84 ⟨by have hq := (vz_lec (B := 16) (by decide) (by omega) hj17_0); dsimp only; omega, by have hq := (vz_lec (B := 16) (by decide) (by omega) hj17_0); dsimp only; omega⟩ (q0 := 0) (ci := 0) rfl rfl rfl  hl.1 (Nat.le_of_ble_eq_true rfl) dX0_writeBlock_40 ⟨Nat.le_refl _, Nat.le_refl _⟩ rfl (fun ⟨ci_4, cr_5, cf_6, dr_7, df_8⟩ H locs ⟨hw_9, hw_10⟩ _ hP hD hS => ?_)
            try dsimp only at hw_9 hw_10
            replace hP : va_P D vwCl (vz_w [coW g h ca ci_4 cr_5 cf_6 (da 0) (da 2) ph, cdW g da dr_7 df_8, pgW g ph pa pr pf]) H := hP
            replace hD : va_D A (vz_w [coW g h ca ci_4 cr_5 cf_6 (da 0) (da 2) ph, cdW g da dr_7 df_8, pgW g ph pa pr pf]) := hD
            refine lv_aload_n hx hb dX0_writeBlock_43 rfl (lv_at hl 0 rfl) ?_
            refine va_get (D := D) (ci := 0) (v := .ref ph) (C := RX0) (T := TX0) (N := 8) hx hb hts inlX0 hown hK hP 0 rfl rfl 3 (by decide) (hts _ q108) (fun _ h => h) rfl dX0_writeBlock_44 ?_
            refine va_get (D := D) (ci := 2) (v := .ref (pa 0)) (C := RX2) (T := TX2) (N := 5) hx hb hts inlX2 hown hK hP 7 rfl rfl 0 (by decide) (hts _ q631) (fun _ h => h) rfl dX0_writeBlock_47 ?_
            refine lv_iload_n hx hb dX0_writeBlock_50 rfl (lv_at hl 3 rfl) ?_
            refine lv_bipush (v := 8) hx hb dX0_writeBlock_51 (by decide) ?_
            refine vz_Vi2 (ws' := fun u : Unit => vz_w [coW g h ca ci_4 cr_5 cf_6 (da 0) (da 2) ph, cdW g da dr_7 df_8, pgW g ph pa pr pf]) (As := [.int x3_17, .int 8]) (rest := []) hx hb hml hown hts hK hA hP hD hS (c_T_get l D g (pa 0) (pa 1) H.size 12 80 (pr 0) 960 (pf 0) x3_17 8 ⟨rfl, by decide, by decide, by decide, by decide, hw_p 0⟩) kv_X0_63 ⟨by dsimp only; omega, by dsimp only; omega⟩ (q0 := 8) (ci := 6) rfl rfl rfl [8, 9] rfl (by decide) (fun _ => rfl) (fun _ => rfl) hl.1 (Nat.le_of_ble_eq_true rfl) dX0_writeBlock_53 ⟨Nat.le_refl _, Nat.le_refl _⟩ rfl (fun v11 _ H locs he12 _ hP hD hS => ?_)
            refine lv_istore_n (lv' := [(3, .int v11), (0, .ref h), (1, .int n1), (2, .int (nI dn)), (4, .int (nI n17))]) hx hb dX0_writeBlock_56 rfl hl (by decide) rfl (fun ls hl => ?_)
            refine lv_iinc (v := (nI (n17 + 1))) (lv' := [(4, .int (nI (n17 + 1))), (3, .int v11), (0, .ref h), (1, .int n1), (2, .int (nI dn))]) hx hb dX0_writeBlock_57 hl (k := 4) rfl (nI_1 n17) (by decide) rfl (fun ls hl => ?_)
            refine lv_goto (tgt := 17) hx hb dX0_writeBlock_60 (by decide) ?_
            exact ih17 (n17 + 1) (by omega) (by omega) v11 ci_4 cr_5 cf_6 dr_7 df_8 hw_9 hw_10 (hj17_0) H locs ls hP hD hS (lv_sub hl [2, 3, 4, 1, 0] rfl)
  refine lv_iload_n hx hb dX0_writeBlock_0 rfl (lv_at hl 2 rfl) ?_
  refine lv_bipush (v := 16) hx hb dX0_writeBlock_1 (by decide) ?_
  refine lv_icmp_le (tgt := 12) hx hb dX0_writeBlock_3 (by decide) (fun kc1 => ?_) (fun kc1 => ?_)
  · refine lv_iload_n hx hb dX0_writeBlock_12 rfl (lv_at hl 1 rfl) ?_
    refine lv_istore_n (lv' := [(3, .int n1), (0, .ref h), (1, .int n1), (2, .int (nI dn))]) hx hb dX0_writeBlock_13 rfl hl (by decide) rfl (fun ls hl => ?_)
    refine lv_iconst (v := 0) hx hb dX0_writeBlock_14 (by decide) ?_
    refine lv_istore (lv' := [(4, .int 0), (3, .int n1), (0, .ref h), (1, .int n1), (2, .int (nI dn))]) hx hb dX0_writeBlock_15 hl (by decide) rfl (fun ls hl => ?_)
    exact J17 (81) 0 (by omega) (by omega) n1 ci cr cf dr df hw_c hw_d (kc1) H locs ls hP hD hS (lv_sub hl [2, 3, 4, 1, 0] rfl)
  · refine lv_aload_n hx hb dX0_writeBlock_6 rfl (lv_at hl 0 rfl) ?_
    refine lv_iconst (v := 1) hx hb dX0_writeBlock_7 (by decide) ?_
    refine va_put (D := D) (ci := 0) (v := .int 1) (ty := .boolean) (C := RX0) (T := TX0) (N := 8) hx hb hts inlX0 tyX0 tyX0_ok nmX0 hown hK hP hD hS 0 rfl rfl 5 (by decide) (hts _ q614) (fun _ h => h) rfl (by decide +kernel) rfl rfl (Nat.le_of_ble_eq_true rfl) dX0_writeBlock_8 (fun H locs hP hD hS => ?_)
    obtain ⟨ci_2, hci_2, hP, hD⟩ : ∃ ci_2 : Nat → Int32, (ci_2 = (upd ci 1 1)) ∧ va_P D vwCl (vz_w [coW g h ca ci_2 cr cf (da 0) (da 2) ph, cdW g da dr df, pgW g ph pa pr pf]) H ∧ va_D A (vz_w [coW g h ca ci_2 cr cf (da 0) (da 2) ph, cdW g da dr df, pgW g ph pa pr pf]) := ⟨(upd ci 1 1), rfl, hP, hD⟩
    rw [hQ]
    exact vz_vret3 hx hb hr hlk hK hP hD hS (ci_2, cr, cf, dr, df) (⟨hw_c, hw_d⟩) rfl (Nat.le_refl 0) (Nat.le_refl 0) dX0_writeBlock_11
theorem a_C_block9 (l : Launch) (D : va_G) (g : Nat → ClassId) : ∀ (k dn : Nat), dn + k = 17 → ∀ (sz : Nat) (h : Nat) (ca : Nat → Nat) (ci : Nat → Int32) (cr : Nat → Nat) (cf : Nat → Nat → Int32) (da : Nat → Nat) (ph : Nat) (dr : Nat → Nat) (df : Nat → Nat → Int32) (pa : Nat → Nat) (pr : Nat → Nat) (pf : Nat → Nat → Int32) (n1 : Int32) (hw_c : ∀ k, cr k ≤ coW_lim k) (hw_d : ∀ k, dr k ≤ cdW_lim k) (hw_p : ∀ k, pr k ≤ pgW_lim k), vz_Mv l D (tyG g) yX0_writeBlock cX0_writeBlock 5 (7 * (17 - dn) + 110) (203 * (17 - dn) + 4000) 0 0 [.ref h, .int n1, .int (nI dn)] sz (vz_w [coW g h ca ci cr cf (da 0) (da 2) ph, cdW g da dr df, pgW g ph pa pr pf]) (fun u : (Nat → Int32) × (Nat → Nat) × (Nat → Nat → Int32) × (Nat → Nat) × (Nat → Nat → Int32) => (∀ k, u.2.1 k ≤ coW_lim k) ∧ (∀ k, u.2.2.2.1 k ≤ cdW_lim k)) (fun u => vz_w [coW g h ca u.1 u.2.1 u.2.2.1 (da 0) (da 2) ph, cdW g da u.2.2.2.1 u.2.2.2.2, pgW g ph pa pr pf]) := by
  intro k
  induction k with
  | zero => intro dn hk; exact a_C_block l D g dn (by omega) (fun h => absurd h (by omega))
  | succ k ih => intro dn hk; exact a_C_block l D g dn (by omega) (fun _ => ih (dn + 1) (by omega))
theorem q624 : Cond.methodLink RX0 41 yX6_reset ∈ wsL_law := mT_4 (List.mem_of_getElem? (i := 48) rfl) rfl
theorem kv_X0_41 : vz_cv RX0 41 yX6_reset cX6_reset 1 none 0 := ⟨q624, q290, q291, q15, q292, by decide +kernel⟩
theorem q620 : Cond.fieldLink RX0 44 "WaysAtlas$Program" "methods" "LWaysAtlas$Table;" ∈ wsL_law := mT_1 (List.mem_of_getElem? (i := 102) rfl) rfl
theorem dX0_write_0 : decode cX0_write 0 = .ok (.aload_n 0, 1) := by decide +kernel
theorem dX0_write_1 : decode cX0_write 1 = .ok (.iload_n 1, 1) := by decide +kernel
theorem dX0_write_2 : decode cX0_write 2 = .ok (.putfield 38, 3) := by decide +kernel
theorem dX0_write_5 : decode cX0_write 5 = .ok (.aload_n 0, 1) := by decide +kernel
theorem dX0_write_6 : decode cX0_write 6 = .ok (.iconst 0, 1) := by decide +kernel
theorem dX0_write_7 : decode cX0_write 7 = .ok (.putfield 34, 3) := by decide +kernel
theorem dX0_write_10 : decode cX0_write 10 = .ok (.aload_n 0, 1) := by decide +kernel
theorem dX0_write_11 : decode cX0_write 11 = .ok (.getfield 20, 3) := by decide +kernel
theorem dX0_write_14 : decode cX0_write 14 = .ok (.invokevirtual 41, 3) := by decide +kernel
theorem dX0_write_17 : decode cX0_write 17 = .ok (.aload_n 0, 1) := by decide +kernel
theorem dX0_write_18 : decode cX0_write 18 = .ok (.getfield 24, 3) := by decide +kernel
theorem dX0_write_21 : decode cX0_write 21 = .ok (.invokevirtual 41, 3) := by decide +kernel
theorem dX0_write_24 : decode cX0_write 24 = .ok (.aload_n 0, 1) := by decide +kernel
theorem dX0_write_25 : decode cX0_write 25 = .ok (.getfield 27, 3) := by decide +kernel
theorem dX0_write_28 : decode cX0_write 28 = .ok (.invokevirtual 41, 3) := by decide +kernel
theorem dX0_write_31 : decode cX0_write 31 = .ok (.iconst 0, 1) := by decide +kernel
theorem dX0_write_32 : decode cX0_write 32 = .ok (.istore_n 2, 1) := by decide +kernel
theorem dX0_write_33 : decode cX0_write 33 = .ok (.iload_n 2, 1) := by decide +kernel
theorem dX0_write_34 : decode cX0_write 34 = .ok (.aload_n 0, 1) := by decide +kernel
theorem dX0_write_35 : decode cX0_write 35 = .ok (.getfield 9, 3) := by decide +kernel
theorem dX0_write_38 : decode cX0_write 38 = .ok (.getfield 44, 3) := by decide +kernel
theorem dX0_write_41 : decode cX0_write 41 = .ok (.getfield 49, 3) := by decide +kernel
theorem dX0_write_44 : decode cX0_write 44 = .ok (.if_icmp .ge 74, 3) := by decide +kernel
theorem dX0_write_47 : decode cX0_write 47 = .ok (.aload_n 0, 1) := by decide +kernel
theorem dX0_write_48 : decode cX0_write 48 = .ok (.getfield 9, 3) := by decide +kernel
theorem dX0_write_51 : decode cX0_write 51 = .ok (.getfield 44, 3) := by decide +kernel
theorem dX0_write_54 : decode cX0_write 54 = .ok (.iload_n 2, 1) := by decide +kernel
theorem dX0_write_55 : decode cX0_write 55 = .ok (.iconst 1, 1) := by decide +kernel
theorem dX0_write_56 : decode cX0_write 56 = .ok (.aload_n 0, 1) := by decide +kernel
theorem dX0_write_57 : decode cX0_write 57 = .ok (.getfield 20, 3) := by decide +kernel
theorem dX0_write_60 : decode cX0_write 60 = .ok (.getfield 49, 3) := by decide +kernel
theorem dX0_write_63 : decode cX0_write 63 = .ok (.invokevirtual 53, 3) := by decide +kernel
theorem dX0_write_66 : decode cX0_write 66 = .ok (.aload_n 0, 1) := by decide +kernel
theorem dX0_write_67 : decode cX0_write 67 = .ok (.bipush (-9), 2) := by decide +kernel
theorem dX0_write_69 : decode cX0_write 69 = .ok (.putfield 57, 3) := by decide +kernel
theorem dX0_write_72 : decode cX0_write 72 = .ok (.aload_n 0, 1) := by decide +kernel
theorem dX0_write_73 : decode cX0_write 73 = .ok (.bipush (-9), 2) := by decide +kernel
theorem dX0_write_75 : decode cX0_write 75 = .ok (.putfield 60, 3) := by decide +kernel
theorem dX0_write_78 : decode cX0_write 78 = .ok (.aload_n 0, 1) := by decide +kernel
theorem dX0_write_79 : decode cX0_write 79 = .ok (.aload_n 0, 1) := by decide +kernel
theorem dX0_write_80 : decode cX0_write 80 = .ok (.getfield 9, 3) := by decide +kernel
theorem dX0_write_83 : decode cX0_write 83 = .ok (.getfield 44, 3) := by decide +kernel
theorem dX0_write_86 : decode cX0_write 86 = .ok (.iload_n 2, 1) := by decide +kernel
theorem dX0_write_87 : decode cX0_write 87 = .ok (.iconst 0, 1) := by decide +kernel
theorem dX0_write_88 : decode cX0_write 88 = .ok (.invokevirtual 63, 3) := by decide +kernel
theorem dX0_write_91 : decode cX0_write 91 = .ok (.iconst 0, 1) := by decide +kernel
theorem dX0_write_92 : decode cX0_write 92 = .ok (.invokevirtual 67, 3) := by decide +kernel
theorem dX0_write_95 : decode cX0_write 95 = .ok (.aload_n 0, 1) := by decide +kernel
theorem dX0_write_96 : decode cX0_write 96 = .ok (.iconst 0, 1) := by decide +kernel
theorem dX0_write_97 : decode cX0_write 97 = .ok (.iconst 0, 1) := by decide +kernel
theorem dX0_write_98 : decode cX0_write 98 = .ok (.iconst 0, 1) := by decide +kernel
theorem dX0_write_99 : decode cX0_write 99 = .ok (.invokevirtual 70, 3) := by decide +kernel
theorem dX0_write_102 : decode cX0_write 102 = .ok (.pop, 1) := by decide +kernel
theorem dX0_write_103 : decode cX0_write 103 = .ok (.aload_n 0, 1) := by decide +kernel
theorem dX0_write_104 : decode cX0_write 104 = .ok (.bipush 19, 2) := by decide +kernel
theorem dX0_write_106 : decode cX0_write 106 = .ok (.iconst 0, 1) := by decide +kernel
theorem dX0_write_107 : decode cX0_write 107 = .ok (.iconst 0, 1) := by decide +kernel
theorem dX0_write_108 : decode cX0_write 108 = .ok (.invokevirtual 70, 3) := by decide +kernel
theorem dX0_write_111 : decode cX0_write 111 = .ok (.pop, 1) := by decide +kernel
theorem dX0_write_112 : decode cX0_write 112 = .ok (.iinc 2 1, 3) := by decide +kernel
theorem dX0_write_115 : decode cX0_write 115 = .ok (.goto (-82), 3) := by decide +kernel
theorem dX0_write_118 : decode cX0_write 118 = .ok (.return_, 1) := by decide +kernel
set_option maxHeartbeats 8000000 in
set_option maxRecDepth 100000 in
theorem a_C_write (l : Launch) (D : va_G) (g : Nat → ClassId)   (sz : Nat) (h : Nat) (ca : Nat → Nat) (ci : Nat → Int32) (cr : Nat → Nat) (cf : Nat → Nat → Int32) (da : Nat → Nat) (ph : Nat) (dr : Nat → Nat) (df : Nat → Nat → Int32) (pa : Nat → Nat) (pr : Nat → Nat) (pf : Nat → Nat → Int32) (n1 : Int32) (hw_c : ∀ k, cr k ≤ coW_lim k) (hw_d : ∀ k, dr k ≤ cdW_lim k) (hw_p : ∀ k, pr k ≤ pgW_lim k) (hz_n1 : n1 = 0 ∨ n1 = 1) : vz_Mv l D (tyG g) yX0_write cX0_write 3 230 7475 0 0 [.ref h, .int n1] sz (vz_w [coW g h ca ci cr cf (da 0) (da 2) ph, cdW g da dr df, pgW g ph pa pr pf]) (fun u : (Nat → Int32) × (Nat → Nat) × (Nat → Nat → Int32) × (Nat → Nat) × (Nat → Nat → Int32) × (Nat → Nat → Int32) => (∀ k, u.2.1 k ≤ coW_lim k) ∧ (∀ k, u.2.2.2.1 k ≤ cdW_lim k)) (fun u => vz_w [coW g h ca u.1 u.2.1 u.2.2.1 (da 0) (da 2) ph, cdW g da u.2.2.2.1 u.2.2.2.2.1, pgW g ph pa pr u.2.2.2.2.2]) := by
  refine vz_svQ (by decide) (Nat.le_of_ble_eq_true rfl) (fun p e s m args below meth c hx hb hr hml hts hown hlk hin hK hsz A hA H locs hP hD hS ls hl Q hQ => ?_)
  have hl : lv_has ls 3 [(0, .ref h), (1, .int n1)] := hl
  have J33 : ∀ fu33 : Nat, ∀ (x2_33 : Int32), ∀ (ci_33 : Nat → Int32), ∀ (cr_33 : Nat → Nat), ∀ (cf_33 : Nat → Nat → Int32), ∀ (dr_33 : Nat → Nat), ∀ (df_33 : Nat → Nat → Int32), ∀ (pf_33 : Nat → Nat → Int32), ((nI (pr 4)).toInt - x2_33.toInt).toNat < fu33 → (∀ k, cr_33 k ≤ coW_lim k) → (∀ k, dr_33 k ≤ cdW_lim k) → ∀ (H : Heap) (locs : List Loc) (ls : Array Slot), va_P D vwCl (vz_w [coW g h ca ci_33 cr_33 cf_33 (da 0) (da 2) ph, cdW g da dr_33 df_33, pgW g ph pa pr pf_33]) H → va_D A (vz_w [coW g h ca ci_33 cr_33 cf_33 (da 0) (da 2) ph, cdW g da dr_33 df_33, pgW g ph pa pr pf_33]) → va_S A s.heap H locs → lv_has ls 3 [(0, .ref h), (1, .int n1), (2, .int x2_33)] → W p l e { frames := 230, cells := 0, slots := 0, locals := 7475 } s m args below meth c H locs 0 0 Q (F0 m 33 ls []) := by
    intro fu33
    induction fu33 with
    | zero => intro x2_33 ci_33 cr_33 cf_33 dr_33 df_33 pf_33 hf33 hw_c_33 hw_d_33 H locs ls hP hD hS hl; exact absurd hf33 (Nat.not_lt_zero _)
    | succ fu33 ih33 =>
      intro x2_33 ci_33 cr_33 cf_33 dr_33 df_33 pf_33 hf33 hw_c_33 hw_d_33 H locs ls hP hD hS hl
      refine lv_iload_n hx hb dX0_write_33 rfl (lv_at hl 2 rfl) ?_
      refine lv_aload_n hx hb dX0_write_34 rfl (lv_at hl 0 rfl) ?_
      refine va_get (D := D) (ci := 0) (v := .ref ph) (C := RX0) (T := TX0) (N := 8) hx hb hts inlX0 hown hK hP 0 rfl rfl 3 (by decide) (hts _ q108) (fun _ h => h) rfl dX0_write_35 ?_
      refine va_get (D := D) (ci := 2) (v := .ref (pa 8)) (C := RX2) (T := TX2) (N := 5) hx hb hts inlX2 hown hK hP 7 rfl rfl 4 (by decide) (hts _ q620) (fun _ h => h) rfl dX0_write_38 ?_
      refine va_get (D := D) (ci := 6) (v := .int (nI (pr 4))) (C := RX6) (T := TX6) (N := 4) hx hb hts inlX6 hown hK hP 16 rfl rfl 3 (by decide) (hts _ q621) (fun _ h => h) rfl dX0_write_41 ?_
      refine lv_icmp_ge (tgt := 118) hx hb dX0_write_44 (by decide) (fun kc1 => ?_) (fun kc1 => ?_)
      · rw [hQ]
        exact vz_vret3 hx hb hr hlk hK hP hD hS (ci_33, cr_33, cf_33, dr_33, df_33, pf_33) (⟨hw_c_33, hw_d_33⟩) rfl (Nat.le_refl 0) (Nat.le_refl 0) dX0_write_118
      · have hn33 : ((nI (pr 4)).toInt - (x2_33 + 1).toInt).toNat < fu33 := by have hq := vz_up kc1; omega
        refine lv_aload_n hx hb dX0_write_47 rfl (lv_at hl 0 rfl) ?_
        refine va_get (D := D) (ci := 0) (v := .ref ph) (C := RX0) (T := TX0) (N := 8) hx hb hts inlX0 hown hK hP 0 rfl rfl 3 (by decide) (hts _ q108) (fun _ h => h) rfl dX0_write_48 ?_
        refine va_get (D := D) (ci := 2) (v := .ref (pa 8)) (C := RX2) (T := TX2) (N := 5) hx hb hts inlX2 hown hK hP 7 rfl rfl 4 (by decide) (hts _ q620) (fun _ h => h) rfl dX0_write_51 ?_
        refine lv_iload_n hx hb dX0_write_54 rfl (lv_at hl 2 rfl) ?_
        refine lv_iconst (v := 1) hx hb dX0_write_55 (by decide) ?_
        refine lv_aload_n hx hb dX0_write_56 rfl (lv_at hl 0 rfl) ?_
        refine va_get (D := D) (ci := 0) (v := .ref (da 0)) (C := RX0) (T := TX0) (N := 8) hx hb hts inlX0 hown hK hP 0 rfl rfl 0 (by decide) (hts _ q110) (fun _ h => h) rfl dX0_write_57 ?_
        refine va_get (D := D) (ci := 6) (v := .int (nI (dr_33 0))) (C := RX6) (T := TX6) (N := 4) hx hb hts inlX6 hown hK hP 3 rfl rfl 3 (by decide) (hts _ q621) (fun _ h => h) rfl dX0_write_60 ?_
        refine vz_Vv2 (ws' := fun u : (Nat → Int32) => vz_w [coW g h ca ci_33 cr_33 cf_33 (da 0) (da 2) ph, cdW g da dr_33 df_33, pgW g ph pa pr (vz_uf pf_33 4 u)]) (As := [.int x2_33, .int 1, .int (nI (dr_33 0))]) (rest := []) hx hb hml hown hts hK hA hP hD hS (c_T_set l D g (pa 8) (pa 9) H.size 2 8 (pr 4) 16 (pf_33 4) x2_33 1 (nI (dr_33 0)) ⟨rfl, by decide, by decide, by decide, by decide, hw_p 4⟩) kv_X0_53 ⟨Nat.le_of_ble_eq_true rfl, Nat.le_of_ble_eq_true rfl⟩ (q0 := 16) (ci := 6) rfl rfl rfl [16, 17] rfl (by decide) (fun _ => rfl) (fun _ => rfl) hl.1 (Nat.le_of_ble_eq_true rfl) dX0_write_63 ⟨Nat.le_refl _, Nat.le_refl _⟩ rfl (fun nf2 H locs _ _ hP hD hS => ?_)
        obtain ⟨pf_3, hP, hD⟩ : ∃ pf_3 : Nat → Nat → Int32, va_P D vwCl (vz_w [coW g h ca ci_33 cr_33 cf_33 (da 0) (da 2) ph, cdW g da dr_33 df_33, pgW g ph pa pr pf_3]) H ∧ va_D A (vz_w [coW g h ca ci_33 cr_33 cf_33 (da 0) (da 2) ph, cdW g da dr_33 df_33, pgW g ph pa pr pf_3]) := ⟨(vz_uf pf_33 4 nf2), hP, hD⟩
        refine lv_aload_n hx hb dX0_write_66 rfl (lv_at hl 0 rfl) ?_
        refine lv_bipush (v := (-9)) hx hb dX0_write_67 (by decide) ?_
        refine va_put (D := D) (ci := 0) (v := .int (-9)) (ty := .int) (C := RX0) (T := TX0) (N := 8) hx hb hts inlX0 tyX0 tyX0_ok nmX0 hown hK hP hD hS 0 rfl rfl 6 (by decide) (hts _ q622) (fun _ h => h) rfl (by decide +kernel) rfl rfl (Nat.le_of_ble_eq_true rfl) dX0_write_69 (fun H locs hP hD hS => ?_)
        obtain ⟨ci_4, hci_4, hP, hD⟩ : ∃ ci_4 : Nat → Int32, (ci_4 = (upd ci_33 2 (-9))) ∧ va_P D vwCl (vz_w [coW g h ca ci_4 cr_33 cf_33 (da 0) (da 2) ph, cdW g da dr_33 df_33, pgW g ph pa pr pf_3]) H ∧ va_D A (vz_w [coW g h ca ci_4 cr_33 cf_33 (da 0) (da 2) ph, cdW g da dr_33 df_33, pgW g ph pa pr pf_3]) := ⟨(upd ci_33 2 (-9)), rfl, hP, hD⟩
        refine lv_aload_n hx hb dX0_write_72 rfl (lv_at hl 0 rfl) ?_
        refine lv_bipush (v := (-9)) hx hb dX0_write_73 (by decide) ?_
        refine va_put (D := D) (ci := 0) (v := .int (-9)) (ty := .int) (C := RX0) (T := TX0) (N := 8) hx hb hts inlX0 tyX0 tyX0_ok nmX0 hown hK hP hD hS 0 rfl rfl 7 (by decide) (hts _ q623) (fun _ h => h) rfl (by decide +kernel) rfl rfl (Nat.le_of_ble_eq_true rfl) dX0_write_75 (fun H locs hP hD hS => ?_)
        obtain ⟨ci_5, hci_5, hP, hD⟩ : ∃ ci_5 : Nat → Int32, (ci_5 = (upd ci_4 3 (-9))) ∧ va_P D vwCl (vz_w [coW g h ca ci_5 cr_33 cf_33 (da 0) (da 2) ph, cdW g da dr_33 df_33, pgW g ph pa pr pf_3]) H ∧ va_D A (vz_w [coW g h ca ci_5 cr_33 cf_33 (da 0) (da 2) ph, cdW g da dr_33 df_33, pgW g ph pa pr pf_3]) := ⟨(upd ci_4 3 (-9)), rfl, hP, hD⟩
        refine lv_aload_n hx hb dX0_write_78 rfl (lv_at hl 0 rfl) ?_
        refine lv_aload_n hx hb dX0_write_79 rfl (lv_at hl 0 rfl) ?_
        refine va_get (D := D) (ci := 0) (v := .ref ph) (C := RX0) (T := TX0) (N := 8) hx hb hts inlX0 hown hK hP 0 rfl rfl 3 (by decide) (hts _ q108) (fun _ h => h) rfl dX0_write_80 ?_
        refine va_get (D := D) (ci := 2) (v := .ref (pa 8)) (C := RX2) (T := TX2) (N := 5) hx hb hts inlX2 hown hK hP 7 rfl rfl 4 (by decide) (hts _ q620) (fun _ h => h) rfl dX0_write_83 ?_
        refine lv_iload_n hx hb dX0_write_86 rfl (lv_at hl 2 rfl) ?_
        refine lv_iconst (v := 0) hx hb dX0_write_87 (by decide) ?_
        refine vz_Vi2 (ws' := fun u : Unit => vz_w [coW g h ca ci_5 cr_33 cf_33 (da 0) (da 2) ph, cdW g da dr_33 df_33, pgW g ph pa pr pf_3]) (As := [.int x2_33, .int 0]) (rest := [.ref h]) hx hb hml hown hts hK hA hP hD hS (c_T_get l D g (pa 8) (pa 9) H.size 2 8 (pr 4) 16 (pf_3 4) x2_33 0 ⟨rfl, by decide, by decide, by decide, by decide, hw_p 4⟩) kv_X0_63 ⟨Nat.le_of_ble_eq_true rfl, Nat.le_of_ble_eq_true rfl⟩ (q0 := 16) (ci := 6) rfl rfl rfl [16, 17] rfl (by decide) (fun _ => rfl) (fun _ => rfl) hl.1 (Nat.le_of_ble_eq_true rfl) dX0_write_88 ⟨Nat.le_refl _, Nat.le_refl _⟩ rfl (fun v6 _ H locs he7 _ hP hD hS => ?_)
        refine lv_iconst (v := 0) hx hb dX0_write_91 (by decide) ?_
        refine vz_Vv3 (As := [.int v6, .int 0]) (rest := []) hx hb hml hown hts hK hA hP hD hS (a_C_block9 l D g 17 0 (by decide) H.size h ca ci_5 cr_33 cf_33 da ph dr_33 df_33 pa pr pf_3 v6 hw_c_33 hw_d_33 hw_p) kv_X0_67 ⟨Nat.le_of_ble_eq_true rfl, Nat.le_of_ble_eq_true rfl⟩ (q0 := 0) (ci := 0) rfl rfl rfl  hl.1 (Nat.le_of_ble_eq_true rfl) dX0_write_92 ⟨Nat.le_refl _, Nat.le_refl _⟩ rfl (fun ⟨ci_8, cr_9, cf_10, dr_11, df_12⟩ H locs ⟨hw_13, hw_14⟩ _ hP hD hS => ?_)
        try dsimp only at hw_13 hw_14
        replace hP : va_P D vwCl (vz_w [coW g h ca ci_8 cr_9 cf_10 (da 0) (da 2) ph, cdW g da dr_11 df_12, pgW g ph pa pr pf_3]) H := hP
        replace hD : va_D A (vz_w [coW g h ca ci_8 cr_9 cf_10 (da 0) (da 2) ph, cdW g da dr_11 df_12, pgW g ph pa pr pf_3]) := hD
        refine lv_aload_n hx hb dX0_write_95 rfl (lv_at hl 0 rfl) ?_
        refine lv_iconst (v := 0) hx hb dX0_write_96 (by decide) ?_
        refine lv_iconst (v := 0) hx hb dX0_write_97 (by decide) ?_
        refine lv_iconst (v := 0) hx hb dX0_write_98 (by decide) ?_
        refine vz_Vi3 (As := [.int 0, .int 0, .int 0]) (rest := []) hx hb hml hown hts hK hA hP hD hS (a_C_emit l D g H.size h ca ci_8 cr_9 cf_10 da ph dr_11 df_12 pa pr pf_3 0 0 0 hw_13 hw_14 hw_p) kv_X0_70 ⟨Nat.le_of_ble_eq_true rfl, Nat.le_of_ble_eq_true rfl⟩ (q0 := 0) (ci := 0) rfl rfl rfl  hl.1 (Nat.le_of_ble_eq_true rfl) dX0_write_99 ⟨Nat.le_refl _, Nat.le_refl _⟩ rfl (fun v19 ⟨ci_15, dr_16, df_17⟩ H locs hw_18 _ hP hD hS => ?_)
        try dsimp only at hw_18
        replace hP : va_P D vwCl (vz_w [coW g h ca ci_15 cr_9 cf_10 (da 0) (da 2) ph, cdW g da dr_16 df_17, pgW g ph pa pr pf_3]) H := hP
        replace hD : va_D A (vz_w [coW g h ca ci_15 cr_9 cf_10 (da 0) (da 2) ph, cdW g da dr_16 df_17, pgW g ph pa pr pf_3]) := hD
        refine lv_pop hx hb dX0_write_102 rfl ?_
        refine lv_aload_n hx hb dX0_write_103 rfl (lv_at hl 0 rfl) ?_
        refine lv_bipush (v := 19) hx hb dX0_write_104 (by decide) ?_
        refine lv_iconst (v := 0) hx hb dX0_write_106 (by decide) ?_
        refine lv_iconst (v := 0) hx hb dX0_write_107 (by decide) ?_
        refine vz_Vi3 (As := [.int 19, .int 0, .int 0]) (rest := []) hx hb hml hown hts hK hA hP hD hS (a_C_emit l D g H.size h ca ci_15 cr_9 cf_10 da ph dr_16 df_17 pa pr pf_3 19 0 0 hw_13 hw_18 hw_p) kv_X0_70 ⟨Nat.le_of_ble_eq_true rfl, Nat.le_of_ble_eq_true rfl⟩ (q0 := 0) (ci := 0) rfl rfl rfl  hl.1 (Nat.le_of_ble_eq_true rfl) dX0_write_108 ⟨Nat.le_refl _, Nat.le_refl _⟩ rfl (fun v24 ⟨ci_20, dr_21, df_22⟩ H locs hw_23 _ hP hD hS => ?_)
        try dsimp only at hw_23
        replace hP : va_P D vwCl (vz_w [coW g h ca ci_20 cr_9 cf_10 (da 0) (da 2) ph, cdW g da dr_21 df_22, pgW g ph pa pr pf_3]) H := hP
        replace hD : va_D A (vz_w [coW g h ca ci_20 cr_9 cf_10 (da 0) (da 2) ph, cdW g da dr_21 df_22, pgW g ph pa pr pf_3]) := hD
        refine lv_pop hx hb dX0_write_111 rfl ?_
        refine lv_iinc (v := (x2_33 + 1)) (lv' := [(2, .int (x2_33 + 1)), (0, .ref h), (1, .int n1)]) hx hb dX0_write_112 hl (k := 2) rfl (rfl) (by decide) rfl (fun ls hl => ?_)
        refine lv_goto (tgt := 33) hx hb dX0_write_115 (by decide) ?_
        exact ih33 (x2_33 + 1) ci_20 cr_9 cf_10 dr_21 df_22 pf_3 hn33 hw_13 hw_23 H locs ls hP hD hS (lv_sub hl [1, 2, 0] rfl)
  refine lv_aload_n hx hb dX0_write_0 rfl (lv_at hl 0 rfl) ?_
  refine lv_iload_n hx hb dX0_write_1 rfl (lv_at hl 1 rfl) ?_
  refine va_put (D := D) (ci := 0) (v := .int n1) (ty := .boolean) (C := RX0) (T := TX0) (N := 8) hx hb hts inlX0 tyX0 tyX0_ok nmX0 hown hK hP hD hS 0 rfl rfl 4 (by decide) (hts _ q619) (fun _ h => h) rfl (by decide +kernel) (vz_nb hz_n1) (vz_fb hz_n1) (Nat.le_of_ble_eq_true rfl) dX0_write_2 (fun H locs hP hD hS => ?_)
  obtain ⟨ci_1, hci_1, hP, hD⟩ : ∃ ci_1 : Nat → Int32, (ci_1 = (upd ci 0 n1)) ∧ va_P D vwCl (vz_w [coW g h ca ci_1 cr cf (da 0) (da 2) ph, cdW g da dr df, pgW g ph pa pr pf]) H ∧ va_D A (vz_w [coW g h ca ci_1 cr cf (da 0) (da 2) ph, cdW g da dr df, pgW g ph pa pr pf]) := ⟨(upd ci 0 n1), rfl, hP, hD⟩
  refine lv_aload_n hx hb dX0_write_5 rfl (lv_at hl 0 rfl) ?_
  refine lv_iconst (v := 0) hx hb dX0_write_6 (by decide) ?_
  refine va_put (D := D) (ci := 0) (v := .int 0) (ty := .boolean) (C := RX0) (T := TX0) (N := 8) hx hb hts inlX0 tyX0 tyX0_ok nmX0 hown hK hP hD hS 0 rfl rfl 5 (by decide) (hts _ q614) (fun _ h => h) rfl (by decide +kernel) rfl rfl (Nat.le_of_ble_eq_true rfl) dX0_write_7 (fun H locs hP hD hS => ?_)
  obtain ⟨ci_2, hci_2, hP, hD⟩ : ∃ ci_2 : Nat → Int32, (ci_2 = (upd ci_1 1 0)) ∧ va_P D vwCl (vz_w [coW g h ca ci_2 cr cf (da 0) (da 2) ph, cdW g da dr df, pgW g ph pa pr pf]) H ∧ va_D A (vz_w [coW g h ca ci_2 cr cf (da 0) (da 2) ph, cdW g da dr df, pgW g ph pa pr pf]) := ⟨(upd ci_1 1 0), rfl, hP, hD⟩
  refine lv_aload_n hx hb dX0_write_10 rfl (lv_at hl 0 rfl) ?_
  refine va_get (D := D) (ci := 0) (v := .ref (da 0)) (C := RX0) (T := TX0) (N := 8) hx hb hts inlX0 hown hK hP 0 rfl rfl 0 (by decide) (hts _ q110) (fun _ h => h) rfl dX0_write_11 ?_
  refine vz_Vv2 (ws' := fun u : Unit => vz_w [coW g h ca ci_2 cr cf (da 0) (da 2) ph, cdW g da (vz_un dr 0 0) df, pgW g ph pa pr pf]) (As := []) (rest := []) hx hb hml hown hts hK hA hP hD hS (c_T_reset l D g (da 0) (da 1) H.size (nI 4) (nI 4500) (nI (dr 0))) kv_X0_41 ⟨Nat.le_of_ble_eq_true rfl, Nat.le_of_ble_eq_true rfl⟩ (q0 := 3) (ci := 6) rfl rfl rfl [3] rfl (by decide) (fun _ => rfl) (fun _ => rfl) hl.1 (Nat.le_of_ble_eq_true rfl) dX0_write_14 ⟨Nat.le_refl _, Nat.le_refl _⟩ rfl (fun _ H locs _ _ hP hD hS => ?_)
  obtain ⟨dr_3, hw_dr_3, hP, hD⟩ : ∃ dr_3 : Nat → Nat, (∀ k, dr_3 k ≤ cdW_lim k) ∧ va_P D vwCl (vz_w [coW g h ca ci_2 cr cf (da 0) (da 2) ph, cdW g da dr_3 df, pgW g ph pa pr pf]) H ∧ va_D A (vz_w [coW g h ca ci_2 cr cf (da 0) (da 2) ph, cdW g da dr_3 df, pgW g ph pa pr pf]) := ⟨(vz_un dr 0 0), (vz_wf hw_d (t := 0) (v := 0) (Nat.zero_le _)), hP, hD⟩
  refine lv_aload_n hx hb dX0_write_17 rfl (lv_at hl 0 rfl) ?_
  refine va_get (D := D) (ci := 0) (v := .ref (da 2)) (C := RX0) (T := TX0) (N := 8) hx hb hts inlX0 hown hK hP 0 rfl rfl 1 (by decide) (hts _ q111) (fun _ h => h) rfl dX0_write_18 ?_
  refine vz_Vv2 (ws' := fun u : Unit => vz_w [coW g h ca ci_2 cr cf (da 0) (da 2) ph, cdW g da (vz_un dr_3 1 0) df, pgW g ph pa pr pf]) (As := []) (rest := []) hx hb hml hown hts hK hA hP hD hS (c_T_reset l D g (da 2) (da 3) H.size (nI 3) (nI 500) (nI (dr_3 1))) kv_X0_41 ⟨Nat.le_of_ble_eq_true rfl, Nat.le_of_ble_eq_true rfl⟩ (q0 := 5) (ci := 6) rfl rfl rfl [5] rfl (by decide) (fun _ => rfl) (fun _ => rfl) hl.1 (Nat.le_of_ble_eq_true rfl) dX0_write_21 ⟨Nat.le_refl _, Nat.le_refl _⟩ rfl (fun _ H locs _ _ hP hD hS => ?_)
  obtain ⟨dr_4, hw_dr_4, hP, hD⟩ : ∃ dr_4 : Nat → Nat, (∀ k, dr_4 k ≤ cdW_lim k) ∧ va_P D vwCl (vz_w [coW g h ca ci_2 cr cf (da 0) (da 2) ph, cdW g da dr_4 df, pgW g ph pa pr pf]) H ∧ va_D A (vz_w [coW g h ca ci_2 cr cf (da 0) (da 2) ph, cdW g da dr_4 df, pgW g ph pa pr pf]) := ⟨(vz_un dr_3 1 0), (vz_wf hw_dr_3 (t := 1) (v := 0) (Nat.zero_le _)), hP, hD⟩
  refine lv_aload_n hx hb dX0_write_24 rfl (lv_at hl 0 rfl) ?_
  refine va_get (D := D) (ci := 0) (v := .ref (ca 0)) (C := RX0) (T := TX0) (N := 8) hx hb hts inlX0 hown hK hP 0 rfl rfl 2 (by decide) (hts _ q112) (fun _ h => h) rfl dX0_write_25 ?_
  refine vz_Vv2 (ws' := fun u : Unit => vz_w [coW g h ca ci_2 (vz_un cr 0 0) cf (da 0) (da 2) ph, cdW g da dr_4 df, pgW g ph pa pr pf]) (As := []) (rest := []) hx hb hml hown hts hK hA hP hD hS (c_T_reset l D g (ca 0) (ca 1) H.size (nI 6) (nI 64) (nI (cr 0))) kv_X0_41 ⟨Nat.le_of_ble_eq_true rfl, Nat.le_of_ble_eq_true rfl⟩ (q0 := 1) (ci := 6) rfl rfl rfl [1] rfl (by decide) (fun _ => rfl) (fun _ => rfl) hl.1 (Nat.le_of_ble_eq_true rfl) dX0_write_28 ⟨Nat.le_refl _, Nat.le_refl _⟩ rfl (fun _ H locs _ _ hP hD hS => ?_)
  obtain ⟨cr_5, hw_cr_5, hP, hD⟩ : ∃ cr_5 : Nat → Nat, (∀ k, cr_5 k ≤ coW_lim k) ∧ va_P D vwCl (vz_w [coW g h ca ci_2 cr_5 cf (da 0) (da 2) ph, cdW g da dr_4 df, pgW g ph pa pr pf]) H ∧ va_D A (vz_w [coW g h ca ci_2 cr_5 cf (da 0) (da 2) ph, cdW g da dr_4 df, pgW g ph pa pr pf]) := ⟨(vz_un cr 0 0), (vz_wf hw_c (t := 0) (v := 0) (Nat.zero_le _)), hP, hD⟩
  refine lv_iconst (v := 0) hx hb dX0_write_31 (by decide) ?_
  refine lv_istore_n (lv' := [(2, .int 0), (0, .ref h), (1, .int n1)]) hx hb dX0_write_32 rfl hl (by decide) rfl (fun ls hl => ?_)
  exact J33 (2 ^ 34) 0 ci_2 cr_5 cf dr_4 df pf (vz_mb _ _) hw_cr_5 hw_dr_4 H locs ls hP hD hS (lv_sub hl [1, 2, 0] rfl)
theorem q615 : Cond.methodLink RX0 30 yX0_write ∈ wsL_law := mT_4 (List.mem_of_getElem? (i := 44) rfl) rfl
theorem q616 : Cond.instanceMethod yX0_write ∈ wsL_law := mT_4 (List.mem_of_getElem? (i := 46) rfl) rfl
theorem q617 : Cond.selects RX0 yX0_write yX0_write ∈ wsL_law := mS_3 (q := (yX0_write, 8)) (List.mem_of_getElem? (i := 3) rfl) rfl
theorem q618 : Cond.code yX0_write cX0_write 3 none ∈ wsL_law := mT_4 (List.mem_of_getElem? (i := 47) rfl) rfl
theorem kv_X0_30 : vz_cv RX0 30 yX0_write cX0_write 3 none 1 := ⟨q615, q616, q617, q33, q618, by decide +kernel⟩
theorem dX0_translate_0 : decode cX0_translate 0 = .ok (.aload_n 0, 1) := by decide +kernel
theorem dX0_translate_1 : decode cX0_translate 1 = .ok (.aload_n 1, 1) := by decide +kernel
theorem dX0_translate_2 : decode cX0_translate 2 = .ok (.putfield 9, 3) := by decide +kernel
theorem dX0_translate_5 : decode cX0_translate 5 = .ok (.aload_n 0, 1) := by decide +kernel
theorem dX0_translate_6 : decode cX0_translate 6 = .ok (.iload_n 2, 1) := by decide +kernel
theorem dX0_translate_7 : decode cX0_translate 7 = .ok (.invokevirtual 30, 3) := by decide +kernel
theorem dX0_translate_10 : decode cX0_translate 10 = .ok (.aload_n 0, 1) := by decide +kernel
theorem dX0_translate_11 : decode cX0_translate 11 = .ok (.getfield 34, 3) := by decide +kernel
theorem dX0_translate_14 : decode cX0_translate 14 = .ok (.ifCond .eq 8, 3) := by decide +kernel
theorem dX0_translate_17 : decode cX0_translate 17 = .ok (.aload_n 0, 1) := by decide +kernel
theorem dX0_translate_18 : decode cX0_translate 18 = .ok (.iconst 1, 1) := by decide +kernel
theorem dX0_translate_19 : decode cX0_translate 19 = .ok (.invokevirtual 30, 3) := by decide +kernel
theorem dX0_translate_22 : decode cX0_translate 22 = .ok (.return_, 1) := by decide +kernel
set_option maxHeartbeats 8000000 in
set_option maxRecDepth 100000 in
theorem a_C_translate (l : Launch) (D : va_G) (g : Nat → ClassId)   (sz : Nat) (h : Nat) (ca : Nat → Nat) (ci : Nat → Int32) (cr : Nat → Nat) (cf : Nat → Nat → Int32) (da : Nat → Nat) (oph : Nat) (dr : Nat → Nat) (df : Nat → Nat → Int32) (ph : Nat) (pa : Nat → Nat) (pr : Nat → Nat) (pf : Nat → Nat → Int32) (n1 : Int32) (hw_c : ∀ k, cr k ≤ coW_lim k) (hw_d : ∀ k, dr k ≤ cdW_lim k) (hw_p : ∀ k, pr k ≤ pgW_lim k) (hz_n1 : n1 = 0 ∨ n1 = 1) : vz_Mv l D (tyG g) yX0_translate cX0_translate 3 231 7497 0 0 [.ref h, .ref ph, .int n1] sz (vz_w [coW g h ca ci cr cf (da 0) (da 2) oph, cdW g da dr df, pgW g ph pa pr pf]) (fun u : (Nat → Int32) × (Nat → Nat) × (Nat → Nat → Int32) × (Nat → Nat) × (Nat → Nat → Int32) × (Nat → Nat → Int32) => (∀ k, u.2.1 k ≤ coW_lim k) ∧ (∀ k, u.2.2.2.1 k ≤ cdW_lim k)) (fun u => vz_w [coW g h ca u.1 u.2.1 u.2.2.1 (da 0) (da 2) ph, cdW g da u.2.2.2.1 u.2.2.2.2.1, pgW g ph pa pr u.2.2.2.2.2]) := by
  refine vz_svQ (by decide) (Nat.le_of_ble_eq_true rfl) (fun p e s m args below meth c hx hb hr hml hts hown hlk hin hK hsz A hA H locs hP hD hS ls hl Q hQ => ?_)
  have hl : lv_has ls 3 [(0, .ref h), (1, .ref ph), (2, .int n1)] := hl
  have J22 : ∀ (ci_22 : Nat → Int32), ∀ (cr_22 : Nat → Nat), ∀ (cf_22 : Nat → Nat → Int32), ∀ (dr_22 : Nat → Nat), ∀ (df_22 : Nat → Nat → Int32), ∀ (pf_22 : Nat → Nat → Int32), (∀ k, cr_22 k ≤ coW_lim k) → (∀ k, dr_22 k ≤ cdW_lim k) → ∀ (H : Heap) (locs : List Loc) (ls : Array Slot), va_P D vwCl (vz_w [coW g h ca ci_22 cr_22 cf_22 (da 0) (da 2) ph, cdW g da dr_22 df_22, pgW g ph pa pr pf_22]) H → va_D A (vz_w [coW g h ca ci_22 cr_22 cf_22 (da 0) (da 2) ph, cdW g da dr_22 df_22, pgW g ph pa pr pf_22]) → va_S A s.heap H locs → lv_has ls 3 [(0, .ref h), (1, .ref ph), (2, .int n1)] → W p l e { frames := 231, cells := 0, slots := 0, locals := 7497 } s m args below meth c H locs 0 0 Q (F0 m 22 ls []) := by
    intro ci_22 cr_22 cf_22 dr_22 df_22 pf_22 hw_c_22 hw_d_22 H locs ls hP hD hS hl
    rw [hQ]
    exact vz_vret3 hx hb hr hlk hK hP hD hS (ci_22, cr_22, cf_22, dr_22, df_22, pf_22) (⟨hw_c_22, hw_d_22⟩) rfl (Nat.le_refl 0) (Nat.le_refl 0) dX0_translate_22
  refine lv_aload_n hx hb dX0_translate_0 rfl (lv_at hl 0 rfl) ?_
  refine lv_aload_n hx hb dX0_translate_1 rfl (lv_at hl 1 rfl) ?_
  refine va_put (D := D) (ci := 0) (v := .ref ph) (ty := .object "WaysAtlas$Program") (C := RX0) (T := TX0) (N := 8) hx hb hts inlX0 tyX0 tyX0_ok nmX0 hown hK hP hD hS 0 rfl rfl 3 (by decide) (hts _ q108) (fun _ h => h) rfl (by decide +kernel) rfl rfl (Nat.le_of_ble_eq_true rfl) dX0_translate_2 (fun H locs hP hD hS => ?_)
  replace hP : va_P D vwCl (vz_w [coW g h ca ci cr cf (da 0) (da 2) ph, cdW g da dr df, pgW g ph pa pr pf]) H := hP
  replace hD : va_D A (vz_w [coW g h ca ci cr cf (da 0) (da 2) ph, cdW g da dr df, pgW g ph pa pr pf]) := hD
  refine lv_aload_n hx hb dX0_translate_5 rfl (lv_at hl 0 rfl) ?_
  refine lv_iload_n hx hb dX0_translate_6 rfl (lv_at hl 2 rfl) ?_
  refine vz_Vv3 (As := [.int n1]) (rest := []) hx hb hml hown hts hK hA hP hD hS (a_C_write l D g H.size h ca ci cr cf da ph dr df pa pr pf n1 hw_c hw_d hw_p hz_n1) kv_X0_30 ⟨Nat.le_of_ble_eq_true rfl, Nat.le_of_ble_eq_true rfl⟩ (q0 := 0) (ci := 0) rfl rfl rfl  hl.1 (Nat.le_of_ble_eq_true rfl) dX0_translate_7 ⟨Nat.le_refl _, Nat.le_refl _⟩ rfl (fun ⟨ci_1, cr_2, cf_3, dr_4, df_5, pf_6⟩ H locs ⟨hw_7, hw_8⟩ _ hP hD hS => ?_)
  try dsimp only at hw_7 hw_8
  replace hP : va_P D vwCl (vz_w [coW g h ca ci_1 cr_2 cf_3 (da 0) (da 2) ph, cdW g da dr_4 df_5, pgW g ph pa pr pf_6]) H := hP
  replace hD : va_D A (vz_w [coW g h ca ci_1 cr_2 cf_3 (da 0) (da 2) ph, cdW g da dr_4 df_5, pgW g ph pa pr pf_6]) := hD
  refine lv_aload_n hx hb dX0_translate_10 rfl (lv_at hl 0 rfl) ?_
  refine va_get (D := D) (ci := 0) (v := .int (ci_1 1)) (C := RX0) (T := TX0) (N := 8) hx hb hts inlX0 hown hK hP 0 rfl rfl 5 (by decide) (hts _ q614) (fun _ h => h) rfl dX0_translate_11 ?_
  refine lv_if_eq (tgt := 22) hx hb dX0_translate_14 (by decide) (fun kc9 => ?_) (fun kc9 => ?_)
  · exact J22 ci_1 cr_2 cf_3 dr_4 df_5 pf_6 hw_7 hw_8 H locs ls hP hD hS (lv_sub hl [0, 1, 2] rfl)
  · refine lv_aload_n hx hb dX0_translate_17 rfl (lv_at hl 0 rfl) ?_
    refine lv_iconst (v := 1) hx hb dX0_translate_18 (by decide) ?_
    refine vz_Vv3 (As := [.int 1]) (rest := []) hx hb hml hown hts hK hA hP hD hS (a_C_write l D g H.size h ca ci_1 cr_2 cf_3 da ph dr_4 df_5 pa pr pf_6 1 hw_7 hw_8 hw_p (Or.inr rfl)) kv_X0_30 ⟨Nat.le_of_ble_eq_true rfl, Nat.le_of_ble_eq_true rfl⟩ (q0 := 0) (ci := 0) rfl rfl rfl  hl.1 (Nat.le_of_ble_eq_true rfl) dX0_translate_19 ⟨Nat.le_refl _, Nat.le_refl _⟩ rfl (fun ⟨ci_10, cr_11, cf_12, dr_13, df_14, pf_15⟩ H locs ⟨hw_16, hw_17⟩ _ hP hD hS => ?_)
    try dsimp only at hw_16 hw_17
    replace hP : va_P D vwCl (vz_w [coW g h ca ci_10 cr_11 cf_12 (da 0) (da 2) ph, cdW g da dr_13 df_14, pgW g ph pa pr pf_15]) H := hP
    replace hD : va_D A (vz_w [coW g h ca ci_10 cr_11 cf_12 (da 0) (da 2) ph, cdW g da dr_13 df_14, pgW g ph pa pr pf_15]) := hD
    exact J22 ci_10 cr_11 cf_12 dr_13 df_14 pf_15 hw_16 hw_17 H locs ls hP hD hS (lv_sub hl [0, 1, 2] rfl)
