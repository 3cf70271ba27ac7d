set_option maxHeartbeats 8000000 in
set_option maxRecDepth 100000 in
theorem a_W_raise (l : Launch) (D : va_G) (g : Nat → ClassId)  (sz : Nat) (h : Nat) (wa : Nat → Nat) (wi : Nat → Int32) (wr : Nat → Nat) (wf : Nat → Nat → Int32) (ph : Nat) (rh : Nat) (la : Nat → Nat) (pa : Nat → Nat) (pr : Nat → Nat) (pf : Nat → Nat → Int32) (ca : Nat → Nat) (ci : Nat → Int32) (cr : Nat → Nat) (cf : Nat → Nat → Int32) (lr : Nat → Nat) (lf : Nat → Nat → Int32) (lmx : Nat) (n1 : Int32) (n2 : Int32) (hw_w : ∀ k, wr k ≤ woW_lim k) (hw_p : ∀ k, pr k ≤ pgW_lim k) (hw_c : ∀ k, cr k ≤ rcW_lim k) (hw_l : ∀ k, lr k ≤ (plW_lim lmx) k) (hmx_l : lmx ≤ 30) : vz_Mv l D (tyG g) yX8_raise cX8_raise 5 1 24 0 0 [.ref h, .int n1, .int n2] sz ((woW g h wa wi wr wf ph rh (la 0)) ++ (pgW g ph pa pr pf) ++ (rcW g rh ca ci cr cf) ++ (plW g la lr lf lmx)) (fun u : (Nat → Int32) × (Nat → Nat) × (Nat → Nat → Int32) => (∀ k, u.2.1 k ≤ rcW_lim k)) (fun u => (woW g h wa u.1 wr wf ph rh (la 0)) ++ (pgW g ph pa pr pf) ++ (rcW g rh ca ci u.2.1 u.2.2) ++ (plW g la lr lf lmx)) := by
  refine vz_svQ (by decide) (Nat.le_of_ble_eq_true rfl) (fun p e s m args below meth c hx hb hr hml hts hown hlk hin hK hsz A hA H locs hP hD hS ls hl Q hQ => ?_)
  have hl : lv_has ls 5 [(0, .ref h), (1, .int n1), (2, .int n2)] := hl
  refine lv_aload_n hx hb dX8_raise_0 rfl (lv_at hl 0 rfl) ?_
  refine va_get (D := D) (ci := 8) (v := .ref (wa 2)) (C := RX8) (T := TX8) (N := 11) hx hb hts inlX8 hown hK hP 0 rfl rfl 1 (by decide) (hts _ q135) (fun _ h => h) rfl dX8_raise_1 ?_
  refine va_get (D := D) (ci := 6) (v := .int (nI (wr 1))) (C := RX6) (T := TX6) (N := 4) hx hb hts inlX6 hown hK hP 3 rfl rfl 3 (by decide) (hts _ q1021) (fun _ h => h) rfl dX8_raise_4 ?_
  refine lv_iconst (v := 1) hx hb dX8_raise_7 (by decide) ?_
  refine lv_isub hx hb dX8_raise_8 ?_
  refine lv_istore_n (lv' := [(3, .int ((nI (wr 1)) - 1)), (0, .ref h), (1, .int n1), (2, .int n2)]) hx hb dX8_raise_9 rfl hl (by decide) rfl (fun ls hl => ?_)
  refine lv_aload_n hx hb dX8_raise_10 rfl (lv_at hl 1 rfl) ?_
  refine va_get (D := D) (ci := 8) (v := .ref rh) (C := RX8) (T := TX8) (N := 11) hx hb hts inlX8 hown hK hP 0 rfl rfl 6 (by decide) (hts _ q132) (fun _ h => h) rfl dX8_raise_11 ?_
  refine va_get (D := D) (ci := 4) (v := .ref (ca 2)) (C := RX4) (T := TX4) (N := 12) hx hb hts inlX4 hown hK hP 22 rfl rfl 1 (by decide) (hts _ q1103) (fun _ h => h) rfl dX8_raise_14 ?_
  refine vz_Vi2 (ws' := fun u : (Nat × (Nat → Int32)) => (woW g h wa wi wr wf ph rh (la 0)) ++ (pgW g ph pa pr pf) ++ (rcW g rh ca ci (vz_un cr 1 u.1) (vz_uf cf 1 u.2)) ++ (plW g la lr lf lmx)) (As := []) (rest := []) hx hb hml hown hts hK hA hP hD hS (c_T_add l D g (ca 2) (ca 3) H.size 7 400 (cr 1) 2800 (cf 1) ⟨rfl, by decide, by decide, by decide, by decide, hw_c 1⟩) kv_X8_83 ⟨Nat.le_of_ble_eq_true rfl, Nat.le_of_ble_eq_true rfl⟩ (q0 := 25) (ci := 6) rfl rfl rfl [25, 26] rfl (by decide) (fun _ => rfl) (fun _ => rfl) hl.1 (Nat.le_of_ble_eq_true rfl) dX8_raise_17 ⟨Nat.le_refl _, Nat.le_refl _⟩ rfl (fun v3 ⟨u1R, u1f⟩ H locs ha2 _ hP hD hS => ?_)
  have hq : (cr 1) ≤ 400 := hw_c 1
  replace ha2 : u1R ≤ 400 := by rcases ha2 with ⟨z1, -, z2, -⟩ | ⟨z1, -, z2, -⟩ <;> (dsimp only at z2; omega)
  obtain ⟨cr_4, hw_cr_4, cf_5, hP, hD⟩ : ∃ cr_4 : Nat → Nat, (∀ k, cr_4 k ≤ rcW_lim k) ∧ ∃ cf_5 : Nat → Nat → Int32, va_P D vwCl ((woW g h wa wi wr wf ph rh (la 0)) ++ (pgW g ph pa pr pf) ++ (rcW g rh ca ci cr_4 cf_5) ++ (plW g la lr lf lmx)) H ∧ va_D A ((woW g h wa wi wr wf ph rh (la 0)) ++ (pgW g ph pa pr pf) ++ (rcW g rh ca ci cr_4 cf_5) ++ (plW g la lr lf lmx)) := ⟨(vz_un cr 1 u1R), (vz_wf hw_c (t := 1) (v := u1R) (ha2)), (vz_uf cf 1 u1f), hP, hD⟩
  refine lv_istore (lv' := [(4, .int v3), (3, .int ((nI (wr 1)) - 1)), (0, .ref h), (1, .int n1), (2, .int n2)]) hx hb dX8_raise_20 hl (by decide) rfl (fun ls hl => ?_)
  refine lv_aload_n hx hb dX8_raise_22 rfl (lv_at hl 2 rfl) ?_
  refine va_get (D := D) (ci := 8) (v := .ref rh) (C := RX8) (T := TX8) (N := 11) hx hb hts inlX8 hown hK hP 0 rfl rfl 6 (by decide) (hts _ q132) (fun _ h => h) rfl dX8_raise_23 ?_
  refine va_get (D := D) (ci := 4) (v := .ref (ca 2)) (C := RX4) (T := TX4) (N := 12) hx hb hts inlX4 hown hK hP 22 rfl rfl 1 (by decide) (hts _ q1103) (fun _ h => h) rfl dX8_raise_26 ?_
  refine lv_iload hx hb dX8_raise_29 (lv_at hl 0 rfl) ?_
  refine lv_iconst (v := 0) hx hb dX8_raise_31 (by decide) ?_
  refine lv_iload_n hx hb dX8_raise_32 rfl (lv_at hl 3 rfl) ?_
  refine vz_Vv2 (ws' := fun u : (Nat → Int32) => (woW g h wa wi wr wf ph rh (la 0)) ++ (pgW g ph pa pr pf) ++ (rcW g rh ca ci cr_4 (vz_uf cf_5 1 u)) ++ (plW g la lr lf lmx)) (As := [.int v3, .int 0, .int n1]) (rest := []) hx hb hml hown hts hK hA hP hD hS (c_T_set l D g (ca 2) (ca 3) H.size 7 400 (cr_4 1) 2800 (cf_5 1) v3 0 n1 ⟨rfl, by decide, by decide, by decide, by decide, hw_cr_4 1⟩) kv_X8_91 ⟨Nat.le_of_ble_eq_true rfl, Nat.le_of_ble_eq_true rfl⟩ (q0 := 25) (ci := 6) rfl rfl rfl [25, 26] rfl (by decide) (fun _ => rfl) (fun _ => rfl) hl.1 (Nat.le_of_ble_eq_true rfl) dX8_raise_33 ⟨Nat.le_refl _, Nat.le_refl _⟩ rfl (fun nf6 H locs _ _ hP hD hS => ?_)
  obtain ⟨cf_7, hP, hD⟩ : ∃ cf_7 : Nat → Nat → Int32, va_P D vwCl ((woW g h wa wi wr wf ph rh (la 0)) ++ (pgW g ph pa pr pf) ++ (rcW g rh ca ci cr_4 cf_7) ++ (plW g la lr lf lmx)) H ∧ va_D A ((woW g h wa wi wr wf ph rh (la 0)) ++ (pgW g ph pa pr pf) ++ (rcW g rh ca ci cr_4 cf_7) ++ (plW g la lr lf lmx)) := ⟨(vz_uf cf_5 1 nf6), hP, hD⟩
  refine lv_aload_n hx hb dX8_raise_36 rfl (lv_at hl 2 rfl) ?_
  refine va_get (D := D) (ci := 8) (v := .ref rh) (C := RX8) (T := TX8) (N := 11) hx hb hts inlX8 hown hK hP 0 rfl rfl 6 (by decide) (hts _ q132) (fun _ h => h) rfl dX8_raise_37 ?_
  refine va_get (D := D) (ci := 4) (v := .ref (ca 2)) (C := RX4) (T := TX4) (N := 12) hx hb hts inlX4 hown hK hP 22 rfl rfl 1 (by decide) (hts _ q1103) (fun _ h => h) rfl dX8_raise_40 ?_
  refine lv_iload hx hb dX8_raise_43 (lv_at hl 0 rfl) ?_
  refine lv_iconst (v := 1) hx hb dX8_raise_45 (by decide) ?_
  refine lv_iload_n hx hb dX8_raise_46 rfl (lv_at hl 4 rfl) ?_
  refine vz_Vv2 (ws' := fun u : (Nat → Int32) => (woW g h wa wi wr wf ph rh (la 0)) ++ (pgW g ph pa pr pf) ++ (rcW g rh ca ci cr_4 (vz_uf cf_7 1 u)) ++ (plW g la lr lf lmx)) (As := [.int v3, .int 1, .int n2]) (rest := []) hx hb hml hown hts hK hA hP hD hS (c_T_set l D g (ca 2) (ca 3) H.size 7 400 (cr_4 1) 2800 (cf_7 1) v3 1 n2 ⟨rfl, by decide, by decide, by decide, by decide, hw_cr_4 1⟩) kv_X8_91 ⟨Nat.le_of_ble_eq_true rfl, Nat.le_of_ble_eq_true rfl⟩ (q0 := 25) (ci := 6) rfl rfl rfl [25, 26] rfl (by decide) (fun _ => rfl) (fun _ => rfl) hl.1 (Nat.le_of_ble_eq_true rfl) dX8_raise_47 ⟨Nat.le_refl _, Nat.le_refl _⟩ rfl (fun nf8 H locs _ _ hP hD hS => ?_)
  obtain ⟨cf_9, hP, hD⟩ : ∃ cf_9 : Nat → Nat → Int32, va_P D vwCl ((woW g h wa wi wr wf ph rh (la 0)) ++ (pgW g ph pa pr pf) ++ (rcW g rh ca ci cr_4 cf_9) ++ (plW g la lr lf lmx)) H ∧ va_D A ((woW g h wa wi wr wf ph rh (la 0)) ++ (pgW g ph pa pr pf) ++ (rcW g rh ca ci cr_4 cf_9) ++ (plW g la lr lf lmx)) := ⟨(vz_uf cf_7 1 nf8), hP, hD⟩
  refine lv_aload_n hx hb dX8_raise_50 rfl (lv_at hl 2 rfl) ?_
  refine va_get (D := D) (ci := 8) (v := .ref rh) (C := RX8) (T := TX8) (N := 11) hx hb hts inlX8 hown hK hP 0 rfl rfl 6 (by decide) (hts _ q132) (fun _ h => h) rfl dX8_raise_51 ?_
  refine va_get (D := D) (ci := 4) (v := .ref (ca 2)) (C := RX4) (T := TX4) (N := 12) hx hb hts inlX4 hown hK hP 22 rfl rfl 1 (by decide) (hts _ q1103) (fun _ h => h) rfl dX8_raise_54 ?_
  refine lv_iload hx hb dX8_raise_57 (lv_at hl 0 rfl) ?_
  refine lv_iconst (v := 4) hx hb dX8_raise_59 (by decide) ?_
  refine lv_aload_n hx hb dX8_raise_60 rfl (lv_at hl 2 rfl) ?_
  refine va_get (D := D) (ci := 8) (v := .ref (wa 2)) (C := RX8) (T := TX8) (N := 11) hx hb hts inlX8 hown hK hP 0 rfl rfl 1 (by decide) (hts _ q135) (fun _ h => h) rfl dX8_raise_61 ?_
  refine lv_iload_n hx hb dX8_raise_64 rfl (lv_at hl 1 rfl) ?_
  refine lv_iconst (v := 0) hx hb dX8_raise_65 (by decide) ?_
  refine vz_Vi2 (ws' := fun u : Unit => (woW g h wa wi wr wf ph rh (la 0)) ++ (pgW g ph pa pr pf) ++ (rcW g rh ca ci cr_4 cf_9) ++ (plW g la lr lf lmx)) (As := [.int ((nI (wr 1)) - 1), .int 0]) (rest := [.int 4, .int v3, .ref (ca 2)]) hx hb hml hown hts hK hA hP hD hS (c_T_get l D g (wa 2) (wa 3) H.size 12 12 (wr 1) 144 (wf 1) ((nI (wr 1)) - 1) 0 ⟨rfl, by decide, by decide, by decide, by decide, hw_w 1⟩) kv_X8_110 ⟨Nat.le_of_ble_eq_true rfl, Nat.le_of_ble_eq_true rfl⟩ (q0 := 3) (ci := 6) rfl rfl rfl [3, 4] rfl (by decide) (fun _ => rfl) (fun _ => rfl) hl.1 (Nat.le_of_ble_eq_true rfl) dX8_raise_66 ⟨Nat.le_refl _, Nat.le_refl _⟩ rfl (fun v10 _ H locs he11 _ hP hD hS => ?_)
  refine vz_Vv2 (ws' := fun u : (Nat → Int32) => (woW g h wa wi wr wf ph rh (la 0)) ++ (pgW g ph pa pr pf) ++ (rcW g rh ca ci cr_4 (vz_uf cf_9 1 u)) ++ (plW g la lr lf lmx)) (As := [.int v3, .int 4, .int v10]) (rest := []) hx hb hml hown hts hK hA hP hD hS (c_T_set l D g (ca 2) (ca 3) H.size 7 400 (cr_4 1) 2800 (cf_9 1) v3 4 v10 ⟨rfl, by decide, by decide, by decide, by decide, hw_cr_4 1⟩) kv_X8_91 ⟨Nat.le_of_ble_eq_true rfl, Nat.le_of_ble_eq_true rfl⟩ (q0 := 25) (ci := 6) rfl rfl rfl [25, 26] rfl (by decide) (fun _ => rfl) (fun _ => rfl) hl.1 (Nat.le_of_ble_eq_true rfl) dX8_raise_69 ⟨Nat.le_refl _, Nat.le_refl _⟩ rfl (fun nf12 H locs _ _ hP hD hS => ?_)
  obtain ⟨cf_13, hP, hD⟩ : ∃ cf_13 : Nat → Nat → Int32, va_P D vwCl ((woW g h wa wi wr wf ph rh (la 0)) ++ (pgW g ph pa pr pf) ++ (rcW g rh ca ci cr_4 cf_13) ++ (plW g la lr lf lmx)) H ∧ va_D A ((woW g h wa wi wr wf ph rh (la 0)) ++ (pgW g ph pa pr pf) ++ (rcW g rh ca ci cr_4 cf_13) ++ (plW g la lr lf lmx)) := ⟨(vz_uf cf_9 1 nf12), hP, hD⟩
  refine lv_aload_n hx hb dX8_raise_72 rfl (lv_at hl 2 rfl) ?_
  refine va_get (D := D) (ci := 8) (v := .ref rh) (C := RX8) (T := TX8) (N := 11) hx hb hts inlX8 hown hK hP 0 rfl rfl 6 (by decide) (hts _ q132) (fun _ h => h) rfl dX8_raise_73 ?_
  refine va_get (D := D) (ci := 4) (v := .ref (ca 2)) (C := RX4) (T := TX4) (N := 12) hx hb hts inlX4 hown hK hP 22 rfl rfl 1 (by decide) (hts _ q1103) (fun _ h => h) rfl dX8_raise_76 ?_
  refine lv_iload hx hb dX8_raise_79 (lv_at hl 0 rfl) ?_
  refine lv_iconst (v := 5) hx hb dX8_raise_81 (by decide) ?_
  refine lv_aload_n hx hb dX8_raise_82 rfl (lv_at hl 2 rfl) ?_
  refine va_get (D := D) (ci := 8) (v := .ref (wa 2)) (C := RX8) (T := TX8) (N := 11) hx hb hts inlX8 hown hK hP 0 rfl rfl 1 (by decide) (hts _ q135) (fun _ h => h) rfl dX8_raise_83 ?_
  refine va_get (D := D) (ci := 6) (v := .int (nI (wr 1))) (C := RX6) (T := TX6) (N := 4) hx hb hts inlX6 hown hK hP 3 rfl rfl 3 (by decide) (hts _ q1021) (fun _ h => h) rfl dX8_raise_86 ?_
  refine vz_Vv2 (ws' := fun u : (Nat → Int32) => (woW g h wa wi wr wf ph rh (la 0)) ++ (pgW g ph pa pr pf) ++ (rcW g rh ca ci cr_4 (vz_uf cf_13 1 u)) ++ (plW g la lr lf lmx)) (As := [.int v3, .int 5, .int (nI (wr 1))]) (rest := []) hx hb hml hown hts hK hA hP hD hS (c_T_set l D g (ca 2) (ca 3) H.size 7 400 (cr_4 1) 2800 (cf_13 1) v3 5 (nI (wr 1)) ⟨rfl, by decide, by decide, by decide, by decide, hw_cr_4 1⟩) kv_X8_91 ⟨Nat.le_of_ble_eq_true rfl, Nat.le_of_ble_eq_true rfl⟩ (q0 := 25) (ci := 6) rfl rfl rfl [25, 26] rfl (by decide) (fun _ => rfl) (fun _ => rfl) hl.1 (Nat.le_of_ble_eq_true rfl) dX8_raise_89 ⟨Nat.le_refl _, Nat.le_refl _⟩ rfl (fun nf14 H locs _ _ hP hD hS => ?_)
  obtain ⟨cf_15, hP, hD⟩ : ∃ cf_15 : Nat → Nat → Int32, va_P D vwCl ((woW g h wa wi wr wf ph rh (la 0)) ++ (pgW g ph pa pr pf) ++ (rcW g rh ca ci cr_4 cf_15) ++ (plW g la lr lf lmx)) H ∧ va_D A ((woW g h wa wi wr wf ph rh (la 0)) ++ (pgW g ph pa pr pf) ++ (rcW g rh ca ci cr_4 cf_15) ++ (plW g la lr lf lmx)) := ⟨(vz_uf cf_13 1 nf14), hP, hD⟩
  refine lv_aload_n hx hb dX8_raise_92 rfl (lv_at hl 2 rfl) ?_
  refine va_get (D := D) (ci := 8) (v := .ref rh) (C := RX8) (T := TX8) (N := 11) hx hb hts inlX8 hown hK hP 0 rfl rfl 6 (by decide) (hts _ q132) (fun _ h => h) rfl dX8_raise_93 ?_
  refine va_get (D := D) (ci := 4) (v := .ref (ca 2)) (C := RX4) (T := TX4) (N := 12) hx hb hts inlX4 hown hK hP 22 rfl rfl 1 (by decide) (hts _ q1103) (fun _ h => h) rfl dX8_raise_96 ?_
  refine lv_iload hx hb dX8_raise_99 (lv_at hl 0 rfl) ?_
  refine lv_bipush (v := 6) hx hb dX8_raise_101 (by decide) ?_
  refine lv_aload_n hx hb dX8_raise_103 rfl (lv_at hl 2 rfl) ?_
  refine va_get (D := D) (ci := 8) (v := .ref (wa 2)) (C := RX8) (T := TX8) (N := 11) hx hb hts inlX8 hown hK hP 0 rfl rfl 1 (by decide) (hts _ q135) (fun _ h => h) rfl dX8_raise_104 ?_
  refine lv_iload_n hx hb dX8_raise_107 rfl (lv_at hl 1 rfl) ?_
  refine lv_iconst (v := 1) hx hb dX8_raise_108 (by decide) ?_
  refine vz_Vi2 (ws' := fun u : Unit => (woW g h wa wi wr wf ph rh (la 0)) ++ (pgW g ph pa pr pf) ++ (rcW g rh ca ci cr_4 cf_15) ++ (plW g la lr lf lmx)) (As := [.int ((nI (wr 1)) - 1), .int 1]) (rest := [.int 6, .int v3, .ref (ca 2)]) hx hb hml hown hts hK hA hP hD hS (c_T_get l D g (wa 2) (wa 3) H.size 12 12 (wr 1) 144 (wf 1) ((nI (wr 1)) - 1) 1 ⟨rfl, by decide, by decide, by decide, by decide, hw_w 1⟩) kv_X8_110 ⟨Nat.le_of_ble_eq_true rfl, Nat.le_of_ble_eq_true rfl⟩ (q0 := 3) (ci := 6) rfl rfl rfl [3, 4] rfl (by decide) (fun _ => rfl) (fun _ => rfl) hl.1 (Nat.le_of_ble_eq_true rfl) dX8_raise_109 ⟨Nat.le_refl _, Nat.le_refl _⟩ rfl (fun v16 _ H locs he17 _ hP hD hS => ?_)
  refine vz_Vv2 (ws' := fun u : (Nat → Int32) => (woW g h wa wi wr wf ph rh (la 0)) ++ (pgW g ph pa pr pf) ++ (rcW g rh ca ci cr_4 (vz_uf cf_15 1 u)) ++ (plW g la lr lf lmx)) (As := [.int v3, .int 6, .int v16]) (rest := []) hx hb hml hown hts hK hA hP hD hS (c_T_set l D g (ca 2) (ca 3) H.size 7 400 (cr_4 1) 2800 (cf_15 1) v3 6 v16 ⟨rfl, by decide, by decide, by decide, by decide, hw_cr_4 1⟩) kv_X8_91 ⟨Nat.le_of_ble_eq_true rfl, Nat.le_of_ble_eq_true rfl⟩ (q0 := 25) (ci := 6) rfl rfl rfl [25, 26] rfl (by decide) (fun _ => rfl) (fun _ => rfl) hl.1 (Nat.le_of_ble_eq_true rfl) dX8_raise_112 ⟨Nat.le_refl _, Nat.le_refl _⟩ rfl (fun nf18 H locs _ _ hP hD hS => ?_)
  obtain ⟨cf_19, hP, hD⟩ : ∃ cf_19 : Nat → Nat → Int32, va_P D vwCl ((woW g h wa wi wr wf ph rh (la 0)) ++ (pgW g ph pa pr pf) ++ (rcW g rh ca ci cr_4 cf_19) ++ (plW g la lr lf lmx)) H ∧ va_D A ((woW g h wa wi wr wf ph rh (la 0)) ++ (pgW g ph pa pr pf) ++ (rcW g rh ca ci cr_4 cf_19) ++ (plW g la lr lf lmx)) := ⟨(vz_uf cf_15 1 nf18), hP, hD⟩
  refine lv_aload_n hx hb dX8_raise_115 rfl (lv_at hl 2 rfl) ?_
  refine lv_iload hx hb dX8_raise_116 (lv_at hl 0 rfl) ?_
  refine va_put (D := D) (ci := 8) (v := .int v3) (ty := .int) (C := RX8) (T := TX8) (N := 11) hx hb hts inlX8 tyX8 tyX8_ok nmX8 hown hK hP hD hS 0 rfl rfl 9 (by decide) (hts _ q139) (fun _ h => h) rfl (by decide +kernel) rfl rfl (Nat.le_of_ble_eq_true rfl) dX8_raise_118 (fun H locs hP hD hS => ?_)
  obtain ⟨wi_20, hwi_20, hP, hD⟩ : ∃ wi_20 : Nat → Int32, (wi_20 = (upd wi 1 v3)) ∧ va_P D vwCl ((woW g h wa wi_20 wr wf ph rh (la 0)) ++ (pgW g ph pa pr pf) ++ (rcW g rh ca ci cr_4 cf_19) ++ (plW g la lr lf lmx)) H ∧ va_D A ((woW g h wa wi_20 wr wf ph rh (la 0)) ++ (pgW g ph pa pr pf) ++ (rcW g rh ca ci cr_4 cf_19) ++ (plW g la lr lf lmx)) := ⟨(upd wi 1 v3), rfl, hP, hD⟩
  rw [hQ]
  exact vz_vret3 hx hb hr hlk hK hP hD hS (wi_20, cr_4, cf_19) hw_cr_4 rfl (Nat.le_refl 0) (Nat.le_refl 0) dX8_raise_121
theorem dX8_suppress_0 : decode cX8_suppress 0 = .ok (.aload_n 0, 1) := by decide +kernel
theorem dX8_suppress_1 : decode cX8_suppress 1 = .ok (.getfield 19, 3) := by decide +kernel
theorem dX8_suppress_4 : decode cX8_suppress 4 = .ok (.getfield 113, 3) := by decide +kernel
theorem dX8_suppress_7 : decode cX8_suppress 7 = .ok (.iload_n 1, 1) := by decide +kernel
theorem dX8_suppress_8 : decode cX8_suppress 8 = .ok (.iconst 2, 1) := by decide +kernel
theorem dX8_suppress_9 : decode cX8_suppress 9 = .ok (.invokevirtual 110, 3) := by decide +kernel
theorem dX8_suppress_12 : decode cX8_suppress 12 = .ok (.istore_n 3, 1) := by decide +kernel
theorem dX8_suppress_13 : decode cX8_suppress 13 = .ok (.iload_n 3, 1) := by decide +kernel
theorem dX8_suppress_14 : decode cX8_suppress 14 = .ok (.bipush (-9), 2) := by decide +kernel
theorem dX8_suppress_16 : decode cX8_suppress 16 = .ok (.if_icmp .ne 17, 3) := by decide +kernel
theorem dX8_suppress_19 : decode cX8_suppress 19 = .ok (.aload_n 0, 1) := by decide +kernel
theorem dX8_suppress_20 : decode cX8_suppress 20 = .ok (.getfield 19, 3) := by decide +kernel
theorem dX8_suppress_23 : decode cX8_suppress 23 = .ok (.getfield 113, 3) := by decide +kernel
theorem dX8_suppress_26 : decode cX8_suppress 26 = .ok (.iload_n 1, 1) := by decide +kernel
theorem dX8_suppress_27 : decode cX8_suppress 27 = .ok (.iconst 2, 1) := by decide +kernel
theorem dX8_suppress_28 : decode cX8_suppress 28 = .ok (.iload_n 2, 1) := by decide +kernel
theorem dX8_suppress_29 : decode cX8_suppress 29 = .ok (.invokevirtual 91, 3) := by decide +kernel
theorem dX8_suppress_32 : decode cX8_suppress 32 = .ok (.return_, 1) := by decide +kernel
theorem dX8_suppress_33 : decode cX8_suppress 33 = .ok (.iconst 0, 1) := by decide +kernel
theorem dX8_suppress_34 : decode cX8_suppress 34 = .ok (.istore 4, 2) := by decide +kernel
theorem dX8_suppress_36 : decode cX8_suppress 36 = .ok (.iload 4, 2) := by decide +kernel
theorem dX8_suppress_38 : decode cX8_suppress 38 = .ok (.sipush 400, 3) := by decide +kernel
theorem dX8_suppress_41 : decode cX8_suppress 41 = .ok (.if_icmp .ge 39, 3) := by decide +kernel
theorem dX8_suppress_44 : decode cX8_suppress 44 = .ok (.aload_n 0, 1) := by decide +kernel
theorem dX8_suppress_45 : decode cX8_suppress 45 = .ok (.getfield 19, 3) := by decide +kernel
theorem dX8_suppress_48 : decode cX8_suppress 48 = .ok (.getfield 113, 3) := by decide +kernel
theorem dX8_suppress_51 : decode cX8_suppress 51 = .ok (.iload_n 3, 1) := by decide +kernel
theorem dX8_suppress_52 : decode cX8_suppress 52 = .ok (.iconst 3, 1) := by decide +kernel
theorem dX8_suppress_53 : decode cX8_suppress 53 = .ok (.invokevirtual 110, 3) := by decide +kernel
theorem dX8_suppress_56 : decode cX8_suppress 56 = .ok (.bipush (-9), 2) := by decide +kernel
theorem dX8_suppress_58 : decode cX8_suppress 58 = .ok (.if_icmp .eq 22, 3) := by decide +kernel
theorem dX8_suppress_61 : decode cX8_suppress 61 = .ok (.aload_n 0, 1) := by decide +kernel
theorem dX8_suppress_62 : decode cX8_suppress 62 = .ok (.getfield 19, 3) := by decide +kernel
theorem dX8_suppress_65 : decode cX8_suppress 65 = .ok (.getfield 113, 3) := by decide +kernel
theorem dX8_suppress_68 : decode cX8_suppress 68 = .ok (.iload_n 3, 1) := by decide +kernel
theorem dX8_suppress_69 : decode cX8_suppress 69 = .ok (.iconst 3, 1) := by decide +kernel
theorem dX8_suppress_70 : decode cX8_suppress 70 = .ok (.invokevirtual 110, 3) := by decide +kernel
theorem dX8_suppress_73 : decode cX8_suppress 73 = .ok (.istore_n 3, 1) := by decide +kernel
theorem dX8_suppress_74 : decode cX8_suppress 74 = .ok (.iinc 4 1, 3) := by decide +kernel
theorem dX8_suppress_77 : decode cX8_suppress 77 = .ok (.goto (-41), 3) := by decide +kernel
theorem dX8_suppress_80 : decode cX8_suppress 80 = .ok (.aload_n 0, 1) := by decide +kernel
theorem dX8_suppress_81 : decode cX8_suppress 81 = .ok (.getfield 19, 3) := by decide +kernel
theorem dX8_suppress_84 : decode cX8_suppress 84 = .ok (.getfield 113, 3) := by decide +kernel
theorem dX8_suppress_87 : decode cX8_suppress 87 = .ok (.iload_n 3, 1) := by decide +kernel
theorem dX8_suppress_88 : decode cX8_suppress 88 = .ok (.iconst 3, 1) := by decide +kernel
theorem dX8_suppress_89 : decode cX8_suppress 89 = .ok (.iload_n 2, 1) := by decide +kernel
theorem dX8_suppress_90 : decode cX8_suppress 90 = .ok (.invokevirtual 91, 3) := by decide +kernel
theorem dX8_suppress_93 : decode cX8_suppress 93 = .ok (.return_, 1) := by decide +kernel
set_option maxHeartbeats 8000000 in
set_option maxRecDepth 100000 in
theorem a_W_suppress (l : Launch) (D : va_G) (g : Nat → ClassId)  (sz : Nat) (h : Nat) (wa : Nat → Nat) (wi : Nat → Int32) (wr : Nat → Nat) (wf : Nat → Nat → Int32) (ph : Nat) (rh : Nat) (la : Nat → Nat) (pa : Nat → Nat) (pr : Nat → Nat) (pf : Nat → Nat → Int32) (ca : Nat → Nat) (ci : Nat → Int32) (cr : Nat → Nat) (cf : Nat → Nat → Int32) (lr : Nat → Nat) (lf : Nat → Nat → Int32) (lmx : Nat) (n1 : Int32) (n2 : Int32) (hw_w : ∀ k, wr k ≤ woW_lim k) (hw_p : ∀ k, pr k ≤ pgW_lim k) (hw_c : ∀ k, cr k ≤ rcW_lim k) (hw_l : ∀ k, lr k ≤ (plW_lim lmx) k) (hmx_l : lmx ≤ 30) : vz_Mv l D (tyG g) yX8_suppress cX8_suppress 5 1 24 0 0 [.ref h, .int n1, .int n2] sz ((woW g h wa wi wr wf ph rh (la 0)) ++ (pgW g ph pa pr pf) ++ (rcW g rh ca ci cr cf) ++ (plW g la lr lf lmx)) (fun u : (Nat → Nat → Int32) => True) (fun u => (woW g h wa wi wr wf ph rh (la 0)) ++ (pgW g ph pa pr pf) ++ (rcW g rh ca ci cr u) ++ (plW g la lr lf lmx)) := by
  refine vz_svQ (by decide) (Nat.le_of_ble_eq_true rfl) (fun p e s m args below meth c hx hb hr hml hts hown hlk hin hK hsz A hA H locs hP hD hS ls hl Q hQ => ?_)
  have hl : lv_has ls 5 [(0, .ref h), (1, .int n1), (2, .int n2)] := hl
  have J80 : ∀ (x3_80 : Int32), ∀ (x4_80 : Int32), ∀ (cf_80 : Nat → Nat → Int32), ∀ (H : Heap) (locs : List Loc) (ls : Array Slot), va_P D vwCl ((woW g h wa wi wr wf ph rh (la 0)) ++ (pgW g ph pa pr pf) ++ (rcW g rh ca ci cr cf_80) ++ (plW g la lr lf lmx)) H → va_D A ((woW g h wa wi wr wf ph rh (la 0)) ++ (pgW g ph pa pr pf) ++ (rcW g rh ca ci cr cf_80) ++ (plW g la lr lf lmx)) → va_S A s.heap H locs → lv_has ls 5 [(0, .ref h), (1, .int n1), (2, .int n2), (3, .int x3_80), (4, .int x4_80)] → W p l e { frames := 1, cells := 0, slots := 0, locals := 24 } s m args below meth c H locs 0 0 Q (F0 m 80 ls []) := by
    intro x3_80 x4_80 cf_80 H locs ls hP hD hS hl
    refine lv_aload_n hx hb dX8_suppress_80 rfl (lv_at hl 0 rfl) ?_
    refine va_get (D := D) (ci := 8) (v := .ref rh) (C := RX8) (T := TX8) (N := 11) hx hb hts inlX8 hown hK hP 0 rfl rfl 6 (by decide) (hts _ q132) (fun _ h => h) rfl dX8_suppress_81 ?_
    refine va_get (D := D) (ci := 4) (v := .ref (ca 2)) (C := RX4) (T := TX4) (N := 12) hx hb hts inlX4 hown hK hP 22 rfl rfl 1 (by decide) (hts _ q1103) (fun _ h => h) rfl dX8_suppress_84 ?_
    refine lv_iload_n hx hb dX8_suppress_87 rfl (lv_at hl 3 rfl) ?_
    refine lv_iconst (v := 3) hx hb dX8_suppress_88 (by decide) ?_
    refine lv_iload_n hx hb dX8_suppress_89 rfl (lv_at hl 2 rfl) ?_
    refine vz_Vv2 (ws' := fun u : (Nat → Int32) => (woW g h wa wi wr wf ph rh (la 0)) ++ (pgW g ph pa pr pf) ++ (rcW g rh ca ci cr (vz_uf cf_80 1 u)) ++ (plW g la lr lf lmx)) (As := [.int x3_80, .int 3, .int n2]) (rest := []) hx hb hml hown hts hK hA hP hD hS (c_T_set l D g (ca 2) (ca 3) H.size 7 400 (cr 1) 2800 (cf_80 1) x3_80 3 n2 ⟨rfl, by decide, by decide, by decide, by decide, hw_c 1⟩) kv_X8_91 ⟨Nat.le_of_ble_eq_true rfl, Nat.le_of_ble_eq_true rfl⟩ (q0 := 25) (ci := 6) rfl rfl rfl [25, 26] rfl (by decide) (fun _ => rfl) (fun _ => rfl) hl.1 (Nat.le_of_ble_eq_true rfl) dX8_suppress_90 ⟨Nat.le_refl _, Nat.le_refl _⟩ rfl (fun nf1 H locs _ _ hP hD hS => ?_)
    obtain ⟨cf_2, hP, hD⟩ : ∃ cf_2 : Nat → Nat → Int32, va_P D vwCl ((woW g h wa wi wr wf ph rh (la 0)) ++ (pgW g ph pa pr pf) ++ (rcW g rh ca ci cr cf_2) ++ (plW g la lr lf lmx)) H ∧ va_D A ((woW g h wa wi wr wf ph rh (la 0)) ++ (pgW g ph pa pr pf) ++ (rcW g rh ca ci cr cf_2) ++ (plW g la lr lf lmx)) := ⟨(vz_uf cf_80 1 nf1), hP, hD⟩
    rw [hQ]
    exact vz_vret3 hx hb hr hlk hK hP hD hS cf_2 trivial rfl (Nat.le_refl 0) (Nat.le_refl 0) dX8_suppress_93
  have J36 : ∀ (fu36 n36 : Nat), 400 - n36 < fu36 → n36 ≤ 400 → ∀ (x3_36 : Int32), ∀ (cf_36 : Nat → Nat → Int32), ∀ (H : Heap) (locs : List Loc) (ls : Array Slot), va_P D vwCl ((woW g h wa wi wr wf ph rh (la 0)) ++ (pgW g ph pa pr pf) ++ (rcW g rh ca ci cr cf_36) ++ (plW g la lr lf lmx)) H → va_D A ((woW g h wa wi wr wf ph rh (la 0)) ++ (pgW g ph pa pr pf) ++ (rcW g rh ca ci cr cf_36) ++ (plW g la lr lf lmx)) → va_S A s.heap H locs → lv_has ls 5 [(0, .ref h), (1, .int n1), (2, .int n2), (3, .int x3_36), (4, .int (nI n36))] → W p l e { frames := 1, cells := 0, slots := 0, locals := 24 } s m args below meth c H locs 0 0 Q (F0 m 36 ls []) := by
    intro fu36
    induction fu36 with
    | zero => intro n36 z; omega
    | succ fu36 ih36 =>
      intro n36 hf36 hb36 x3_36 cf_36 H locs ls hP hD hS hl
      refine lv_iload hx hb dX8_suppress_36 (lv_at hl 4 rfl) ?_
      refine lv_sipush (v := 400) hx hb dX8_suppress_38 (by decide) ?_
      refine lv_icmp_ge (tgt := 80) hx hb dX8_suppress_41 (by decide) (fun kc1 => ?_) (fun kc1 => ?_)
      · exact J80 x3_36 (nI n36) cf_36 H locs ls hP hD hS (lv_sub hl [0, 1, 2, 3, 4] rfl)
      · have hn36 : n36 < 400 := vz_ltge (B := 400) (by omega) kc1
        refine lv_aload_n hx hb dX8_suppress_44 rfl (lv_at hl 0 rfl) ?_
        refine va_get (D := D) (ci := 8) (v := .ref rh) (C := RX8) (T := TX8) (N := 11) hx hb hts inlX8 hown hK hP 0 rfl rfl 6 (by decide) (hts _ q132) (fun _ h => h) rfl dX8_suppress_45 ?_
        refine va_get (D := D) (ci := 4) (v := .ref (ca 2)) (C := RX4) (T := TX4) (N := 12) hx hb hts inlX4 hown hK hP 22 rfl rfl 1 (by decide) (hts _ q1103) (fun _ h => h) rfl dX8_suppress_48 ?_
        refine lv_iload_n hx hb dX8_suppress_51 rfl (lv_at hl 3 rfl) ?_
        refine lv_iconst (v := 3) hx hb dX8_suppress_52 (by decide) ?_
        refine vz_Vi2 (ws' := fun u : Unit => (woW g h wa wi wr wf ph rh (la 0)) ++ (pgW g ph pa pr pf) ++ (rcW g rh ca ci cr cf_36) ++ (plW g la lr lf lmx)) (As := [.int x3_36, .int 3]) (rest := []) hx hb hml hown hts hK hA hP hD hS (c_T_get l D g (ca 2) (ca 3) H.size 7 400 (cr 1) 2800 (cf_36 1) x3_36 3 ⟨rfl, by decide, by decide, by decide, by decide, hw_c 1⟩) kv_X8_110 ⟨Nat.le_of_ble_eq_true rfl, Nat.le_of_ble_eq_true rfl⟩ (q0 := 25) (ci := 6) rfl rfl rfl [25, 26] rfl (by decide) (fun _ => rfl) (fun _ => rfl) hl.1 (Nat.le_of_ble_eq_true rfl) dX8_suppress_53 ⟨Nat.le_refl _, Nat.le_refl _⟩ rfl (fun v2 _ H locs he3 _ hP hD hS => ?_)
        refine lv_bipush (v := (-9)) hx hb dX8_suppress_56 (by decide) ?_
        refine lv_icmp_eq (tgt := 80) hx hb dX8_suppress_58 (by decide) (fun kc4 => ?_) (fun kc4 => ?_)
        · exact J80 x3_36 (nI n36) cf_36 H locs ls hP hD hS (lv_sub hl [0, 1, 2, 3, 4] rfl)
        · refine lv_aload_n hx hb dX8_suppress_61 rfl (lv_at hl 0 rfl) ?_
          refine va_get (D := D) (ci := 8) (v := .ref rh) (C := RX8) (T := TX8) (N := 11) hx hb hts inlX8 hown hK hP 0 rfl rfl 6 (by decide) (hts _ q132) (fun _ h => h) rfl dX8_suppress_62 ?_
          refine va_get (D := D) (ci := 4) (v := .ref (ca 2)) (C := RX4) (T := TX4) (N := 12) hx hb hts inlX4 hown hK hP 22 rfl rfl 1 (by decide) (hts _ q1103) (fun _ h => h) rfl dX8_suppress_65 ?_
          refine lv_iload_n hx hb dX8_suppress_68 rfl (lv_at hl 3 rfl) ?_
          refine lv_iconst (v := 3) hx hb dX8_suppress_69 (by decide) ?_
          refine vz_Vi2 (ws' := fun u : Unit => (woW g h wa wi wr wf ph rh (la 0)) ++ (pgW g ph pa pr pf) ++ (rcW g rh ca ci cr cf_36) ++ (plW g la lr lf lmx)) (As := [.int x3_36, .int 3]) (rest := []) hx hb hml hown hts hK hA hP hD hS (c_T_get l D g (ca 2) (ca 3) H.size 7 400 (cr 1) 2800 (cf_36 1) x3_36 3 ⟨rfl, by decide, by decide, by decide, by decide, hw_c 1⟩) kv_X8_110 ⟨Nat.le_of_ble_eq_true rfl, Nat.le_of_ble_eq_true rfl⟩ (q0 := 25) (ci := 6) rfl rfl rfl [25, 26] rfl (by decide) (fun _ => rfl) (fun _ => rfl) hl.1 (Nat.le_of_ble_eq_true rfl) dX8_suppress_70 ⟨Nat.le_refl _, Nat.le_refl _⟩ rfl (fun v5 _ H locs he6 _ hP hD hS => ?_)
          refine lv_istore_n (lv' := [(3, .int v5), (0, .ref h), (1, .int n1), (2, .int n2), (4, .int (nI n36))]) hx hb dX8_suppress_73 rfl hl (by decide) rfl (fun ls hl => ?_)
          refine lv_iinc (v := (nI (n36 + 1))) (lv' := [(4, .int (nI (n36 + 1))), (3, .int v5), (0, .ref h), (1, .int n1), (2, .int n2)]) hx hb dX8_suppress_74 hl (k := 4) rfl (nI_1 n36) (by decide) rfl (fun ls hl => ?_)
          refine lv_goto (tgt := 36) hx hb dX8_suppress_77 (by decide) ?_
          exact ih36 (n36 + 1) (by omega) (by omega) v5 cf_36 H locs ls hP hD hS (lv_sub hl [2, 3, 4, 1, 0] rfl)
  refine lv_aload_n hx hb dX8_suppress_0 rfl (lv_at hl 0 rfl) ?_
  refine va_get (D := D) (ci := 8) (v := .ref rh) (C := RX8) (T := TX8) (N := 11) hx hb hts inlX8 hown hK hP 0 rfl rfl 6 (by decide) (hts _ q132) (fun _ h => h) rfl dX8_suppress_1 ?_
  refine va_get (D := D) (ci := 4) (v := .ref (ca 2)) (C := RX4) (T := TX4) (N := 12) hx hb hts inlX4 hown hK hP 22 rfl rfl 1 (by decide) (hts _ q1103) (fun _ h => h) rfl dX8_suppress_4 ?_
  refine lv_iload_n hx hb dX8_suppress_7 rfl (lv_at hl 1 rfl) ?_
  refine lv_iconst (v := 2) hx hb dX8_suppress_8 (by decide) ?_
  refine vz_Vi2 (ws' := fun u : Unit => (woW g h wa wi wr wf ph rh (la 0)) ++ (pgW g ph pa pr pf) ++ (rcW g rh ca ci cr cf) ++ (plW g la lr lf lmx)) (As := [.int n1, .int 2]) (rest := []) hx hb hml hown hts hK hA hP hD hS (c_T_get l D g (ca 2) (ca 3) H.size 7 400 (cr 1) 2800 (cf 1) n1 2 ⟨rfl, by decide, by decide, by decide, by decide, hw_c 1⟩) kv_X8_110 ⟨Nat.le_of_ble_eq_true rfl, Nat.le_of_ble_eq_true rfl⟩ (q0 := 25) (ci := 6) rfl rfl rfl [25, 26] rfl (by decide) (fun _ => rfl) (fun _ => rfl) hl.1 (Nat.le_of_ble_eq_true rfl) dX8_suppress_9 ⟨Nat.le_refl _, Nat.le_refl _⟩ rfl (fun v1 _ H locs he2 _ hP hD hS => ?_)
  refine lv_istore_n (lv' := [(3, .int v1), (0, .ref h), (1, .int n1), (2, .int n2)]) hx hb dX8_suppress_12 rfl hl (by decide) rfl (fun ls hl => ?_)
  refine lv_iload_n hx hb dX8_suppress_13 rfl (lv_at hl 0 rfl) ?_
  refine lv_bipush (v := (-9)) hx hb dX8_suppress_14 (by decide) ?_
  refine lv_icmp_ne (tgt := 33) hx hb dX8_suppress_16 (by decide) (fun kc3 => ?_) (fun kc3 => ?_)
  · refine lv_iconst (v := 0) hx hb dX8_suppress_33 (by decide) ?_
    refine lv_istore (lv' := [(4, .int 0), (3, .int v1), (0, .ref h), (1, .int n1), (2, .int n2)]) hx hb dX8_suppress_34 hl (by decide) rfl (fun ls hl => ?_)
    exact J36 (401) 0 (by omega) (by omega) v1 cf H locs ls hP hD hS (lv_sub hl [2, 3, 4, 1, 0] rfl)
  · refine lv_aload_n hx hb dX8_suppress_19 rfl (lv_at hl 1 rfl) ?_
    refine va_get (D := D) (ci := 8) (v := .ref rh) (C := RX8) (T := TX8) (N := 11) hx hb hts inlX8 hown hK hP 0 rfl rfl 6 (by decide) (hts _ q132) (fun _ h => h) rfl dX8_suppress_20 ?_
    refine va_get (D := D) (ci := 4) (v := .ref (ca 2)) (C := RX4) (T := TX4) (N := 12) hx hb hts inlX4 hown hK hP 22 rfl rfl 1 (by decide) (hts _ q1103) (fun _ h => h) rfl dX8_suppress_23 ?_
    refine lv_iload_n hx hb dX8_suppress_26 rfl (lv_at hl 2 rfl) ?_
    refine lv_iconst (v := 2) hx hb dX8_suppress_27 (by decide) ?_
    refine lv_iload_n hx hb dX8_suppress_28 rfl (lv_at hl 3 rfl) ?_
    refine vz_Vv2 (ws' := fun u : (Nat → Int32) => (woW g h wa wi wr wf ph rh (la 0)) ++ (pgW g ph pa pr pf) ++ (rcW g rh ca ci cr (vz_uf cf 1 u)) ++ (plW g la lr lf lmx)) (As := [.int n1, .int 2, .int n2]) (rest := []) hx hb hml hown hts hK hA hP hD hS (c_T_set l D g (ca 2) (ca 3) H.size 7 400 (cr 1) 2800 (cf 1) n1 2 n2 ⟨rfl, by decide, by decide, by decide, by decide, hw_c 1⟩) kv_X8_91 ⟨Nat.le_of_ble_eq_true rfl, Nat.le_of_ble_eq_true rfl⟩ (q0 := 25) (ci := 6) rfl rfl rfl [25, 26] rfl (by decide) (fun _ => rfl) (fun _ => rfl) hl.1 (Nat.le_of_ble_eq_true rfl) dX8_suppress_29 ⟨Nat.le_refl _, Nat.le_refl _⟩ rfl (fun nf4 H locs _ _ hP hD hS => ?_)
    obtain ⟨cf_5, hP, hD⟩ : ∃ cf_5 : Nat → Nat → Int32, va_P D vwCl ((woW g h wa wi wr wf ph rh (la 0)) ++ (pgW g ph pa pr pf) ++ (rcW g rh ca ci cr cf_5) ++ (plW g la lr lf lmx)) H ∧ va_D A ((woW g h wa wi wr wf ph rh (la 0)) ++ (pgW g ph pa pr pf) ++ (rcW g rh ca ci cr cf_5) ++ (plW g la lr lf lmx)) := ⟨(vz_uf cf 1 nf4), hP, hD⟩
    rw [hQ]
    exact vz_vret3 hx hb hr hlk hK hP hD hS cf_5 trivial rfl (Nat.le_refl 0) (Nat.le_refl 0) dX8_suppress_32
theorem q138 : Cond.fieldLink RX8 40 "WaysAtlas$World" "passed" "LWaysAtlas$Table;" ∈ wsL_law := mT_2 (List.mem_of_getElem? (i := 43) rfl) rfl
theorem q1133 : Cond.fieldLink RX8 116 "WaysAtlas$World" "notesPassings" "Z" ∈ wsL_law := mT_2 (List.mem_of_getElem? (i := 55) rfl) rfl
theorem q134 : Cond.fieldLink RX8 28 "WaysAtlas$World" "passings" "LWaysAtlas$Table;" ∈ wsL_law := mT_2 (List.mem_of_getElem? (i := 38) rfl) rfl
theorem q131 : Cond.fieldLink RX8 15 "WaysAtlas$World" "plan" "LWaysAtlas$Table;" ∈ wsL_law := mT_2 (List.mem_of_getElem? (i := 50) rfl) rfl
theorem dX8_pass_0 : decode cX8_pass 0 = .ok (.aload_n 0, 1) := by decide +kernel
theorem dX8_pass_1 : decode cX8_pass 1 = .ok (.getfield 40, 3) := by decide +kernel
theorem dX8_pass_4 : decode cX8_pass 4 = .ok (.iload_n 1, 1) := by decide +kernel
theorem dX8_pass_5 : decode cX8_pass 5 = .ok (.iload_n 2, 1) := by decide +kernel
theorem dX8_pass_6 : decode cX8_pass 6 = .ok (.invokevirtual 110, 3) := by decide +kernel
theorem dX8_pass_9 : decode cX8_pass 9 = .ok (.iconst 1, 1) := by decide +kernel
theorem dX8_pass_10 : decode cX8_pass 10 = .ok (.iadd, 1) := by decide +kernel
theorem dX8_pass_11 : decode cX8_pass 11 = .ok (.istore_n 3, 1) := by decide +kernel
theorem dX8_pass_12 : decode cX8_pass 12 = .ok (.aload_n 0, 1) := by decide +kernel
theorem dX8_pass_13 : decode cX8_pass 13 = .ok (.getfield 40, 3) := by decide +kernel
theorem dX8_pass_16 : decode cX8_pass 16 = .ok (.iload_n 1, 1) := by decide +kernel
theorem dX8_pass_17 : decode cX8_pass 17 = .ok (.iload_n 2, 1) := by decide +kernel
theorem dX8_pass_18 : decode cX8_pass 18 = .ok (.iload_n 3, 1) := by decide +kernel
theorem dX8_pass_19 : decode cX8_pass 19 = .ok (.invokevirtual 91, 3) := by decide +kernel
theorem dX8_pass_22 : decode cX8_pass 22 = .ok (.aload_n 0, 1) := by decide +kernel
theorem dX8_pass_23 : decode cX8_pass 23 = .ok (.getfield 116, 3) := by decide +kernel
theorem dX8_pass_26 : decode cX8_pass 26 = .ok (.ifCond .eq 45, 3) := by decide +kernel
theorem dX8_pass_29 : decode cX8_pass 29 = .ok (.aload_n 0, 1) := by decide +kernel
theorem dX8_pass_30 : decode cX8_pass 30 = .ok (.getfield 28, 3) := by decide +kernel
theorem dX8_pass_33 : decode cX8_pass 33 = .ok (.invokevirtual 83, 3) := by decide +kernel
theorem dX8_pass_36 : decode cX8_pass 36 = .ok (.istore 4, 2) := by decide +kernel
theorem dX8_pass_38 : decode cX8_pass 38 = .ok (.aload_n 0, 1) := by decide +kernel
theorem dX8_pass_39 : decode cX8_pass 39 = .ok (.getfield 28, 3) := by decide +kernel
theorem dX8_pass_42 : decode cX8_pass 42 = .ok (.iload 4, 2) := by decide +kernel
theorem dX8_pass_44 : decode cX8_pass 44 = .ok (.iconst 0, 1) := by decide +kernel
theorem dX8_pass_45 : decode cX8_pass 45 = .ok (.iload_n 1, 1) := by decide +kernel
theorem dX8_pass_46 : decode cX8_pass 46 = .ok (.invokevirtual 91, 3) := by decide +kernel
theorem dX8_pass_49 : decode cX8_pass 49 = .ok (.aload_n 0, 1) := by decide +kernel
theorem dX8_pass_50 : decode cX8_pass 50 = .ok (.getfield 28, 3) := by decide +kernel
theorem dX8_pass_53 : decode cX8_pass 53 = .ok (.iload 4, 2) := by decide +kernel
theorem dX8_pass_55 : decode cX8_pass 55 = .ok (.iconst 1, 1) := by decide +kernel
theorem dX8_pass_56 : decode cX8_pass 56 = .ok (.iload_n 2, 1) := by decide +kernel
theorem dX8_pass_57 : decode cX8_pass 57 = .ok (.invokevirtual 91, 3) := by decide +kernel
theorem dX8_pass_60 : decode cX8_pass 60 = .ok (.aload_n 0, 1) := by decide +kernel
theorem dX8_pass_61 : decode cX8_pass 61 = .ok (.getfield 28, 3) := by decide +kernel
theorem dX8_pass_64 : decode cX8_pass 64 = .ok (.iload 4, 2) := by decide +kernel
theorem dX8_pass_66 : decode cX8_pass 66 = .ok (.iconst 2, 1) := by decide +kernel
theorem dX8_pass_67 : decode cX8_pass 67 = .ok (.iload_n 3, 1) := by decide +kernel
theorem dX8_pass_68 : decode cX8_pass 68 = .ok (.invokevirtual 91, 3) := by decide +kernel
theorem dX8_pass_71 : decode cX8_pass 71 = .ok (.iconst 0, 1) := by decide +kernel
theorem dX8_pass_72 : decode cX8_pass 72 = .ok (.istore 4, 2) := by decide +kernel
theorem dX8_pass_74 : decode cX8_pass 74 = .ok (.iload 4, 2) := by decide +kernel
theorem dX8_pass_76 : decode cX8_pass 76 = .ok (.aload_n 0, 1) := by decide +kernel
theorem dX8_pass_77 : decode cX8_pass 77 = .ok (.getfield 15, 3) := by decide +kernel
theorem dX8_pass_80 : decode cX8_pass 80 = .ok (.getfield 58, 3) := by decide +kernel
theorem dX8_pass_83 : decode cX8_pass 83 = .ok (.if_icmp .ge 62, 3) := by decide +kernel
theorem dX8_pass_86 : decode cX8_pass 86 = .ok (.aload_n 0, 1) := by decide +kernel
theorem dX8_pass_87 : decode cX8_pass 87 = .ok (.getfield 15, 3) := by decide +kernel
theorem dX8_pass_90 : decode cX8_pass 90 = .ok (.iload 4, 2) := by decide +kernel
theorem dX8_pass_92 : decode cX8_pass 92 = .ok (.iconst 0, 1) := by decide +kernel
theorem dX8_pass_93 : decode cX8_pass 93 = .ok (.invokevirtual 110, 3) := by decide +kernel
theorem dX8_pass_96 : decode cX8_pass 96 = .ok (.iload_n 1, 1) := by decide +kernel
theorem dX8_pass_97 : decode cX8_pass 97 = .ok (.if_icmp .ne 42, 3) := by decide +kernel
theorem dX8_pass_100 : decode cX8_pass 100 = .ok (.aload_n 0, 1) := by decide +kernel
theorem dX8_pass_101 : decode cX8_pass 101 = .ok (.getfield 15, 3) := by decide +kernel
theorem dX8_pass_104 : decode cX8_pass 104 = .ok (.iload 4, 2) := by decide +kernel
theorem dX8_pass_106 : decode cX8_pass 106 = .ok (.iconst 1, 1) := by decide +kernel
theorem dX8_pass_107 : decode cX8_pass 107 = .ok (.invokevirtual 110, 3) := by decide +kernel
theorem dX8_pass_110 : decode cX8_pass 110 = .ok (.iload_n 2, 1) := by decide +kernel
theorem dX8_pass_111 : decode cX8_pass 111 = .ok (.if_icmp .ne 28, 3) := by decide +kernel
theorem dX8_pass_114 : decode cX8_pass 114 = .ok (.aload_n 0, 1) := by decide +kernel
theorem dX8_pass_115 : decode cX8_pass 115 = .ok (.getfield 15, 3) := by decide +kernel
theorem dX8_pass_118 : decode cX8_pass 118 = .ok (.iload 4, 2) := by decide +kernel
theorem dX8_pass_120 : decode cX8_pass 120 = .ok (.iconst 2, 1) := by decide +kernel
theorem dX8_pass_121 : decode cX8_pass 121 = .ok (.invokevirtual 110, 3) := by decide +kernel
theorem dX8_pass_124 : decode cX8_pass 124 = .ok (.iload_n 3, 1) := by decide +kernel
theorem dX8_pass_125 : decode cX8_pass 125 = .ok (.if_icmp .ne 14, 3) := by decide +kernel
theorem dX8_pass_128 : decode cX8_pass 128 = .ok (.aload_n 0, 1) := by decide +kernel
theorem dX8_pass_129 : decode cX8_pass 129 = .ok (.getfield 15, 3) := by decide +kernel
theorem dX8_pass_132 : decode cX8_pass 132 = .ok (.iload 4, 2) := by decide +kernel
theorem dX8_pass_134 : decode cX8_pass 134 = .ok (.iconst 3, 1) := by decide +kernel
theorem dX8_pass_135 : decode cX8_pass 135 = .ok (.invokevirtual 110, 3) := by decide +kernel
theorem dX8_pass_138 : decode cX8_pass 138 = .ok (.ireturn, 1) := by decide +kernel
theorem dX8_pass_139 : decode cX8_pass 139 = .ok (.iinc 4 1, 3) := by decide +kernel
theorem dX8_pass_142 : decode cX8_pass 142 = .ok (.goto (-68), 3) := by decide +kernel
theorem dX8_pass_145 : decode cX8_pass 145 = .ok (.bipush (-9), 2) := by decide +kernel
theorem dX8_pass_147 : decode cX8_pass 147 = .ok (.ireturn, 1) := by decide +kernel
