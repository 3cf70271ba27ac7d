set_option maxHeartbeats 8000000 in
set_option maxRecDepth 100000 in
theorem a_W_pass (l : Launch) (D : va_G) (g : Nat → ClassId)  (sz : Nat) (h : Nat) (wa : Nat → Nat) (wi : Nat → Int32) (wr : Nat → Nat) (wf : Nat → Nat → Int32) (ph : Nat) (rh : Nat) (la : Nat → Nat) (pa : Nat → Nat) (pr : Nat → Nat) (pf : Nat → Nat → Int32) (ca : Nat → Nat) (ci : Nat → Int32) (cr : Nat → Nat) (cf : Nat → Nat → Int32) (lr : Nat → Nat) (lf : Nat → Nat → Int32) (lmx : Nat) (n1 : Int32) (n2 : Int32) (hw_w : ∀ k, wr k ≤ woW_lim k) (hw_p : ∀ k, pr k ≤ pgW_lim k) (hw_c : ∀ k, cr k ≤ rcW_lim k) (hw_l : ∀ k, lr k ≤ (plW_lim lmx) k) (hmx_l : lmx ≤ 30) : vz_Mi l D (tyG g) yX8_pass cX8_pass 5 1 24 0 0 .int [.ref h, .int n1, .int n2] sz ((woW g h wa wi wr wf ph rh (la 0)) ++ (pgW g ph pa pr pf) ++ (rcW g rh ca ci cr cf) ++ (plW g la lr lf lmx)) (fun r (u : (Nat → Nat) × (Nat → Nat → Int32)) => (∀ k, u.1 k ≤ woW_lim k)) (fun u => (woW g h wa wi u.1 u.2 ph rh (la 0)) ++ (pgW g ph pa pr pf) ++ (rcW g rh ca ci cr cf) ++ (plW g la lr lf lmx)) := by
  refine vz_siQ (by decide) (Nat.le_of_ble_eq_true rfl) (fun p e s m args below meth c hx hb hr hml hts hown hlk hin hK hsz A hA H locs hP hD hS ls hl Q hQ => ?_)
  have hl : lv_has ls 5 [(0, .ref h), (1, .int n1), (2, .int n2)] := hl
  have J74 : ∀ fu74 : Nat, ∀ (x3_74 : Int32), ∀ (x4_74 : Int32), ∀ (wr_74 : Nat → Nat), ∀ (wf_74 : Nat → Nat → Int32), ((nI (lr 0)).toInt - x4_74.toInt).toNat < fu74 → (∀ k, wr_74 k ≤ woW_lim k) → ∀ (H : Heap) (locs : List Loc) (ls : Array Slot), va_P D vwCl ((woW g h wa wi wr_74 wf_74 ph rh (la 0)) ++ (pgW g ph pa pr pf) ++ (rcW g rh ca ci cr cf) ++ (plW g la lr lf lmx)) H → va_D A ((woW g h wa wi wr_74 wf_74 ph rh (la 0)) ++ (pgW g ph pa pr pf) ++ (rcW g rh ca ci cr cf) ++ (plW g la lr lf lmx)) → va_S A s.heap H locs → lv_has ls 5 [(0, .ref h), (1, .int n1), (2, .int n2), (3, .int x3_74), (4, .int x4_74)] → W p l e { frames := 1, cells := 0, slots := 0, locals := 24 } s m args below meth c H locs 0 0 Q (F0 m 74 ls []) := by
    intro fu74
    induction fu74 with
    | zero => intro x3_74 x4_74 wr_74 wf_74 hf74 hw_w_74 H locs ls hP hD hS hl; exact absurd hf74 (Nat.not_lt_zero _)
    | succ fu74 ih74 =>
      intro x3_74 x4_74 wr_74 wf_74 hf74 hw_w_74 H locs ls hP hD hS hl
      have J139 : ((nI (lr 0)).toInt - (x4_74 + 1).toInt).toNat < fu74 → ∀ (wr_139 : Nat → Nat), ∀ (wf_139 : Nat → Nat → Int32), (∀ k, wr_139 k ≤ woW_lim k) → ∀ (H : Heap) (locs : List Loc) (ls : Array Slot), va_P D vwCl ((woW g h wa wi wr_139 wf_139 ph rh (la 0)) ++ (pgW g ph pa pr pf) ++ (rcW g rh ca ci cr cf) ++ (plW g la lr lf lmx)) H → va_D A ((woW g h wa wi wr_139 wf_139 ph rh (la 0)) ++ (pgW g ph pa pr pf) ++ (rcW g rh ca ci cr cf) ++ (plW g la lr lf lmx)) → va_S A s.heap H locs → lv_has ls 5 [(0, .ref h), (1, .int n1), (2, .int n2), (3, .int x3_74), (4, .int x4_74)] → W p l e { frames := 1, cells := 0, slots := 0, locals := 24 } s m args below meth c H locs 0 0 Q (F0 m 139 ls []) := by
        intro hn74 wr_139 wf_139 hw_w_139 H locs ls hP hD hS hl
        refine lv_iinc (v := (x4_74 + 1)) (lv' := [(4, .int (x4_74 + 1)), (0, .ref h), (1, .int n1), (2, .int n2), (3, .int x3_74)]) hx hb dX8_pass_139 hl (k := 4) rfl (rfl) (by decide) rfl (fun ls hl => ?_)
        refine lv_goto (tgt := 74) hx hb dX8_pass_142 (by decide) ?_
        exact ih74 x3_74 (x4_74 + 1) wr_139 wf_139 hn74 hw_w_139 H locs ls hP hD hS (lv_sub hl [1, 2, 3, 4, 0] rfl)
      refine lv_iload hx hb dX8_pass_74 (lv_at hl 4 rfl) ?_
      refine lv_aload_n hx hb dX8_pass_76 rfl (lv_at hl 0 rfl) ?_
      refine va_get (D := D) (ci := 8) (v := .ref (la 0)) (C := RX8) (T := TX8) (N := 11) hx hb hts inlX8 hown hK hP 0 rfl rfl 7 (by decide) (hts _ q131) (fun _ h => h) rfl dX8_pass_77 ?_
      refine va_get (D := D) (ci := 6) (v := .int (nI (lr 0))) (C := RX6) (T := TX6) (N := 4) hx hb hts inlX6 hown hK hP 33 rfl rfl 3 (by decide) (hts _ q1021) (fun _ h => h) rfl dX8_pass_80 ?_
      refine lv_icmp_ge (tgt := 145) hx hb dX8_pass_83 (by decide) (fun kc1 => ?_) (fun kc1 => ?_)
      · refine lv_bipush (v := (-9)) hx hb dX8_pass_145 (by decide) ?_
        rw [hQ]
        exact vz_iret3 hx hb hr hlk hK hP hD hS (wr_74, wf_74) hw_w_74 rfl (Nat.le_refl 0) (Nat.le_refl 0) dX8_pass_147
      · have hn74 : ((nI (lr 0)).toInt - (x4_74 + 1).toInt).toNat < fu74 := by have hq := vz_up kc1; omega
        refine lv_aload_n hx hb dX8_pass_86 rfl (lv_at hl 0 rfl) ?_
        refine va_get (D := D) (ci := 8) (v := .ref (la 0)) (C := RX8) (T := TX8) (N := 11) hx hb hts inlX8 hown hK hP 0 rfl rfl 7 (by decide) (hts _ q131) (fun _ h => h) rfl dX8_pass_87 ?_
        refine lv_iload hx hb dX8_pass_90 (lv_at hl 4 rfl) ?_
        refine lv_iconst (v := 0) hx hb dX8_pass_92 (by decide) ?_
        refine vz_Vi2 (ws' := fun u : Unit => (woW g h wa wi wr_74 wf_74 ph rh (la 0)) ++ (pgW g ph pa pr pf) ++ (rcW g rh ca ci cr cf) ++ (plW g la lr lf lmx)) (As := [.int x4_74, .int 0]) (rest := []) hx hb hml hown hts hK hA hP hD hS (c_T_get l D g (la 0) (la 1) H.size 4 lmx (lr 0) (lmx * 4) (lf 0) x4_74 0 ⟨rfl, by omega, by omega, by decide, by decide, hw_l 0⟩) kv_X8_110 ⟨Nat.le_of_ble_eq_true rfl, Nat.le_of_ble_eq_true rfl⟩ (q0 := 33) (ci := 6) rfl rfl rfl [33, 34] rfl (by decide) (fun _ => rfl) (fun _ => rfl) hl.1 (Nat.le_of_ble_eq_true rfl) dX8_pass_93 ⟨Nat.le_refl _, Nat.le_refl _⟩ rfl (fun v2 _ H locs he3 _ hP hD hS => ?_)
        refine lv_iload_n hx hb dX8_pass_96 rfl (lv_at hl 1 rfl) ?_
        refine lv_icmp_ne (tgt := 139) hx hb dX8_pass_97 (by decide) (fun kc4 => ?_) (fun kc4 => ?_)
        · exact J139 hn74 wr_74 wf_74 hw_w_74 H locs ls hP hD hS (lv_sub hl [0, 1, 2, 3, 4] rfl)
        · refine lv_aload_n hx hb dX8_pass_100 rfl (lv_at hl 0 rfl) ?_
          refine va_get (D := D) (ci := 8) (v := .ref (la 0)) (C := RX8) (T := TX8) (N := 11) hx hb hts inlX8 hown hK hP 0 rfl rfl 7 (by decide) (hts _ q131) (fun _ h => h) rfl dX8_pass_101 ?_
          refine lv_iload hx hb dX8_pass_104 (lv_at hl 4 rfl) ?_
          refine lv_iconst (v := 1) hx hb dX8_pass_106 (by decide) ?_
          refine vz_Vi2 (ws' := fun u : Unit => (woW g h wa wi wr_74 wf_74 ph rh (la 0)) ++ (pgW g ph pa pr pf) ++ (rcW g rh ca ci cr cf) ++ (plW g la lr lf lmx)) (As := [.int x4_74, .int 1]) (rest := []) hx hb hml hown hts hK hA hP hD hS (c_T_get l D g (la 0) (la 1) H.size 4 lmx (lr 0) (lmx * 4) (lf 0) x4_74 1 ⟨rfl, by omega, by omega, by decide, by decide, hw_l 0⟩) kv_X8_110 ⟨Nat.le_of_ble_eq_true rfl, Nat.le_of_ble_eq_true rfl⟩ (q0 := 33) (ci := 6) rfl rfl rfl [33, 34] rfl (by decide) (fun _ => rfl) (fun _ => rfl) hl.1 (Nat.le_of_ble_eq_true rfl) dX8_pass_107 ⟨Nat.le_refl _, Nat.le_refl _⟩ rfl (fun v5 _ H locs he6 _ hP hD hS => ?_)
          refine lv_iload_n hx hb dX8_pass_110 rfl (lv_at hl 2 rfl) ?_
          refine lv_icmp_ne (tgt := 139) hx hb dX8_pass_111 (by decide) (fun kc7 => ?_) (fun kc7 => ?_)
          · exact J139 hn74 wr_74 wf_74 hw_w_74 H locs ls hP hD hS (lv_sub hl [0, 1, 2, 3, 4] rfl)
          · refine lv_aload_n hx hb dX8_pass_114 rfl (lv_at hl 0 rfl) ?_
            refine va_get (D := D) (ci := 8) (v := .ref (la 0)) (C := RX8) (T := TX8) (N := 11) hx hb hts inlX8 hown hK hP 0 rfl rfl 7 (by decide) (hts _ q131) (fun _ h => h) rfl dX8_pass_115 ?_
            refine lv_iload hx hb dX8_pass_118 (lv_at hl 4 rfl) ?_
            refine lv_iconst (v := 2) hx hb dX8_pass_120 (by decide) ?_
            refine vz_Vi2 (ws' := fun u : Unit => (woW g h wa wi wr_74 wf_74 ph rh (la 0)) ++ (pgW g ph pa pr pf) ++ (rcW g rh ca ci cr cf) ++ (plW g la lr lf lmx)) (As := [.int x4_74, .int 2]) (rest := []) hx hb hml hown hts hK hA hP hD hS (c_T_get l D g (la 0) (la 1) H.size 4 lmx (lr 0) (lmx * 4) (lf 0) x4_74 2 ⟨rfl, by omega, by omega, by decide, by decide, hw_l 0⟩) kv_X8_110 ⟨Nat.le_of_ble_eq_true rfl, Nat.le_of_ble_eq_true rfl⟩ (q0 := 33) (ci := 6) rfl rfl rfl [33, 34] rfl (by decide) (fun _ => rfl) (fun _ => rfl) hl.1 (Nat.le_of_ble_eq_true rfl) dX8_pass_121 ⟨Nat.le_refl _, Nat.le_refl _⟩ rfl (fun v8 _ H locs he9 _ hP hD hS => ?_)
            refine lv_iload_n hx hb dX8_pass_124 rfl (lv_at hl 3 rfl) ?_
            refine lv_icmp_ne (tgt := 139) hx hb dX8_pass_125 (by decide) (fun kc10 => ?_) (fun kc10 => ?_)
            · exact J139 hn74 wr_74 wf_74 hw_w_74 H locs ls hP hD hS (lv_sub hl [0, 1, 2, 3, 4] rfl)
            · refine lv_aload_n hx hb dX8_pass_128 rfl (lv_at hl 0 rfl) ?_
              refine va_get (D := D) (ci := 8) (v := .ref (la 0)) (C := RX8) (T := TX8) (N := 11) hx hb hts inlX8 hown hK hP 0 rfl rfl 7 (by decide) (hts _ q131) (fun _ h => h) rfl dX8_pass_129 ?_
              refine lv_iload hx hb dX8_pass_132 (lv_at hl 4 rfl) ?_
              refine lv_iconst (v := 3) hx hb dX8_pass_134 (by decide) ?_
              refine vz_Vi2 (ws' := fun u : Unit => (woW g h wa wi wr_74 wf_74 ph rh (la 0)) ++ (pgW g ph pa pr pf) ++ (rcW g rh ca ci cr cf) ++ (plW g la lr lf lmx)) (As := [.int x4_74, .int 3]) (rest := []) hx hb hml hown hts hK hA hP hD hS (c_T_get l D g (la 0) (la 1) H.size 4 lmx (lr 0) (lmx * 4) (lf 0) x4_74 3 ⟨rfl, by omega, by omega, by decide, by decide, hw_l 0⟩) kv_X8_110 ⟨Nat.le_of_ble_eq_true rfl, Nat.le_of_ble_eq_true rfl⟩ (q0 := 33) (ci := 6) rfl rfl rfl [33, 34] rfl (by decide) (fun _ => rfl) (fun _ => rfl) hl.1 (Nat.le_of_ble_eq_true rfl) dX8_pass_135 ⟨Nat.le_refl _, Nat.le_refl _⟩ rfl (fun v11 _ H locs he12 _ hP hD hS => ?_)
              rw [hQ]
              exact vz_iret3 hx hb hr hlk hK hP hD hS (wr_74, wf_74) hw_w_74 rfl (Nat.le_refl 0) (Nat.le_refl 0) dX8_pass_138
  have J71 : ∀ (x3_71 : Int32), ∀ (wr_71 : Nat → Nat), ∀ (wf_71 : Nat → Nat → Int32), (∀ k, wr_71 k ≤ woW_lim k) → ∀ (H : Heap) (locs : List Loc) (ls : Array Slot), va_P D vwCl ((woW g h wa wi wr_71 wf_71 ph rh (la 0)) ++ (pgW g ph pa pr pf) ++ (rcW g rh ca ci cr cf) ++ (plW g la lr lf lmx)) H → va_D A ((woW g h wa wi wr_71 wf_71 ph rh (la 0)) ++ (pgW g ph pa pr pf) ++ (rcW g rh ca ci cr cf) ++ (plW g la lr lf lmx)) → va_S A s.heap H locs → lv_has ls 5 [(0, .ref h), (1, .int n1), (2, .int n2), (3, .int x3_71)] → W p l e { frames := 1, cells := 0, slots := 0, locals := 24 } s m args below meth c H locs 0 0 Q (F0 m 71 ls []) := by
    intro x3_71 wr_71 wf_71 hw_w_71 H locs ls hP hD hS hl
    refine lv_iconst (v := 0) hx hb dX8_pass_71 (by decide) ?_
    refine lv_istore (lv' := [(4, .int 0), (0, .ref h), (1, .int n1), (2, .int n2), (3, .int x3_71)]) hx hb dX8_pass_72 hl (by decide) rfl (fun ls hl => ?_)
    exact J74 (2 ^ 34) x3_71 0 wr_71 wf_71 (vz_mb _ _) hw_w_71 H locs ls hP hD hS (lv_sub hl [1, 2, 3, 4, 0] rfl)
  refine lv_aload_n hx hb dX8_pass_0 rfl (lv_at hl 0 rfl) ?_
  refine va_get (D := D) (ci := 8) (v := .ref (wa 8)) (C := RX8) (T := TX8) (N := 11) hx hb hts inlX8 hown hK hP 0 rfl rfl 4 (by decide) (hts _ q138) (fun _ h => h) rfl dX8_pass_1 ?_
  refine lv_iload_n hx hb dX8_pass_4 rfl (lv_at hl 1 rfl) ?_
  refine lv_iload_n hx hb dX8_pass_5 rfl (lv_at hl 2 rfl) ?_
  refine vz_Vi2 (ws' := fun u : Unit => (woW g h wa wi wr wf ph rh (la 0)) ++ (pgW g ph pa pr pf) ++ (rcW g rh ca ci cr cf) ++ (plW g la lr lf lmx)) (As := [.int n1, .int n2]) (rest := []) hx hb hml hown hts hK hA hP hD hS (c_T_get l D g (wa 8) (wa 9) H.size 7 80 (wr 4) 560 (wf 4) n1 n2 ⟨rfl, by decide, by decide, by decide, by decide, hw_w 4⟩) kv_X8_110 ⟨Nat.le_of_ble_eq_true rfl, Nat.le_of_ble_eq_true rfl⟩ (q0 := 9) (ci := 6) rfl rfl rfl [9, 10] rfl (by decide) (fun _ => rfl) (fun _ => rfl) hl.1 (Nat.le_of_ble_eq_true rfl) dX8_pass_6 ⟨Nat.le_refl _, Nat.le_refl _⟩ rfl (fun v1 _ H locs he2 _ hP hD hS => ?_)
  refine lv_iconst (v := 1) hx hb dX8_pass_9 (by decide) ?_
  refine lv_iadd hx hb dX8_pass_10 ?_
  refine lv_istore_n (lv' := [(3, .int (v1 + 1)), (0, .ref h), (1, .int n1), (2, .int n2)]) hx hb dX8_pass_11 rfl hl (by decide) rfl (fun ls hl => ?_)
  refine lv_aload_n hx hb dX8_pass_12 rfl (lv_at hl 1 rfl) ?_
  refine va_get (D := D) (ci := 8) (v := .ref (wa 8)) (C := RX8) (T := TX8) (N := 11) hx hb hts inlX8 hown hK hP 0 rfl rfl 4 (by decide) (hts _ q138) (fun _ h => h) rfl dX8_pass_13 ?_
  refine lv_iload_n hx hb dX8_pass_16 rfl (lv_at hl 2 rfl) ?_
  refine lv_iload_n hx hb dX8_pass_17 rfl (lv_at hl 3 rfl) ?_
  refine lv_iload_n hx hb dX8_pass_18 rfl (lv_at hl 0 rfl) ?_
  refine vz_Vv2 (ws' := fun u : (Nat → Int32) => (woW g h wa wi wr (vz_uf wf 4 u) ph rh (la 0)) ++ (pgW g ph pa pr pf) ++ (rcW g rh ca ci cr cf) ++ (plW g la lr lf lmx)) (As := [.int n1, .int n2, .int (v1 + 1)]) (rest := []) hx hb hml hown hts hK hA hP hD hS (c_T_set l D g (wa 8) (wa 9) H.size 7 80 (wr 4) 560 (wf 4) n1 n2 (v1 + 1) ⟨rfl, by decide, by decide, by decide, by decide, hw_w 4⟩) kv_X8_91 ⟨Nat.le_of_ble_eq_true rfl, Nat.le_of_ble_eq_true rfl⟩ (q0 := 9) (ci := 6) rfl rfl rfl [9, 10] rfl (by decide) (fun _ => rfl) (fun _ => rfl) hl.1 (Nat.le_of_ble_eq_true rfl) dX8_pass_19 ⟨Nat.le_refl _, Nat.le_refl _⟩ rfl (fun nf3 H locs _ _ hP hD hS => ?_)
  obtain ⟨wf_4, hP, hD⟩ : ∃ wf_4 : Nat → Nat → Int32, va_P D vwCl ((woW g h wa wi wr wf_4 ph rh (la 0)) ++ (pgW g ph pa pr pf) ++ (rcW g rh ca ci cr cf) ++ (plW g la lr lf lmx)) H ∧ va_D A ((woW g h wa wi wr wf_4 ph rh (la 0)) ++ (pgW g ph pa pr pf) ++ (rcW g rh ca ci cr cf) ++ (plW g la lr lf lmx)) := ⟨(vz_uf wf 4 nf3), hP, hD⟩
  refine lv_aload_n hx hb dX8_pass_22 rfl (lv_at hl 1 rfl) ?_
  refine va_get (D := D) (ci := 8) (v := .int (wi 2)) (C := RX8) (T := TX8) (N := 11) hx hb hts inlX8 hown hK hP 0 rfl rfl 10 (by decide) (hts _ q1133) (fun _ h => h) rfl dX8_pass_23 ?_
  refine lv_if_eq (tgt := 71) hx hb dX8_pass_26 (by decide) (fun kc5 => ?_) (fun kc5 => ?_)
  · exact J71 (v1 + 1) wr wf_4 hw_w H locs ls hP hD hS (lv_sub hl [1, 2, 3, 0] rfl)
  · refine lv_aload_n hx hb dX8_pass_29 rfl (lv_at hl 1 rfl) ?_
    refine va_get (D := D) (ci := 8) (v := .ref (wa 0)) (C := RX8) (T := TX8) (N := 11) hx hb hts inlX8 hown hK hP 0 rfl rfl 0 (by decide) (hts _ q134) (fun _ h => h) rfl dX8_pass_30 ?_
    refine vz_Vi2 (ws' := fun u : (Nat × (Nat → Int32)) => (woW g h wa wi (vz_un wr 0 u.1) (vz_uf wf_4 0 u.2) ph rh (la 0)) ++ (pgW g ph pa pr pf) ++ (rcW g rh ca ci cr cf) ++ (plW g la lr lf lmx)) (As := []) (rest := []) hx hb hml hown hts hK hA hP hD hS (c_T_add l D g (wa 0) (wa 1) H.size 3 60 (wr 0) 180 (wf_4 0) ⟨rfl, by decide, by decide, by decide, by decide, hw_w 0⟩) kv_X8_83 ⟨Nat.le_of_ble_eq_true rfl, Nat.le_of_ble_eq_true rfl⟩ (q0 := 1) (ci := 6) rfl rfl rfl [1, 2] rfl (by decide) (fun _ => rfl) (fun _ => rfl) hl.1 (Nat.le_of_ble_eq_true rfl) dX8_pass_33 ⟨Nat.le_refl _, Nat.le_refl _⟩ rfl (fun v8 ⟨u6R, u6f⟩ H locs ha7 _ hP hD hS => ?_)
    have hq : (wr 0) ≤ 60 := hw_w 0
    replace ha7 : u6R ≤ 60 := by rcases ha7 with ⟨z1, -, z2, -⟩ | ⟨z1, -, z2, -⟩ <;> (dsimp only at z2; omega)
    obtain ⟨wr_9, hw_wr_9, wf_10, hP, hD⟩ : ∃ wr_9 : Nat → Nat, (∀ k, wr_9 k ≤ woW_lim k) ∧ ∃ wf_10 : Nat → Nat → Int32, va_P D vwCl ((woW g h wa wi wr_9 wf_10 ph rh (la 0)) ++ (pgW g ph pa pr pf) ++ (rcW g rh ca ci cr cf) ++ (plW g la lr lf lmx)) H ∧ va_D A ((woW g h wa wi wr_9 wf_10 ph rh (la 0)) ++ (pgW g ph pa pr pf) ++ (rcW g rh ca ci cr cf) ++ (plW g la lr lf lmx)) := ⟨(vz_un wr 0 u6R), (vz_wf hw_w (t := 0) (v := u6R) (ha7)), (vz_uf wf_4 0 u6f), hP, hD⟩
    refine lv_istore (lv' := [(4, .int v8), (3, .int (v1 + 1)), (0, .ref h), (1, .int n1), (2, .int n2)]) hx hb dX8_pass_36 hl (by decide) rfl (fun ls hl => ?_)
    refine lv_aload_n hx hb dX8_pass_38 rfl (lv_at hl 2 rfl) ?_
    refine va_get (D := D) (ci := 8) (v := .ref (wa 0)) (C := RX8) (T := TX8) (N := 11) hx hb hts inlX8 hown hK hP 0 rfl rfl 0 (by decide) (hts _ q134) (fun _ h => h) rfl dX8_pass_39 ?_
    refine lv_iload hx hb dX8_pass_42 (lv_at hl 0 rfl) ?_
    refine lv_iconst (v := 0) hx hb dX8_pass_44 (by decide) ?_
    refine lv_iload_n hx hb dX8_pass_45 rfl (lv_at hl 3 rfl) ?_
    refine vz_Vv2 (ws' := fun u : (Nat → Int32) => (woW g h wa wi wr_9 (vz_uf wf_10 0 u) ph rh (la 0)) ++ (pgW g ph pa pr pf) ++ (rcW g rh ca ci cr cf) ++ (plW g la lr lf lmx)) (As := [.int v8, .int 0, .int n1]) (rest := []) hx hb hml hown hts hK hA hP hD hS (c_T_set l D g (wa 0) (wa 1) H.size 3 60 (wr_9 0) 180 (wf_10 0) v8 0 n1 ⟨rfl, by decide, by decide, by decide, by decide, hw_wr_9 0⟩) kv_X8_91 ⟨Nat.le_of_ble_eq_true rfl, Nat.le_of_ble_eq_true rfl⟩ (q0 := 1) (ci := 6) rfl rfl rfl [1, 2] rfl (by decide) (fun _ => rfl) (fun _ => rfl) hl.1 (Nat.le_of_ble_eq_true rfl) dX8_pass_46 ⟨Nat.le_refl _, Nat.le_refl _⟩ rfl (fun nf11 H locs _ _ hP hD hS => ?_)
    obtain ⟨wf_12, hP, hD⟩ : ∃ wf_12 : Nat → Nat → Int32, va_P D vwCl ((woW g h wa wi wr_9 wf_12 ph rh (la 0)) ++ (pgW g ph pa pr pf) ++ (rcW g rh ca ci cr cf) ++ (plW g la lr lf lmx)) H ∧ va_D A ((woW g h wa wi wr_9 wf_12 ph rh (la 0)) ++ (pgW g ph pa pr pf) ++ (rcW g rh ca ci cr cf) ++ (plW g la lr lf lmx)) := ⟨(vz_uf wf_10 0 nf11), hP, hD⟩
    refine lv_aload_n hx hb dX8_pass_49 rfl (lv_at hl 2 rfl) ?_
    refine va_get (D := D) (ci := 8) (v := .ref (wa 0)) (C := RX8) (T := TX8) (N := 11) hx hb hts inlX8 hown hK hP 0 rfl rfl 0 (by decide) (hts _ q134) (fun _ h => h) rfl dX8_pass_50 ?_
    refine lv_iload hx hb dX8_pass_53 (lv_at hl 0 rfl) ?_
    refine lv_iconst (v := 1) hx hb dX8_pass_55 (by decide) ?_
    refine lv_iload_n hx hb dX8_pass_56 rfl (lv_at hl 4 rfl) ?_
    refine vz_Vv2 (ws' := fun u : (Nat → Int32) => (woW g h wa wi wr_9 (vz_uf wf_12 0 u) ph rh (la 0)) ++ (pgW g ph pa pr pf) ++ (rcW g rh ca ci cr cf) ++ (plW g la lr lf lmx)) (As := [.int v8, .int 1, .int n2]) (rest := []) hx hb hml hown hts hK hA hP hD hS (c_T_set l D g (wa 0) (wa 1) H.size 3 60 (wr_9 0) 180 (wf_12 0) v8 1 n2 ⟨rfl, by decide, by decide, by decide, by decide, hw_wr_9 0⟩) kv_X8_91 ⟨Nat.le_of_ble_eq_true rfl, Nat.le_of_ble_eq_true rfl⟩ (q0 := 1) (ci := 6) rfl rfl rfl [1, 2] rfl (by decide) (fun _ => rfl) (fun _ => rfl) hl.1 (Nat.le_of_ble_eq_true rfl) dX8_pass_57 ⟨Nat.le_refl _, Nat.le_refl _⟩ rfl (fun nf13 H locs _ _ hP hD hS => ?_)
    obtain ⟨wf_14, hP, hD⟩ : ∃ wf_14 : Nat → Nat → Int32, va_P D vwCl ((woW g h wa wi wr_9 wf_14 ph rh (la 0)) ++ (pgW g ph pa pr pf) ++ (rcW g rh ca ci cr cf) ++ (plW g la lr lf lmx)) H ∧ va_D A ((woW g h wa wi wr_9 wf_14 ph rh (la 0)) ++ (pgW g ph pa pr pf) ++ (rcW g rh ca ci cr cf) ++ (plW g la lr lf lmx)) := ⟨(vz_uf wf_12 0 nf13), hP, hD⟩
    refine lv_aload_n hx hb dX8_pass_60 rfl (lv_at hl 2 rfl) ?_
    refine va_get (D := D) (ci := 8) (v := .ref (wa 0)) (C := RX8) (T := TX8) (N := 11) hx hb hts inlX8 hown hK hP 0 rfl rfl 0 (by decide) (hts _ q134) (fun _ h => h) rfl dX8_pass_61 ?_
    refine lv_iload hx hb dX8_pass_64 (lv_at hl 0 rfl) ?_
    refine lv_iconst (v := 2) hx hb dX8_pass_66 (by decide) ?_
    refine lv_iload_n hx hb dX8_pass_67 rfl (lv_at hl 1 rfl) ?_
    refine vz_Vv2 (ws' := fun u : (Nat → Int32) => (woW g h wa wi wr_9 (vz_uf wf_14 0 u) ph rh (la 0)) ++ (pgW g ph pa pr pf) ++ (rcW g rh ca ci cr cf) ++ (plW g la lr lf lmx)) (As := [.int v8, .int 2, .int (v1 + 1)]) (rest := []) hx hb hml hown hts hK hA hP hD hS (c_T_set l D g (wa 0) (wa 1) H.size 3 60 (wr_9 0) 180 (wf_14 0) v8 2 (v1 + 1) ⟨rfl, by decide, by decide, by decide, by decide, hw_wr_9 0⟩) kv_X8_91 ⟨Nat.le_of_ble_eq_true rfl, Nat.le_of_ble_eq_true rfl⟩ (q0 := 1) (ci := 6) rfl rfl rfl [1, 2] rfl (by decide) (fun _ => rfl) (fun _ => rfl) hl.1 (Nat.le_of_ble_eq_true rfl) dX8_pass_68 ⟨Nat.le_refl _, Nat.le_refl _⟩ rfl (fun nf15 H locs _ _ hP hD hS => ?_)
    obtain ⟨wf_16, hP, hD⟩ : ∃ wf_16 : Nat → Nat → Int32, va_P D vwCl ((woW g h wa wi wr_9 wf_16 ph rh (la 0)) ++ (pgW g ph pa pr pf) ++ (rcW g rh ca ci cr cf) ++ (plW g la lr lf lmx)) H ∧ va_D A ((woW g h wa wi wr_9 wf_16 ph rh (la 0)) ++ (pgW g ph pa pr pf) ++ (rcW g rh ca ci cr cf) ++ (plW g la lr lf lmx)) := ⟨(vz_uf wf_14 0 nf15), hP, hD⟩
    exact J71 (v1 + 1) wr_9 wf_16 hw_wr_9 H locs ls hP hD hS (lv_sub hl [2, 3, 4, 1] rfl)
theorem q1129 : Cond.methodLink RX8 120 yX8_pass ∈ wsL_law := mT_5 (List.mem_of_getElem? (i := 45) rfl) rfl
theorem q1130 : Cond.instanceMethod yX8_pass ∈ wsL_law := mT_5 (List.mem_of_getElem? (i := 47) rfl) rfl
theorem q1131 : Cond.selects RX8 yX8_pass yX8_pass ∈ wsL_law := mS_5 (q := (yX8_pass, 11)) (List.mem_of_getElem? (i := 8) rfl) rfl
theorem q1132 : Cond.code yX8_pass cX8_pass 5 (some .int) ∈ wsL_law := mT_5 (List.mem_of_getElem? (i := 48) rfl) rfl
theorem kv_X8_120 : vz_cv RX8 120 yX8_pass cX8_pass 5 (some .int) 2 := ⟨q1129, q1130, q1131, q47, q1132, by decide +kernel⟩
theorem q1128 : Cond.fieldLink RX8 123 "WaysAtlas$RunRecord" "tape" "LWaysAtlas$Table;" ∈ wsL_law := mT_1 (List.mem_of_getElem? (i := 208) rfl) rfl
theorem q1099 : Cond.methodLink RX8 126 yX8_raise ∈ wsL_law := mT_5 (List.mem_of_getElem? (i := 17) rfl) rfl
theorem q1100 : Cond.instanceMethod yX8_raise ∈ wsL_law := mT_5 (List.mem_of_getElem? (i := 18) rfl) rfl
theorem q1101 : Cond.selects RX8 yX8_raise yX8_raise ∈ wsL_law := mT_5 (List.mem_of_getElem? (i := 19) rfl) rfl
theorem q1102 : Cond.code yX8_raise cX8_raise 5 none ∈ wsL_law := mT_5 (List.mem_of_getElem? (i := 20) rfl) rfl
theorem kv_X8_126 : vz_cv RX8 126 yX8_raise cX8_raise 5 none 2 := ⟨q1099, q1100, q1101, q47, q1102, by decide +kernel⟩
theorem dX8_append_0 : decode cX8_append 0 = .ok (.aload_n 0, 1) := by decide +kernel
theorem dX8_append_1 : decode cX8_append 1 = .ok (.iload_n 1, 1) := by decide +kernel
theorem dX8_append_2 : decode cX8_append 2 = .ok (.iconst 0, 1) := by decide +kernel
theorem dX8_append_3 : decode cX8_append 3 = .ok (.invokevirtual 120, 3) := by decide +kernel
theorem dX8_append_6 : decode cX8_append 6 = .ok (.istore_n 3, 1) := by decide +kernel
theorem dX8_append_7 : decode cX8_append 7 = .ok (.iload_n 3, 1) := by decide +kernel
theorem dX8_append_8 : decode cX8_append 8 = .ok (.bipush (-9), 2) := by decide +kernel
theorem dX8_append_10 : decode cX8_append 10 = .ok (.if_icmp .ne 28, 3) := by decide +kernel
theorem dX8_append_13 : decode cX8_append 13 = .ok (.aload_n 0, 1) := by decide +kernel
theorem dX8_append_14 : decode cX8_append 14 = .ok (.getfield 19, 3) := by decide +kernel
theorem dX8_append_17 : decode cX8_append 17 = .ok (.getfield 123, 3) := by decide +kernel
theorem dX8_append_20 : decode cX8_append 20 = .ok (.aload_n 0, 1) := by decide +kernel
theorem dX8_append_21 : decode cX8_append 21 = .ok (.getfield 19, 3) := by decide +kernel
theorem dX8_append_24 : decode cX8_append 24 = .ok (.getfield 123, 3) := by decide +kernel
theorem dX8_append_27 : decode cX8_append 27 = .ok (.invokevirtual 83, 3) := by decide +kernel
theorem dX8_append_30 : decode cX8_append 30 = .ok (.iconst 0, 1) := by decide +kernel
theorem dX8_append_31 : decode cX8_append 31 = .ok (.iload_n 2, 1) := by decide +kernel
theorem dX8_append_32 : decode cX8_append 32 = .ok (.invokevirtual 91, 3) := by decide +kernel
theorem dX8_append_35 : decode cX8_append 35 = .ok (.goto 10, 3) := by decide +kernel
theorem dX8_append_38 : decode cX8_append 38 = .ok (.aload_n 0, 1) := by decide +kernel
theorem dX8_append_39 : decode cX8_append 39 = .ok (.iload_n 3, 1) := by decide +kernel
theorem dX8_append_40 : decode cX8_append 40 = .ok (.bipush (-9), 2) := by decide +kernel
theorem dX8_append_42 : decode cX8_append 42 = .ok (.invokevirtual 126, 3) := by decide +kernel
theorem dX8_append_45 : decode cX8_append 45 = .ok (.return_, 1) := by decide +kernel
