abbrev gtW (g : Nat → ClassId) (a : Nat → Nat) (r : Nat → Nat) (f : Nat → Nat → Int32) (mx wd : Nat) : va_W := [tT (a 0) (a 1) (nI wd) (nI mx) (nI (r 0)), tA g (a 1) (mx * wd) (f 0)]
abbrev gtW_lim : Nat → Nat → Nat := fun mx _ => mx
abbrev maW (h : Nat) (i : Nat → Int32) (tx : Nat) (sc : Nat) (rd : Nat) (co : Nat) (wo : Nat) (wk : Nat) (mc : Nat) (pl : Nat) (al : Nat) (ou : Nat) (cr : Nat) (tr : Nat) (t1 : Nat) (t2 : Nat) (pr : Nat) (sp : Nat) : va_W := [(h, .inr (9, [.ref tx, .ref sc, .ref rd, .ref co, .ref wo, .ref wk, .ref mc, .ref pl, .ref al, .ref ou, .ref cr, .ref tr, .ref t1, .ref t2, .ref pr, .ref sp, .int (i 0)]))]
theorem q1631 : Cond.methodLink RX6 31 yX6_get ∈ wsL_law := mT_6 (List.mem_of_getElem? (i := 83) rfl) rfl
theorem kv_X6_31 : vz_cv RX6 31 yX6_get cX6_get 4 (some .int) 2 := ⟨q1631, q294, q295, q15, q296, by decide +kernel⟩
theorem dX6_equalIn_0 : decode cX6_equalIn 0 = .ok (.aload_n 0, 1) := by decide +kernel
theorem dX6_equalIn_1 : decode cX6_equalIn 1 = .ok (.getfield 28, 3) := by decide +kernel
theorem dX6_equalIn_4 : decode cX6_equalIn 4 = .ok (.aload_n 1, 1) := by decide +kernel
theorem dX6_equalIn_5 : decode cX6_equalIn 5 = .ok (.getfield 28, 3) := by decide +kernel
theorem dX6_equalIn_8 : decode cX6_equalIn 8 = .ok (.if_icmp .eq 5, 3) := by decide +kernel
theorem dX6_equalIn_11 : decode cX6_equalIn 11 = .ok (.iconst 0, 1) := by decide +kernel
theorem dX6_equalIn_12 : decode cX6_equalIn 12 = .ok (.ireturn, 1) := by decide +kernel
theorem dX6_equalIn_13 : decode cX6_equalIn 13 = .ok (.iconst 0, 1) := by decide +kernel
theorem dX6_equalIn_14 : decode cX6_equalIn 14 = .ok (.istore_n 3, 1) := by decide +kernel
theorem dX6_equalIn_15 : decode cX6_equalIn 15 = .ok (.iload_n 3, 1) := by decide +kernel
theorem dX6_equalIn_16 : decode cX6_equalIn 16 = .ok (.aload_n 0, 1) := by decide +kernel
theorem dX6_equalIn_17 : decode cX6_equalIn 17 = .ok (.getfield 28, 3) := by decide +kernel
theorem dX6_equalIn_20 : decode cX6_equalIn 20 = .ok (.if_icmp .ge 43, 3) := by decide +kernel
theorem dX6_equalIn_23 : decode cX6_equalIn 23 = .ok (.iconst 0, 1) := by decide +kernel
theorem dX6_equalIn_24 : decode cX6_equalIn 24 = .ok (.istore 4, 2) := by decide +kernel
theorem dX6_equalIn_26 : decode cX6_equalIn 26 = .ok (.iload 4, 2) := by decide +kernel
theorem dX6_equalIn_28 : decode cX6_equalIn 28 = .ok (.iload_n 2, 1) := by decide +kernel
theorem dX6_equalIn_29 : decode cX6_equalIn 29 = .ok (.if_icmp .ge 28, 3) := by decide +kernel
theorem dX6_equalIn_32 : decode cX6_equalIn 32 = .ok (.aload_n 0, 1) := by decide +kernel
theorem dX6_equalIn_33 : decode cX6_equalIn 33 = .ok (.iload_n 3, 1) := by decide +kernel
theorem dX6_equalIn_34 : decode cX6_equalIn 34 = .ok (.iload 4, 2) := by decide +kernel
theorem dX6_equalIn_36 : decode cX6_equalIn 36 = .ok (.invokevirtual 31, 3) := by decide +kernel
theorem dX6_equalIn_39 : decode cX6_equalIn 39 = .ok (.aload_n 1, 1) := by decide +kernel
theorem dX6_equalIn_40 : decode cX6_equalIn 40 = .ok (.iload_n 3, 1) := by decide +kernel
theorem dX6_equalIn_41 : decode cX6_equalIn 41 = .ok (.iload 4, 2) := by decide +kernel
theorem dX6_equalIn_43 : decode cX6_equalIn 43 = .ok (.invokevirtual 31, 3) := by decide +kernel
theorem dX6_equalIn_46 : decode cX6_equalIn 46 = .ok (.if_icmp .eq 5, 3) := by decide +kernel
theorem dX6_equalIn_49 : decode cX6_equalIn 49 = .ok (.iconst 0, 1) := by decide +kernel
theorem dX6_equalIn_50 : decode cX6_equalIn 50 = .ok (.ireturn, 1) := by decide +kernel
theorem dX6_equalIn_51 : decode cX6_equalIn 51 = .ok (.iinc 4 1, 3) := by decide +kernel
theorem dX6_equalIn_54 : decode cX6_equalIn 54 = .ok (.goto (-28), 3) := by decide +kernel
theorem dX6_equalIn_57 : decode cX6_equalIn 57 = .ok (.iinc 3 1, 3) := by decide +kernel
theorem dX6_equalIn_60 : decode cX6_equalIn 60 = .ok (.goto (-45), 3) := by decide +kernel
theorem dX6_equalIn_63 : decode cX6_equalIn 63 = .ok (.iconst 1, 1) := by decide +kernel
theorem dX6_equalIn_64 : decode cX6_equalIn 64 = .ok (.ireturn, 1) := by decide +kernel
set_option maxHeartbeats 8000000 in
set_option maxRecDepth 100000 in
theorem a_T_equalIn (l : Launch) (D : va_G) (g : Nat → ClassId)   (sz : Nat) (ga : Nat → Nat) (ar : Nat → Nat) (af : Nat → Nat → Int32) (amx : Nat) (awd : Nat) (gb : Nat → Nat) (br : Nat → Nat) (bf : Nat → Nat → Int32) (bmx : Nat) (bwd : Nat) (n1 : Int32) (hw_a : ∀ k, ar k ≤ (gtW_lim amx) k) (hw_b : ∀ k, br k ≤ (gtW_lim bmx) k) (hmx_a : amx ≤ 401) (hwd_a : 1 ≤ awd ∧ awd ≤ 12) (hmx_b : bmx ≤ 401) (hwd_b : 1 ≤ bwd ∧ bwd ≤ 12) : vz_Mi l D (tyG g) yX6_equalIn cX6_equalIn 5 1 23 0 0 .boolean [.ref (ga 0), .ref (gb 0), .int n1] sz (vz_w [gtW g ga ar af amx awd, gtW g gb br bf bmx bwd]) (fun r (u : Unit) => (r = 0 ∨ r = 1)) (fun u => vz_w [gtW g ga ar af amx awd, gtW g gb br bf bmx bwd]) := by
  refine vz_siQ (by decide) (Nat.le_of_ble_eq_true rfl) (fun p e s m args below meth c hx hb hr hml hts hown hlk hin hK hsz A hA H locs hP hD hS ls hl Q hQ => ?_)
  have hl : lv_has ls 5 [(0, .ref (ga 0)), (1, .ref (gb 0)), (2, .int n1)] := hl
  have J15 : ∀ fu15 : Nat, ∀ (x3_15 : Int32), ((nI (ar 0)).toInt - x3_15.toInt).toNat < fu15 → ∀ (H : Heap) (locs : List Loc) (ls : Array Slot), va_P D vwCl (vz_w [gtW g ga ar af amx awd, gtW g gb br bf bmx bwd]) H → va_D A (vz_w [gtW g ga ar af amx awd, gtW g gb br bf bmx bwd]) → va_S A s.heap H locs → lv_has ls 5 [(0, .ref (ga 0)), (1, .ref (gb 0)), (2, .int n1), (3, .int x3_15)] → W p l e { frames := 1, cells := 0, slots := 0, locals := 23 } s m args below meth c H locs 0 0 Q (F0 m 15 ls []) := by
    intro fu15
    induction fu15 with
    | zero => intro x3_15 hf15 H locs ls hP hD hS hl; exact absurd hf15 (Nat.not_lt_zero _)
    | succ fu15 ih15 =>
      intro x3_15 hf15 H locs ls hP hD hS hl
      have J26 : ∀ fu26 : Nat, ((nI (ar 0)).toInt - (x3_15 + 1).toInt).toNat < fu15 → ∀ (x4_26 : Int32), (n1.toInt - x4_26.toInt).toNat < fu26 → ∀ (H : Heap) (locs : List Loc) (ls : Array Slot), va_P D vwCl (vz_w [gtW g ga ar af amx awd, gtW g gb br bf bmx bwd]) H → va_D A (vz_w [gtW g ga ar af amx awd, gtW g gb br bf bmx bwd]) → va_S A s.heap H locs → lv_has ls 5 [(0, .ref (ga 0)), (1, .ref (gb 0)), (2, .int n1), (3, .int x3_15), (4, .int x4_26)] → W p l e { frames := 1, cells := 0, slots := 0, locals := 23 } s m args below meth c H locs 0 0 Q (F0 m 26 ls []) := by
        intro fu26
        induction fu26 with
        | zero => intro hn15 x4_26 hf26 H locs ls hP hD hS hl; exact absurd hf26 (Nat.not_lt_zero _)
        | succ fu26 ih26 =>
          intro hn15 x4_26 hf26 H locs ls hP hD hS hl
          refine lv_iload hx hb dX6_equalIn_26 (lv_at hl 4 rfl) ?_
          refine lv_iload_n hx hb dX6_equalIn_28 rfl (lv_at hl 2 rfl) ?_
          refine lv_icmp_ge (tgt := 57) hx hb dX6_equalIn_29 (by decide) (fun kc1 => ?_) (fun kc1 => ?_)
          · refine lv_iinc (v := (x3_15 + 1)) (lv' := [(3, .int (x3_15 + 1)), (0, .ref (ga 0)), (1, .ref (gb 0)), (2, .int n1), (4, .int x4_26)]) hx hb dX6_equalIn_57 hl (k := 3) rfl (rfl) (by decide) rfl (fun ls hl => ?_)
            refine lv_goto (tgt := 15) hx hb dX6_equalIn_60 (by decide) ?_
            exact ih15 (x3_15 + 1) hn15 H locs ls hP hD hS (lv_sub hl [1, 2, 3, 0] rfl)
          · have hn26 : (n1.toInt - (x4_26 + 1).toInt).toNat < fu26 := by have hq := vz_up kc1; omega
            refine lv_aload_n hx hb dX6_equalIn_32 rfl (lv_at hl 0 rfl) ?_
            refine lv_iload_n hx hb dX6_equalIn_33 rfl (lv_at hl 3 rfl) ?_
            refine lv_iload hx hb dX6_equalIn_34 (lv_at hl 4 rfl) ?_
            refine vz_Vi2 (ws' := fun u : Unit => vz_w [gtW g ga ar af amx awd, gtW g gb br bf bmx bwd]) (As := [.int x3_15, .int x4_26]) (rest := []) hx hb hml hown hts hK hA hP hD hS (c_T_get l D g (ga 0) (ga 1) H.size awd amx (ar 0) (amx * awd) (af 0) x3_15 x4_26 ⟨rfl, Nat.lt_of_le_of_lt (Nat.mul_le_mul hmx_a hwd_a.2) (by decide), by omega, by omega, hwd_a.1, hw_a 0⟩) kv_X6_31 ⟨Nat.le_of_ble_eq_true rfl, Nat.le_of_ble_eq_true rfl⟩ (q0 := 0) (ci := 6) rfl rfl rfl [0, 1] rfl (by decide) (fun _ => rfl) (fun _ => rfl) hl.1 (Nat.le_of_ble_eq_true rfl) dX6_equalIn_36 ⟨Nat.le_refl _, Nat.le_refl _⟩ rfl (fun v2 _ H locs he3 _ hP hD hS => ?_)
            refine lv_aload_n hx hb dX6_equalIn_39 rfl (lv_at hl 1 rfl) ?_
            refine lv_iload_n hx hb dX6_equalIn_40 rfl (lv_at hl 3 rfl) ?_
            refine lv_iload hx hb dX6_equalIn_41 (lv_at hl 4 rfl) ?_
            refine vz_Vi2 (ws' := fun u : Unit => vz_w [gtW g ga ar af amx awd, gtW g gb br bf bmx bwd]) (As := [.int x3_15, .int x4_26]) (rest := [.int v2]) hx hb hml hown hts hK hA hP hD hS (c_T_get l D g (gb 0) (gb 1) H.size bwd bmx (br 0) (bmx * bwd) (bf 0) x3_15 x4_26 ⟨rfl, Nat.lt_of_le_of_lt (Nat.mul_le_mul hmx_b hwd_b.2) (by decide), by omega, by omega, hwd_b.1, hw_b 0⟩) kv_X6_31 ⟨Nat.le_of_ble_eq_true rfl, Nat.le_of_ble_eq_true rfl⟩ (q0 := 2) (ci := 6) rfl rfl rfl [2, 3] rfl (by decide) (fun _ => rfl) (fun _ => rfl) hl.1 (Nat.le_of_ble_eq_true rfl) dX6_equalIn_43 ⟨Nat.le_refl _, Nat.le_refl _⟩ rfl (fun v4 _ H locs he5 _ hP hD hS => ?_)
            refine lv_icmp_eq (tgt := 51) hx hb dX6_equalIn_46 (by decide) (fun kc6 => ?_) (fun kc6 => ?_)
            · refine lv_iinc (v := (x4_26 + 1)) (lv' := [(4, .int (x4_26 + 1)), (0, .ref (ga 0)), (1, .ref (gb 0)), (2, .int n1), (3, .int x3_15)]) hx hb dX6_equalIn_51 hl (k := 4) rfl (rfl) (by decide) rfl (fun ls hl => ?_)
              refine lv_goto (tgt := 26) hx hb dX6_equalIn_54 (by decide) ?_
              exact ih26 hn15 (x4_26 + 1) hn26 H locs ls hP hD hS (lv_sub hl [1, 2, 3, 4, 0] rfl)
            · refine lv_iconst (v := 0) hx hb dX6_equalIn_49 (by decide) ?_
              rw [hQ]
              exact vz_zret3 hx hb hr hlk hK hP hD hS () (Or.inl rfl) rfl (Nat.le_refl 0) (Nat.le_refl 0) (by decide) dX6_equalIn_50
      refine lv_iload_n hx hb dX6_equalIn_15 rfl (lv_at hl 3 rfl) ?_
      refine lv_aload_n hx hb dX6_equalIn_16 rfl (lv_at hl 0 rfl) ?_
      refine va_get (D := D) (ci := 6) (v := .int (nI (ar 0))) (C := RX6) (T := TX6) (N := 4) hx hb hts inlX6 hown hK hP 0 rfl rfl 3 (by decide) (hts _ q72) (fun _ h => h) rfl dX6_equalIn_17 ?_
      refine lv_icmp_ge (tgt := 63) hx hb dX6_equalIn_20 (by decide) (fun kc1 => ?_) (fun kc1 => ?_)
      · refine lv_iconst (v := 1) hx hb dX6_equalIn_63 (by decide) ?_
        rw [hQ]
        exact vz_zret3 hx hb hr hlk hK hP hD hS () (Or.inr rfl) rfl (Nat.le_refl 0) (Nat.le_refl 0) (by decide) dX6_equalIn_64
      · have hn15 : ((nI (ar 0)).toInt - (x3_15 + 1).toInt).toNat < fu15 := by have hq := vz_up kc1; omega
        refine lv_iconst (v := 0) hx hb dX6_equalIn_23 (by decide) ?_
        refine lv_istore (lv' := [(4, .int 0), (0, .ref (ga 0)), (1, .ref (gb 0)), (2, .int n1), (3, .int x3_15)]) hx hb dX6_equalIn_24 hl (by decide) rfl (fun ls hl => ?_)
        exact J26 (2 ^ 34) hn15 0 (vz_mb _ _) H locs ls hP hD hS (lv_sub hl [1, 2, 3, 4, 0] rfl)
  refine lv_aload_n hx hb dX6_equalIn_0 rfl (lv_at hl 0 rfl) ?_
  refine va_get (D := D) (ci := 6) (v := .int (nI (ar 0))) (C := RX6) (T := TX6) (N := 4) hx hb hts inlX6 hown hK hP 0 rfl rfl 3 (by decide) (hts _ q72) (fun _ h => h) rfl dX6_equalIn_1 ?_
  refine lv_aload_n hx hb dX6_equalIn_4 rfl (lv_at hl 1 rfl) ?_
  refine va_get (D := D) (ci := 6) (v := .int (nI (br 0))) (C := RX6) (T := TX6) (N := 4) hx hb hts inlX6 hown hK hP 2 rfl rfl 3 (by decide) (hts _ q72) (fun _ h => h) rfl dX6_equalIn_5 ?_
  refine lv_icmp_eq (tgt := 13) hx hb dX6_equalIn_8 (by decide) (fun kc1 => ?_) (fun kc1 => ?_)
  · refine lv_iconst (v := 0) hx hb dX6_equalIn_13 (by decide) ?_
    refine lv_istore_n (lv' := [(3, .int 0), (0, .ref (ga 0)), (1, .ref (gb 0)), (2, .int n1)]) hx hb dX6_equalIn_14 rfl hl (by decide) rfl (fun ls hl => ?_)
    exact J15 (2 ^ 34) 0 (vz_mb _ _) H locs ls hP hD hS (lv_sub hl [1, 2, 3, 0] rfl)
  · refine lv_iconst (v := 0) hx hb dX6_equalIn_11 (by decide) ?_
    rw [hQ]
    exact vz_zret3 hx hb hr hlk hK hP hD hS () (Or.inl rfl) rfl (Nat.le_refl 0) (Nat.le_refl 0) (by decide) dX6_equalIn_12
theorem q1626 : Cond.methodLink RX4 67 yX4_property ∈ wsL_law := mT_6 (List.mem_of_getElem? (i := 78) rfl) rfl
theorem q1523 : Cond.instanceMethod yX4_property ∈ wsL_law := mT_6 (List.mem_of_getElem? (i := 25) rfl) rfl
theorem q1524 : Cond.selects RX4 yX4_property yX4_property ∈ wsL_law := mT_6 (List.mem_of_getElem? (i := 26) rfl) rfl
theorem q40 : Cond.initialized RX4 ∈ wsL_law := mT_1 (List.mem_of_getElem? (i := 8) rfl) rfl
theorem q1525 : Cond.code yX4_property cX4_property 2 (some .int) ∈ wsL_law := mT_6 (List.mem_of_getElem? (i := 27) rfl) rfl
theorem kv_X4_67 : vz_cv RX4 67 yX4_property cX4_property 2 (some .int) 1 := ⟨q1626, q1523, q1524, q40, q1525, by decide +kernel⟩
theorem q1627 : Cond.methodLink RX4 71 yX6_equalIn ∈ wsL_law := mT_6 (List.mem_of_getElem? (i := 79) rfl) rfl
theorem q1628 : Cond.instanceMethod yX6_equalIn ∈ wsL_law := mT_6 (List.mem_of_getElem? (i := 80) rfl) rfl
theorem q1629 : Cond.selects RX6 yX6_equalIn yX6_equalIn ∈ wsL_law := mT_6 (List.mem_of_getElem? (i := 81) rfl) rfl
theorem q1630 : Cond.code yX6_equalIn cX6_equalIn 5 (some .boolean) ∈ wsL_law := mT_6 (List.mem_of_getElem? (i := 82) rfl) rfl
theorem kv_X4_71 : vz_cv RX4 71 yX6_equalIn cX6_equalIn 5 (some .boolean) 2 := ⟨q1627, q1628, q1629, q15, q1630, by decide +kernel⟩
theorem dX4_agrees_0 : decode cX4_agrees 0 = .ok (.iconst 0, 1) := by decide +kernel
theorem dX4_agrees_1 : decode cX4_agrees 1 = .ok (.istore_n 2, 1) := by decide +kernel
theorem dX4_agrees_2 : decode cX4_agrees 2 = .ok (.iload_n 2, 1) := by decide +kernel
theorem dX4_agrees_3 : decode cX4_agrees 3 = .ok (.bipush 9, 2) := by decide +kernel
theorem dX4_agrees_5 : decode cX4_agrees 5 = .ok (.if_icmp .gt 24, 3) := by decide +kernel
theorem dX4_agrees_8 : decode cX4_agrees 8 = .ok (.aload_n 0, 1) := by decide +kernel
theorem dX4_agrees_9 : decode cX4_agrees 9 = .ok (.iload_n 2, 1) := by decide +kernel
theorem dX4_agrees_10 : decode cX4_agrees 10 = .ok (.invokevirtual 67, 3) := by decide +kernel
theorem dX4_agrees_13 : decode cX4_agrees 13 = .ok (.aload_n 1, 1) := by decide +kernel
theorem dX4_agrees_14 : decode cX4_agrees 14 = .ok (.iload_n 2, 1) := by decide +kernel
theorem dX4_agrees_15 : decode cX4_agrees 15 = .ok (.invokevirtual 67, 3) := by decide +kernel
theorem dX4_agrees_18 : decode cX4_agrees 18 = .ok (.if_icmp .eq 5, 3) := by decide +kernel
theorem dX4_agrees_21 : decode cX4_agrees 21 = .ok (.iconst 0, 1) := by decide +kernel
theorem dX4_agrees_22 : decode cX4_agrees 22 = .ok (.ireturn, 1) := by decide +kernel
theorem dX4_agrees_23 : decode cX4_agrees 23 = .ok (.iinc 2 1, 3) := by decide +kernel
theorem dX4_agrees_26 : decode cX4_agrees 26 = .ok (.goto (-24), 3) := by decide +kernel
theorem dX4_agrees_29 : decode cX4_agrees 29 = .ok (.aload_n 0, 1) := by decide +kernel
theorem dX4_agrees_30 : decode cX4_agrees 30 = .ok (.getfield 14, 3) := by decide +kernel
theorem dX4_agrees_33 : decode cX4_agrees 33 = .ok (.aload_n 1, 1) := by decide +kernel
theorem dX4_agrees_34 : decode cX4_agrees 34 = .ok (.getfield 14, 3) := by decide +kernel
theorem dX4_agrees_37 : decode cX4_agrees 37 = .ok (.iconst 1, 1) := by decide +kernel
theorem dX4_agrees_38 : decode cX4_agrees 38 = .ok (.invokevirtual 71, 3) := by decide +kernel
theorem dX4_agrees_41 : decode cX4_agrees 41 = .ok (.ifCond .eq 53, 3) := by decide +kernel
theorem dX4_agrees_44 : decode cX4_agrees 44 = .ok (.aload_n 0, 1) := by decide +kernel
theorem dX4_agrees_45 : decode cX4_agrees 45 = .ok (.getfield 20, 3) := by decide +kernel
theorem dX4_agrees_48 : decode cX4_agrees 48 = .ok (.aload_n 1, 1) := by decide +kernel
theorem dX4_agrees_49 : decode cX4_agrees 49 = .ok (.getfield 20, 3) := by decide +kernel
theorem dX4_agrees_52 : decode cX4_agrees 52 = .ok (.bipush 6, 2) := by decide +kernel
theorem dX4_agrees_54 : decode cX4_agrees 54 = .ok (.invokevirtual 71, 3) := by decide +kernel
theorem dX4_agrees_57 : decode cX4_agrees 57 = .ok (.ifCond .eq 37, 3) := by decide +kernel
theorem dX4_agrees_60 : decode cX4_agrees 60 = .ok (.aload_n 0, 1) := by decide +kernel
theorem dX4_agrees_61 : decode cX4_agrees 61 = .ok (.getfield 26, 3) := by decide +kernel
theorem dX4_agrees_64 : decode cX4_agrees 64 = .ok (.aload_n 1, 1) := by decide +kernel
theorem dX4_agrees_65 : decode cX4_agrees 65 = .ok (.getfield 26, 3) := by decide +kernel
theorem dX4_agrees_68 : decode cX4_agrees 68 = .ok (.iconst 1, 1) := by decide +kernel
theorem dX4_agrees_69 : decode cX4_agrees 69 = .ok (.invokevirtual 71, 3) := by decide +kernel
theorem dX4_agrees_72 : decode cX4_agrees 72 = .ok (.ifCond .eq 22, 3) := by decide +kernel
theorem dX4_agrees_75 : decode cX4_agrees 75 = .ok (.aload_n 0, 1) := by decide +kernel
theorem dX4_agrees_76 : decode cX4_agrees 76 = .ok (.getfield 29, 3) := by decide +kernel
theorem dX4_agrees_79 : decode cX4_agrees 79 = .ok (.aload_n 1, 1) := by decide +kernel
theorem dX4_agrees_80 : decode cX4_agrees 80 = .ok (.getfield 29, 3) := by decide +kernel
theorem dX4_agrees_83 : decode cX4_agrees 83 = .ok (.iconst 1, 1) := by decide +kernel
theorem dX4_agrees_84 : decode cX4_agrees 84 = .ok (.invokevirtual 71, 3) := by decide +kernel
theorem dX4_agrees_87 : decode cX4_agrees 87 = .ok (.ifCond .eq 7, 3) := by decide +kernel
theorem dX4_agrees_90 : decode cX4_agrees 90 = .ok (.iconst 1, 1) := by decide +kernel
theorem dX4_agrees_91 : decode cX4_agrees 91 = .ok (.goto 4, 3) := by decide +kernel
theorem dX4_agrees_94 : decode cX4_agrees 94 = .ok (.iconst 0, 1) := by decide +kernel
theorem dX4_agrees_95 : decode cX4_agrees 95 = .ok (.ireturn, 1) := by decide +kernel
set_option maxHeartbeats 8000000 in
set_option maxRecDepth 100000 in
theorem a_R_agrees (l : Launch) (D : va_G) (g : Nat → ClassId)   (sz : Nat) (h : Nat) (ca : Nat → Nat) (ci : Nat → Int32) (cr : Nat → Nat) (cf : Nat → Nat → Int32) (oh : Nat) (oa : Nat → Nat) (oi : Nat → Int32) (or : Nat → Nat) (of : Nat → Nat → Int32) (hw_c : ∀ k, cr k ≤ rcW_lim k) (hw_o : ∀ k, or k ≤ rcW_lim k) : vz_Mi l D (tyG g) yX4_agrees cX4_agrees 3 2 47 0 0 .boolean [.ref h, .ref oh] sz (vz_w [rcW g h ca ci cr cf, rcW g oh oa oi or of]) (fun r (u : Unit) => (r = 0 ∨ r = 1)) (fun u => vz_w [rcW g h ca ci cr cf, rcW g oh oa oi or of]) := by
  refine vz_siQ (by decide) (Nat.le_of_ble_eq_true rfl) (fun p e s m args below meth c hx hb hr hml hts hown hlk hin hK hsz A hA H locs hP hD hS ls hl Q hQ => ?_)
  have hl : lv_has ls 3 [(0, .ref h), (1, .ref oh)] := hl
  have J95 : ∀ (x2_95 : Int32), ∀ (y0_95 : Int32), (y0_95 = 0 ∨ y0_95 = 1) → ∀ (H : Heap) (locs : List Loc) (ls : Array Slot), va_P D vwCl (vz_w [rcW g h ca ci cr cf, rcW g oh oa oi or of]) H → va_D A (vz_w [rcW g h ca ci cr cf, rcW g oh oa oi or of]) → va_S A s.heap H locs → lv_has ls 3 [(0, .ref h), (1, .ref oh), (2, .int x2_95)] → W p l e { frames := 2, cells := 0, slots := 0, locals := 47 } s m args below meth c H locs 0 0 Q (F0 m 95 ls [.int y0_95]) := by
    intro x2_95 y0_95 hz_y0_95 H locs ls hP hD hS hl
    rw [hQ]
    exact vz_zret3 hx hb hr hlk hK hP hD hS () hz_y0_95 rfl (Nat.le_refl 0) (Nat.le_refl 0) (vz_nb hz_y0_95) dX4_agrees_95
  have J94 : ∀ (x2_94 : Int32), ∀ (H : Heap) (locs : List Loc) (ls : Array Slot), va_P D vwCl (vz_w [rcW g h ca ci cr cf, rcW g oh oa oi or of]) H → va_D A (vz_w [rcW g h ca ci cr cf, rcW g oh oa oi or of]) → va_S A s.heap H locs → lv_has ls 3 [(0, .ref h), (1, .ref oh), (2, .int x2_94)] → W p l e { frames := 2, cells := 0, slots := 0, locals := 47 } s m args below meth c H locs 0 0 Q (F0 m 94 ls []) := by
    intro x2_94 H locs ls hP hD hS hl
    refine lv_iconst (v := 0) hx hb dX4_agrees_94 (by decide) ?_
    exact J95 x2_94 0 (Or.inl rfl) H locs ls hP hD hS (lv_sub hl [0, 1, 2] rfl)
  have J2 : ∀ (fu2 n2 : Nat), 10 - n2 < fu2 → n2 ≤ 10 → ∀ (H : Heap) (locs : List Loc) (ls : Array Slot), va_P D vwCl (vz_w [rcW g h ca ci cr cf, rcW g oh oa oi or of]) H → va_D A (vz_w [rcW g h ca ci cr cf, rcW g oh oa oi or of]) → va_S A s.heap H locs → lv_has ls 3 [(0, .ref h), (1, .ref oh), (2, .int (nI n2))] → W p l e { frames := 2, cells := 0, slots := 0, locals := 47 } s m args below meth c H locs 0 0 Q (F0 m 2 ls []) := by
    intro fu2
    induction fu2 with
    | zero => intro n2 z; omega
    | succ fu2 ih2 =>
      intro n2 hf2 hb2 H locs ls hP hD hS hl
      refine lv_iload_n hx hb dX4_agrees_2 rfl (lv_at hl 2 rfl) ?_
      refine lv_bipush (v := 9) hx hb dX4_agrees_3 (by decide) ?_
      refine lv_icmp_gt (tgt := 29) hx hb dX4_agrees_5 (by decide) (fun kc1 => ?_) (fun kc1 => ?_)
      · refine lv_aload_n hx hb dX4_agrees_29 rfl (lv_at hl 0 rfl) ?_
        refine va_get (D := D) (ci := 4) (v := .ref (ca 0)) (C := RX4) (T := TX4) (N := 12) hx hb hts inlX4 hown hK hP 0 rfl rfl 0 (by decide) (hts _ q119) (fun _ h => h) rfl dX4_agrees_30 ?_
        refine lv_aload_n hx hb dX4_agrees_33 rfl (lv_at hl 1 rfl) ?_
        refine va_get (D := D) (ci := 4) (v := .ref (oa 0)) (C := RX4) (T := TX4) (N := 12) hx hb hts inlX4 hown hK hP 11 rfl rfl 0 (by decide) (hts _ q119) (fun _ h => h) rfl dX4_agrees_34 ?_
        refine lv_iconst (v := 1) hx hb dX4_agrees_37 (by decide) ?_
        refine vz_Vi2 (ws' := fun u : Unit => vz_w [rcW g h ca ci cr cf, rcW g oh oa oi or of]) (As := [.ref (oa 0), .int 1]) (rest := []) hx hb hml hown hts hK hA hP hD hS (a_T_equalIn l D g H.size (fun k => ca (k + 0)) (fun _ => cr 0) (fun _ => cf 0) 400 1 (fun k => oa (k + 0)) (fun _ => or 0) (fun _ => of 0) 400 1 1 (fun _ => hw_c 0) (fun _ => hw_o 0) (by decide) (by decide) (by decide) (by decide)) kv_X4_71 ⟨Nat.le_of_ble_eq_true rfl, Nat.le_of_ble_eq_true rfl⟩ (q0 := 1) (ci := 6) rfl rfl rfl [1, 2, 12, 13] rfl (by decide) (fun _ => rfl) (fun _ => rfl) hl.1 (Nat.le_of_ble_eq_true rfl) dX4_agrees_38 ⟨Nat.le_refl _, Nat.le_refl _⟩ rfl (fun v2 _ H locs hz3 _ hP hD hS => ?_)
        refine lv_if_eq (tgt := 94) hx hb dX4_agrees_41 (by decide) (fun kc4 => ?_) (fun kc4 => ?_)
        · exact J94 (nI n2) H locs ls hP hD hS (lv_sub hl [0, 1, 2] rfl)
        · refine lv_aload_n hx hb dX4_agrees_44 rfl (lv_at hl 0 rfl) ?_
          refine va_get (D := D) (ci := 4) (v := .ref (ca 2)) (C := RX4) (T := TX4) (N := 12) hx hb hts inlX4 hown hK hP 0 rfl rfl 1 (by decide) (hts _ q120) (fun _ h => h) rfl dX4_agrees_45 ?_
          refine lv_aload_n hx hb dX4_agrees_48 rfl (lv_at hl 1 rfl) ?_
          refine va_get (D := D) (ci := 4) (v := .ref (oa 2)) (C := RX4) (T := TX4) (N := 12) hx hb hts inlX4 hown hK hP 11 rfl rfl 1 (by decide) (hts _ q120) (fun _ h => h) rfl dX4_agrees_49 ?_
          refine lv_bipush (v := 6) hx hb dX4_agrees_52 (by decide) ?_
          refine vz_Vi2 (ws' := fun u : Unit => vz_w [rcW g h ca ci cr cf, rcW g oh oa oi or of]) (As := [.ref (oa 2), .int 6]) (rest := []) hx hb hml hown hts hK hA hP hD hS (a_T_equalIn l D g H.size (fun k => ca (k + 2)) (fun _ => cr 1) (fun _ => cf 1) 400 7 (fun k => oa (k + 2)) (fun _ => or 1) (fun _ => of 1) 400 7 6 (fun _ => hw_c 1) (fun _ => hw_o 1) (by decide) (by decide) (by decide) (by decide)) kv_X4_71 ⟨Nat.le_of_ble_eq_true rfl, Nat.le_of_ble_eq_true rfl⟩ (q0 := 3) (ci := 6) rfl rfl rfl [3, 4, 14, 15] rfl (by decide) (fun _ => rfl) (fun _ => rfl) hl.1 (Nat.le_of_ble_eq_true rfl) dX4_agrees_54 ⟨Nat.le_refl _, Nat.le_refl _⟩ rfl (fun v5 _ H locs hz6 _ hP hD hS => ?_)
          refine lv_if_eq (tgt := 94) hx hb dX4_agrees_57 (by decide) (fun kc7 => ?_) (fun kc7 => ?_)
          · exact J94 (nI n2) H locs ls hP hD hS (lv_sub hl [0, 1, 2] rfl)
          · refine lv_aload_n hx hb dX4_agrees_60 rfl (lv_at hl 0 rfl) ?_
            refine va_get (D := D) (ci := 4) (v := .ref (ca 6)) (C := RX4) (T := TX4) (N := 12) hx hb hts inlX4 hown hK hP 0 rfl rfl 3 (by decide) (hts _ q122) (fun _ h => h) rfl dX4_agrees_61 ?_
            refine lv_aload_n hx hb dX4_agrees_64 rfl (lv_at hl 1 rfl) ?_
            refine va_get (D := D) (ci := 4) (v := .ref (oa 6)) (C := RX4) (T := TX4) (N := 12) hx hb hts inlX4 hown hK hP 11 rfl rfl 3 (by decide) (hts _ q122) (fun _ h => h) rfl dX4_agrees_65 ?_
            refine lv_iconst (v := 1) hx hb dX4_agrees_68 (by decide) ?_
            refine vz_Vi2 (ws' := fun u : Unit => vz_w [rcW g h ca ci cr cf, rcW g oh oa oi or of]) (As := [.ref (oa 6), .int 1]) (rest := []) hx hb hml hown hts hK hA hP hD hS (a_T_equalIn l D g H.size (fun k => ca (k + 6)) (fun _ => cr 3) (fun _ => cf 3) 400 1 (fun k => oa (k + 6)) (fun _ => or 3) (fun _ => of 3) 400 1 1 (fun _ => hw_c 3) (fun _ => hw_o 3) (by decide) (by decide) (by decide) (by decide)) kv_X4_71 ⟨Nat.le_of_ble_eq_true rfl, Nat.le_of_ble_eq_true rfl⟩ (q0 := 7) (ci := 6) rfl rfl rfl [7, 8, 18, 19] rfl (by decide) (fun _ => rfl) (fun _ => rfl) hl.1 (Nat.le_of_ble_eq_true rfl) dX4_agrees_69 ⟨Nat.le_refl _, Nat.le_refl _⟩ rfl (fun v8 _ H locs hz9 _ hP hD hS => ?_)
            refine lv_if_eq (tgt := 94) hx hb dX4_agrees_72 (by decide) (fun kc10 => ?_) (fun kc10 => ?_)
            · exact J94 (nI n2) H locs ls hP hD hS (lv_sub hl [0, 1, 2] rfl)
            · refine lv_aload_n hx hb dX4_agrees_75 rfl (lv_at hl 0 rfl) ?_
              refine va_get (D := D) (ci := 4) (v := .ref (ca 8)) (C := RX4) (T := TX4) (N := 12) hx hb hts inlX4 hown hK hP 0 rfl rfl 4 (by decide) (hts _ q123) (fun _ h => h) rfl dX4_agrees_76 ?_
              refine lv_aload_n hx hb dX4_agrees_79 rfl (lv_at hl 1 rfl) ?_
              refine va_get (D := D) (ci := 4) (v := .ref (oa 8)) (C := RX4) (T := TX4) (N := 12) hx hb hts inlX4 hown hK hP 11 rfl rfl 4 (by decide) (hts _ q123) (fun _ h => h) rfl dX4_agrees_80 ?_
              refine lv_iconst (v := 1) hx hb dX4_agrees_83 (by decide) ?_
              refine vz_Vi2 (ws' := fun u : Unit => vz_w [rcW g h ca ci cr cf, rcW g oh oa oi or of]) (As := [.ref (oa 8), .int 1]) (rest := []) hx hb hml hown hts hK hA hP hD hS (a_T_equalIn l D g H.size (fun k => ca (k + 8)) (fun _ => cr 4) (fun _ => cf 4) 80 1 (fun k => oa (k + 8)) (fun _ => or 4) (fun _ => of 4) 80 1 1 (fun _ => hw_c 4) (fun _ => hw_o 4) (by decide) (by decide) (by decide) (by decide)) kv_X4_71 ⟨Nat.le_of_ble_eq_true rfl, Nat.le_of_ble_eq_true rfl⟩ (q0 := 9) (ci := 6) rfl rfl rfl [9, 10, 20, 21] rfl (by decide) (fun _ => rfl) (fun _ => rfl) hl.1 (Nat.le_of_ble_eq_true rfl) dX4_agrees_84 ⟨Nat.le_refl _, Nat.le_refl _⟩ rfl (fun v11 _ H locs hz12 _ hP hD hS => ?_)
              refine lv_if_eq (tgt := 94) hx hb dX4_agrees_87 (by decide) (fun kc13 => ?_) (fun kc13 => ?_)
              · exact J94 (nI n2) H locs ls hP hD hS (lv_sub hl [0, 1, 2] rfl)
              · refine lv_iconst (v := 1) hx hb dX4_agrees_90 (by decide) ?_
                refine lv_goto (tgt := 95) hx hb dX4_agrees_91 (by decide) ?_
                exact J95 (nI n2) 1 (Or.inr rfl) H locs ls hP hD hS (lv_sub hl [0, 1, 2] rfl)
      · have hn2 : n2 < 10 := vz_ltgt (B := 9) (by decide) (by omega) kc1
        refine lv_aload_n hx hb dX4_agrees_8 rfl (lv_at hl 0 rfl) ?_
        refine lv_iload_n hx hb dX4_agrees_9 rfl (lv_at hl 2 rfl) ?_
        refine vz_Vi4 (n9 := 2) (bs2 := fun u : Unit => [rcW g h ca ci cr cf, rcW g oh oa oi or of]) (br := [rcW g oh oa oi or of]) (As := [.int (nI n2)]) (rest := []) hx hb hml hown hts hK hA hP hD hS (a_R_property l D g H.size h ca ci cr cf (nI n2) hw_c) kv_X4_67 ⟨Nat.le_of_ble_eq_true rfl, Nat.le_of_ble_eq_true rfl⟩ (q0 := 0) (ci := 4) rfl rfl rfl [0] [1] rfl (by decide) rfl (fun _ => rfl) (fun _ => rfl) hl.1 (Nat.le_of_ble_eq_true rfl) dX4_agrees_10 ⟨Nat.le_refl _, Nat.le_refl _⟩ rfl (fun v14 _ H locs _ _ hP hD hS => ?_)
        refine lv_aload_n hx hb dX4_agrees_13 rfl (lv_at hl 1 rfl) ?_
        refine lv_iload_n hx hb dX4_agrees_14 rfl (lv_at hl 2 rfl) ?_
        refine vz_Vi4 (n9 := 2) (bs2 := fun u : Unit => [rcW g h ca ci cr cf, rcW g oh oa oi or of]) (br := [rcW g h ca ci cr cf]) (As := [.int (nI n2)]) (rest := [.int v14]) hx hb hml hown hts hK hA hP hD hS (a_R_property l D g H.size oh oa oi or of (nI n2) hw_o) kv_X4_67 ⟨Nat.le_of_ble_eq_true rfl, Nat.le_of_ble_eq_true rfl⟩ (q0 := 11) (ci := 4) rfl rfl rfl [1] [0] rfl (by decide) rfl (fun _ => rfl) (fun _ => rfl) hl.1 (Nat.le_of_ble_eq_true rfl) dX4_agrees_15 ⟨Nat.le_refl _, Nat.le_refl _⟩ rfl (fun v15 _ H locs _ _ hP hD hS => ?_)
        refine lv_icmp_eq (tgt := 23) hx hb dX4_agrees_18 (by decide) (fun kc16 => ?_) (fun kc16 => ?_)
        · refine lv_iinc (v := (nI (n2 + 1))) (lv' := [(2, .int (nI (n2 + 1))), (0, .ref h), (1, .ref oh)]) hx hb dX4_agrees_23 hl (k := 2) rfl (nI_1 n2) (by decide) rfl (fun ls hl => ?_)
          refine lv_goto (tgt := 2) hx hb dX4_agrees_26 (by decide) ?_
          exact ih2 (n2 + 1) (by omega) (by omega) H locs ls hP hD hS (lv_sub hl [1, 2, 0] rfl)
        · refine lv_iconst (v := 0) hx hb dX4_agrees_21 (by decide) ?_
          rw [hQ]
          exact vz_zret3 hx hb hr hlk hK hP hD hS () (Or.inl rfl) rfl (Nat.le_refl 0) (Nat.le_refl 0) (by decide) dX4_agrees_22
  refine lv_iconst (v := 0) hx hb dX4_agrees_0 (by decide) ?_
  refine lv_istore_n (lv' := [(2, .int 0), (0, .ref h), (1, .ref oh)]) hx hb dX4_agrees_1 rfl hl (by decide) rfl (fun ls hl => ?_)
  exact J2 (11) 0 (by omega) (by omega) H locs ls hP hD hS (lv_sub hl [1, 2, 0] rfl)
theorem q1022 : Cond.methodLink RX8 61 yX4_restart ∈ wsL_law := mT_4 (List.mem_of_getElem? (i := 198) rfl) rfl
theorem q1023 : Cond.instanceMethod yX4_restart ∈ wsL_law := mT_4 (List.mem_of_getElem? (i := 199) rfl) rfl
theorem q1024 : Cond.selects RX4 yX4_restart yX4_restart ∈ wsL_law := mT_4 (List.mem_of_getElem? (i := 200) rfl) rfl
theorem q1025 : Cond.code yX4_restart cX4_restart 2 none ∈ wsL_law := mT_4 (List.mem_of_getElem? (i := 201) rfl) rfl
theorem kv_X8_61 : vz_cv RX8 61 yX4_restart cX4_restart 2 none 1 := ⟨q1022, q1023, q1024, q40, q1025, by decide +kernel⟩
theorem q1034 : Cond.methodLink RX8 67 yX6_reset ∈ wsL_law := mT_4 (List.mem_of_getElem? (i := 204) rfl) rfl
theorem kv_X8_67 : vz_cv RX8 67 yX6_reset cX6_reset 1 none 0 := ⟨q1034, q290, q291, q15, q292, by decide +kernel⟩
theorem q141 : Cond.methodLink RX8 43 yX6_fill ∈ wsL_law := mT_2 (List.mem_of_getElem? (i := 31) rfl) rfl
theorem kv_X8_43 : vz_cv RX8 43 yX6_fill cX6_fill 4 none 2 := ⟨q141, q142, q143, q15, q144, by decide +kernel⟩
theorem dX8_prepare_0 : decode cX8_prepare 0 = .ok (.aload_n 0, 1) := by decide +kernel
theorem dX8_prepare_1 : decode cX8_prepare 1 = .ok (.aload_n 1, 1) := by decide +kernel
theorem dX8_prepare_2 : decode cX8_prepare 2 = .ok (.putfield 9, 3) := by decide +kernel
theorem dX8_prepare_5 : decode cX8_prepare 5 = .ok (.aload_n 0, 1) := by decide +kernel
theorem dX8_prepare_6 : decode cX8_prepare 6 = .ok (.aload_n 2, 1) := by decide +kernel
theorem dX8_prepare_7 : decode cX8_prepare 7 = .ok (.putfield 15, 3) := by decide +kernel
theorem dX8_prepare_10 : decode cX8_prepare 10 = .ok (.aload_n 0, 1) := by decide +kernel
theorem dX8_prepare_11 : decode cX8_prepare 11 = .ok (.aload_n 3, 1) := by decide +kernel
theorem dX8_prepare_12 : decode cX8_prepare 12 = .ok (.putfield 19, 3) := by decide +kernel
theorem dX8_prepare_15 : decode cX8_prepare 15 = .ok (.aload_n 0, 1) := by decide +kernel
theorem dX8_prepare_16 : decode cX8_prepare 16 = .ok (.iload 4, 2) := by decide +kernel
theorem dX8_prepare_18 : decode cX8_prepare 18 = .ok (.putfield 50, 3) := by decide +kernel
theorem dX8_prepare_21 : decode cX8_prepare 21 = .ok (.aload_n 0, 1) := by decide +kernel
theorem dX8_prepare_22 : decode cX8_prepare 22 = .ok (.bipush (-9), 2) := by decide +kernel
theorem dX8_prepare_24 : decode cX8_prepare 24 = .ok (.putfield 46, 3) := by decide +kernel
theorem dX8_prepare_27 : decode cX8_prepare 27 = .ok (.aload_n 0, 1) := by decide +kernel
theorem dX8_prepare_28 : decode cX8_prepare 28 = .ok (.getfield 19, 3) := by decide +kernel
theorem dX8_prepare_31 : decode cX8_prepare 31 = .ok (.aload_n 0, 1) := by decide +kernel
theorem dX8_prepare_32 : decode cX8_prepare 32 = .ok (.getfield 9, 3) := by decide +kernel
theorem dX8_prepare_35 : decode cX8_prepare 35 = .ok (.getfield 53, 3) := by decide +kernel
theorem dX8_prepare_38 : decode cX8_prepare 38 = .ok (.getfield 58, 3) := by decide +kernel
theorem dX8_prepare_41 : decode cX8_prepare 41 = .ok (.invokevirtual 61, 3) := by decide +kernel
theorem dX8_prepare_44 : decode cX8_prepare 44 = .ok (.aload_n 0, 1) := by decide +kernel
theorem dX8_prepare_45 : decode cX8_prepare 45 = .ok (.getfield 31, 3) := by decide +kernel
theorem dX8_prepare_48 : decode cX8_prepare 48 = .ok (.invokevirtual 67, 3) := by decide +kernel
theorem dX8_prepare_51 : decode cX8_prepare 51 = .ok (.aload_n 0, 1) := by decide +kernel
theorem dX8_prepare_52 : decode cX8_prepare 52 = .ok (.getfield 37, 3) := by decide +kernel
theorem dX8_prepare_55 : decode cX8_prepare 55 = .ok (.invokevirtual 67, 3) := by decide +kernel
theorem dX8_prepare_58 : decode cX8_prepare 58 = .ok (.aload_n 0, 1) := by decide +kernel
theorem dX8_prepare_59 : decode cX8_prepare 59 = .ok (.getfield 40, 3) := by decide +kernel
theorem dX8_prepare_62 : decode cX8_prepare 62 = .ok (.aload_n 0, 1) := by decide +kernel
theorem dX8_prepare_63 : decode cX8_prepare 63 = .ok (.getfield 9, 3) := by decide +kernel
theorem dX8_prepare_66 : decode cX8_prepare 66 = .ok (.getfield 53, 3) := by decide +kernel
theorem dX8_prepare_69 : decode cX8_prepare 69 = .ok (.getfield 58, 3) := by decide +kernel
theorem dX8_prepare_72 : decode cX8_prepare 72 = .ok (.iconst 0, 1) := by decide +kernel
theorem dX8_prepare_73 : decode cX8_prepare 73 = .ok (.invokevirtual 43, 3) := by decide +kernel
theorem dX8_prepare_76 : decode cX8_prepare 76 = .ok (.return_, 1) := by decide +kernel
set_option maxHeartbeats 8000000 in
set_option maxRecDepth 100000 in
theorem a_W_prepare (l : Launch) (D : va_G) (g : Nat → ClassId)   (sz : Nat) (h : Nat) (wa : Nat → Nat) (wi : Nat → Int32) (wr : Nat → Nat) (wf : Nat → Nat → Int32) (oph : Nat) (orh : Nat) (opl : Nat) (ph : Nat) (pa : Nat → Nat) (pr : Nat → Nat) (pf : Nat → Nat → Int32) (rh : Nat) (ca : Nat → Nat) (ci : Nat → Int32) (cr : Nat → Nat) (cf : Nat → Nat → Int32) (la : Nat → Nat) (lr : Nat → Nat) (lf : Nat → Nat → Int32) (lmx : Nat) (n1 : Int32) (hw_w : ∀ k, wr k ≤ woW_lim k) (hw_p : ∀ k, pr k ≤ pgW_lim k) (hw_c : ∀ k, cr k ≤ rcW_lim k) (hw_l : ∀ k, lr k ≤ (plW_lim lmx) k) (hmx_l : lmx ≤ 30) : vz_Mv l D (tyG g) yX8_prepare cX8_prepare 5 3 59 0 0 [.ref h, .ref ph, .ref (la 0), .ref rh, .int n1] sz (vz_w [woW g h wa wi wr wf oph orh opl, pgW g ph pa pr pf, rcW g rh ca ci cr cf, plW g la lr lf lmx]) (fun u : (Nat → Int32) × (Nat → Nat) × (Nat → Nat → Int32) × (Nat → Int32) × (Nat → Nat) × (Nat → Nat → Int32) => (∀ k, u.2.1 k ≤ woW_lim k) ∧ (∀ k, u.2.2.2.2.1 k ≤ rcW_lim k)) (fun u => vz_w [woW g h wa u.1 u.2.1 u.2.2.1 ph rh (la 0), pgW g ph pa pr pf, rcW g rh ca u.2.2.2.1 u.2.2.2.2.1 u.2.2.2.2.2, plW g la lr lf lmx]) := by
  refine vz_svQ (by decide) (Nat.le_of_ble_eq_true rfl) (fun p e s m args below meth c hx hb hr hml hts hown hlk hin hK hsz A hA H locs hP hD hS ls hl Q hQ => ?_)
  have hl : lv_has ls 5 [(0, .ref h), (1, .ref ph), (2, .ref (la 0)), (3, .ref rh), (4, .int n1)] := hl
  refine lv_aload_n hx hb dX8_prepare_0 rfl (lv_at hl 0 rfl) ?_
  refine lv_aload_n hx hb dX8_prepare_1 rfl (lv_at hl 1 rfl) ?_
  refine va_put (D := D) (ci := 8) (v := .ref ph) (ty := .object "WaysAtlas$Program") (C := RX8) (T := TX8) (N := 11) hx hb hts inlX8 tyX8 tyX8_ok nmX8 hown hK hP hD hS 0 rfl rfl 5 (by decide) (hts _ q130) (fun _ h => h) rfl (by decide +kernel) rfl rfl (Nat.le_of_ble_eq_true rfl) dX8_prepare_2 (fun H locs hP hD hS => ?_)
  replace hP : va_P D vwCl (vz_w [woW g h wa wi wr wf ph orh opl, pgW g ph pa pr pf, rcW g rh ca ci cr cf, plW g la lr lf lmx]) H := hP
  replace hD : va_D A (vz_w [woW g h wa wi wr wf ph orh opl, pgW g ph pa pr pf, rcW g rh ca ci cr cf, plW g la lr lf lmx]) := hD
  refine lv_aload_n hx hb dX8_prepare_5 rfl (lv_at hl 0 rfl) ?_
  refine lv_aload_n hx hb dX8_prepare_6 rfl (lv_at hl 2 rfl) ?_
  refine va_put (D := D) (ci := 8) (v := .ref (la 0)) (ty := .object "WaysAtlas$Table") (C := RX8) (T := TX8) (N := 11) hx hb hts inlX8 tyX8 tyX8_ok nmX8 hown hK hP hD hS 0 rfl rfl 7 (by decide) (hts _ q131) (fun _ h => h) rfl (by decide +kernel) rfl rfl (Nat.le_of_ble_eq_true rfl) dX8_prepare_7 (fun H locs hP hD hS => ?_)
  replace hP : va_P D vwCl (vz_w [woW g h wa wi wr wf ph orh (la 0), pgW g ph pa pr pf, rcW g rh ca ci cr cf, plW g la lr lf lmx]) H := hP
  replace hD : va_D A (vz_w [woW g h wa wi wr wf ph orh (la 0), pgW g ph pa pr pf, rcW g rh ca ci cr cf, plW g la lr lf lmx]) := hD
  refine lv_aload_n hx hb dX8_prepare_10 rfl (lv_at hl 0 rfl) ?_
  refine lv_aload_n hx hb dX8_prepare_11 rfl (lv_at hl 3 rfl) ?_
  refine va_put (D := D) (ci := 8) (v := .ref rh) (ty := .object "WaysAtlas$RunRecord") (C := RX8) (T := TX8) (N := 11) hx hb hts inlX8 tyX8 tyX8_ok nmX8 hown hK hP hD hS 0 rfl rfl 6 (by decide) (hts _ q132) (fun _ h => h) rfl (by decide +kernel) rfl rfl (Nat.le_of_ble_eq_true rfl) dX8_prepare_12 (fun H locs hP hD hS => ?_)
  replace hP : va_P D vwCl (vz_w [woW g h wa wi wr wf ph rh (la 0), pgW g ph pa pr pf, rcW g rh ca ci cr cf, plW g la lr lf lmx]) H := hP
  replace hD : va_D A (vz_w [woW g h wa wi wr wf ph rh (la 0), pgW g ph pa pr pf, rcW g rh ca ci cr cf, plW g la lr lf lmx]) := hD
  refine lv_aload_n hx hb dX8_prepare_15 rfl (lv_at hl 0 rfl) ?_
  refine lv_iload hx hb dX8_prepare_16 (lv_at hl 4 rfl) ?_
  refine va_put (D := D) (ci := 8) (v := .int n1) (ty := .int) (C := RX8) (T := TX8) (N := 11) hx hb hts inlX8 tyX8 tyX8_ok nmX8 hown hK hP hD hS 0 rfl rfl 8 (by decide) (hts _ q1019) (fun _ h => h) rfl (by decide +kernel) rfl rfl (Nat.le_of_ble_eq_true rfl) dX8_prepare_18 (fun H locs hP hD hS => ?_)
  obtain ⟨wi_1, hwi_1, hP, hD⟩ : ∃ wi_1 : Nat → Int32, (wi_1 = (upd wi 0 n1)) ∧ va_P D vwCl (vz_w [woW g h wa wi_1 wr wf ph rh (la 0), pgW g ph pa pr pf, rcW g rh ca ci cr cf, plW g la lr lf lmx]) H ∧ va_D A (vz_w [woW g h wa wi_1 wr wf ph rh (la 0), pgW g ph pa pr pf, rcW g rh ca ci cr cf, plW g la lr lf lmx]) := ⟨(upd wi 0 n1), rfl, hP, hD⟩
  refine lv_aload_n hx hb dX8_prepare_21 rfl (lv_at hl 0 rfl) ?_
  refine lv_bipush (v := (-9)) hx hb dX8_prepare_22 (by decide) ?_
  refine va_put (D := D) (ci := 8) (v := .int (-9)) (ty := .int) (C := RX8) (T := TX8) (N := 11) hx hb hts inlX8 tyX8 tyX8_ok nmX8 hown hK hP hD hS 0 rfl rfl 9 (by decide) (hts _ q139) (fun _ h => h) rfl (by decide +kernel) rfl rfl (Nat.le_of_ble_eq_true rfl) dX8_prepare_24 (fun H locs hP hD hS => ?_)
  obtain ⟨wi_2, hwi_2, hP, hD⟩ : ∃ wi_2 : Nat → Int32, (wi_2 = (upd wi_1 1 (-9))) ∧ va_P D vwCl (vz_w [woW g h wa wi_2 wr wf ph rh (la 0), pgW g ph pa pr pf, rcW g rh ca ci cr cf, plW g la lr lf lmx]) H ∧ va_D A (vz_w [woW g h wa wi_2 wr wf ph rh (la 0), pgW g ph pa pr pf, rcW g rh ca ci cr cf, plW g la lr lf lmx]) := ⟨(upd wi_1 1 (-9)), rfl, hP, hD⟩
  refine lv_aload_n hx hb dX8_prepare_27 rfl (lv_at hl 0 rfl) ?_
  refine va_get (D := D) (ci := 8) (v := .ref rh) (C := RX8) (T := TX8) (N := 11) hx hb hts inlX8 hown hK hP 0 rfl rfl 6 (by decide) (hts _ q132) (fun _ h => h) rfl dX8_prepare_28 ?_
  refine lv_aload_n hx hb dX8_prepare_31 rfl (lv_at hl 0 rfl) ?_
  refine va_get (D := D) (ci := 8) (v := .ref ph) (C := RX8) (T := TX8) (N := 11) hx hb hts inlX8 hown hK hP 0 rfl rfl 5 (by decide) (hts _ q130) (fun _ h => h) rfl dX8_prepare_32 ?_
  refine va_get (D := D) (ci := 2) (v := .ref (pa 0)) (C := RX2) (T := TX2) (N := 5) hx hb hts inlX2 hown hK hP 11 rfl rfl 0 (by decide) (hts _ q1020) (fun _ h => h) rfl dX8_prepare_35 ?_
  refine va_get (D := D) (ci := 6) (v := .int (nI (pr 0))) (C := RX6) (T := TX6) (N := 4) hx hb hts inlX6 hown hK hP 12 rfl rfl 3 (by decide) (hts _ q1021) (fun _ h => h) rfl dX8_prepare_38 ?_
  refine vz_Vv4 (n9 := 4) (bs2 := fun u : (Nat → Int32) × (Nat → Nat) × (Nat → Nat → Int32) => [woW g h wa wi_2 wr wf ph rh (la 0), pgW g ph pa pr pf, rcW g rh ca u.1 u.2.1 u.2.2, plW g la lr lf lmx]) (br := [woW g h wa wi_2 wr wf ph rh (la 0), pgW g ph pa pr pf, plW g la lr lf lmx]) (As := [.int (nI (pr 0))]) (rest := []) hx hb hml hown hts hK hA hP hD hS (a_R_restart l D g H.size rh ca ci cr cf (nI (pr 0)) hw_c) kv_X8_61 ⟨Nat.le_of_ble_eq_true rfl, Nat.le_of_ble_eq_true rfl⟩ (q0 := 22) (ci := 4) rfl rfl rfl [2] [0, 1, 3] rfl (by decide) rfl (fun _ => rfl) (fun _ => rfl) hl.1 (Nat.le_of_ble_eq_true rfl) dX8_prepare_41 ⟨Nat.le_refl _, Nat.le_refl _⟩ rfl (fun ⟨ci_3, cr_4, cf_5⟩ H locs hw_6 _ hP hD hS => ?_)
  try dsimp only at hw_6
  replace hP : va_P D vwCl (vz_w [woW g h wa wi_2 wr wf ph rh (la 0), pgW g ph pa pr pf, rcW g rh ca ci_3 cr_4 cf_5, plW g la lr lf lmx]) H := hP
  replace hD : va_D A (vz_w [woW g h wa wi_2 wr wf ph rh (la 0), pgW g ph pa pr pf, rcW g rh ca ci_3 cr_4 cf_5, plW g la lr lf lmx]) := hD
  refine lv_aload_n hx hb dX8_prepare_44 rfl (lv_at hl 0 rfl) ?_
  refine va_get (D := D) (ci := 8) (v := .ref (wa 2)) (C := RX8) (T := TX8) (N := 11) hx hb hts inlX8 hown hK hP 0 rfl rfl 1 (by decide) (hts _ q135) (fun _ h => h) rfl dX8_prepare_45 ?_
  refine vz_Vv2 (ws' := fun u : Unit => vz_w [woW g h wa wi_2 (vz_un wr 1 0) wf ph rh (la 0), pgW g ph pa pr pf, rcW g rh ca ci_3 cr_4 cf_5, plW g la lr lf lmx]) (As := []) (rest := []) hx hb hml hown hts hK hA hP hD hS (c_T_reset l D g (wa 2) (wa 3) H.size (nI 12) (nI 12) (nI (wr 1))) kv_X8_67 ⟨Nat.le_of_ble_eq_true rfl, Nat.le_of_ble_eq_true rfl⟩ (q0 := 3) (ci := 6) rfl rfl rfl [3] rfl (by decide) (fun _ => rfl) (fun _ => rfl) hl.1 (Nat.le_of_ble_eq_true rfl) dX8_prepare_48 ⟨Nat.le_refl _, Nat.le_refl _⟩ rfl (fun _ H locs _ _ hP hD hS => ?_)
  obtain ⟨wr_7, hw_wr_7, hP, hD⟩ : ∃ wr_7 : Nat → Nat, (∀ k, wr_7 k ≤ woW_lim k) ∧ va_P D vwCl (vz_w [woW g h wa wi_2 wr_7 wf ph rh (la 0), pgW g ph pa pr pf, rcW g rh ca ci_3 cr_4 cf_5, plW g la lr lf lmx]) H ∧ va_D A (vz_w [woW g h wa wi_2 wr_7 wf ph rh (la 0), pgW g ph pa pr pf, rcW g rh ca ci_3 cr_4 cf_5, plW g la lr lf lmx]) := ⟨(vz_un wr 1 0), (vz_wf hw_w (t := 1) (v := 0) (Nat.zero_le _)), hP, hD⟩
  refine lv_aload_n hx hb dX8_prepare_51 rfl (lv_at hl 0 rfl) ?_
  refine va_get (D := D) (ci := 8) (v := .ref (wa 6)) (C := RX8) (T := TX8) (N := 11) hx hb hts inlX8 hown hK hP 0 rfl rfl 3 (by decide) (hts _ q137) (fun _ h => h) rfl dX8_prepare_52 ?_
  refine vz_Vv2 (ws' := fun u : Unit => vz_w [woW g h wa wi_2 (vz_un wr_7 3 0) wf ph rh (la 0), pgW g ph pa pr pf, rcW g rh ca ci_3 cr_4 cf_5, plW g la lr lf lmx]) (As := []) (rest := []) hx hb hml hown hts hK hA hP hD hS (c_T_reset l D g (wa 6) (wa 7) H.size (nI 9) (nI 400) (nI (wr_7 3))) kv_X8_67 ⟨Nat.le_of_ble_eq_true rfl, Nat.le_of_ble_eq_true rfl⟩ (q0 := 7) (ci := 6) rfl rfl rfl [7] rfl (by decide) (fun _ => rfl) (fun _ => rfl) hl.1 (Nat.le_of_ble_eq_true rfl) dX8_prepare_55 ⟨Nat.le_refl _, Nat.le_refl _⟩ rfl (fun _ H locs _ _ hP hD hS => ?_)
  obtain ⟨wr_8, hw_wr_8, hP, hD⟩ : ∃ wr_8 : Nat → Nat, (∀ k, wr_8 k ≤ woW_lim k) ∧ va_P D vwCl (vz_w [woW g h wa wi_2 wr_8 wf ph rh (la 0), pgW g ph pa pr pf, rcW g rh ca ci_3 cr_4 cf_5, plW g la lr lf lmx]) H ∧ va_D A (vz_w [woW g h wa wi_2 wr_8 wf ph rh (la 0), pgW g ph pa pr pf, rcW g rh ca ci_3 cr_4 cf_5, plW g la lr lf lmx]) := ⟨(vz_un wr_7 3 0), (vz_wf hw_wr_7 (t := 3) (v := 0) (Nat.zero_le _)), hP, hD⟩
  refine lv_aload_n hx hb dX8_prepare_58 rfl (lv_at hl 0 rfl) ?_
  refine va_get (D := D) (ci := 8) (v := .ref (wa 8)) (C := RX8) (T := TX8) (N := 11) hx hb hts inlX8 hown hK hP 0 rfl rfl 4 (by decide) (hts _ q138) (fun _ h => h) rfl dX8_prepare_59 ?_
  refine lv_aload_n hx hb dX8_prepare_62 rfl (lv_at hl 0 rfl) ?_
  refine va_get (D := D) (ci := 8) (v := .ref ph) (C := RX8) (T := TX8) (N := 11) hx hb hts inlX8 hown hK hP 0 rfl rfl 5 (by decide) (hts _ q130) (fun _ h => h) rfl dX8_prepare_63 ?_
  refine va_get (D := D) (ci := 2) (v := .ref (pa 0)) (C := RX2) (T := TX2) (N := 5) hx hb hts inlX2 hown hK hP 11 rfl rfl 0 (by decide) (hts _ q1020) (fun _ h => h) rfl dX8_prepare_66 ?_
  refine va_get (D := D) (ci := 6) (v := .int (nI (pr 0))) (C := RX6) (T := TX6) (N := 4) hx hb hts inlX6 hown hK hP 12 rfl rfl 3 (by decide) (hts _ q1021) (fun _ h => h) rfl dX8_prepare_69 ?_
  refine lv_iconst (v := 0) hx hb dX8_prepare_72 (by decide) ?_
  refine vz_Vv2 (ws' := fun u : (Nat × (Nat → Int32)) => vz_w [woW g h wa wi_2 (vz_un wr_8 4 u.1) (vz_uf wf 4 u.2) ph rh (la 0), pgW g ph pa pr pf, rcW g rh ca ci_3 cr_4 cf_5, plW g la lr lf lmx]) (As := [.int (nI (pr 0)), .int 0]) (rest := []) hx hb hml hown hts hK hA hP hD hS (c_T_fillw l D g (wa 8) (wa 9) H.size 7 80 (wr_8 4) 560 (wf 4) (nI (pr 0)) 0 ⟨rfl, by decide, by decide, by decide, by decide, hw_wr_8 4⟩) kv_X8_43 ⟨Nat.le_of_ble_eq_true rfl, Nat.le_of_ble_eq_true rfl⟩ (q0 := 9) (ci := 6) rfl rfl rfl [9, 10] rfl (by decide) (fun _ => rfl) (fun _ => rfl) hl.1 (Nat.le_of_ble_eq_true rfl) dX8_prepare_73 ⟨Nat.le_refl _, Nat.le_refl _⟩ rfl (fun ⟨u9R, u9f⟩ H locs ha10 _ hP hD hS => ?_)
  obtain ⟨wr_11, hw_wr_11, wf_12, hP, hD⟩ : ∃ wr_11 : Nat → Nat, (∀ k, wr_11 k ≤ woW_lim k) ∧ ∃ wf_12 : Nat → Nat → Int32, va_P D vwCl (vz_w [woW g h wa wi_2 wr_11 wf_12 ph rh (la 0), pgW g ph pa pr pf, rcW g rh ca ci_3 cr_4 cf_5, plW g la lr lf lmx]) H ∧ va_D A (vz_w [woW g h wa wi_2 wr_11 wf_12 ph rh (la 0), pgW g ph pa pr pf, rcW g rh ca ci_3 cr_4 cf_5, plW g la lr lf lmx]) := ⟨(vz_un wr_8 4 u9R), (vz_wf hw_wr_8 (t := 4) (v := u9R) (ha10)), (vz_uf wf 4 u9f), hP, hD⟩
  rw [hQ]
  exact vz_vret3 hx hb hr hlk hK hP hD hS (wi_2, wr_11, wf_12, ci_3, cr_4, cf_5) (⟨hw_wr_11, hw_6⟩) rfl (Nat.le_refl 0) (Nat.le_refl 0) dX8_prepare_76
theorem q24 : Cond.fieldLink RX9 28 "WaysAtlas" "present" "LWaysAtlas$Program;" ∈ wsL_law := mT_2 (List.mem_of_getElem? (i := 152) rfl) rfl
theorem q964 : Cond.fieldLink RX9 153 "WaysAtlas$Program" "methods" "LWaysAtlas$Table;" ∈ wsL_law := mT_1 (List.mem_of_getElem? (i := 103) rfl) rfl
theorem q259 : Cond.fieldLink RX9 118 "WaysAtlas$Table" "rows" "I" ∈ wsL_law := mT_1 (List.mem_of_getElem? (i := 39) rfl) rfl
theorem dX9_isNoMethod_0 : decode cX9_isNoMethod 0 = .ok (.iload_n 1, 1) := by decide +kernel
theorem dX9_isNoMethod_1 : decode cX9_isNoMethod 1 = .ok (.ifCond .lt 17, 3) := by decide +kernel
theorem dX9_isNoMethod_4 : decode cX9_isNoMethod 4 = .ok (.iload_n 1, 1) := by decide +kernel
theorem dX9_isNoMethod_5 : decode cX9_isNoMethod 5 = .ok (.aload_n 0, 1) := by decide +kernel
theorem dX9_isNoMethod_6 : decode cX9_isNoMethod 6 = .ok (.getfield 28, 3) := by decide +kernel
theorem dX9_isNoMethod_9 : decode cX9_isNoMethod 9 = .ok (.getfield 153, 3) := by decide +kernel
theorem dX9_isNoMethod_12 : decode cX9_isNoMethod 12 = .ok (.getfield 118, 3) := by decide +kernel
theorem dX9_isNoMethod_15 : decode cX9_isNoMethod 15 = .ok (.if_icmp .lt 7, 3) := by decide +kernel
theorem dX9_isNoMethod_18 : decode cX9_isNoMethod 18 = .ok (.iconst 1, 1) := by decide +kernel
theorem dX9_isNoMethod_19 : decode cX9_isNoMethod 19 = .ok (.goto 4, 3) := by decide +kernel
theorem dX9_isNoMethod_22 : decode cX9_isNoMethod 22 = .ok (.iconst 0, 1) := by decide +kernel
theorem dX9_isNoMethod_23 : decode cX9_isNoMethod 23 = .ok (.ireturn, 1) := by decide +kernel
set_option maxHeartbeats 8000000 in
set_option maxRecDepth 100000 in
theorem a_X_isNoMethod (l : Launch) (D : va_G) (g : Nat → ClassId)   (sz : Nat) (h : Nat) (ai : Nat → Int32) (xa : Nat → Nat) (sh : Nat) (vh : Nat) (coh : Nat) (wh : Nat) (kh : Nat) (mh : Nat) (la : Nat → Nat) (ea : Nat → Nat) (ua : Nat → Nat) (c1h : Nat) (c2h : Nat) (c3h : Nat) (c4h : Nat) (ph : Nat) (qh : Nat) (pa : Nat → Nat) (pr : Nat → Nat) (pf : Nat → Nat → Int32) (n1 : Int32) (hw_p : ∀ k, pr k ≤ pgW_lim k) : vz_Mi l D (tyG g) yX9_isNoMethod cX9_isNoMethod 2 0 0 0 0 .boolean [.ref h, .int n1] sz (vz_w [maW h ai (xa 0) sh vh coh wh kh mh (la 0) (ea 0) (ua 0) c1h c2h c3h c4h ph qh, pgW g ph pa pr pf]) (fun r (u : Unit) => (r = 0 ∨ r = 1)) (fun u => vz_w [maW h ai (xa 0) sh vh coh wh kh mh (la 0) (ea 0) (ua 0) c1h c2h c3h c4h ph qh, pgW g ph pa pr pf]) := by
  refine vz_siQ (by decide) (Nat.le_of_ble_eq_true rfl) (fun p e s m args below meth c hx hb hr hml hts hown hlk hin hK hsz A hA H locs hP hD hS ls hl Q hQ => ?_)
  have hl : lv_has ls 2 [(0, .ref h), (1, .int n1)] := hl
  have J23 : ∀ (y0_23 : Int32), (y0_23 = 0 ∨ y0_23 = 1) → ∀ (H : Heap) (locs : List Loc) (ls : Array Slot), va_P D vwCl (vz_w [maW h ai (xa 0) sh vh coh wh kh mh (la 0) (ea 0) (ua 0) c1h c2h c3h c4h ph qh, pgW g ph pa pr pf]) H → va_D A (vz_w [maW h ai (xa 0) sh vh coh wh kh mh (la 0) (ea 0) (ua 0) c1h c2h c3h c4h ph qh, pgW g ph pa pr pf]) → va_S A s.heap H locs → lv_has ls 2 [(0, .ref h), (1, .int n1)] → W p l e { frames := 0, cells := 0, slots := 0, locals := 0 } s m args below meth c H locs 0 0 Q (F0 m 23 ls [.int y0_23]) := by
    intro y0_23 hz_y0_23 H locs ls hP hD hS hl
    rw [hQ]
    exact vz_zret3 hx hb hr hlk hK hP hD hS () hz_y0_23 rfl (Nat.le_refl 0) (Nat.le_refl 0) (vz_nb hz_y0_23) dX9_isNoMethod_23
  have J18 : ∀ (H : Heap) (locs : List Loc) (ls : Array Slot), va_P D vwCl (vz_w [maW h ai (xa 0) sh vh coh wh kh mh (la 0) (ea 0) (ua 0) c1h c2h c3h c4h ph qh, pgW g ph pa pr pf]) H → va_D A (vz_w [maW h ai (xa 0) sh vh coh wh kh mh (la 0) (ea 0) (ua 0) c1h c2h c3h c4h ph qh, pgW g ph pa pr pf]) → va_S A s.heap H locs → lv_has ls 2 [(0, .ref h), (1, .int n1)] → W p l e { frames := 0, cells := 0, slots := 0, locals := 0 } s m args below meth c H locs 0 0 Q (F0 m 18 ls []) := by
    intro H locs ls hP hD hS hl
    refine lv_iconst (v := 1) hx hb dX9_isNoMethod_18 (by decide) ?_
    refine lv_goto (tgt := 23) hx hb dX9_isNoMethod_19 (by decide) ?_
    exact J23 1 (Or.inr rfl) H locs ls hP hD hS (lv_sub hl [0, 1] rfl)
  refine lv_iload_n hx hb dX9_isNoMethod_0 rfl (lv_at hl 1 rfl) ?_
  refine lv_if_lt (tgt := 18) hx hb dX9_isNoMethod_1 (by decide) (fun kc1 => ?_) (fun kc1 => ?_)
  · exact J18 H locs ls hP hD hS (lv_sub hl [0, 1] rfl)
  · refine lv_iload_n hx hb dX9_isNoMethod_4 rfl (lv_at hl 1 rfl) ?_
    refine lv_aload_n hx hb dX9_isNoMethod_5 rfl (lv_at hl 0 rfl) ?_
    refine va_get (D := D) (ci := 9) (v := .ref ph) (C := RX9) (T := TX9) (N := 17) hx hb hts inlX9 hown hK hP 0 rfl rfl 14 (by decide) (hts _ q24) (fun _ h => h) rfl dX9_isNoMethod_6 ?_
    refine va_get (D := D) (ci := 2) (v := .ref (pa 8)) (C := RX2) (T := TX2) (N := 5) hx hb hts inlX2 hown hK hP 1 rfl rfl 4 (by decide) (hts _ q964) (fun _ h => h) rfl dX9_isNoMethod_9 ?_
    refine va_get (D := D) (ci := 6) (v := .int (nI (pr 4))) (C := RX6) (T := TX6) (N := 4) hx hb hts inlX6 hown hK hP 10 rfl rfl 3 (by decide) (hts _ q259) (fun _ h => h) rfl dX9_isNoMethod_12 ?_
    refine lv_icmp_lt (tgt := 22) hx hb dX9_isNoMethod_15 (by decide) (fun kc2 => ?_) (fun kc2 => ?_)
    · refine lv_iconst (v := 0) hx hb dX9_isNoMethod_22 (by decide) ?_
      exact J23 0 (Or.inl rfl) H locs ls hP hD hS (lv_sub hl [0, 1] rfl)
    · exact J18 H locs ls hP hD hS (lv_sub hl [0, 1] rfl)
theorem q42 : Cond.fieldLink RX9 72 "WaysAtlas" "treeRun" "LWaysAtlas$RunRecord;" ∈ wsL_law := mT_2 (List.mem_of_getElem? (i := 149) rfl) rfl
theorem q41 : Cond.fieldLink RX9 68 "WaysAtlas" "codeRun" "LWaysAtlas$RunRecord;" ∈ wsL_law := mT_2 (List.mem_of_getElem? (i := 148) rfl) rfl
theorem dX9_chosen_0 : decode cX9_chosen 0 = .ok (.iload_n 1, 1) := by decide +kernel
theorem dX9_chosen_1 : decode cX9_chosen 1 = .ok (.iconst 1, 1) := by decide +kernel
theorem dX9_chosen_2 : decode cX9_chosen 2 = .ok (.if_icmp .ne 10, 3) := by decide +kernel
theorem dX9_chosen_5 : decode cX9_chosen 5 = .ok (.aload_n 0, 1) := by decide +kernel
theorem dX9_chosen_6 : decode cX9_chosen 6 = .ok (.getfield 72, 3) := by decide +kernel
theorem dX9_chosen_9 : decode cX9_chosen 9 = .ok (.goto 7, 3) := by decide +kernel
theorem dX9_chosen_12 : decode cX9_chosen 12 = .ok (.aload_n 0, 1) := by decide +kernel
theorem dX9_chosen_13 : decode cX9_chosen 13 = .ok (.getfield 68, 3) := by decide +kernel
theorem dX9_chosen_16 : decode cX9_chosen 16 = .ok (.areturn, 1) := by decide +kernel
set_option maxHeartbeats 8000000 in
set_option maxRecDepth 100000 in
theorem a_X_chosen (l : Launch) (D : va_G) (g : Nat → ClassId)   (sz : Nat) (h : Nat) (ai : Nat → Int32) (xa : Nat → Nat) (sh : Nat) (vh : Nat) (coh : Nat) (wh : Nat) (kh : Nat) (mh : Nat) (la : Nat → Nat) (ea : Nat → Nat) (ua : Nat → Nat) (c1h : Nat) (c2h : Nat) (c3h : Nat) (c4h : Nat) (ph : Nat) (qh : Nat) (n1 : Int32) : vz_Mr l D (tyG g) yX9_chosen cX9_chosen 2 0 0 0 0 (.object "WaysAtlas$RunRecord") [.ref h, .int n1] sz (vz_w [maW h ai (xa 0) sh vh coh wh kh mh (la 0) (ea 0) (ua 0) c1h c2h c3h c4h ph qh]) (fun u : Bool => bif u then c2h else c1h) (fun _ => vz_w [maW h ai (xa 0) sh vh coh wh kh mh (la 0) (ea 0) (ua 0) c1h c2h c3h c4h ph qh]) := by
  refine vz_srQ (by decide) (Nat.le_of_ble_eq_true rfl) (fun p e s m args below meth c hx hb hr hml hts hown hlk hin hK hsz A hA H locs hP hD hS ls hl Q hQ => ?_)
  have hl : lv_has ls 2 [(0, .ref h), (1, .int n1)] := hl
  refine lv_iload_n hx hb dX9_chosen_0 rfl (lv_at hl 1 rfl) ?_
  refine lv_iconst (v := 1) hx hb dX9_chosen_1 (by decide) ?_
  refine lv_icmp_ne (tgt := 12) hx hb dX9_chosen_2 (by decide) (fun kc1 => ?_) (fun kc1 => ?_)
  · refine lv_aload_n hx hb dX9_chosen_12 rfl (lv_at hl 0 rfl) ?_
    refine va_get (D := D) (ci := 9) (v := .ref c1h) (C := RX9) (T := TX9) (N := 17) hx hb hts inlX9 hown hK hP 0 rfl rfl 10 (by decide) (hts _ q41) (fun _ h => h) rfl dX9_chosen_13 ?_
    rw [hQ]
    exact vz_rret3 hx hb hr hlk hK hP hD hS false rfl rfl (Nat.le_refl 0) (Nat.le_refl 0) ⟨_, rfl⟩ dX9_chosen_16
  · refine lv_aload_n hx hb dX9_chosen_5 rfl (lv_at hl 0 rfl) ?_
    refine va_get (D := D) (ci := 9) (v := .ref c2h) (C := RX9) (T := TX9) (N := 17) hx hb hts inlX9 hown hK hP 0 rfl rfl 11 (by decide) (hts _ q42) (fun _ h => h) rfl dX9_chosen_6 ?_
    refine lv_goto (tgt := 16) hx hb dX9_chosen_9 (by decide) ?_
    rw [hQ]
    exact vz_rret3 hx hb hr hlk hK hP hD hS true rfl rfl (Nat.le_refl 0) (Nat.le_refl 0) ⟨_, rfl⟩ dX9_chosen_16
theorem q1518 : Cond.methodLink RX9 177 yX9_chosen ∈ wsL_law := mT_6 (List.mem_of_getElem? (i := 20) rfl) rfl
theorem q1519 : Cond.instanceMethod yX9_chosen ∈ wsL_law := mT_6 (List.mem_of_getElem? (i := 22) rfl) rfl
theorem q1520 : Cond.selects RX9 yX9_chosen yX9_chosen ∈ wsL_law := mS_7 (q := (yX9_chosen, 17)) (List.mem_of_getElem? (i := 6) rfl) rfl
theorem q2 : Cond.initialized RX9 ∈ wsL_law := mT_1 (List.mem_of_getElem? (i := 1) rfl) rfl
theorem q1521 : Cond.code yX9_chosen cX9_chosen 2 (some (.object "WaysAtlas$RunRecord")) ∈ wsL_law := mT_6 (List.mem_of_getElem? (i := 23) rfl) rfl
theorem kv_X9_177 : vz_cv RX9 177 yX9_chosen cX9_chosen 2 (some (.object "WaysAtlas$RunRecord")) 1 := ⟨q1518, q1519, q1520, q2, q1521, by decide +kernel⟩
theorem q282 : Cond.fieldLink RX9 147 "WaysAtlas$RunRecord" "ended" "I" ∈ wsL_law := mT_1 (List.mem_of_getElem? (i := 222) rfl) rfl
theorem dX9_isNoRun_0 : decode cX9_isNoRun 0 = .ok (.iload_n 1, 1) := by decide +kernel
theorem dX9_isNoRun_1 : decode cX9_isNoRun 1 = .ok (.ifCond .lt 21, 3) := by decide +kernel
theorem dX9_isNoRun_4 : decode cX9_isNoRun 4 = .ok (.iload_n 1, 1) := by decide +kernel
theorem dX9_isNoRun_5 : decode cX9_isNoRun 5 = .ok (.iconst 1, 1) := by decide +kernel
theorem dX9_isNoRun_6 : decode cX9_isNoRun 6 = .ok (.if_icmp .gt 16, 3) := by decide +kernel
theorem dX9_isNoRun_9 : decode cX9_isNoRun 9 = .ok (.aload_n 0, 1) := by decide +kernel
theorem dX9_isNoRun_10 : decode cX9_isNoRun 10 = .ok (.iload_n 1, 1) := by decide +kernel
theorem dX9_isNoRun_11 : decode cX9_isNoRun 11 = .ok (.invokevirtual 177, 3) := by decide +kernel
theorem dX9_isNoRun_14 : decode cX9_isNoRun 14 = .ok (.getfield 147, 3) := by decide +kernel
theorem dX9_isNoRun_17 : decode cX9_isNoRun 17 = .ok (.bipush (-9), 2) := by decide +kernel
theorem dX9_isNoRun_19 : decode cX9_isNoRun 19 = .ok (.if_icmp .ne 7, 3) := by decide +kernel
theorem dX9_isNoRun_22 : decode cX9_isNoRun 22 = .ok (.iconst 1, 1) := by decide +kernel
theorem dX9_isNoRun_23 : decode cX9_isNoRun 23 = .ok (.goto 4, 3) := by decide +kernel
theorem dX9_isNoRun_26 : decode cX9_isNoRun 26 = .ok (.iconst 0, 1) := by decide +kernel
theorem dX9_isNoRun_27 : decode cX9_isNoRun 27 = .ok (.ireturn, 1) := by decide +kernel
set_option maxHeartbeats 8000000 in
set_option maxRecDepth 100000 in
theorem a_X_isNoRun (l : Launch) (D : va_G) (g : Nat → ClassId)   (sz : Nat) (h : Nat) (ai : Nat → Int32) (xa : Nat → Nat) (sh : Nat) (vh : Nat) (coh : Nat) (wh : Nat) (kh : Nat) (mh : Nat) (la : Nat → Nat) (ea : Nat → Nat) (ua : Nat → Nat) (c1h : Nat) (c2h : Nat) (c3h : Nat) (c4h : Nat) (ph : Nat) (qh : Nat) (c1a : Nat → Nat) (c1i : Nat → Int32) (c1r : Nat → Nat) (c1f : Nat → Nat → Int32) (c2a : Nat → Nat) (c2i : Nat → Int32) (c2r : Nat → Nat) (c2f : Nat → Nat → Int32) (n1 : Int32) (hw_c1 : ∀ k, c1r k ≤ rcW_lim k) (hw_c2 : ∀ k, c2r k ≤ rcW_lim k) : vz_Mi l D (tyG g) yX9_isNoRun cX9_isNoRun 2 1 21 0 0 .boolean [.ref h, .int n1] sz (vz_w [maW h ai (xa 0) sh vh coh wh kh mh (la 0) (ea 0) (ua 0) c1h c2h c3h c4h ph qh, rcW g c1h c1a c1i c1r c1f, rcW g c2h c2a c2i c2r c2f]) (fun r (u : Unit) => (r = 0 ∨ r = 1)) (fun u => vz_w [maW h ai (xa 0) sh vh coh wh kh mh (la 0) (ea 0) (ua 0) c1h c2h c3h c4h ph qh, rcW g c1h c1a c1i c1r c1f, rcW g c2h c2a c2i c2r c2f]) := by
  refine vz_siQ (by decide) (Nat.le_of_ble_eq_true rfl) (fun p e s m args below meth c hx hb hr hml hts hown hlk hin hK hsz A hA H locs hP hD hS ls hl Q hQ => ?_)
  have hl : lv_has ls 2 [(0, .ref h), (1, .int n1)] := hl
  have J27 : ∀ (y0_27 : Int32), (y0_27 = 0 ∨ y0_27 = 1) → ∀ (H : Heap) (locs : List Loc) (ls : Array Slot), va_P D vwCl (vz_w [maW h ai (xa 0) sh vh coh wh kh mh (la 0) (ea 0) (ua 0) c1h c2h c3h c4h ph qh, rcW g c1h c1a c1i c1r c1f, rcW g c2h c2a c2i c2r c2f]) H → va_D A (vz_w [maW h ai (xa 0) sh vh coh wh kh mh (la 0) (ea 0) (ua 0) c1h c2h c3h c4h ph qh, rcW g c1h c1a c1i c1r c1f, rcW g c2h c2a c2i c2r c2f]) → va_S A s.heap H locs → lv_has ls 2 [(0, .ref h), (1, .int n1)] → W p l e { frames := 1, cells := 0, slots := 0, locals := 21 } s m args below meth c H locs 0 0 Q (F0 m 27 ls [.int y0_27]) := by
    intro y0_27 hz_y0_27 H locs ls hP hD hS hl
    rw [hQ]
    exact vz_zret3 hx hb hr hlk hK hP hD hS () hz_y0_27 rfl (Nat.le_refl 0) (Nat.le_refl 0) (vz_nb hz_y0_27) dX9_isNoRun_27
  have J22 : ∀ (H : Heap) (locs : List Loc) (ls : Array Slot), va_P D vwCl (vz_w [maW h ai (xa 0) sh vh coh wh kh mh (la 0) (ea 0) (ua 0) c1h c2h c3h c4h ph qh, rcW g c1h c1a c1i c1r c1f, rcW g c2h c2a c2i c2r c2f]) H → va_D A (vz_w [maW h ai (xa 0) sh vh coh wh kh mh (la 0) (ea 0) (ua 0) c1h c2h c3h c4h ph qh, rcW g c1h c1a c1i c1r c1f, rcW g c2h c2a c2i c2r c2f]) → va_S A s.heap H locs → lv_has ls 2 [(0, .ref h), (1, .int n1)] → W p l e { frames := 1, cells := 0, slots := 0, locals := 21 } s m args below meth c H locs 0 0 Q (F0 m 22 ls []) := by
    intro H locs ls hP hD hS hl
    refine lv_iconst (v := 1) hx hb dX9_isNoRun_22 (by decide) ?_
    refine lv_goto (tgt := 27) hx hb dX9_isNoRun_23 (by decide) ?_
    exact J27 1 (Or.inr rfl) H locs ls hP hD hS (lv_sub hl [0, 1] rfl)
  refine lv_iload_n hx hb dX9_isNoRun_0 rfl (lv_at hl 1 rfl) ?_
  refine lv_if_lt (tgt := 22) hx hb dX9_isNoRun_1 (by decide) (fun kc1 => ?_) (fun kc1 => ?_)
  · exact J22 H locs ls hP hD hS (lv_sub hl [0, 1] rfl)
  · refine lv_iload_n hx hb dX9_isNoRun_4 rfl (lv_at hl 1 rfl) ?_
    refine lv_iconst (v := 1) hx hb dX9_isNoRun_5 (by decide) ?_
    refine lv_icmp_gt (tgt := 22) hx hb dX9_isNoRun_6 (by decide) (fun kc2 => ?_) (fun kc2 => ?_)
    · exact J22 H locs ls hP hD hS (lv_sub hl [0, 1] rfl)
    · refine lv_aload_n hx hb dX9_isNoRun_9 rfl (lv_at hl 0 rfl) ?_
      refine lv_iload_n hx hb dX9_isNoRun_10 rfl (lv_at hl 1 rfl) ?_
      refine vz_Vr4 (n9 := 3) (bs2 := fun u : Bool => [maW h ai (xa 0) sh vh coh wh kh mh (la 0) (ea 0) (ua 0) c1h c2h c3h c4h ph qh, rcW g c1h c1a c1i c1r c1f, rcW g c2h c2a c2i c2r c2f]) (br := [rcW g c1h c1a c1i c1r c1f, rcW g c2h c2a c2i c2r c2f]) (As := [.int n1]) (rest := []) hx hb hml hown hts hK hA hP hD hS (a_X_chosen l D g H.size h ai xa sh vh coh wh kh mh la ea ua c1h c2h c3h c4h ph qh n1) kv_X9_177 ⟨Nat.le_of_ble_eq_true rfl, Nat.le_of_ble_eq_true rfl⟩ (q0 := 0) (ci := 9) rfl rfl rfl [0] [1, 2] rfl (by decide) rfl (fun _ => rfl) (fun _ => rfl) hl.1 (Nat.le_of_ble_eq_true rfl) dX9_isNoRun_11 ⟨Nat.le_refl _, Nat.le_refl _⟩ rfl (fun u9 v9 H locs hra9 _ hP hD hS => ?_)
      cases u9
      · replace hra9 : v9 = c1h := hra9
        subst v9
        refine va_get (D := D) (ci := 4) (v := .int (c1i 0)) (C := RX4) (T := TX4) (N := 12) hx hb hts inlX4 hown hK hP 1 rfl rfl 5 (by decide) (hts _ q282) (fun _ h => h) rfl dX9_isNoRun_14 ?_
        refine lv_bipush (v := (-9)) hx hb dX9_isNoRun_17 (by decide) ?_
        refine lv_icmp_ne (tgt := 26) hx hb dX9_isNoRun_19 (by decide) (fun kc3 => ?_) (fun kc3 => ?_)
        · refine lv_iconst (v := 0) hx hb dX9_isNoRun_26 (by decide) ?_
          exact J27 0 (Or.inl rfl) H locs ls hP hD hS (lv_sub hl [0, 1] rfl)
        · exact J22 H locs ls hP hD hS (lv_sub hl [0, 1] rfl)
      · replace hra9 : v9 = c2h := hra9
        subst v9
        refine va_get (D := D) (ci := 4) (v := .int (c2i 0)) (C := RX4) (T := TX4) (N := 12) hx hb hts inlX4 hown hK hP 12 rfl rfl 5 (by decide) (hts _ q282) (fun _ h => h) rfl dX9_isNoRun_14 ?_
        refine lv_bipush (v := (-9)) hx hb dX9_isNoRun_17 (by decide) ?_
        refine lv_icmp_ne (tgt := 26) hx hb dX9_isNoRun_19 (by decide) (fun kc4 => ?_) (fun kc4 => ?_)
        · refine lv_iconst (v := 0) hx hb dX9_isNoRun_26 (by decide) ?_
          exact J27 0 (Or.inl rfl) H locs ls hP hD hS (lv_sub hl [0, 1] rfl)
        · exact J22 H locs ls hP hD hS (lv_sub hl [0, 1] rfl)
theorem q1514 : Cond.methodLink RX9 174 yX9_isNoRun ∈ wsL_law := mT_6 (List.mem_of_getElem? (i := 16) rfl) rfl
theorem q1515 : Cond.instanceMethod yX9_isNoRun ∈ wsL_law := mT_6 (List.mem_of_getElem? (i := 18) rfl) rfl
theorem q1516 : Cond.selects RX9 yX9_isNoRun yX9_isNoRun ∈ wsL_law := mS_7 (q := (yX9_isNoRun, 17)) (List.mem_of_getElem? (i := 5) rfl) rfl
theorem q1517 : Cond.code yX9_isNoRun cX9_isNoRun 2 (some .boolean) ∈ wsL_law := mT_6 (List.mem_of_getElem? (i := 19) rfl) rfl
theorem kv_X9_174 : vz_cv RX9 174 yX9_isNoRun cX9_isNoRun 2 (some .boolean) 1 := ⟨q1514, q1515, q1516, q2, q1517, by decide +kernel⟩
theorem q1522 : Cond.methodLink RX9 181 yX4_property ∈ wsL_law := mT_6 (List.mem_of_getElem? (i := 24) rfl) rfl
theorem kv_X9_181 : vz_cv RX9 181 yX4_property cX4_property 2 (some .int) 1 := ⟨q1522, q1523, q1524, q40, q1525, by decide +kernel⟩
theorem dX9_ran_0 : decode cX9_ran 0 = .ok (.aload_n 0, 1) := by decide +kernel
theorem dX9_ran_1 : decode cX9_ran 1 = .ok (.iload_n 1, 1) := by decide +kernel
theorem dX9_ran_2 : decode cX9_ran 2 = .ok (.invokevirtual 174, 3) := by decide +kernel
theorem dX9_ran_5 : decode cX9_ran 5 = .ok (.ifCond .ne 13, 3) := by decide +kernel
theorem dX9_ran_8 : decode cX9_ran 8 = .ok (.iload_n 2, 1) := by decide +kernel
theorem dX9_ran_9 : decode cX9_ran 9 = .ok (.ifCond .lt 9, 3) := by decide +kernel
theorem dX9_ran_12 : decode cX9_ran 12 = .ok (.iload_n 2, 1) := by decide +kernel
theorem dX9_ran_13 : decode cX9_ran 13 = .ok (.bipush 9, 2) := by decide +kernel
theorem dX9_ran_15 : decode cX9_ran 15 = .ok (.if_icmp .le 5, 3) := by decide +kernel
theorem dX9_ran_18 : decode cX9_ran 18 = .ok (.iconst (-1), 1) := by decide +kernel
theorem dX9_ran_19 : decode cX9_ran 19 = .ok (.ireturn, 1) := by decide +kernel
theorem dX9_ran_20 : decode cX9_ran 20 = .ok (.aload_n 0, 1) := by decide +kernel
theorem dX9_ran_21 : decode cX9_ran 21 = .ok (.iload_n 1, 1) := by decide +kernel
theorem dX9_ran_22 : decode cX9_ran 22 = .ok (.invokevirtual 177, 3) := by decide +kernel
theorem dX9_ran_25 : decode cX9_ran 25 = .ok (.iload_n 2, 1) := by decide +kernel
theorem dX9_ran_26 : decode cX9_ran 26 = .ok (.invokevirtual 181, 3) := by decide +kernel
theorem dX9_ran_29 : decode cX9_ran 29 = .ok (.ireturn, 1) := by decide +kernel
set_option maxHeartbeats 8000000 in
set_option maxRecDepth 100000 in
theorem a_X_ran (l : Launch) (D : va_G) (g : Nat → ClassId)   (sz : Nat) (h : Nat) (ai : Nat → Int32) (xa : Nat → Nat) (sh : Nat) (vh : Nat) (coh : Nat) (wh : Nat) (kh : Nat) (mh : Nat) (la : Nat → Nat) (ea : Nat → Nat) (ua : Nat → Nat) (c1h : Nat) (c2h : Nat) (c3h : Nat) (c4h : Nat) (ph : Nat) (qh : Nat) (c1a : Nat → Nat) (c1i : Nat → Int32) (c1r : Nat → Nat) (c1f : Nat → Nat → Int32) (c2a : Nat → Nat) (c2i : Nat → Int32) (c2r : Nat → Nat) (c2f : Nat → Nat → Int32) (n1 : Int32) (n2 : Int32) (hw_c1 : ∀ k, c1r k ≤ rcW_lim k) (hw_c2 : ∀ k, c2r k ≤ rcW_lim k) : vz_Mi l D (tyG g) yX9_ran cX9_ran 3 2 42 0 0 .int [.ref h, .int n1, .int n2] sz (vz_w [maW h ai (xa 0) sh vh coh wh kh mh (la 0) (ea 0) (ua 0) c1h c2h c3h c4h ph qh, rcW g c1h c1a c1i c1r c1f, rcW g c2h c2a c2i c2r c2f]) (fun r (u : Unit) => True) (fun u => vz_w [maW h ai (xa 0) sh vh coh wh kh mh (la 0) (ea 0) (ua 0) c1h c2h c3h c4h ph qh, rcW g c1h c1a c1i c1r c1f, rcW g c2h c2a c2i c2r c2f]) := by
  refine vz_siQ (by decide) (Nat.le_of_ble_eq_true rfl) (fun p e s m args below meth c hx hb hr hml hts hown hlk hin hK hsz A hA H locs hP hD hS ls hl Q hQ => ?_)
  have hl : lv_has ls 3 [(0, .ref h), (1, .int n1), (2, .int n2)] := hl
  have J18 : ∀ (H : Heap) (locs : List Loc) (ls : Array Slot), va_P D vwCl (vz_w [maW h ai (xa 0) sh vh coh wh kh mh (la 0) (ea 0) (ua 0) c1h c2h c3h c4h ph qh, rcW g c1h c1a c1i c1r c1f, rcW g c2h c2a c2i c2r c2f]) H → va_D A (vz_w [maW h ai (xa 0) sh vh coh wh kh mh (la 0) (ea 0) (ua 0) c1h c2h c3h c4h ph qh, rcW g c1h c1a c1i c1r c1f, rcW g c2h c2a c2i c2r c2f]) → va_S A s.heap H locs → lv_has ls 3 [(0, .ref h), (1, .int n1), (2, .int n2)] → W p l e { frames := 2, cells := 0, slots := 0, locals := 42 } s m args below meth c H locs 0 0 Q (F0 m 18 ls []) := by
    intro H locs ls hP hD hS hl
    refine lv_iconst (v := (-1)) hx hb dX9_ran_18 (by decide) ?_
    rw [hQ]
    exact vz_iret3 hx hb hr hlk hK hP hD hS () trivial rfl (Nat.le_refl 0) (Nat.le_refl 0) dX9_ran_19
  refine lv_aload_n hx hb dX9_ran_0 rfl (lv_at hl 0 rfl) ?_
  refine lv_iload_n hx hb dX9_ran_1 rfl (lv_at hl 1 rfl) ?_
  refine vz_Vi3 (As := [.int n1]) (rest := []) hx hb hml hown hts hK hA hP hD hS (a_X_isNoRun l D g H.size h ai xa sh vh coh wh kh mh la ea ua c1h c2h c3h c4h ph qh c1a c1i c1r c1f c2a c2i c2r c2f n1 hw_c1 hw_c2) kv_X9_174 ⟨Nat.le_of_ble_eq_true rfl, Nat.le_of_ble_eq_true rfl⟩ (q0 := 0) (ci := 9) rfl rfl rfl  hl.1 (Nat.le_of_ble_eq_true rfl) dX9_ran_2 ⟨Nat.le_refl _, Nat.le_refl _⟩ rfl (fun v1 _ H locs hz2 _ hP hD hS => ?_)
  refine lv_if_ne (tgt := 18) hx hb dX9_ran_5 (by decide) (fun kc3 => ?_) (fun kc3 => ?_)
  · exact J18 H locs ls hP hD hS (lv_sub hl [0, 1, 2] rfl)
  · refine lv_iload_n hx hb dX9_ran_8 rfl (lv_at hl 2 rfl) ?_
    refine lv_if_lt (tgt := 18) hx hb dX9_ran_9 (by decide) (fun kc4 => ?_) (fun kc4 => ?_)
    · exact J18 H locs ls hP hD hS (lv_sub hl [0, 1, 2] rfl)
    · refine lv_iload_n hx hb dX9_ran_12 rfl (lv_at hl 2 rfl) ?_
      refine lv_bipush (v := 9) hx hb dX9_ran_13 (by decide) ?_
      refine lv_icmp_le (tgt := 20) hx hb dX9_ran_15 (by decide) (fun kc5 => ?_) (fun kc5 => ?_)
      · refine lv_aload_n hx hb dX9_ran_20 rfl (lv_at hl 0 rfl) ?_
        refine lv_iload_n hx hb dX9_ran_21 rfl (lv_at hl 1 rfl) ?_
        refine vz_Vr4 (n9 := 3) (bs2 := fun u : Bool => [maW h ai (xa 0) sh vh coh wh kh mh (la 0) (ea 0) (ua 0) c1h c2h c3h c4h ph qh, rcW g c1h c1a c1i c1r c1f, rcW g c2h c2a c2i c2r c2f]) (br := [rcW g c1h c1a c1i c1r c1f, rcW g c2h c2a c2i c2r c2f]) (As := [.int n1]) (rest := []) hx hb hml hown hts hK hA hP hD hS (a_X_chosen l D g H.size h ai xa sh vh coh wh kh mh la ea ua c1h c2h c3h c4h ph qh n1) kv_X9_177 ⟨Nat.le_of_ble_eq_true rfl, Nat.le_of_ble_eq_true rfl⟩ (q0 := 0) (ci := 9) rfl rfl rfl [0] [1, 2] rfl (by decide) rfl (fun _ => rfl) (fun _ => rfl) hl.1 (Nat.le_of_ble_eq_true rfl) dX9_ran_22 ⟨Nat.le_refl _, Nat.le_refl _⟩ rfl (fun u9 v9 H locs hra9 _ hP hD hS => ?_)
        cases u9
        · replace hra9 : v9 = c1h := hra9
          subst v9
          refine lv_iload_n hx hb dX9_ran_25 rfl (lv_at hl 2 rfl) ?_
          refine vz_Vi4 (n9 := 3) (bs2 := fun u : Unit => [maW h ai (xa 0) sh vh coh wh kh mh (la 0) (ea 0) (ua 0) c1h c2h c3h c4h ph qh, rcW g c1h c1a c1i c1r c1f, rcW g c2h c2a c2i c2r c2f]) (br := [maW h ai (xa 0) sh vh coh wh kh mh (la 0) (ea 0) (ua 0) c1h c2h c3h c4h ph qh, rcW g c2h c2a c2i c2r c2f]) (As := [.int n2]) (rest := []) hx hb hml hown hts hK hA hP hD hS (a_R_property l D g H.size c1h c1a c1i c1r c1f n2 hw_c1) kv_X9_181 ⟨Nat.le_of_ble_eq_true rfl, Nat.le_of_ble_eq_true rfl⟩ (q0 := 1) (ci := 4) rfl rfl rfl [1] [0, 2] rfl (by decide) rfl (fun _ => rfl) (fun _ => rfl) hl.1 (Nat.le_of_ble_eq_true rfl) dX9_ran_26 ⟨Nat.le_refl _, Nat.le_refl _⟩ rfl (fun v6 _ H locs _ _ hP hD hS => ?_)
          rw [hQ]
          exact vz_iret3 hx hb hr hlk hK hP hD hS () trivial rfl (Nat.le_refl 0) (Nat.le_refl 0) dX9_ran_29
        · replace hra9 : v9 = c2h := hra9
          subst v9
          refine lv_iload_n hx hb dX9_ran_25 rfl (lv_at hl 2 rfl) ?_
          refine vz_Vi4 (n9 := 3) (bs2 := fun u : Unit => [maW h ai (xa 0) sh vh coh wh kh mh (la 0) (ea 0) (ua 0) c1h c2h c3h c4h ph qh, rcW g c1h c1a c1i c1r c1f, rcW g c2h c2a c2i c2r c2f]) (br := [maW h ai (xa 0) sh vh coh wh kh mh (la 0) (ea 0) (ua 0) c1h c2h c3h c4h ph qh, rcW g c1h c1a c1i c1r c1f]) (As := [.int n2]) (rest := []) hx hb hml hown hts hK hA hP hD hS (a_R_property l D g H.size c2h c2a c2i c2r c2f n2 hw_c2) kv_X9_181 ⟨Nat.le_of_ble_eq_true rfl, Nat.le_of_ble_eq_true rfl⟩ (q0 := 12) (ci := 4) rfl rfl rfl [2] [0, 1] rfl (by decide) rfl (fun _ => rfl) (fun _ => rfl) hl.1 (Nat.le_of_ble_eq_true rfl) dX9_ran_26 ⟨Nat.le_refl _, Nat.le_refl _⟩ rfl (fun v7 _ H locs _ _ hP hD hS => ?_)
          rw [hQ]
          exact vz_iret3 hx hb hr hlk hK hP hD hS () trivial rfl (Nat.le_refl 0) (Nat.le_refl 0) dX9_ran_29
      · exact J18 H locs ls hP hD hS (lv_sub hl [0, 1, 2] rfl)
theorem q1539 : Cond.fieldLink RX9 185 "WaysAtlas$RunRecord" "tape" "LWaysAtlas$Table;" ∈ wsL_law := mT_1 (List.mem_of_getElem? (i := 207) rfl) rfl
theorem q1540 : Cond.methodLink RX9 188 yX6_get ∈ wsL_law := mT_6 (List.mem_of_getElem? (i := 32) rfl) rfl
theorem kv_X9_188 : vz_cv RX9 188 yX6_get cX6_get 4 (some .int) 2 := ⟨q1540, q294, q295, q15, q296, by decide +kernel⟩
theorem dX9_mark_0 : decode cX9_mark 0 = .ok (.aload_n 0, 1) := by decide +kernel
theorem dX9_mark_1 : decode cX9_mark 1 = .ok (.iload_n 1, 1) := by decide +kernel
theorem dX9_mark_2 : decode cX9_mark 2 = .ok (.invokevirtual 174, 3) := by decide +kernel
theorem dX9_mark_5 : decode cX9_mark 5 = .ok (.ifCond .eq 7, 3) := by decide +kernel
theorem dX9_mark_8 : decode cX9_mark 8 = .ok (.iconst (-1), 1) := by decide +kernel
theorem dX9_mark_9 : decode cX9_mark 9 = .ok (.goto 16, 3) := by decide +kernel
theorem dX9_mark_12 : decode cX9_mark 12 = .ok (.aload_n 0, 1) := by decide +kernel
theorem dX9_mark_13 : decode cX9_mark 13 = .ok (.iload_n 1, 1) := by decide +kernel
theorem dX9_mark_14 : decode cX9_mark 14 = .ok (.invokevirtual 177, 3) := by decide +kernel
theorem dX9_mark_17 : decode cX9_mark 17 = .ok (.getfield 185, 3) := by decide +kernel
theorem dX9_mark_20 : decode cX9_mark 20 = .ok (.iload_n 2, 1) := by decide +kernel
theorem dX9_mark_21 : decode cX9_mark 21 = .ok (.iconst 0, 1) := by decide +kernel
theorem dX9_mark_22 : decode cX9_mark 22 = .ok (.invokevirtual 188, 3) := by decide +kernel
theorem dX9_mark_25 : decode cX9_mark 25 = .ok (.ireturn, 1) := by decide +kernel
set_option maxHeartbeats 8000000 in
set_option maxRecDepth 100000 in
theorem a_X_mark (l : Launch) (D : va_G) (g : Nat → ClassId)   (sz : Nat) (h : Nat) (ai : Nat → Int32) (xa : Nat → Nat) (sh : Nat) (vh : Nat) (coh : Nat) (wh : Nat) (kh : Nat) (mh : Nat) (la : Nat → Nat) (ea : Nat → Nat) (ua : Nat → Nat) (c1h : Nat) (c2h : Nat) (c3h : Nat) (c4h : Nat) (ph : Nat) (qh : Nat) (c1a : Nat → Nat) (c1i : Nat → Int32) (c1r : Nat → Nat) (c1f : Nat → Nat → Int32) (c2a : Nat → Nat) (c2i : Nat → Int32) (c2r : Nat → Nat) (c2f : Nat → Nat → Int32) (n1 : Int32) (n2 : Int32) (hw_c1 : ∀ k, c1r k ≤ rcW_lim k) (hw_c2 : ∀ k, c2r k ≤ rcW_lim k) : vz_Mi l D (tyG g) yX9_mark cX9_mark 3 2 42 0 0 .int [.ref h, .int n1, .int n2] sz (vz_w [maW h ai (xa 0) sh vh coh wh kh mh (la 0) (ea 0) (ua 0) c1h c2h c3h c4h ph qh, rcW g c1h c1a c1i c1r c1f, rcW g c2h c2a c2i c2r c2f]) (fun r (u : Unit) => True) (fun u => vz_w [maW h ai (xa 0) sh vh coh wh kh mh (la 0) (ea 0) (ua 0) c1h c2h c3h c4h ph qh, rcW g c1h c1a c1i c1r c1f, rcW g c2h c2a c2i c2r c2f]) := by
  refine vz_siQ (by decide) (Nat.le_of_ble_eq_true rfl) (fun p e s m args below meth c hx hb hr hml hts hown hlk hin hK hsz A hA H locs hP hD hS ls hl Q hQ => ?_)
  have hl : lv_has ls 3 [(0, .ref h), (1, .int n1), (2, .int n2)] := hl
  have J25 : ∀ (y0_25 : Int32), ∀ (H : Heap) (locs : List Loc) (ls : Array Slot), va_P D vwCl (vz_w [maW h ai (xa 0) sh vh coh wh kh mh (la 0) (ea 0) (ua 0) c1h c2h c3h c4h ph qh, rcW g c1h c1a c1i c1r c1f, rcW g c2h c2a c2i c2r c2f]) H → va_D A (vz_w [maW h ai (xa 0) sh vh coh wh kh mh (la 0) (ea 0) (ua 0) c1h c2h c3h c4h ph qh, rcW g c1h c1a c1i c1r c1f, rcW g c2h c2a c2i c2r c2f]) → va_S A s.heap H locs → lv_has ls 3 [(0, .ref h), (1, .int n1), (2, .int n2)] → W p l e { frames := 2, cells := 0, slots := 0, locals := 42 } s m args below meth c H locs 0 0 Q (F0 m 25 ls [.int y0_25]) := by
    intro y0_25 H locs ls hP hD hS hl
    rw [hQ]
    exact vz_iret3 hx hb hr hlk hK hP hD hS () trivial rfl (Nat.le_refl 0) (Nat.le_refl 0) dX9_mark_25
  refine lv_aload_n hx hb dX9_mark_0 rfl (lv_at hl 0 rfl) ?_
  refine lv_iload_n hx hb dX9_mark_1 rfl (lv_at hl 1 rfl) ?_
  refine vz_Vi3 (As := [.int n1]) (rest := []) hx hb hml hown hts hK hA hP hD hS (a_X_isNoRun l D g H.size h ai xa sh vh coh wh kh mh la ea ua c1h c2h c3h c4h ph qh c1a c1i c1r c1f c2a c2i c2r c2f n1 hw_c1 hw_c2) kv_X9_174 ⟨Nat.le_of_ble_eq_true rfl, Nat.le_of_ble_eq_true rfl⟩ (q0 := 0) (ci := 9) rfl rfl rfl  hl.1 (Nat.le_of_ble_eq_true rfl) dX9_mark_2 ⟨Nat.le_refl _, Nat.le_refl _⟩ rfl (fun v1 _ H locs hz2 _ hP hD hS => ?_)
  refine lv_if_eq (tgt := 12) hx hb dX9_mark_5 (by decide) (fun kc3 => ?_) (fun kc3 => ?_)
  · refine lv_aload_n hx hb dX9_mark_12 rfl (lv_at hl 0 rfl) ?_
    refine lv_iload_n hx hb dX9_mark_13 rfl (lv_at hl 1 rfl) ?_
    refine vz_Vr4 (n9 := 3) (bs2 := fun u : Bool => [maW h ai (xa 0) sh vh coh wh kh mh (la 0) (ea 0) (ua 0) c1h c2h c3h c4h ph qh, rcW g c1h c1a c1i c1r c1f, rcW g c2h c2a c2i c2r c2f]) (br := [rcW g c1h c1a c1i c1r c1f, rcW g c2h c2a c2i c2r c2f]) (As := [.int n1]) (rest := []) hx hb hml hown hts hK hA hP hD hS (a_X_chosen l D g H.size h ai xa sh vh coh wh kh mh la ea ua c1h c2h c3h c4h ph qh n1) kv_X9_177 ⟨Nat.le_of_ble_eq_true rfl, Nat.le_of_ble_eq_true rfl⟩ (q0 := 0) (ci := 9) rfl rfl rfl [0] [1, 2] rfl (by decide) rfl (fun _ => rfl) (fun _ => rfl) hl.1 (Nat.le_of_ble_eq_true rfl) dX9_mark_14 ⟨Nat.le_refl _, Nat.le_refl _⟩ rfl (fun u9 v9 H locs hra9 _ hP hD hS => ?_)
    cases u9
    · replace hra9 : v9 = c1h := hra9
      subst v9
      refine va_get (D := D) (ci := 4) (v := .ref (c1a 0)) (C := RX4) (T := TX4) (N := 12) hx hb hts inlX4 hown hK hP 1 rfl rfl 0 (by decide) (hts _ q1539) (fun _ h => h) rfl dX9_mark_17 ?_
      refine lv_iload_n hx hb dX9_mark_20 rfl (lv_at hl 2 rfl) ?_
      refine lv_iconst (v := 0) hx hb dX9_mark_21 (by decide) ?_
      refine vz_Vi2 (ws' := fun u : Unit => vz_w [maW h ai (xa 0) sh vh coh wh kh mh (la 0) (ea 0) (ua 0) c1h c2h c3h c4h ph qh, rcW g c1h c1a c1i c1r c1f, rcW g c2h c2a c2i c2r c2f]) (As := [.int n2, .int 0]) (rest := []) hx hb hml hown hts hK hA hP hD hS (c_T_get l D g (c1a 0) (c1a 1) H.size 1 400 (c1r 0) 400 (c1f 0) n2 0 ⟨rfl, by decide, by decide, by decide, by decide, hw_c1 0⟩) kv_X9_188 ⟨Nat.le_of_ble_eq_true rfl, Nat.le_of_ble_eq_true rfl⟩ (q0 := 2) (ci := 6) rfl rfl rfl [2, 3] rfl (by decide) (fun _ => rfl) (fun _ => rfl) hl.1 (Nat.le_of_ble_eq_true rfl) dX9_mark_22 ⟨Nat.le_refl _, Nat.le_refl _⟩ rfl (fun v4 _ H locs he5 _ hP hD hS => ?_)
      exact J25 v4 H locs ls hP hD hS (lv_sub hl [0, 1, 2] rfl)
    · replace hra9 : v9 = c2h := hra9
      subst v9
      refine va_get (D := D) (ci := 4) (v := .ref (c2a 0)) (C := RX4) (T := TX4) (N := 12) hx hb hts inlX4 hown hK hP 12 rfl rfl 0 (by decide) (hts _ q1539) (fun _ h => h) rfl dX9_mark_17 ?_
      refine lv_iload_n hx hb dX9_mark_20 rfl (lv_at hl 2 rfl) ?_
      refine lv_iconst (v := 0) hx hb dX9_mark_21 (by decide) ?_
      refine vz_Vi2 (ws' := fun u : Unit => vz_w [maW h ai (xa 0) sh vh coh wh kh mh (la 0) (ea 0) (ua 0) c1h c2h c3h c4h ph qh, rcW g c1h c1a c1i c1r c1f, rcW g c2h c2a c2i c2r c2f]) (As := [.int n2, .int 0]) (rest := []) hx hb hml hown hts hK hA hP hD hS (c_T_get l D g (c2a 0) (c2a 1) H.size 1 400 (c2r 0) 400 (c2f 0) n2 0 ⟨rfl, by decide, by decide, by decide, by decide, hw_c2 0⟩) kv_X9_188 ⟨Nat.le_of_ble_eq_true rfl, Nat.le_of_ble_eq_true rfl⟩ (q0 := 13) (ci := 6) rfl rfl rfl [13, 14] rfl (by decide) (fun _ => rfl) (fun _ => rfl) hl.1 (Nat.le_of_ble_eq_true rfl) dX9_mark_22 ⟨Nat.le_refl _, Nat.le_refl _⟩ rfl (fun v6 _ H locs he7 _ hP hD hS => ?_)
      exact J25 v6 H locs ls hP hD hS (lv_sub hl [0, 1, 2] rfl)
  · refine lv_iconst (v := (-1)) hx hb dX9_mark_8 (by decide) ?_
    refine lv_goto (tgt := 25) hx hb dX9_mark_9 (by decide) ?_
    exact J25 (-1) H locs ls hP hD hS (lv_sub hl [0, 1, 2] rfl)
theorem q1549 : Cond.fieldLink RX9 192 "WaysAtlas$RunRecord" "failures" "LWaysAtlas$Table;" ∈ wsL_law := mT_1 (List.mem_of_getElem? (i := 210) rfl) rfl
theorem dX9_failure_0 : decode cX9_failure 0 = .ok (.aload_n 0, 1) := by decide +kernel
theorem dX9_failure_1 : decode cX9_failure 1 = .ok (.iload_n 1, 1) := by decide +kernel
theorem dX9_failure_2 : decode cX9_failure 2 = .ok (.invokevirtual 174, 3) := by decide +kernel
theorem dX9_failure_5 : decode cX9_failure 5 = .ok (.ifCond .ne 12, 3) := by decide +kernel
theorem dX9_failure_8 : decode cX9_failure 8 = .ok (.iload_n 3, 1) := by decide +kernel
theorem dX9_failure_9 : decode cX9_failure 9 = .ok (.ifCond .lt 8, 3) := by decide +kernel
theorem dX9_failure_12 : decode cX9_failure 12 = .ok (.iload_n 3, 1) := by decide +kernel
theorem dX9_failure_13 : decode cX9_failure 13 = .ok (.iconst 5, 1) := by decide +kernel
theorem dX9_failure_14 : decode cX9_failure 14 = .ok (.if_icmp .le 5, 3) := by decide +kernel
theorem dX9_failure_17 : decode cX9_failure 17 = .ok (.iconst (-1), 1) := by decide +kernel
theorem dX9_failure_18 : decode cX9_failure 18 = .ok (.ireturn, 1) := by decide +kernel
theorem dX9_failure_19 : decode cX9_failure 19 = .ok (.aload_n 0, 1) := by decide +kernel
theorem dX9_failure_20 : decode cX9_failure 20 = .ok (.iload_n 1, 1) := by decide +kernel
theorem dX9_failure_21 : decode cX9_failure 21 = .ok (.invokevirtual 177, 3) := by decide +kernel
theorem dX9_failure_24 : decode cX9_failure 24 = .ok (.getfield 192, 3) := by decide +kernel
theorem dX9_failure_27 : decode cX9_failure 27 = .ok (.iload_n 2, 1) := by decide +kernel
theorem dX9_failure_28 : decode cX9_failure 28 = .ok (.iload_n 3, 1) := by decide +kernel
theorem dX9_failure_29 : decode cX9_failure 29 = .ok (.invokevirtual 188, 3) := by decide +kernel
theorem dX9_failure_32 : decode cX9_failure 32 = .ok (.ireturn, 1) := by decide +kernel
set_option maxHeartbeats 8000000 in
set_option maxRecDepth 100000 in
theorem a_X_failure (l : Launch) (D : va_G) (g : Nat → ClassId)   (sz : Nat) (h : Nat) (ai : Nat → Int32) (xa : Nat → Nat) (sh : Nat) (vh : Nat) (coh : Nat) (wh : Nat) (kh : Nat) (mh : Nat) (la : Nat → Nat) (ea : Nat → Nat) (ua : Nat → Nat) (c1h : Nat) (c2h : Nat) (c3h : Nat) (c4h : Nat) (ph : Nat) (qh : Nat) (c1a : Nat → Nat) (c1i : Nat → Int32) (c1r : Nat → Nat) (c1f : Nat → Nat → Int32) (c2a : Nat → Nat) (c2i : Nat → Int32) (c2r : Nat → Nat) (c2f : Nat → Nat → Int32) (n1 : Int32) (n2 : Int32) (n3 : Int32) (hw_c1 : ∀ k, c1r k ≤ rcW_lim k) (hw_c2 : ∀ k, c2r k ≤ rcW_lim k) : vz_Mi l D (tyG g) yX9_failure cX9_failure 4 2 42 0 0 .int [.ref h, .int n1, .int n2, .int n3] sz (vz_w [maW h ai (xa 0) sh vh coh wh kh mh (la 0) (ea 0) (ua 0) c1h c2h c3h c4h ph qh, rcW g c1h c1a c1i c1r c1f, rcW g c2h c2a c2i c2r c2f]) (fun r (u : Unit) => True) (fun u => vz_w [maW h ai (xa 0) sh vh coh wh kh mh (la 0) (ea 0) (ua 0) c1h c2h c3h c4h ph qh, rcW g c1h c1a c1i c1r c1f, rcW g c2h c2a c2i c2r c2f]) := by
  refine vz_siQ (by decide) (Nat.le_of_ble_eq_true rfl) (fun p e s m args below meth c hx hb hr hml hts hown hlk hin hK hsz A hA H locs hP hD hS ls hl Q hQ => ?_)
  have hl : lv_has ls 4 [(0, .ref h), (1, .int n1), (2, .int n2), (3, .int n3)] := hl
  have J17 : ∀ (H : Heap) (locs : List Loc) (ls : Array Slot), va_P D vwCl (vz_w [maW h ai (xa 0) sh vh coh wh kh mh (la 0) (ea 0) (ua 0) c1h c2h c3h c4h ph qh, rcW g c1h c1a c1i c1r c1f, rcW g c2h c2a c2i c2r c2f]) H → va_D A (vz_w [maW h ai (xa 0) sh vh coh wh kh mh (la 0) (ea 0) (ua 0) c1h c2h c3h c4h ph qh, rcW g c1h c1a c1i c1r c1f, rcW g c2h c2a c2i c2r c2f]) → va_S A s.heap H locs → lv_has ls 4 [(0, .ref h), (1, .int n1), (2, .int n2), (3, .int n3)] → W p l e { frames := 2, cells := 0, slots := 0, locals := 42 } s m args below meth c H locs 0 0 Q (F0 m 17 ls []) := by
    intro H locs ls hP hD hS hl
    refine lv_iconst (v := (-1)) hx hb dX9_failure_17 (by decide) ?_
    rw [hQ]
    exact vz_iret3 hx hb hr hlk hK hP hD hS () trivial rfl (Nat.le_refl 0) (Nat.le_refl 0) dX9_failure_18
  refine lv_aload_n hx hb dX9_failure_0 rfl (lv_at hl 0 rfl) ?_
  refine lv_iload_n hx hb dX9_failure_1 rfl (lv_at hl 1 rfl) ?_
  refine vz_Vi3 (As := [.int n1]) (rest := []) hx hb hml hown hts hK hA hP hD hS (a_X_isNoRun l D g H.size h ai xa sh vh coh wh kh mh la ea ua c1h c2h c3h c4h ph qh c1a c1i c1r c1f c2a c2i c2r c2f n1 hw_c1 hw_c2) kv_X9_174 ⟨Nat.le_of_ble_eq_true rfl, Nat.le_of_ble_eq_true rfl⟩ (q0 := 0) (ci := 9) rfl rfl rfl  hl.1 (Nat.le_of_ble_eq_true rfl) dX9_failure_2 ⟨Nat.le_refl _, Nat.le_refl _⟩ rfl (fun v1 _ H locs hz2 _ hP hD hS => ?_)
  refine lv_if_ne (tgt := 17) hx hb dX9_failure_5 (by decide) (fun kc3 => ?_) (fun kc3 => ?_)
  · exact J17 H locs ls hP hD hS (lv_sub hl [0, 1, 2, 3] rfl)
  · refine lv_iload_n hx hb dX9_failure_8 rfl (lv_at hl 3 rfl) ?_
    refine lv_if_lt (tgt := 17) hx hb dX9_failure_9 (by decide) (fun kc4 => ?_) (fun kc4 => ?_)
    · exact J17 H locs ls hP hD hS (lv_sub hl [0, 1, 2, 3] rfl)
    · refine lv_iload_n hx hb dX9_failure_12 rfl (lv_at hl 3 rfl) ?_
      refine lv_iconst (v := 5) hx hb dX9_failure_13 (by decide) ?_
      refine lv_icmp_le (tgt := 19) hx hb dX9_failure_14 (by decide) (fun kc5 => ?_) (fun kc5 => ?_)
      · refine lv_aload_n hx hb dX9_failure_19 rfl (lv_at hl 0 rfl) ?_
        refine lv_iload_n hx hb dX9_failure_20 rfl (lv_at hl 1 rfl) ?_
        refine vz_Vr4 (n9 := 3) (bs2 := fun u : Bool => [maW h ai (xa 0) sh vh coh wh kh mh (la 0) (ea 0) (ua 0) c1h c2h c3h c4h ph qh, rcW g c1h c1a c1i c1r c1f, rcW g c2h c2a c2i c2r c2f]) (br := [rcW g c1h c1a c1i c1r c1f, rcW g c2h c2a c2i c2r c2f]) (As := [.int n1]) (rest := []) hx hb hml hown hts hK hA hP hD hS (a_X_chosen l D g H.size h ai xa sh vh coh wh kh mh la ea ua c1h c2h c3h c4h ph qh n1) kv_X9_177 ⟨Nat.le_of_ble_eq_true rfl, Nat.le_of_ble_eq_true rfl⟩ (q0 := 0) (ci := 9) rfl rfl rfl [0] [1, 2] rfl (by decide) rfl (fun _ => rfl) (fun _ => rfl) hl.1 (Nat.le_of_ble_eq_true rfl) dX9_failure_21 ⟨Nat.le_refl _, Nat.le_refl _⟩ rfl (fun u9 v9 H locs hra9 _ hP hD hS => ?_)
        cases u9
        · replace hra9 : v9 = c1h := hra9
          subst v9
          refine va_get (D := D) (ci := 4) (v := .ref (c1a 2)) (C := RX4) (T := TX4) (N := 12) hx hb hts inlX4 hown hK hP 1 rfl rfl 1 (by decide) (hts _ q1549) (fun _ h => h) rfl dX9_failure_24 ?_
          refine lv_iload_n hx hb dX9_failure_27 rfl (lv_at hl 2 rfl) ?_
          refine lv_iload_n hx hb dX9_failure_28 rfl (lv_at hl 3 rfl) ?_
          refine vz_Vi2 (ws' := fun u : Unit => vz_w [maW h ai (xa 0) sh vh coh wh kh mh (la 0) (ea 0) (ua 0) c1h c2h c3h c4h ph qh, rcW g c1h c1a c1i c1r c1f, rcW g c2h c2a c2i c2r c2f]) (As := [.int n2, .int n3]) (rest := []) hx hb hml hown hts hK hA hP hD hS (c_T_get l D g (c1a 2) (c1a 3) H.size 7 400 (c1r 1) 2800 (c1f 1) n2 n3 ⟨rfl, by decide, by decide, by decide, by decide, hw_c1 1⟩) kv_X9_188 ⟨Nat.le_of_ble_eq_true rfl, Nat.le_of_ble_eq_true rfl⟩ (q0 := 4) (ci := 6) rfl rfl rfl [4, 5] rfl (by decide) (fun _ => rfl) (fun _ => rfl) hl.1 (Nat.le_of_ble_eq_true rfl) dX9_failure_29 ⟨Nat.le_refl _, Nat.le_refl _⟩ rfl (fun v6 _ H locs he7 _ hP hD hS => ?_)
          rw [hQ]
          exact vz_iret3 hx hb hr hlk hK hP hD hS () trivial rfl (Nat.le_refl 0) (Nat.le_refl 0) dX9_failure_32
        · replace hra9 : v9 = c2h := hra9
          subst v9
          refine va_get (D := D) (ci := 4) (v := .ref (c2a 2)) (C := RX4) (T := TX4) (N := 12) hx hb hts inlX4 hown hK hP 12 rfl rfl 1 (by decide) (hts _ q1549) (fun _ h => h) rfl dX9_failure_24 ?_
          refine lv_iload_n hx hb dX9_failure_27 rfl (lv_at hl 2 rfl) ?_
          refine lv_iload_n hx hb dX9_failure_28 rfl (lv_at hl 3 rfl) ?_
          refine vz_Vi2 (ws' := fun u : Unit => vz_w [maW h ai (xa 0) sh vh coh wh kh mh (la 0) (ea 0) (ua 0) c1h c2h c3h c4h ph qh, rcW g c1h c1a c1i c1r c1f, rcW g c2h c2a c2i c2r c2f]) (As := [.int n2, .int n3]) (rest := []) hx hb hml hown hts hK hA hP hD hS (c_T_get l D g (c2a 2) (c2a 3) H.size 7 400 (c2r 1) 2800 (c2f 1) n2 n3 ⟨rfl, by decide, by decide, by decide, by decide, hw_c2 1⟩) kv_X9_188 ⟨Nat.le_of_ble_eq_true rfl, Nat.le_of_ble_eq_true rfl⟩ (q0 := 15) (ci := 6) rfl rfl rfl [15, 16] rfl (by decide) (fun _ => rfl) (fun _ => rfl) hl.1 (Nat.le_of_ble_eq_true rfl) dX9_failure_29 ⟨Nat.le_refl _, Nat.le_refl _⟩ rfl (fun v8 _ H locs he9 _ hP hD hS => ?_)
          rw [hQ]
          exact vz_iret3 hx hb hr hlk hK hP hD hS () trivial rfl (Nat.le_refl 0) (Nat.le_refl 0) dX9_failure_32
      · exact J17 H locs ls hP hD hS (lv_sub hl [0, 1, 2, 3] rfl)
theorem q1558 : Cond.methodLink RX9 195 yX4_traced ∈ wsL_law := mT_6 (List.mem_of_getElem? (i := 41) rfl) rfl
theorem q1559 : Cond.instanceMethod yX4_traced ∈ wsL_law := mT_6 (List.mem_of_getElem? (i := 42) rfl) rfl
theorem q1560 : Cond.selects RX4 yX4_traced yX4_traced ∈ wsL_law := mT_6 (List.mem_of_getElem? (i := 43) rfl) rfl
theorem q1561 : Cond.code yX4_traced cX4_traced 6 (some .int) ∈ wsL_law := mT_6 (List.mem_of_getElem? (i := 44) rfl) rfl
theorem kv_X9_195 : vz_cv RX9 195 yX4_traced cX4_traced 6 (some .int) 2 := ⟨q1558, q1559, q1560, q40, q1561, by decide +kernel⟩
theorem dX9_trace_0 : decode cX9_trace 0 = .ok (.aload_n 0, 1) := by decide +kernel
theorem dX9_trace_1 : decode cX9_trace 1 = .ok (.iload_n 1, 1) := by decide +kernel
theorem dX9_trace_2 : decode cX9_trace 2 = .ok (.invokevirtual 174, 3) := by decide +kernel
theorem dX9_trace_5 : decode cX9_trace 5 = .ok (.ifCond .eq 7, 3) := by decide +kernel
theorem dX9_trace_8 : decode cX9_trace 8 = .ok (.iconst (-1), 1) := by decide +kernel
theorem dX9_trace_9 : decode cX9_trace 9 = .ok (.goto 13, 3) := by decide +kernel
theorem dX9_trace_12 : decode cX9_trace 12 = .ok (.aload_n 0, 1) := by decide +kernel
theorem dX9_trace_13 : decode cX9_trace 13 = .ok (.iload_n 1, 1) := by decide +kernel
theorem dX9_trace_14 : decode cX9_trace 14 = .ok (.invokevirtual 177, 3) := by decide +kernel
theorem dX9_trace_17 : decode cX9_trace 17 = .ok (.iload_n 2, 1) := by decide +kernel
theorem dX9_trace_18 : decode cX9_trace 18 = .ok (.iload_n 3, 1) := by decide +kernel
theorem dX9_trace_19 : decode cX9_trace 19 = .ok (.invokevirtual 195, 3) := by decide +kernel
theorem dX9_trace_22 : decode cX9_trace 22 = .ok (.ireturn, 1) := by decide +kernel
set_option maxHeartbeats 8000000 in
set_option maxRecDepth 100000 in
theorem a_X_trace (l : Launch) (D : va_G) (g : Nat → ClassId)   (sz : Nat) (h : Nat) (ai : Nat → Int32) (xa : Nat → Nat) (sh : Nat) (vh : Nat) (coh : Nat) (wh : Nat) (kh : Nat) (mh : Nat) (la : Nat → Nat) (ea : Nat → Nat) (ua : Nat → Nat) (c1h : Nat) (c2h : Nat) (c3h : Nat) (c4h : Nat) (ph : Nat) (qh : Nat) (c1a : Nat → Nat) (c1i : Nat → Int32) (c1r : Nat → Nat) (c1f : Nat → Nat → Int32) (c2a : Nat → Nat) (c2i : Nat → Int32) (c2r : Nat → Nat) (c2f : Nat → Nat → Int32) (n1 : Int32) (n2 : Int32) (n3 : Int32) (hw_c1 : ∀ k, c1r k ≤ rcW_lim k) (hw_c2 : ∀ k, c2r k ≤ rcW_lim k) : vz_Mi l D (tyG g) yX9_trace cX9_trace 4 2 48 0 0 .int [.ref h, .int n1, .int n2, .int n3] sz (vz_w [maW h ai (xa 0) sh vh coh wh kh mh (la 0) (ea 0) (ua 0) c1h c2h c3h c4h ph qh, rcW g c1h c1a c1i c1r c1f, rcW g c2h c2a c2i c2r c2f]) (fun r (u : Unit) => True) (fun u => vz_w [maW h ai (xa 0) sh vh coh wh kh mh (la 0) (ea 0) (ua 0) c1h c2h c3h c4h ph qh, rcW g c1h c1a c1i c1r c1f, rcW g c2h c2a c2i c2r c2f]) := by
  refine vz_siQ (by decide) (Nat.le_of_ble_eq_true rfl) (fun p e s m args below meth c hx hb hr hml hts hown hlk hin hK hsz A hA H locs hP hD hS ls hl Q hQ => ?_)
  have hl : lv_has ls 4 [(0, .ref h), (1, .int n1), (2, .int n2), (3, .int n3)] := hl
  have J22 : ∀ (y0_22 : Int32), ∀ (H : Heap) (locs : List Loc) (ls : Array Slot), va_P D vwCl (vz_w [maW h ai (xa 0) sh vh coh wh kh mh (la 0) (ea 0) (ua 0) c1h c2h c3h c4h ph qh, rcW g c1h c1a c1i c1r c1f, rcW g c2h c2a c2i c2r c2f]) H → va_D A (vz_w [maW h ai (xa 0) sh vh coh wh kh mh (la 0) (ea 0) (ua 0) c1h c2h c3h c4h ph qh, rcW g c1h c1a c1i c1r c1f, rcW g c2h c2a c2i c2r c2f]) → va_S A s.heap H locs → lv_has ls 4 [(0, .ref h), (1, .int n1), (2, .int n2), (3, .int n3)] → W p l e { frames := 2, cells := 0, slots := 0, locals := 48 } s m args below meth c H locs 0 0 Q (F0 m 22 ls [.int y0_22]) := by
    intro y0_22 H locs ls hP hD hS hl
    rw [hQ]
    exact vz_iret3 hx hb hr hlk hK hP hD hS () trivial rfl (Nat.le_refl 0) (Nat.le_refl 0) dX9_trace_22
  refine lv_aload_n hx hb dX9_trace_0 rfl (lv_at hl 0 rfl) ?_
  refine lv_iload_n hx hb dX9_trace_1 rfl (lv_at hl 1 rfl) ?_
  refine vz_Vi3 (As := [.int n1]) (rest := []) hx hb hml hown hts hK hA hP hD hS (a_X_isNoRun l D g H.size h ai xa sh vh coh wh kh mh la ea ua c1h c2h c3h c4h ph qh c1a c1i c1r c1f c2a c2i c2r c2f n1 hw_c1 hw_c2) kv_X9_174 ⟨Nat.le_of_ble_eq_true rfl, Nat.le_of_ble_eq_true rfl⟩ (q0 := 0) (ci := 9) rfl rfl rfl  hl.1 (Nat.le_of_ble_eq_true rfl) dX9_trace_2 ⟨Nat.le_refl _, Nat.le_refl _⟩ rfl (fun v1 _ H locs hz2 _ hP hD hS => ?_)
  refine lv_if_eq (tgt := 12) hx hb dX9_trace_5 (by decide) (fun kc3 => ?_) (fun kc3 => ?_)
  · refine lv_aload_n hx hb dX9_trace_12 rfl (lv_at hl 0 rfl) ?_
    refine lv_iload_n hx hb dX9_trace_13 rfl (lv_at hl 1 rfl) ?_
    refine vz_Vr4 (n9 := 3) (bs2 := fun u : Bool => [maW h ai (xa 0) sh vh coh wh kh mh (la 0) (ea 0) (ua 0) c1h c2h c3h c4h ph qh, rcW g c1h c1a c1i c1r c1f, rcW g c2h c2a c2i c2r c2f]) (br := [rcW g c1h c1a c1i c1r c1f, rcW g c2h c2a c2i c2r c2f]) (As := [.int n1]) (rest := []) hx hb hml hown hts hK hA hP hD hS (a_X_chosen l D g H.size h ai xa sh vh coh wh kh mh la ea ua c1h c2h c3h c4h ph qh n1) kv_X9_177 ⟨Nat.le_of_ble_eq_true rfl, Nat.le_of_ble_eq_true rfl⟩ (q0 := 0) (ci := 9) rfl rfl rfl [0] [1, 2] rfl (by decide) rfl (fun _ => rfl) (fun _ => rfl) hl.1 (Nat.le_of_ble_eq_true rfl) dX9_trace_14 ⟨Nat.le_refl _, Nat.le_refl _⟩ rfl (fun u9 v9 H locs hra9 _ hP hD hS => ?_)
    cases u9
    · replace hra9 : v9 = c1h := hra9
      subst v9
      refine lv_iload_n hx hb dX9_trace_17 rfl (lv_at hl 2 rfl) ?_
      refine lv_iload_n hx hb dX9_trace_18 rfl (lv_at hl 3 rfl) ?_
      refine vz_Vi4 (n9 := 3) (bs2 := fun u : Unit => [maW h ai (xa 0) sh vh coh wh kh mh (la 0) (ea 0) (ua 0) c1h c2h c3h c4h ph qh, rcW g c1h c1a c1i c1r c1f, rcW g c2h c2a c2i c2r c2f]) (br := [maW h ai (xa 0) sh vh coh wh kh mh (la 0) (ea 0) (ua 0) c1h c2h c3h c4h ph qh, rcW g c2h c2a c2i c2r c2f]) (As := [.int n2, .int n3]) (rest := []) hx hb hml hown hts hK hA hP hD hS (a_R_traced l D g H.size c1h c1a c1i c1r c1f n2 n3 hw_c1) kv_X9_195 ⟨Nat.le_of_ble_eq_true rfl, Nat.le_of_ble_eq_true rfl⟩ (q0 := 1) (ci := 4) rfl rfl rfl [1] [0, 2] rfl (by decide) rfl (fun _ => rfl) (fun _ => rfl) hl.1 (Nat.le_of_ble_eq_true rfl) dX9_trace_19 ⟨Nat.le_refl _, Nat.le_refl _⟩ rfl (fun v4 _ H locs _ _ hP hD hS => ?_)
      exact J22 v4 H locs ls hP hD hS (lv_sub hl [0, 1, 2, 3] rfl)
    · replace hra9 : v9 = c2h := hra9
      subst v9
      refine lv_iload_n hx hb dX9_trace_17 rfl (lv_at hl 2 rfl) ?_
      refine lv_iload_n hx hb dX9_trace_18 rfl (lv_at hl 3 rfl) ?_
      refine vz_Vi4 (n9 := 3) (bs2 := fun u : Unit => [maW h ai (xa 0) sh vh coh wh kh mh (la 0) (ea 0) (ua 0) c1h c2h c3h c4h ph qh, rcW g c1h c1a c1i c1r c1f, rcW g c2h c2a c2i c2r c2f]) (br := [maW h ai (xa 0) sh vh coh wh kh mh (la 0) (ea 0) (ua 0) c1h c2h c3h c4h ph qh, rcW g c1h c1a c1i c1r c1f]) (As := [.int n2, .int n3]) (rest := []) hx hb hml hown hts hK hA hP hD hS (a_R_traced l D g H.size c2h c2a c2i c2r c2f n2 n3 hw_c2) kv_X9_195 ⟨Nat.le_of_ble_eq_true rfl, Nat.le_of_ble_eq_true rfl⟩ (q0 := 12) (ci := 4) rfl rfl rfl [2] [0, 1] rfl (by decide) rfl (fun _ => rfl) (fun _ => rfl) hl.1 (Nat.le_of_ble_eq_true rfl) dX9_trace_19 ⟨Nat.le_refl _, Nat.le_refl _⟩ rfl (fun v5 _ H locs _ _ hP hD hS => ?_)
      exact J22 v5 H locs ls hP hD hS (lv_sub hl [0, 1, 2, 3] rfl)
  · refine lv_iconst (v := (-1)) hx hb dX9_trace_8 (by decide) ?_
    refine lv_goto (tgt := 22) hx hb dX9_trace_9 (by decide) ?_
    exact J22 (-1) H locs ls hP hD hS (lv_sub hl [0, 1, 2, 3] rfl)
theorem q1571 : Cond.fieldLink RX9 198 "WaysAtlas$RunRecord" "closings" "LWaysAtlas$Table;" ∈ wsL_law := mT_1 (List.mem_of_getElem? (i := 215) rfl) rfl
theorem dX9_closed_0 : decode cX9_closed 0 = .ok (.aload_n 0, 1) := by decide +kernel
theorem dX9_closed_1 : decode cX9_closed 1 = .ok (.iload_n 1, 1) := by decide +kernel
theorem dX9_closed_2 : decode cX9_closed 2 = .ok (.invokevirtual 174, 3) := by decide +kernel
theorem dX9_closed_5 : decode cX9_closed 5 = .ok (.ifCond .eq 7, 3) := by decide +kernel
theorem dX9_closed_8 : decode cX9_closed 8 = .ok (.iconst (-1), 1) := by decide +kernel
theorem dX9_closed_9 : decode cX9_closed 9 = .ok (.goto 16, 3) := by decide +kernel
theorem dX9_closed_12 : decode cX9_closed 12 = .ok (.aload_n 0, 1) := by decide +kernel
theorem dX9_closed_13 : decode cX9_closed 13 = .ok (.iload_n 1, 1) := by decide +kernel
theorem dX9_closed_14 : decode cX9_closed 14 = .ok (.invokevirtual 177, 3) := by decide +kernel
theorem dX9_closed_17 : decode cX9_closed 17 = .ok (.getfield 198, 3) := by decide +kernel
theorem dX9_closed_20 : decode cX9_closed 20 = .ok (.iload_n 2, 1) := by decide +kernel
theorem dX9_closed_21 : decode cX9_closed 21 = .ok (.iconst 0, 1) := by decide +kernel
theorem dX9_closed_22 : decode cX9_closed 22 = .ok (.invokevirtual 188, 3) := by decide +kernel
theorem dX9_closed_25 : decode cX9_closed 25 = .ok (.ireturn, 1) := by decide +kernel
set_option maxHeartbeats 8000000 in
set_option maxRecDepth 100000 in
theorem a_X_closed (l : Launch) (D : va_G) (g : Nat → ClassId)   (sz : Nat) (h : Nat) (ai : Nat → Int32) (xa : Nat → Nat) (sh : Nat) (vh : Nat) (coh : Nat) (wh : Nat) (kh : Nat) (mh : Nat) (la : Nat → Nat) (ea : Nat → Nat) (ua : Nat → Nat) (c1h : Nat) (c2h : Nat) (c3h : Nat) (c4h : Nat) (ph : Nat) (qh : Nat) (c1a : Nat → Nat) (c1i : Nat → Int32) (c1r : Nat → Nat) (c1f : Nat → Nat → Int32) (c2a : Nat → Nat) (c2i : Nat → Int32) (c2r : Nat → Nat) (c2f : Nat → Nat → Int32) (n1 : Int32) (n2 : Int32) (hw_c1 : ∀ k, c1r k ≤ rcW_lim k) (hw_c2 : ∀ k, c2r k ≤ rcW_lim k) : vz_Mi l D (tyG g) yX9_closed cX9_closed 3 2 42 0 0 .int [.ref h, .int n1, .int n2] sz (vz_w [maW h ai (xa 0) sh vh coh wh kh mh (la 0) (ea 0) (ua 0) c1h c2h c3h c4h ph qh, rcW g c1h c1a c1i c1r c1f, rcW g c2h c2a c2i c2r c2f]) (fun r (u : Unit) => True) (fun u => vz_w [maW h ai (xa 0) sh vh coh wh kh mh (la 0) (ea 0) (ua 0) c1h c2h c3h c4h ph qh, rcW g c1h c1a c1i c1r c1f, rcW g c2h c2a c2i c2r c2f]) := by
  refine vz_siQ (by decide) (Nat.le_of_ble_eq_true rfl) (fun p e s m args below meth c hx hb hr hml hts hown hlk hin hK hsz A hA H locs hP hD hS ls hl Q hQ => ?_)
  have hl : lv_has ls 3 [(0, .ref h), (1, .int n1), (2, .int n2)] := hl
  have J25 : ∀ (y0_25 : Int32), ∀ (H : Heap) (locs : List Loc) (ls : Array Slot), va_P D vwCl (vz_w [maW h ai (xa 0) sh vh coh wh kh mh (la 0) (ea 0) (ua 0) c1h c2h c3h c4h ph qh, rcW g c1h c1a c1i c1r c1f, rcW g c2h c2a c2i c2r c2f]) H → va_D A (vz_w [maW h ai (xa 0) sh vh coh wh kh mh (la 0) (ea 0) (ua 0) c1h c2h c3h c4h ph qh, rcW g c1h c1a c1i c1r c1f, rcW g c2h c2a c2i c2r c2f]) → va_S A s.heap H locs → lv_has ls 3 [(0, .ref h), (1, .int n1), (2, .int n2)] → W p l e { frames := 2, cells := 0, slots := 0, locals := 42 } s m args below meth c H locs 0 0 Q (F0 m 25 ls [.int y0_25]) := by
    intro y0_25 H locs ls hP hD hS hl
    rw [hQ]
    exact vz_iret3 hx hb hr hlk hK hP hD hS () trivial rfl (Nat.le_refl 0) (Nat.le_refl 0) dX9_closed_25
  refine lv_aload_n hx hb dX9_closed_0 rfl (lv_at hl 0 rfl) ?_
  refine lv_iload_n hx hb dX9_closed_1 rfl (lv_at hl 1 rfl) ?_
  refine vz_Vi3 (As := [.int n1]) (rest := []) hx hb hml hown hts hK hA hP hD hS (a_X_isNoRun l D g H.size h ai xa sh vh coh wh kh mh la ea ua c1h c2h c3h c4h ph qh c1a c1i c1r c1f c2a c2i c2r c2f n1 hw_c1 hw_c2) kv_X9_174 ⟨Nat.le_of_ble_eq_true rfl, Nat.le_of_ble_eq_true rfl⟩ (q0 := 0) (ci := 9) rfl rfl rfl  hl.1 (Nat.le_of_ble_eq_true rfl) dX9_closed_2 ⟨Nat.le_refl _, Nat.le_refl _⟩ rfl (fun v1 _ H locs hz2 _ hP hD hS => ?_)
  refine lv_if_eq (tgt := 12) hx hb dX9_closed_5 (by decide) (fun kc3 => ?_) (fun kc3 => ?_)
  · refine lv_aload_n hx hb dX9_closed_12 rfl (lv_at hl 0 rfl) ?_
    refine lv_iload_n hx hb dX9_closed_13 rfl (lv_at hl 1 rfl) ?_
    refine vz_Vr4 (n9 := 3) (bs2 := fun u : Bool => [maW h ai (xa 0) sh vh coh wh kh mh (la 0) (ea 0) (ua 0) c1h c2h c3h c4h ph qh, rcW g c1h c1a c1i c1r c1f, rcW g c2h c2a c2i c2r c2f]) (br := [rcW g c1h c1a c1i c1r c1f, rcW g c2h c2a c2i c2r c2f]) (As := [.int n1]) (rest := []) hx hb hml hown hts hK hA hP hD hS (a_X_chosen l D g H.size h ai xa sh vh coh wh kh mh la ea ua c1h c2h c3h c4h ph qh n1) kv_X9_177 ⟨Nat.le_of_ble_eq_true rfl, Nat.le_of_ble_eq_true rfl⟩ (q0 := 0) (ci := 9) rfl rfl rfl [0] [1, 2] rfl (by decide) rfl (fun _ => rfl) (fun _ => rfl) hl.1 (Nat.le_of_ble_eq_true rfl) dX9_closed_14 ⟨Nat.le_refl _, Nat.le_refl _⟩ rfl (fun u9 v9 H locs hra9 _ hP hD hS => ?_)
    cases u9
    · replace hra9 : v9 = c1h := hra9
      subst v9
      refine va_get (D := D) (ci := 4) (v := .ref (c1a 6)) (C := RX4) (T := TX4) (N := 12) hx hb hts inlX4 hown hK hP 1 rfl rfl 3 (by decide) (hts _ q1571) (fun _ h => h) rfl dX9_closed_17 ?_
      refine lv_iload_n hx hb dX9_closed_20 rfl (lv_at hl 2 rfl) ?_
      refine lv_iconst (v := 0) hx hb dX9_closed_21 (by decide) ?_
      refine vz_Vi2 (ws' := fun u : Unit => vz_w [maW h ai (xa 0) sh vh coh wh kh mh (la 0) (ea 0) (ua 0) c1h c2h c3h c4h ph qh, rcW g c1h c1a c1i c1r c1f, rcW g c2h c2a c2i c2r c2f]) (As := [.int n2, .int 0]) (rest := []) hx hb hml hown hts hK hA hP hD hS (c_T_get l D g (c1a 6) (c1a 7) H.size 1 400 (c1r 3) 400 (c1f 3) n2 0 ⟨rfl, by decide, by decide, by decide, by decide, hw_c1 3⟩) kv_X9_188 ⟨Nat.le_of_ble_eq_true rfl, Nat.le_of_ble_eq_true rfl⟩ (q0 := 8) (ci := 6) rfl rfl rfl [8, 9] rfl (by decide) (fun _ => rfl) (fun _ => rfl) hl.1 (Nat.le_of_ble_eq_true rfl) dX9_closed_22 ⟨Nat.le_refl _, Nat.le_refl _⟩ rfl (fun v4 _ H locs he5 _ hP hD hS => ?_)
      exact J25 v4 H locs ls hP hD hS (lv_sub hl [0, 1, 2] rfl)
    · replace hra9 : v9 = c2h := hra9
      subst v9
      refine va_get (D := D) (ci := 4) (v := .ref (c2a 6)) (C := RX4) (T := TX4) (N := 12) hx hb hts inlX4 hown hK hP 12 rfl rfl 3 (by decide) (hts _ q1571) (fun _ h => h) rfl dX9_closed_17 ?_
      refine lv_iload_n hx hb dX9_closed_20 rfl (lv_at hl 2 rfl) ?_
      refine lv_iconst (v := 0) hx hb dX9_closed_21 (by decide) ?_
      refine vz_Vi2 (ws' := fun u : Unit => vz_w [maW h ai (xa 0) sh vh coh wh kh mh (la 0) (ea 0) (ua 0) c1h c2h c3h c4h ph qh, rcW g c1h c1a c1i c1r c1f, rcW g c2h c2a c2i c2r c2f]) (As := [.int n2, .int 0]) (rest := []) hx hb hml hown hts hK hA hP hD hS (c_T_get l D g (c2a 6) (c2a 7) H.size 1 400 (c2r 3) 400 (c2f 3) n2 0 ⟨rfl, by decide, by decide, by decide, by decide, hw_c2 3⟩) kv_X9_188 ⟨Nat.le_of_ble_eq_true rfl, Nat.le_of_ble_eq_true rfl⟩ (q0 := 19) (ci := 6) rfl rfl rfl [19, 20] rfl (by decide) (fun _ => rfl) (fun _ => rfl) hl.1 (Nat.le_of_ble_eq_true rfl) dX9_closed_22 ⟨Nat.le_refl _, Nat.le_refl _⟩ rfl (fun v6 _ H locs he7 _ hP hD hS => ?_)
      exact J25 v6 H locs ls hP hD hS (lv_sub hl [0, 1, 2] rfl)
  · refine lv_iconst (v := (-1)) hx hb dX9_closed_8 (by decide) ?_
    refine lv_goto (tgt := 25) hx hb dX9_closed_9 (by decide) ?_
    exact J25 (-1) H locs ls hP hD hS (lv_sub hl [0, 1, 2] rfl)
theorem q283 : Cond.fieldLink RX9 150 "WaysAtlas$Program" "statements" "LWaysAtlas$Table;" ∈ wsL_law := mT_1 (List.mem_of_getElem? (i := 83) rfl) rfl
theorem q1580 : Cond.fieldLink RX9 201 "WaysAtlas$RunRecord" "entries" "LWaysAtlas$Table;" ∈ wsL_law := mT_1 (List.mem_of_getElem? (i := 218) rfl) rfl
theorem dX9_entered_0 : decode cX9_entered 0 = .ok (.aload_n 0, 1) := by decide +kernel
theorem dX9_entered_1 : decode cX9_entered 1 = .ok (.iload_n 1, 1) := by decide +kernel
theorem dX9_entered_2 : decode cX9_entered 2 = .ok (.invokevirtual 174, 3) := by decide +kernel
theorem dX9_entered_5 : decode cX9_entered 5 = .ok (.ifCond .ne 20, 3) := by decide +kernel
theorem dX9_entered_8 : decode cX9_entered 8 = .ok (.aload_n 0, 1) := by decide +kernel
theorem dX9_entered_9 : decode cX9_entered 9 = .ok (.getfield 28, 3) := by decide +kernel
theorem dX9_entered_12 : decode cX9_entered 12 = .ok (.getfield 150, 3) := by decide +kernel
theorem dX9_entered_15 : decode cX9_entered 15 = .ok (.iload_n 2, 1) := by decide +kernel
theorem dX9_entered_16 : decode cX9_entered 16 = .ok (.bipush 7, 2) := by decide +kernel
theorem dX9_entered_18 : decode cX9_entered 18 = .ok (.invokevirtual 188, 3) := by decide +kernel
theorem dX9_entered_21 : decode cX9_entered 21 = .ok (.iconst 1, 1) := by decide +kernel
theorem dX9_entered_22 : decode cX9_entered 22 = .ok (.if_icmp .eq 5, 3) := by decide +kernel
theorem dX9_entered_25 : decode cX9_entered 25 = .ok (.iconst (-1), 1) := by decide +kernel
theorem dX9_entered_26 : decode cX9_entered 26 = .ok (.ireturn, 1) := by decide +kernel
theorem dX9_entered_27 : decode cX9_entered 27 = .ok (.aload_n 0, 1) := by decide +kernel
theorem dX9_entered_28 : decode cX9_entered 28 = .ok (.iload_n 1, 1) := by decide +kernel
theorem dX9_entered_29 : decode cX9_entered 29 = .ok (.invokevirtual 177, 3) := by decide +kernel
theorem dX9_entered_32 : decode cX9_entered 32 = .ok (.getfield 201, 3) := by decide +kernel
theorem dX9_entered_35 : decode cX9_entered 35 = .ok (.iload_n 2, 1) := by decide +kernel
theorem dX9_entered_36 : decode cX9_entered 36 = .ok (.iconst 0, 1) := by decide +kernel
theorem dX9_entered_37 : decode cX9_entered 37 = .ok (.invokevirtual 188, 3) := by decide +kernel
theorem dX9_entered_40 : decode cX9_entered 40 = .ok (.ireturn, 1) := by decide +kernel
set_option maxHeartbeats 8000000 in
set_option maxRecDepth 100000 in
theorem a_X_entered (l : Launch) (D : va_G) (g : Nat → ClassId)   (sz : Nat) (h : Nat) (ai : Nat → Int32) (xa : Nat → Nat) (sh : Nat) (vh : Nat) (coh : Nat) (wh : Nat) (kh : Nat) (mh : Nat) (la : Nat → Nat) (ea : Nat → Nat) (ua : Nat → Nat) (c1h : Nat) (c2h : Nat) (c3h : Nat) (c4h : Nat) (ph : Nat) (qh : Nat) (c1a : Nat → Nat) (c1i : Nat → Int32) (c1r : Nat → Nat) (c1f : Nat → Nat → Int32) (c2a : Nat → Nat) (c2i : Nat → Int32) (c2r : Nat → Nat) (c2f : Nat → Nat → Int32) (pa : Nat → Nat) (pr : Nat → Nat) (pf : Nat → Nat → Int32) (n1 : Int32) (n2 : Int32) (hw_c1 : ∀ k, c1r k ≤ rcW_lim k) (hw_c2 : ∀ k, c2r k ≤ rcW_lim k) (hw_p : ∀ k, pr k ≤ pgW_lim k) : vz_Mi l D (tyG g) yX9_entered cX9_entered 3 2 42 0 0 .int [.ref h, .int n1, .int n2] sz (vz_w [maW h ai (xa 0) sh vh coh wh kh mh (la 0) (ea 0) (ua 0) c1h c2h c3h c4h ph qh, rcW g c1h c1a c1i c1r c1f, rcW g c2h c2a c2i c2r c2f, pgW g ph pa pr pf]) (fun r (u : Unit) => True) (fun u => vz_w [maW h ai (xa 0) sh vh coh wh kh mh (la 0) (ea 0) (ua 0) c1h c2h c3h c4h ph qh, rcW g c1h c1a c1i c1r c1f, rcW g c2h c2a c2i c2r c2f, pgW g ph pa pr pf]) := by
  refine vz_siQ (by decide) (Nat.le_of_ble_eq_true rfl) (fun p e s m args below meth c hx hb hr hml hts hown hlk hin hK hsz A hA H locs hP hD hS ls hl Q hQ => ?_)
  have hl : lv_has ls 3 [(0, .ref h), (1, .int n1), (2, .int n2)] := hl
  have J25 : ∀ (H : Heap) (locs : List Loc) (ls : Array Slot), va_P D vwCl (vz_w [maW h ai (xa 0) sh vh coh wh kh mh (la 0) (ea 0) (ua 0) c1h c2h c3h c4h ph qh, rcW g c1h c1a c1i c1r c1f, rcW g c2h c2a c2i c2r c2f, pgW g ph pa pr pf]) H → va_D A (vz_w [maW h ai (xa 0) sh vh coh wh kh mh (la 0) (ea 0) (ua 0) c1h c2h c3h c4h ph qh, rcW g c1h c1a c1i c1r c1f, rcW g c2h c2a c2i c2r c2f, pgW g ph pa pr pf]) → va_S A s.heap H locs → lv_has ls 3 [(0, .ref h), (1, .int n1), (2, .int n2)] → W p l e { frames := 2, cells := 0, slots := 0, locals := 42 } s m args below meth c H locs 0 0 Q (F0 m 25 ls []) := by
    intro H locs ls hP hD hS hl
    refine lv_iconst (v := (-1)) hx hb dX9_entered_25 (by decide) ?_
    rw [hQ]
    exact vz_iret3 hx hb hr hlk hK hP hD hS () trivial rfl (Nat.le_refl 0) (Nat.le_refl 0) dX9_entered_26
  refine lv_aload_n hx hb dX9_entered_0 rfl (lv_at hl 0 rfl) ?_
  refine lv_iload_n hx hb dX9_entered_1 rfl (lv_at hl 1 rfl) ?_
  refine vz_Vi4 (n9 := 4) (bs2 := fun u : Unit => [maW h ai (xa 0) sh vh coh wh kh mh (la 0) (ea 0) (ua 0) c1h c2h c3h c4h ph qh, rcW g c1h c1a c1i c1r c1f, rcW g c2h c2a c2i c2r c2f, pgW g ph pa pr pf]) (br := [pgW g ph pa pr pf]) (As := [.int n1]) (rest := []) hx hb hml hown hts hK hA hP hD hS (a_X_isNoRun l D g H.size h ai xa sh vh coh wh kh mh la ea ua c1h c2h c3h c4h ph qh c1a c1i c1r c1f c2a c2i c2r c2f n1 hw_c1 hw_c2) kv_X9_174 ⟨Nat.le_of_ble_eq_true rfl, Nat.le_of_ble_eq_true rfl⟩ (q0 := 0) (ci := 9) rfl rfl rfl [0, 1, 2] [3] rfl (by decide) rfl (fun _ => rfl) (fun _ => rfl) hl.1 (Nat.le_of_ble_eq_true rfl) dX9_entered_2 ⟨Nat.le_refl _, Nat.le_refl _⟩ rfl (fun v1 _ H locs hz2 _ hP hD hS => ?_)
  refine lv_if_ne (tgt := 25) hx hb dX9_entered_5 (by decide) (fun kc3 => ?_) (fun kc3 => ?_)
  · exact J25 H locs ls hP hD hS (lv_sub hl [0, 1, 2] rfl)
  · refine lv_aload_n hx hb dX9_entered_8 rfl (lv_at hl 0 rfl) ?_
    refine va_get (D := D) (ci := 9) (v := .ref ph) (C := RX9) (T := TX9) (N := 17) hx hb hts inlX9 hown hK hP 0 rfl rfl 14 (by decide) (hts _ q24) (fun _ h => h) rfl dX9_entered_9 ?_
    refine va_get (D := D) (ci := 2) (v := .ref (pa 0)) (C := RX2) (T := TX2) (N := 5) hx hb hts inlX2 hown hK hP 23 rfl rfl 0 (by decide) (hts _ q283) (fun _ h => h) rfl dX9_entered_12 ?_
    refine lv_iload_n hx hb dX9_entered_15 rfl (lv_at hl 2 rfl) ?_
    refine lv_bipush (v := 7) hx hb dX9_entered_16 (by decide) ?_
    refine vz_Vi2 (ws' := fun u : Unit => vz_w [maW h ai (xa 0) sh vh coh wh kh mh (la 0) (ea 0) (ua 0) c1h c2h c3h c4h ph qh, rcW g c1h c1a c1i c1r c1f, rcW g c2h c2a c2i c2r c2f, pgW g ph pa pr pf]) (As := [.int n2, .int 7]) (rest := []) hx hb hml hown hts hK hA hP hD hS (c_T_get l D g (pa 0) (pa 1) H.size 12 80 (pr 0) 960 (pf 0) n2 7 ⟨rfl, by decide, by decide, by decide, by decide, hw_p 0⟩) kv_X9_188 ⟨Nat.le_of_ble_eq_true rfl, Nat.le_of_ble_eq_true rfl⟩ (q0 := 24) (ci := 6) rfl rfl rfl [24, 25] rfl (by decide) (fun _ => rfl) (fun _ => rfl) hl.1 (Nat.le_of_ble_eq_true rfl) dX9_entered_18 ⟨Nat.le_refl _, Nat.le_refl _⟩ rfl (fun v4 _ H locs he5 _ hP hD hS => ?_)
    refine lv_iconst (v := 1) hx hb dX9_entered_21 (by decide) ?_
    refine lv_icmp_eq (tgt := 27) hx hb dX9_entered_22 (by decide) (fun kc6 => ?_) (fun kc6 => ?_)
    · refine lv_aload_n hx hb dX9_entered_27 rfl (lv_at hl 0 rfl) ?_
      refine lv_iload_n hx hb dX9_entered_28 rfl (lv_at hl 1 rfl) ?_
      refine vz_Vr4 (n9 := 4) (bs2 := fun u : Bool => [maW h ai (xa 0) sh vh coh wh kh mh (la 0) (ea 0) (ua 0) c1h c2h c3h c4h ph qh, rcW g c1h c1a c1i c1r c1f, rcW g c2h c2a c2i c2r c2f, pgW g ph pa pr pf]) (br := [rcW g c1h c1a c1i c1r c1f, rcW g c2h c2a c2i c2r c2f, pgW g ph pa pr pf]) (As := [.int n1]) (rest := []) hx hb hml hown hts hK hA hP hD hS (a_X_chosen l D g H.size h ai xa sh vh coh wh kh mh la ea ua c1h c2h c3h c4h ph qh n1) kv_X9_177 ⟨Nat.le_of_ble_eq_true rfl, Nat.le_of_ble_eq_true rfl⟩ (q0 := 0) (ci := 9) rfl rfl rfl [0] [1, 2, 3] rfl (by decide) rfl (fun _ => rfl) (fun _ => rfl) hl.1 (Nat.le_of_ble_eq_true rfl) dX9_entered_29 ⟨Nat.le_refl _, Nat.le_refl _⟩ rfl (fun u9 v9 H locs hra9 _ hP hD hS => ?_)
      cases u9
      · replace hra9 : v9 = c1h := hra9
        subst v9
        refine va_get (D := D) (ci := 4) (v := .ref (c1a 8)) (C := RX4) (T := TX4) (N := 12) hx hb hts inlX4 hown hK hP 1 rfl rfl 4 (by decide) (hts _ q1580) (fun _ h => h) rfl dX9_entered_32 ?_
        refine lv_iload_n hx hb dX9_entered_35 rfl (lv_at hl 2 rfl) ?_
        refine lv_iconst (v := 0) hx hb dX9_entered_36 (by decide) ?_
        refine vz_Vi2 (ws' := fun u : Unit => vz_w [maW h ai (xa 0) sh vh coh wh kh mh (la 0) (ea 0) (ua 0) c1h c2h c3h c4h ph qh, rcW g c1h c1a c1i c1r c1f, rcW g c2h c2a c2i c2r c2f, pgW g ph pa pr pf]) (As := [.int n2, .int 0]) (rest := []) hx hb hml hown hts hK hA hP hD hS (c_T_get l D g (c1a 8) (c1a 9) H.size 1 80 (c1r 4) 80 (c1f 4) n2 0 ⟨rfl, by decide, by decide, by decide, by decide, hw_c1 4⟩) kv_X9_188 ⟨Nat.le_of_ble_eq_true rfl, Nat.le_of_ble_eq_true rfl⟩ (q0 := 10) (ci := 6) rfl rfl rfl [10, 11] rfl (by decide) (fun _ => rfl) (fun _ => rfl) hl.1 (Nat.le_of_ble_eq_true rfl) dX9_entered_37 ⟨Nat.le_refl _, Nat.le_refl _⟩ rfl (fun v7 _ H locs he8 _ hP hD hS => ?_)
        rw [hQ]
        exact vz_iret3 hx hb hr hlk hK hP hD hS () trivial rfl (Nat.le_refl 0) (Nat.le_refl 0) dX9_entered_40
      · replace hra9 : v9 = c2h := hra9
        subst v9
        refine va_get (D := D) (ci := 4) (v := .ref (c2a 8)) (C := RX4) (T := TX4) (N := 12) hx hb hts inlX4 hown hK hP 12 rfl rfl 4 (by decide) (hts _ q1580) (fun _ h => h) rfl dX9_entered_32 ?_
        refine lv_iload_n hx hb dX9_entered_35 rfl (lv_at hl 2 rfl) ?_
        refine lv_iconst (v := 0) hx hb dX9_entered_36 (by decide) ?_
        refine vz_Vi2 (ws' := fun u : Unit => vz_w [maW h ai (xa 0) sh vh coh wh kh mh (la 0) (ea 0) (ua 0) c1h c2h c3h c4h ph qh, rcW g c1h c1a c1i c1r c1f, rcW g c2h c2a c2i c2r c2f, pgW g ph pa pr pf]) (As := [.int n2, .int 0]) (rest := []) hx hb hml hown hts hK hA hP hD hS (c_T_get l D g (c2a 8) (c2a 9) H.size 1 80 (c2r 4) 80 (c2f 4) n2 0 ⟨rfl, by decide, by decide, by decide, by decide, hw_c2 4⟩) kv_X9_188 ⟨Nat.le_of_ble_eq_true rfl, Nat.le_of_ble_eq_true rfl⟩ (q0 := 21) (ci := 6) rfl rfl rfl [21, 22] rfl (by decide) (fun _ => rfl) (fun _ => rfl) hl.1 (Nat.le_of_ble_eq_true rfl) dX9_entered_37 ⟨Nat.le_refl _, Nat.le_refl _⟩ rfl (fun v9 _ H locs he10 _ hP hD hS => ?_)
        rw [hQ]
        exact vz_iret3 hx hb hr hlk hK hP hD hS () trivial rfl (Nat.le_refl 0) (Nat.le_refl 0) dX9_entered_40
    · exact J25 H locs ls hP hD hS (lv_sub hl [0, 1, 2] rfl)
theorem q59 : Cond.fieldLink RX9 114 "WaysAtlas" "fault" "I" ∈ wsL_law := mT_2 (List.mem_of_getElem? (i := 154) rfl) rfl
theorem dX9_fault_0 : decode cX9_fault 0 = .ok (.aload_n 0, 1) := by decide +kernel
theorem dX9_fault_1 : decode cX9_fault 1 = .ok (.getfield 114, 3) := by decide +kernel
theorem dX9_fault_4 : decode cX9_fault 4 = .ok (.ireturn, 1) := by decide +kernel
set_option maxHeartbeats 8000000 in
set_option maxRecDepth 100000 in
theorem a_X_fault (l : Launch) (D : va_G) (g : Nat → ClassId)   (sz : Nat) (h : Nat) (ai : Nat → Int32) (xa : Nat → Nat) (sh : Nat) (vh : Nat) (coh : Nat) (wh : Nat) (kh : Nat) (mh : Nat) (la : Nat → Nat) (ea : Nat → Nat) (ua : Nat → Nat) (c1h : Nat) (c2h : Nat) (c3h : Nat) (c4h : Nat) (ph : Nat) (qh : Nat) : vz_Mi l D (tyG g) yX9_fault cX9_fault 1 0 0 0 0 .int [.ref h] sz (vz_w [maW h ai (xa 0) sh vh coh wh kh mh (la 0) (ea 0) (ua 0) c1h c2h c3h c4h ph qh]) (fun r (u : Unit) => True) (fun u => vz_w [maW h ai (xa 0) sh vh coh wh kh mh (la 0) (ea 0) (ua 0) c1h c2h c3h c4h ph qh]) := by
  refine vz_siQ (by decide) (Nat.le_of_ble_eq_true rfl) (fun p e s m args below meth c hx hb hr hml hts hown hlk hin hK hsz A hA H locs hP hD hS ls hl Q hQ => ?_)
  have hl : lv_has ls 1 [(0, .ref h)] := hl
  refine lv_aload_n hx hb dX9_fault_0 rfl (lv_at hl 0 rfl) ?_
  refine va_get (D := D) (ci := 9) (v := .int (ai 0)) (C := RX9) (T := TX9) (N := 17) hx hb hts inlX9 hown hK hP 0 rfl rfl 16 (by decide) (hts _ q59) (fun _ h => h) rfl dX9_fault_1 ?_
  rw [hQ]
  exact vz_iret3 hx hb hr hlk hK hP hD hS () trivial rfl (Nat.le_refl 0) (Nat.le_refl 0) dX9_fault_4
theorem q35 : Cond.fieldLink RX9 56 "WaysAtlas" "plan" "LWaysAtlas$Table;" ∈ wsL_law := mT_2 (List.mem_of_getElem? (i := 145) rfl) rfl
theorem q966 : Cond.fieldLink RX9 159 "WaysAtlas$Program" "catches" "LWaysAtlas$Table;" ∈ wsL_law := mT_1 (List.mem_of_getElem? (i := 92) rfl) rfl
theorem q965 : Cond.fieldLink RX9 156 "WaysAtlas$Program" "kinds" "LWaysAtlas$Table;" ∈ wsL_law := mT_1 (List.mem_of_getElem? (i := 97) rfl) rfl
theorem dX9_count_0 : decode cX9_count 0 = .ok (.iload_n 1, 1) := by decide +kernel
theorem dX9_count_1 : decode cX9_count 1 = .ok (.iconst 4, 1) := by decide +kernel
theorem dX9_count_2 : decode cX9_count 2 = .ok (.if_icmp .ne 11, 3) := by decide +kernel
theorem dX9_count_5 : decode cX9_count 5 = .ok (.aload_n 0, 1) := by decide +kernel
theorem dX9_count_6 : decode cX9_count 6 = .ok (.getfield 56, 3) := by decide +kernel
theorem dX9_count_9 : decode cX9_count 9 = .ok (.getfield 118, 3) := by decide +kernel
theorem dX9_count_12 : decode cX9_count 12 = .ok (.ireturn, 1) := by decide +kernel
theorem dX9_count_13 : decode cX9_count 13 = .ok (.aload_n 0, 1) := by decide +kernel
theorem dX9_count_14 : decode cX9_count 14 = .ok (.getfield 28, 3) := by decide +kernel
theorem dX9_count_17 : decode cX9_count 17 = .ok (.getfield 153, 3) := by decide +kernel
theorem dX9_count_20 : decode cX9_count 20 = .ok (.getfield 118, 3) := by decide +kernel
theorem dX9_count_23 : decode cX9_count 23 = .ok (.ifCond .ne 5, 3) := by decide +kernel
theorem dX9_count_26 : decode cX9_count 26 = .ok (.iconst (-1), 1) := by decide +kernel
theorem dX9_count_27 : decode cX9_count 27 = .ok (.ireturn, 1) := by decide +kernel
theorem dX9_count_28 : decode cX9_count 28 = .ok (.iload_n 1, 1) := by decide +kernel
theorem dX9_count_29 : decode cX9_count 29 = .ok (.tableswitch 75 0 3 #[31, 42, 53, 64], 31) := by decide +kernel
theorem dX9_count_60 : decode cX9_count 60 = .ok (.aload_n 0, 1) := by decide +kernel
theorem dX9_count_61 : decode cX9_count 61 = .ok (.getfield 28, 3) := by decide +kernel
theorem dX9_count_64 : decode cX9_count 64 = .ok (.getfield 150, 3) := by decide +kernel
theorem dX9_count_67 : decode cX9_count 67 = .ok (.getfield 118, 3) := by decide +kernel
theorem dX9_count_70 : decode cX9_count 70 = .ok (.ireturn, 1) := by decide +kernel
theorem dX9_count_71 : decode cX9_count 71 = .ok (.aload_n 0, 1) := by decide +kernel
theorem dX9_count_72 : decode cX9_count 72 = .ok (.getfield 28, 3) := by decide +kernel
theorem dX9_count_75 : decode cX9_count 75 = .ok (.getfield 153, 3) := by decide +kernel
theorem dX9_count_78 : decode cX9_count 78 = .ok (.getfield 118, 3) := by decide +kernel
theorem dX9_count_81 : decode cX9_count 81 = .ok (.ireturn, 1) := by decide +kernel
theorem dX9_count_82 : decode cX9_count 82 = .ok (.aload_n 0, 1) := by decide +kernel
theorem dX9_count_83 : decode cX9_count 83 = .ok (.getfield 28, 3) := by decide +kernel
theorem dX9_count_86 : decode cX9_count 86 = .ok (.getfield 156, 3) := by decide +kernel
theorem dX9_count_89 : decode cX9_count 89 = .ok (.getfield 118, 3) := by decide +kernel
theorem dX9_count_92 : decode cX9_count 92 = .ok (.ireturn, 1) := by decide +kernel
theorem dX9_count_93 : decode cX9_count 93 = .ok (.aload_n 0, 1) := by decide +kernel
theorem dX9_count_94 : decode cX9_count 94 = .ok (.getfield 28, 3) := by decide +kernel
theorem dX9_count_97 : decode cX9_count 97 = .ok (.getfield 159, 3) := by decide +kernel
theorem dX9_count_100 : decode cX9_count 100 = .ok (.getfield 118, 3) := by decide +kernel
theorem dX9_count_103 : decode cX9_count 103 = .ok (.ireturn, 1) := by decide +kernel
theorem dX9_count_104 : decode cX9_count 104 = .ok (.iconst (-1), 1) := by decide +kernel
theorem dX9_count_105 : decode cX9_count 105 = .ok (.ireturn, 1) := by decide +kernel
set_option maxHeartbeats 8000000 in
set_option maxRecDepth 100000 in
theorem a_X_count (l : Launch) (D : va_G) (g : Nat → ClassId)   (sz : Nat) (h : Nat) (ai : Nat → Int32) (xa : Nat → Nat) (sh : Nat) (vh : Nat) (coh : Nat) (wh : Nat) (kh : Nat) (mh : Nat) (la : Nat → Nat) (ea : Nat → Nat) (ua : Nat → Nat) (c1h : Nat) (c2h : Nat) (c3h : Nat) (c4h : Nat) (ph : Nat) (qh : Nat) (pa : Nat → Nat) (pr : Nat → Nat) (pf : Nat → Nat → Int32) (lr : Nat → Nat) (lf : Nat → Nat → Int32) (n1 : Int32) (hw_p : ∀ k, pr k ≤ pgW_lim k) (hw_l : ∀ k, lr k ≤ (plW_lim 30) k) (hmx_l : 30 ≤ 30) : vz_Mi l D (tyG g) yX9_count cX9_count 2 0 0 0 0 .int [.ref h, .int n1] sz (vz_w [maW h ai (xa 0) sh vh coh wh kh mh (la 0) (ea 0) (ua 0) c1h c2h c3h c4h ph qh, pgW g ph pa pr pf, plW g la lr lf 30]) (fun r (u : Unit) => True) (fun u => vz_w [maW h ai (xa 0) sh vh coh wh kh mh (la 0) (ea 0) (ua 0) c1h c2h c3h c4h ph qh, pgW g ph pa pr pf, plW g la lr lf 30]) := by
  refine vz_siQ (by decide) (Nat.le_of_ble_eq_true rfl) (fun p e s m args below meth c hx hb hr hml hts hown hlk hin hK hsz A hA H locs hP hD hS ls hl Q hQ => ?_)
  have hl : lv_has ls 2 [(0, .ref h), (1, .int n1)] := hl
  refine lv_iload_n hx hb dX9_count_0 rfl (lv_at hl 1 rfl) ?_
  refine lv_iconst (v := 4) hx hb dX9_count_1 (by decide) ?_
  refine lv_icmp_ne (tgt := 13) hx hb dX9_count_2 (by decide) (fun kc1 => ?_) (fun kc1 => ?_)
  · refine lv_aload_n hx hb dX9_count_13 rfl (lv_at hl 0 rfl) ?_
    refine va_get (D := D) (ci := 9) (v := .ref ph) (C := RX9) (T := TX9) (N := 17) hx hb hts inlX9 hown hK hP 0 rfl rfl 14 (by decide) (hts _ q24) (fun _ h => h) rfl dX9_count_14 ?_
    refine va_get (D := D) (ci := 2) (v := .ref (pa 8)) (C := RX2) (T := TX2) (N := 5) hx hb hts inlX2 hown hK hP 1 rfl rfl 4 (by decide) (hts _ q964) (fun _ h => h) rfl dX9_count_17 ?_
    refine va_get (D := D) (ci := 6) (v := .int (nI (pr 4))) (C := RX6) (T := TX6) (N := 4) hx hb hts inlX6 hown hK hP 10 rfl rfl 3 (by decide) (hts _ q259) (fun _ h => h) rfl dX9_count_20 ?_
    refine lv_if_ne (tgt := 28) hx hb dX9_count_23 (by decide) (fun kc2 => ?_) (fun kc2 => ?_)
    · refine lv_iload_n hx hb dX9_count_28 rfl (lv_at hl 1 rfl) ?_
      have S29_60 : W p l e { frames := 0, cells := 0, slots := 0, locals := 0 } s m args below meth c H locs 0 0 Q (F0 m 60 ls []) := by
        refine lv_aload_n hx hb dX9_count_60 rfl (lv_at hl 0 rfl) ?_
        refine va_get (D := D) (ci := 9) (v := .ref ph) (C := RX9) (T := TX9) (N := 17) hx hb hts inlX9 hown hK hP 0 rfl rfl 14 (by decide) (hts _ q24) (fun _ h => h) rfl dX9_count_61 ?_
        refine va_get (D := D) (ci := 2) (v := .ref (pa 0)) (C := RX2) (T := TX2) (N := 5) hx hb hts inlX2 hown hK hP 1 rfl rfl 0 (by decide) (hts _ q283) (fun _ h => h) rfl dX9_count_64 ?_
        refine va_get (D := D) (ci := 6) (v := .int (nI (pr 0))) (C := RX6) (T := TX6) (N := 4) hx hb hts inlX6 hown hK hP 2 rfl rfl 3 (by decide) (hts _ q259) (fun _ h => h) rfl dX9_count_67 ?_
        rw [hQ]
        exact vz_iret3 hx hb hr hlk hK hP hD hS () trivial rfl (Nat.le_refl 0) (Nat.le_refl 0) dX9_count_70
      have S29_71 : W p l e { frames := 0, cells := 0, slots := 0, locals := 0 } s m args below meth c H locs 0 0 Q (F0 m 71 ls []) := by
        refine lv_aload_n hx hb dX9_count_71 rfl (lv_at hl 0 rfl) ?_
        refine va_get (D := D) (ci := 9) (v := .ref ph) (C := RX9) (T := TX9) (N := 17) hx hb hts inlX9 hown hK hP 0 rfl rfl 14 (by decide) (hts _ q24) (fun _ h => h) rfl dX9_count_72 ?_
        refine va_get (D := D) (ci := 2) (v := .ref (pa 8)) (C := RX2) (T := TX2) (N := 5) hx hb hts inlX2 hown hK hP 1 rfl rfl 4 (by decide) (hts _ q964) (fun _ h => h) rfl dX9_count_75 ?_
        refine va_get (D := D) (ci := 6) (v := .int (nI (pr 4))) (C := RX6) (T := TX6) (N := 4) hx hb hts inlX6 hown hK hP 10 rfl rfl 3 (by decide) (hts _ q259) (fun _ h => h) rfl dX9_count_78 ?_
        rw [hQ]
        exact vz_iret3 hx hb hr hlk hK hP hD hS () trivial rfl (Nat.le_refl 0) (Nat.le_refl 0) dX9_count_81
      have S29_82 : W p l e { frames := 0, cells := 0, slots := 0, locals := 0 } s m args below meth c H locs 0 0 Q (F0 m 82 ls []) := by
        refine lv_aload_n hx hb dX9_count_82 rfl (lv_at hl 0 rfl) ?_
        refine va_get (D := D) (ci := 9) (v := .ref ph) (C := RX9) (T := TX9) (N := 17) hx hb hts inlX9 hown hK hP 0 rfl rfl 14 (by decide) (hts _ q24) (fun _ h => h) rfl dX9_count_83 ?_
        refine va_get (D := D) (ci := 2) (v := .ref (pa 6)) (C := RX2) (T := TX2) (N := 5) hx hb hts inlX2 hown hK hP 1 rfl rfl 3 (by decide) (hts _ q965) (fun _ h => h) rfl dX9_count_86 ?_
        refine va_get (D := D) (ci := 6) (v := .int (nI (pr 3))) (C := RX6) (T := TX6) (N := 4) hx hb hts inlX6 hown hK hP 8 rfl rfl 3 (by decide) (hts _ q259) (fun _ h => h) rfl dX9_count_89 ?_
        rw [hQ]
        exact vz_iret3 hx hb hr hlk hK hP hD hS () trivial rfl (Nat.le_refl 0) (Nat.le_refl 0) dX9_count_92
      have S29_93 : W p l e { frames := 0, cells := 0, slots := 0, locals := 0 } s m args below meth c H locs 0 0 Q (F0 m 93 ls []) := by
        refine lv_aload_n hx hb dX9_count_93 rfl (lv_at hl 0 rfl) ?_
        refine va_get (D := D) (ci := 9) (v := .ref ph) (C := RX9) (T := TX9) (N := 17) hx hb hts inlX9 hown hK hP 0 rfl rfl 14 (by decide) (hts _ q24) (fun _ h => h) rfl dX9_count_94 ?_
        refine va_get (D := D) (ci := 2) (v := .ref (pa 4)) (C := RX2) (T := TX2) (N := 5) hx hb hts inlX2 hown hK hP 1 rfl rfl 2 (by decide) (hts _ q966) (fun _ h => h) rfl dX9_count_97 ?_
        refine va_get (D := D) (ci := 6) (v := .int (nI (pr 2))) (C := RX6) (T := TX6) (N := 4) hx hb hts inlX6 hown hK hP 6 rfl rfl 3 (by decide) (hts _ q259) (fun _ h => h) rfl dX9_count_100 ?_
        rw [hQ]
        exact vz_iret3 hx hb hr hlk hK hP hD hS () trivial rfl (Nat.le_refl 0) (Nat.le_refl 0) dX9_count_103
      have S29_104 : W p l e { frames := 0, cells := 0, slots := 0, locals := 0 } s m args below meth c H locs 0 0 Q (F0 m 104 ls []) := by
        refine lv_iconst (v := (-1)) hx hb dX9_count_104 (by decide) ?_
        rw [hQ]
        exact vz_iret3 hx hb hr hlk hK hP hD hS () trivial rfl (Nat.le_refl 0) (Nat.le_refl 0) dX9_count_105
      refine vz_tsw (td := 104) hx hb dX9_count_29 (by decide) [60, 71, 82, 93] (by decide) (by decide) (fun hv => ?_) (fun k t hk hv => ?_)
      · exact S29_104
      · have hm := List.mem_of_getElem? hk
        simp only [List.mem_cons, List.not_mem_nil, or_false] at hm
        rcases hm with rfl | rfl | rfl | rfl
        · exact S29_60
        · exact S29_71
        · exact S29_82
        · exact S29_93
    · refine lv_iconst (v := (-1)) hx hb dX9_count_26 (by decide) ?_
      rw [hQ]
      exact vz_iret3 hx hb hr hlk hK hP hD hS () trivial rfl (Nat.le_refl 0) (Nat.le_refl 0) dX9_count_27
  · refine lv_aload_n hx hb dX9_count_5 rfl (lv_at hl 0 rfl) ?_
    refine va_get (D := D) (ci := 9) (v := .ref (la 0)) (C := RX9) (T := TX9) (N := 17) hx hb hts inlX9 hown hK hP 0 rfl rfl 7 (by decide) (hts _ q35) (fun _ h => h) rfl dX9_count_6 ?_
    refine va_get (D := D) (ci := 6) (v := .int (nI (lr 0))) (C := RX6) (T := TX6) (N := 4) hx hb hts inlX6 hown hK hP 12 rfl rfl 3 (by decide) (hts _ q259) (fun _ h => h) rfl dX9_count_9 ?_
    rw [hQ]
    exact vz_iret3 hx hb hr hlk hK hP hD hS () trivial rfl (Nat.le_refl 0) (Nat.le_refl 0) dX9_count_12
theorem dX9_handler_0 : decode cX9_handler 0 = .ok (.iload_n 1, 1) := by decide +kernel
theorem dX9_handler_1 : decode cX9_handler 1 = .ok (.ifCond .lt 26, 3) := by decide +kernel
theorem dX9_handler_4 : decode cX9_handler 4 = .ok (.iload_n 1, 1) := by decide +kernel
theorem dX9_handler_5 : decode cX9_handler 5 = .ok (.aload_n 0, 1) := by decide +kernel
theorem dX9_handler_6 : decode cX9_handler 6 = .ok (.getfield 28, 3) := by decide +kernel
theorem dX9_handler_9 : decode cX9_handler 9 = .ok (.getfield 159, 3) := by decide +kernel
theorem dX9_handler_12 : decode cX9_handler 12 = .ok (.getfield 118, 3) := by decide +kernel
theorem dX9_handler_15 : decode cX9_handler 15 = .ok (.if_icmp .ge 12, 3) := by decide +kernel
theorem dX9_handler_18 : decode cX9_handler 18 = .ok (.iload_n 2, 1) := by decide +kernel
theorem dX9_handler_19 : decode cX9_handler 19 = .ok (.ifCond .lt 8, 3) := by decide +kernel
theorem dX9_handler_22 : decode cX9_handler 22 = .ok (.iload_n 2, 1) := by decide +kernel
theorem dX9_handler_23 : decode cX9_handler 23 = .ok (.iconst 2, 1) := by decide +kernel
theorem dX9_handler_24 : decode cX9_handler 24 = .ok (.if_icmp .le 5, 3) := by decide +kernel
theorem dX9_handler_27 : decode cX9_handler 27 = .ok (.iconst (-1), 1) := by decide +kernel
theorem dX9_handler_28 : decode cX9_handler 28 = .ok (.ireturn, 1) := by decide +kernel
theorem dX9_handler_29 : decode cX9_handler 29 = .ok (.aload_n 0, 1) := by decide +kernel
theorem dX9_handler_30 : decode cX9_handler 30 = .ok (.getfield 28, 3) := by decide +kernel
theorem dX9_handler_33 : decode cX9_handler 33 = .ok (.getfield 159, 3) := by decide +kernel
theorem dX9_handler_36 : decode cX9_handler 36 = .ok (.iload_n 1, 1) := by decide +kernel
theorem dX9_handler_37 : decode cX9_handler 37 = .ok (.iload_n 2, 1) := by decide +kernel
theorem dX9_handler_38 : decode cX9_handler 38 = .ok (.invokevirtual 188, 3) := by decide +kernel
theorem dX9_handler_41 : decode cX9_handler 41 = .ok (.ireturn, 1) := by decide +kernel
set_option maxHeartbeats 8000000 in
set_option maxRecDepth 100000 in
theorem a_X_handler (l : Launch) (D : va_G) (g : Nat → ClassId)   (sz : Nat) (h : Nat) (ai : Nat → Int32) (xa : Nat → Nat) (sh : Nat) (vh : Nat) (coh : Nat) (wh : Nat) (kh : Nat) (mh : Nat) (la : Nat → Nat) (ea : Nat → Nat) (ua : Nat → Nat) (c1h : Nat) (c2h : Nat) (c3h : Nat) (c4h : Nat) (ph : Nat) (qh : Nat) (pa : Nat → Nat) (pr : Nat → Nat) (pf : Nat → Nat → Int32) (n1 : Int32) (n2 : Int32) (hw_p : ∀ k, pr k ≤ pgW_lim k) : vz_Mi l D (tyG g) yX9_handler cX9_handler 3 1 23 0 0 .int [.ref h, .int n1, .int n2] sz (vz_w [maW h ai (xa 0) sh vh coh wh kh mh (la 0) (ea 0) (ua 0) c1h c2h c3h c4h ph qh, pgW g ph pa pr pf]) (fun r (u : Unit) => True) (fun u => vz_w [maW h ai (xa 0) sh vh coh wh kh mh (la 0) (ea 0) (ua 0) c1h c2h c3h c4h ph qh, pgW g ph pa pr pf]) := by
  refine vz_siQ (by decide) (Nat.le_of_ble_eq_true rfl) (fun p e s m args below meth c hx hb hr hml hts hown hlk hin hK hsz A hA H locs hP hD hS ls hl Q hQ => ?_)
  have hl : lv_has ls 3 [(0, .ref h), (1, .int n1), (2, .int n2)] := hl
  have J27 : ∀ (H : Heap) (locs : List Loc) (ls : Array Slot), va_P D vwCl (vz_w [maW h ai (xa 0) sh vh coh wh kh mh (la 0) (ea 0) (ua 0) c1h c2h c3h c4h ph qh, pgW g ph pa pr pf]) H → va_D A (vz_w [maW h ai (xa 0) sh vh coh wh kh mh (la 0) (ea 0) (ua 0) c1h c2h c3h c4h ph qh, pgW g ph pa pr pf]) → va_S A s.heap H locs → lv_has ls 3 [(0, .ref h), (1, .int n1), (2, .int n2)] → W p l e { frames := 1, cells := 0, slots := 0, locals := 23 } s m args below meth c H locs 0 0 Q (F0 m 27 ls []) := by
    intro H locs ls hP hD hS hl
    refine lv_iconst (v := (-1)) hx hb dX9_handler_27 (by decide) ?_
    rw [hQ]
    exact vz_iret3 hx hb hr hlk hK hP hD hS () trivial rfl (Nat.le_refl 0) (Nat.le_refl 0) dX9_handler_28
  refine lv_iload_n hx hb dX9_handler_0 rfl (lv_at hl 1 rfl) ?_
  refine lv_if_lt (tgt := 27) hx hb dX9_handler_1 (by decide) (fun kc1 => ?_) (fun kc1 => ?_)
  · exact J27 H locs ls hP hD hS (lv_sub hl [0, 1, 2] rfl)
  · refine lv_iload_n hx hb dX9_handler_4 rfl (lv_at hl 1 rfl) ?_
    refine lv_aload_n hx hb dX9_handler_5 rfl (lv_at hl 0 rfl) ?_
    refine va_get (D := D) (ci := 9) (v := .ref ph) (C := RX9) (T := TX9) (N := 17) hx hb hts inlX9 hown hK hP 0 rfl rfl 14 (by decide) (hts _ q24) (fun _ h => h) rfl dX9_handler_6 ?_
    refine va_get (D := D) (ci := 2) (v := .ref (pa 4)) (C := RX2) (T := TX2) (N := 5) hx hb hts inlX2 hown hK hP 1 rfl rfl 2 (by decide) (hts _ q966) (fun _ h => h) rfl dX9_handler_9 ?_
    refine va_get (D := D) (ci := 6) (v := .int (nI (pr 2))) (C := RX6) (T := TX6) (N := 4) hx hb hts inlX6 hown hK hP 6 rfl rfl 3 (by decide) (hts _ q259) (fun _ h => h) rfl dX9_handler_12 ?_
    refine lv_icmp_ge (tgt := 27) hx hb dX9_handler_15 (by decide) (fun kc2 => ?_) (fun kc2 => ?_)
    · exact J27 H locs ls hP hD hS (lv_sub hl [0, 1, 2] rfl)
    · refine lv_iload_n hx hb dX9_handler_18 rfl (lv_at hl 2 rfl) ?_
      refine lv_if_lt (tgt := 27) hx hb dX9_handler_19 (by decide) (fun kc3 => ?_) (fun kc3 => ?_)
      · exact J27 H locs ls hP hD hS (lv_sub hl [0, 1, 2] rfl)
      · refine lv_iload_n hx hb dX9_handler_22 rfl (lv_at hl 2 rfl) ?_
        refine lv_iconst (v := 2) hx hb dX9_handler_23 (by decide) ?_
        refine lv_icmp_le (tgt := 29) hx hb dX9_handler_24 (by decide) (fun kc4 => ?_) (fun kc4 => ?_)
        · refine lv_aload_n hx hb dX9_handler_29 rfl (lv_at hl 0 rfl) ?_
          refine va_get (D := D) (ci := 9) (v := .ref ph) (C := RX9) (T := TX9) (N := 17) hx hb hts inlX9 hown hK hP 0 rfl rfl 14 (by decide) (hts _ q24) (fun _ h => h) rfl dX9_handler_30 ?_
          refine va_get (D := D) (ci := 2) (v := .ref (pa 4)) (C := RX2) (T := TX2) (N := 5) hx hb hts inlX2 hown hK hP 1 rfl rfl 2 (by decide) (hts _ q966) (fun _ h => h) rfl dX9_handler_33 ?_
          refine lv_iload_n hx hb dX9_handler_36 rfl (lv_at hl 1 rfl) ?_
          refine lv_iload_n hx hb dX9_handler_37 rfl (lv_at hl 2 rfl) ?_
          refine vz_Vi2 (ws' := fun u : Unit => vz_w [maW h ai (xa 0) sh vh coh wh kh mh (la 0) (ea 0) (ua 0) c1h c2h c3h c4h ph qh, pgW g ph pa pr pf]) (As := [.int n1, .int n2]) (rest := []) hx hb hml hown hts hK hA hP hD hS (c_T_get l D g (pa 4) (pa 5) H.size 5 112 (pr 2) 560 (pf 2) n1 n2 ⟨rfl, by decide, by decide, by decide, by decide, hw_p 2⟩) kv_X9_188 ⟨Nat.le_of_ble_eq_true rfl, Nat.le_of_ble_eq_true rfl⟩ (q0 := 6) (ci := 6) rfl rfl rfl [6, 7] rfl (by decide) (fun _ => rfl) (fun _ => rfl) hl.1 (Nat.le_of_ble_eq_true rfl) dX9_handler_38 ⟨Nat.le_refl _, Nat.le_refl _⟩ rfl (fun v5 _ H locs he6 _ hP hD hS => ?_)
          rw [hQ]
          exact vz_iret3 hx hb hr hlk hK hP hD hS () trivial rfl (Nat.le_refl 0) (Nat.le_refl 0) dX9_handler_41
        · exact J27 H locs ls hP hD hS (lv_sub hl [0, 1, 2] rfl)
theorem q438 : Cond.methodLink RX9 133 yX6_reset ∈ wsL_law := mT_3 (List.mem_of_getElem? (i := 120) rfl) rfl
theorem kv_X9_133 : vz_cv RX9 133 yX6_reset cX6_reset 1 none 0 := ⟨q438, q290, q291, q15, q292, by decide +kernel⟩
theorem dX9_clear_0 : decode cX9_clear 0 = .ok (.aload_n 0, 1) := by decide +kernel
theorem dX9_clear_1 : decode cX9_clear 1 = .ok (.getfield 56, 3) := by decide +kernel
theorem dX9_clear_4 : decode cX9_clear 4 = .ok (.getfield 118, 3) := by decide +kernel
theorem dX9_clear_7 : decode cX9_clear 7 = .ok (.istore_n 1, 1) := by decide +kernel
theorem dX9_clear_8 : decode cX9_clear 8 = .ok (.aload_n 0, 1) := by decide +kernel
theorem dX9_clear_9 : decode cX9_clear 9 = .ok (.getfield 56, 3) := by decide +kernel
theorem dX9_clear_12 : decode cX9_clear 12 = .ok (.invokevirtual 133, 3) := by decide +kernel
theorem dX9_clear_15 : decode cX9_clear 15 = .ok (.iload_n 1, 1) := by decide +kernel
theorem dX9_clear_16 : decode cX9_clear 16 = .ok (.ireturn, 1) := by decide +kernel
set_option maxHeartbeats 8000000 in
set_option maxRecDepth 100000 in
theorem a_X_clear (l : Launch) (D : va_G) (g : Nat → ClassId)   (sz : Nat) (h : Nat) (ai : Nat → Int32) (xa : Nat → Nat) (sh : Nat) (vh : Nat) (coh : Nat) (wh : Nat) (kh : Nat) (mh : Nat) (la : Nat → Nat) (ea : Nat → Nat) (ua : Nat → Nat) (c1h : Nat) (c2h : Nat) (c3h : Nat) (c4h : Nat) (ph : Nat) (qh : Nat) (lr : Nat → Nat) (lf : Nat → Nat → Int32) (hw_l : ∀ k, lr k ≤ (plW_lim 30) k) (hmx_l : 30 ≤ 30) : vz_Mi l D (tyG g) yX9_clear cX9_clear 2 1 20 0 0 .int [.ref h] sz (vz_w [maW h ai (xa 0) sh vh coh wh kh mh (la 0) (ea 0) (ua 0) c1h c2h c3h c4h ph qh, plW g la lr lf 30]) (fun r (u : (Nat → Nat)) => (∀ k, u k ≤ (plW_lim 30) k)) (fun u => vz_w [maW h ai (xa 0) sh vh coh wh kh mh (la 0) (ea 0) (ua 0) c1h c2h c3h c4h ph qh, plW g la u lf 30]) := by
  refine vz_siQ (by decide) (Nat.le_of_ble_eq_true rfl) (fun p e s m args below meth c hx hb hr hml hts hown hlk hin hK hsz A hA H locs hP hD hS ls hl Q hQ => ?_)
  have hl : lv_has ls 2 [(0, .ref h)] := hl
  refine lv_aload_n hx hb dX9_clear_0 rfl (lv_at hl 0 rfl) ?_
  refine va_get (D := D) (ci := 9) (v := .ref (la 0)) (C := RX9) (T := TX9) (N := 17) hx hb hts inlX9 hown hK hP 0 rfl rfl 7 (by decide) (hts _ q35) (fun _ h => h) rfl dX9_clear_1 ?_
  refine va_get (D := D) (ci := 6) (v := .int (nI (lr 0))) (C := RX6) (T := TX6) (N := 4) hx hb hts inlX6 hown hK hP 1 rfl rfl 3 (by decide) (hts _ q259) (fun _ h => h) rfl dX9_clear_4 ?_
  refine lv_istore_n (lv' := [(1, .int (nI (lr 0))), (0, .ref h)]) hx hb dX9_clear_7 rfl hl (by decide) rfl (fun ls hl => ?_)
  refine lv_aload_n hx hb dX9_clear_8 rfl (lv_at hl 1 rfl) ?_
  refine va_get (D := D) (ci := 9) (v := .ref (la 0)) (C := RX9) (T := TX9) (N := 17) hx hb hts inlX9 hown hK hP 0 rfl rfl 7 (by decide) (hts _ q35) (fun _ h => h) rfl dX9_clear_9 ?_
  refine vz_Vv2 (ws' := fun u : Unit => vz_w [maW h ai (xa 0) sh vh coh wh kh mh (la 0) (ea 0) (ua 0) c1h c2h c3h c4h ph qh, plW g la (vz_un lr 0 0) lf 30]) (As := []) (rest := []) hx hb hml hown hts hK hA hP hD hS (c_T_reset l D g (la 0) (la 1) H.size (nI 4) (nI 30) (nI (lr 0))) kv_X9_133 ⟨Nat.le_of_ble_eq_true rfl, Nat.le_of_ble_eq_true rfl⟩ (q0 := 1) (ci := 6) rfl rfl rfl [1] rfl (by decide) (fun _ => rfl) (fun _ => rfl) hl.1 (Nat.le_of_ble_eq_true rfl) dX9_clear_12 ⟨Nat.le_refl _, Nat.le_refl _⟩ rfl (fun _ H locs _ _ hP hD hS => ?_)
  obtain ⟨lr_1, hw_lr_1, hP, hD⟩ : ∃ lr_1 : Nat → Nat, (∀ k, lr_1 k ≤ (plW_lim 30) k) ∧ va_P D vwCl (vz_w [maW h ai (xa 0) sh vh coh wh kh mh (la 0) (ea 0) (ua 0) c1h c2h c3h c4h ph qh, plW g la lr_1 lf 30]) H ∧ va_D A (vz_w [maW h ai (xa 0) sh vh coh wh kh mh (la 0) (ea 0) (ua 0) c1h c2h c3h c4h ph qh, plW g la lr_1 lf 30]) := ⟨(vz_un lr 0 0), (vz_wf hw_l (t := 0) (v := 0) (Nat.zero_le _)), hP, hD⟩
  refine lv_iload_n hx hb dX9_clear_15 rfl (lv_at hl 0 rfl) ?_
  rw [hQ]
  exact vz_iret3 hx hb hr hlk hK hP hD hS lr_1 hw_lr_1 rfl (Nat.le_refl 0) (Nat.le_refl 0) dX9_clear_16
theorem q975 : Cond.methodLink RX9 162 yX2_hasPart ∈ wsL_law := mT_4 (List.mem_of_getElem? (i := 174) rfl) rfl
theorem q976 : Cond.instanceMethod yX2_hasPart ∈ wsL_law := mT_4 (List.mem_of_getElem? (i := 175) rfl) rfl
theorem q977 : Cond.selects RX2 yX2_hasPart yX2_hasPart ∈ wsL_law := mT_4 (List.mem_of_getElem? (i := 176) rfl) rfl
theorem q978 : Cond.code yX2_hasPart cX2_hasPart 5 (some .boolean) ∈ wsL_law := mT_4 (List.mem_of_getElem? (i := 177) rfl) rfl
theorem kv_X9_162 : vz_cv RX9 162 yX2_hasPart cX2_hasPart 5 (some .boolean) 2 := ⟨q975, q976, q977, q23, q978, by decide +kernel⟩
theorem q260 : Cond.methodLink RX9 121 yX6_add ∈ wsL_law := mT_2 (List.mem_of_getElem? (i := 194) rfl) rfl
theorem kv_X9_121 : vz_cv RX9 121 yX6_add cX6_add 2 (some .int) 0 := ⟨q260, q261, q262, q15, q263, by decide +kernel⟩
theorem q264 : Cond.methodLink RX9 125 yX6_set ∈ wsL_law := mT_2 (List.mem_of_getElem? (i := 198) rfl) rfl
theorem kv_X9_125 : vz_cv RX9 125 yX6_set cX6_set 5 none 3 := ⟨q264, q265, q266, q15, q267, by decide +kernel⟩
theorem dX9_plan_0 : decode cX9_plan 0 = .ok (.aload_n 0, 1) := by decide +kernel
theorem dX9_plan_1 : decode cX9_plan 1 = .ok (.getfield 28, 3) := by decide +kernel
theorem dX9_plan_4 : decode cX9_plan 4 = .ok (.iload_n 1, 1) := by decide +kernel
theorem dX9_plan_5 : decode cX9_plan 5 = .ok (.iload_n 2, 1) := by decide +kernel
theorem dX9_plan_6 : decode cX9_plan 6 = .ok (.invokevirtual 162, 3) := by decide +kernel
theorem dX9_plan_9 : decode cX9_plan 9 = .ok (.ifCond .eq 35, 3) := by decide +kernel
theorem dX9_plan_12 : decode cX9_plan 12 = .ok (.iload_n 3, 1) := by decide +kernel
theorem dX9_plan_13 : decode cX9_plan 13 = .ok (.iconst 1, 1) := by decide +kernel
theorem dX9_plan_14 : decode cX9_plan 14 = .ok (.if_icmp .lt 30, 3) := by decide +kernel
theorem dX9_plan_17 : decode cX9_plan 17 = .ok (.iload_n 3, 1) := by decide +kernel
theorem dX9_plan_18 : decode cX9_plan 18 = .ok (.sipush 400, 3) := by decide +kernel
theorem dX9_plan_21 : decode cX9_plan 21 = .ok (.if_icmp .gt 23, 3) := by decide +kernel
theorem dX9_plan_24 : decode cX9_plan 24 = .ok (.iload 4, 2) := by decide +kernel
theorem dX9_plan_26 : decode cX9_plan 26 = .ok (.ifCond .lt 18, 3) := by decide +kernel
theorem dX9_plan_29 : decode cX9_plan 29 = .ok (.iload 4, 2) := by decide +kernel
theorem dX9_plan_31 : decode cX9_plan 31 = .ok (.aload_n 0, 1) := by decide +kernel
theorem dX9_plan_32 : decode cX9_plan 32 = .ok (.getfield 28, 3) := by decide +kernel
theorem dX9_plan_35 : decode cX9_plan 35 = .ok (.getfield 156, 3) := by decide +kernel
theorem dX9_plan_38 : decode cX9_plan 38 = .ok (.getfield 118, 3) := by decide +kernel
theorem dX9_plan_41 : decode cX9_plan 41 = .ok (.if_icmp .lt 5, 3) := by decide +kernel
theorem dX9_plan_44 : decode cX9_plan 44 = .ok (.iconst (-1), 1) := by decide +kernel
theorem dX9_plan_45 : decode cX9_plan 45 = .ok (.ireturn, 1) := by decide +kernel
theorem dX9_plan_46 : decode cX9_plan 46 = .ok (.aload_n 0, 1) := by decide +kernel
theorem dX9_plan_47 : decode cX9_plan 47 = .ok (.getfield 56, 3) := by decide +kernel
theorem dX9_plan_50 : decode cX9_plan 50 = .ok (.invokevirtual 121, 3) := by decide +kernel
theorem dX9_plan_53 : decode cX9_plan 53 = .ok (.istore 5, 2) := by decide +kernel
theorem dX9_plan_55 : decode cX9_plan 55 = .ok (.iload 5, 2) := by decide +kernel
theorem dX9_plan_57 : decode cX9_plan 57 = .ok (.bipush (-9), 2) := by decide +kernel
theorem dX9_plan_59 : decode cX9_plan 59 = .ok (.if_icmp .ne 6, 3) := by decide +kernel
theorem dX9_plan_62 : decode cX9_plan 62 = .ok (.bipush (-2), 2) := by decide +kernel
theorem dX9_plan_64 : decode cX9_plan 64 = .ok (.ireturn, 1) := by decide +kernel
theorem dX9_plan_65 : decode cX9_plan 65 = .ok (.aload_n 0, 1) := by decide +kernel
theorem dX9_plan_66 : decode cX9_plan 66 = .ok (.getfield 56, 3) := by decide +kernel
theorem dX9_plan_69 : decode cX9_plan 69 = .ok (.iload 5, 2) := by decide +kernel
theorem dX9_plan_71 : decode cX9_plan 71 = .ok (.iconst 0, 1) := by decide +kernel
theorem dX9_plan_72 : decode cX9_plan 72 = .ok (.iload_n 1, 1) := by decide +kernel
theorem dX9_plan_73 : decode cX9_plan 73 = .ok (.invokevirtual 125, 3) := by decide +kernel
theorem dX9_plan_76 : decode cX9_plan 76 = .ok (.aload_n 0, 1) := by decide +kernel
theorem dX9_plan_77 : decode cX9_plan 77 = .ok (.getfield 56, 3) := by decide +kernel
theorem dX9_plan_80 : decode cX9_plan 80 = .ok (.iload 5, 2) := by decide +kernel
theorem dX9_plan_82 : decode cX9_plan 82 = .ok (.iconst 1, 1) := by decide +kernel
theorem dX9_plan_83 : decode cX9_plan 83 = .ok (.iload_n 2, 1) := by decide +kernel
theorem dX9_plan_84 : decode cX9_plan 84 = .ok (.invokevirtual 125, 3) := by decide +kernel
theorem dX9_plan_87 : decode cX9_plan 87 = .ok (.aload_n 0, 1) := by decide +kernel
theorem dX9_plan_88 : decode cX9_plan 88 = .ok (.getfield 56, 3) := by decide +kernel
theorem dX9_plan_91 : decode cX9_plan 91 = .ok (.iload 5, 2) := by decide +kernel
theorem dX9_plan_93 : decode cX9_plan 93 = .ok (.iconst 2, 1) := by decide +kernel
theorem dX9_plan_94 : decode cX9_plan 94 = .ok (.iload_n 3, 1) := by decide +kernel
theorem dX9_plan_95 : decode cX9_plan 95 = .ok (.invokevirtual 125, 3) := by decide +kernel
theorem dX9_plan_98 : decode cX9_plan 98 = .ok (.aload_n 0, 1) := by decide +kernel
theorem dX9_plan_99 : decode cX9_plan 99 = .ok (.getfield 56, 3) := by decide +kernel
theorem dX9_plan_102 : decode cX9_plan 102 = .ok (.iload 5, 2) := by decide +kernel
theorem dX9_plan_104 : decode cX9_plan 104 = .ok (.iconst 3, 1) := by decide +kernel
theorem dX9_plan_105 : decode cX9_plan 105 = .ok (.iload 4, 2) := by decide +kernel
theorem dX9_plan_107 : decode cX9_plan 107 = .ok (.invokevirtual 125, 3) := by decide +kernel
theorem dX9_plan_110 : decode cX9_plan 110 = .ok (.aload_n 0, 1) := by decide +kernel
theorem dX9_plan_111 : decode cX9_plan 111 = .ok (.getfield 56, 3) := by decide +kernel
theorem dX9_plan_114 : decode cX9_plan 114 = .ok (.getfield 118, 3) := by decide +kernel
theorem dX9_plan_117 : decode cX9_plan 117 = .ok (.ireturn, 1) := by decide +kernel
set_option maxHeartbeats 8000000 in
set_option maxRecDepth 100000 in
theorem a_X_plan (l : Launch) (D : va_G) (g : Nat → ClassId)   (sz : Nat) (h : Nat) (ai : Nat → Int32) (xa : Nat → Nat) (sh : Nat) (vh : Nat) (coh : Nat) (wh : Nat) (kh : Nat) (mh : Nat) (la : Nat → Nat) (ea : Nat → Nat) (ua : Nat → Nat) (c1h : Nat) (c2h : Nat) (c3h : Nat) (c4h : Nat) (ph : Nat) (qh : Nat) (pa : Nat → Nat) (pr : Nat → Nat) (pf : Nat → Nat → Int32) (lr : Nat → Nat) (lf : Nat → Nat → Int32) (n1 : Int32) (n2 : Int32) (n3 : Int32) (n4 : Int32) (hw_p : ∀ k, pr k ≤ pgW_lim k) (hw_l : ∀ k, lr k ≤ (plW_lim 30) k) (hmx_l : 30 ≤ 30) : vz_Mi l D (tyG g) yX9_plan cX9_plan 6 2 47 0 0 .int [.ref h, .int n1, .int n2, .int n3, .int n4] sz (vz_w [maW h ai (xa 0) sh vh coh wh kh mh (la 0) (ea 0) (ua 0) c1h c2h c3h c4h ph qh, pgW g ph pa pr pf, plW g la lr lf 30]) (fun r (u : (Nat → Nat) × (Nat → Nat → Int32)) => (∀ k, u.1 k ≤ (plW_lim 30) k)) (fun u => vz_w [maW h ai (xa 0) sh vh coh wh kh mh (la 0) (ea 0) (ua 0) c1h c2h c3h c4h ph qh, pgW g ph pa pr pf, plW g la u.1 u.2 30]) := by
  refine vz_siQ (by decide) (Nat.le_of_ble_eq_true rfl) (fun p e s m args below meth c hx hb hr hml hts hown hlk hin hK hsz A hA H locs hP hD hS ls hl Q hQ => ?_)
  have hl : lv_has ls 6 [(0, .ref h), (1, .int n1), (2, .int n2), (3, .int n3), (4, .int n4)] := hl
  have J44 : ∀ (lr_44 : Nat → Nat), ∀ (lf_44 : Nat → Nat → Int32), (∀ k, lr_44 k ≤ (plW_lim 30) k) → ∀ (H : Heap) (locs : List Loc) (ls : Array Slot), va_P D vwCl (vz_w [maW h ai (xa 0) sh vh coh wh kh mh (la 0) (ea 0) (ua 0) c1h c2h c3h c4h ph qh, pgW g ph pa pr pf, plW g la lr_44 lf_44 30]) H → va_D A (vz_w [maW h ai (xa 0) sh vh coh wh kh mh (la 0) (ea 0) (ua 0) c1h c2h c3h c4h ph qh, pgW g ph pa pr pf, plW g la lr_44 lf_44 30]) → va_S A s.heap H locs → lv_has ls 6 [(0, .ref h), (1, .int n1), (2, .int n2), (3, .int n3), (4, .int n4)] → W p l e { frames := 2, cells := 0, slots := 0, locals := 47 } s m args below meth c H locs 0 0 Q (F0 m 44 ls []) := by
    intro lr_44 lf_44 hw_l_44 H locs ls hP hD hS hl
    refine lv_iconst (v := (-1)) hx hb dX9_plan_44 (by decide) ?_
    rw [hQ]
    exact vz_iret3 hx hb hr hlk hK hP hD hS (lr_44, lf_44) hw_l_44 rfl (Nat.le_refl 0) (Nat.le_refl 0) dX9_plan_45
  refine lv_aload_n hx hb dX9_plan_0 rfl (lv_at hl 0 rfl) ?_
  refine va_get (D := D) (ci := 9) (v := .ref ph) (C := RX9) (T := TX9) (N := 17) hx hb hts inlX9 hown hK hP 0 rfl rfl 14 (by decide) (hts _ q24) (fun _ h => h) rfl dX9_plan_1 ?_
  refine lv_iload_n hx hb dX9_plan_4 rfl (lv_at hl 1 rfl) ?_
  refine lv_iload_n hx hb dX9_plan_5 rfl (lv_at hl 2 rfl) ?_
  refine vz_Vi4 (n9 := 3) (bs2 := fun u : Unit => [maW h ai (xa 0) sh vh coh wh kh mh (la 0) (ea 0) (ua 0) c1h c2h c3h c4h ph qh, pgW g ph pa pr pf, plW g la lr lf 30]) (br := [maW h ai (xa 0) sh vh coh wh kh mh (la 0) (ea 0) (ua 0) c1h c2h c3h c4h ph qh, plW g la lr lf 30]) (As := [.int n1, .int n2]) (rest := []) hx hb hml hown hts hK hA hP hD hS (a_P_hasPart l D g H.size ph pa pr pf n1 n2 hw_p) kv_X9_162 ⟨Nat.le_of_ble_eq_true rfl, Nat.le_of_ble_eq_true rfl⟩ (q0 := 1) (ci := 2) rfl rfl rfl [1] [0, 2] rfl (by decide) rfl (fun _ => rfl) (fun _ => rfl) hl.1 (Nat.le_of_ble_eq_true rfl) dX9_plan_6 ⟨Nat.le_refl _, Nat.le_refl _⟩ rfl (fun v1 _ H locs hz2 _ hP hD hS => ?_)
  refine lv_if_eq (tgt := 44) hx hb dX9_plan_9 (by decide) (fun kc3 => ?_) (fun kc3 => ?_)
  · exact J44 lr lf hw_l H locs ls hP hD hS (lv_sub hl [0, 1, 2, 3, 4] rfl)
  · refine lv_iload_n hx hb dX9_plan_12 rfl (lv_at hl 3 rfl) ?_
    refine lv_iconst (v := 1) hx hb dX9_plan_13 (by decide) ?_
    refine lv_icmp_lt (tgt := 44) hx hb dX9_plan_14 (by decide) (fun kc4 => ?_) (fun kc4 => ?_)
    · exact J44 lr lf hw_l H locs ls hP hD hS (lv_sub hl [0, 1, 2, 3, 4] rfl)
    · refine lv_iload_n hx hb dX9_plan_17 rfl (lv_at hl 3 rfl) ?_
      refine lv_sipush (v := 400) hx hb dX9_plan_18 (by decide) ?_
      refine lv_icmp_gt (tgt := 44) hx hb dX9_plan_21 (by decide) (fun kc5 => ?_) (fun kc5 => ?_)
      · exact J44 lr lf hw_l H locs ls hP hD hS (lv_sub hl [0, 1, 2, 3, 4] rfl)
      · refine lv_iload hx hb dX9_plan_24 (lv_at hl 4 rfl) ?_
        refine lv_if_lt (tgt := 44) hx hb dX9_plan_26 (by decide) (fun kc6 => ?_) (fun kc6 => ?_)
        · exact J44 lr lf hw_l H locs ls hP hD hS (lv_sub hl [0, 1, 2, 3, 4] rfl)
        · refine lv_iload hx hb dX9_plan_29 (lv_at hl 4 rfl) ?_
          refine lv_aload_n hx hb dX9_plan_31 rfl (lv_at hl 0 rfl) ?_
          refine va_get (D := D) (ci := 9) (v := .ref ph) (C := RX9) (T := TX9) (N := 17) hx hb hts inlX9 hown hK hP 0 rfl rfl 14 (by decide) (hts _ q24) (fun _ h => h) rfl dX9_plan_32 ?_
          refine va_get (D := D) (ci := 2) (v := .ref (pa 6)) (C := RX2) (T := TX2) (N := 5) hx hb hts inlX2 hown hK hP 1 rfl rfl 3 (by decide) (hts _ q965) (fun _ h => h) rfl dX9_plan_35 ?_
          refine va_get (D := D) (ci := 6) (v := .int (nI (pr 3))) (C := RX6) (T := TX6) (N := 4) hx hb hts inlX6 hown hK hP 8 rfl rfl 3 (by decide) (hts _ q259) (fun _ h => h) rfl dX9_plan_38 ?_
          refine lv_icmp_lt (tgt := 46) hx hb dX9_plan_41 (by decide) (fun kc7 => ?_) (fun kc7 => ?_)
          · refine lv_aload_n hx hb dX9_plan_46 rfl (lv_at hl 0 rfl) ?_
            refine va_get (D := D) (ci := 9) (v := .ref (la 0)) (C := RX9) (T := TX9) (N := 17) hx hb hts inlX9 hown hK hP 0 rfl rfl 7 (by decide) (hts _ q35) (fun _ h => h) rfl dX9_plan_47 ?_
            refine vz_Vi2 (ws' := fun u : (Nat × (Nat → Int32)) => vz_w [maW h ai (xa 0) sh vh coh wh kh mh (la 0) (ea 0) (ua 0) c1h c2h c3h c4h ph qh, pgW g ph pa pr pf, plW g la (vz_un lr 0 u.1) (vz_uf lf 0 u.2) 30]) (As := []) (rest := []) hx hb hml hown hts hK hA hP hD hS (c_T_add l D g (la 0) (la 1) H.size 4 30 (lr 0) (30 * 4) (lf 0) ⟨rfl, by omega, by omega, by decide, by decide, hw_l 0⟩) kv_X9_121 ⟨Nat.le_of_ble_eq_true rfl, Nat.le_of_ble_eq_true rfl⟩ (q0 := 12) (ci := 6) rfl rfl rfl [12, 13] rfl (by decide) (fun _ => rfl) (fun _ => rfl) hl.1 (Nat.le_of_ble_eq_true rfl) dX9_plan_50 ⟨Nat.le_refl _, Nat.le_refl _⟩ rfl (fun v10 ⟨u8R, u8f⟩ H locs ha9 _ hP hD hS => ?_)
            have hq : (lr 0) ≤ 30 := hw_l 0
            replace ha9 : u8R ≤ 30 := by rcases ha9 with ⟨z1, -, z2, -⟩ | ⟨z1, -, z2, -⟩ <;> (dsimp only at z2; omega)
            obtain ⟨lr_11, hw_lr_11, lf_12, hP, hD⟩ : ∃ lr_11 : Nat → Nat, (∀ k, lr_11 k ≤ (plW_lim 30) k) ∧ ∃ lf_12 : Nat → Nat → Int32, va_P D vwCl (vz_w [maW h ai (xa 0) sh vh coh wh kh mh (la 0) (ea 0) (ua 0) c1h c2h c3h c4h ph qh, pgW g ph pa pr pf, plW g la lr_11 lf_12 30]) H ∧ va_D A (vz_w [maW h ai (xa 0) sh vh coh wh kh mh (la 0) (ea 0) (ua 0) c1h c2h c3h c4h ph qh, pgW g ph pa pr pf, plW g la lr_11 lf_12 30]) := ⟨(vz_un lr 0 u8R), (vz_wf hw_l (t := 0) (v := u8R) (ha9)), (vz_uf lf 0 u8f), hP, hD⟩
            refine lv_istore (lv' := [(5, .int v10), (0, .ref h), (1, .int n1), (2, .int n2), (3, .int n3), (4, .int n4)]) hx hb dX9_plan_53 hl (by decide) rfl (fun ls hl => ?_)
            refine lv_iload hx hb dX9_plan_55 (lv_at hl 0 rfl) ?_
            refine lv_bipush (v := (-9)) hx hb dX9_plan_57 (by decide) ?_
            refine lv_icmp_ne (tgt := 65) hx hb dX9_plan_59 (by decide) (fun kc13 => ?_) (fun kc13 => ?_)
            · refine lv_aload_n hx hb dX9_plan_65 rfl (lv_at hl 1 rfl) ?_
              refine va_get (D := D) (ci := 9) (v := .ref (la 0)) (C := RX9) (T := TX9) (N := 17) hx hb hts inlX9 hown hK hP 0 rfl rfl 7 (by decide) (hts _ q35) (fun _ h => h) rfl dX9_plan_66 ?_
              refine lv_iload hx hb dX9_plan_69 (lv_at hl 0 rfl) ?_
              refine lv_iconst (v := 0) hx hb dX9_plan_71 (by decide) ?_
              refine lv_iload_n hx hb dX9_plan_72 rfl (lv_at hl 2 rfl) ?_
              refine vz_Vv2 (ws' := fun u : (Nat → Int32) => vz_w [maW h ai (xa 0) sh vh coh wh kh mh (la 0) (ea 0) (ua 0) c1h c2h c3h c4h ph qh, pgW g ph pa pr pf, plW g la lr_11 (vz_uf lf_12 0 u) 30]) (As := [.int v10, .int 0, .int n1]) (rest := []) hx hb hml hown hts hK hA hP hD hS (c_T_set l D g (la 0) (la 1) H.size 4 30 (lr_11 0) (30 * 4) (lf_12 0) v10 0 n1 ⟨rfl, by omega, by omega, by decide, by decide, hw_lr_11 0⟩) kv_X9_125 ⟨Nat.le_of_ble_eq_true rfl, Nat.le_of_ble_eq_true rfl⟩ (q0 := 12) (ci := 6) rfl rfl rfl [12, 13] rfl (by decide) (fun _ => rfl) (fun _ => rfl) hl.1 (Nat.le_of_ble_eq_true rfl) dX9_plan_73 ⟨Nat.le_refl _, Nat.le_refl _⟩ rfl (fun nf14 H locs _ _ hP hD hS => ?_)
              obtain ⟨lf_15, hP, hD⟩ : ∃ lf_15 : Nat → Nat → Int32, va_P D vwCl (vz_w [maW h ai (xa 0) sh vh coh wh kh mh (la 0) (ea 0) (ua 0) c1h c2h c3h c4h ph qh, pgW g ph pa pr pf, plW g la lr_11 lf_15 30]) H ∧ va_D A (vz_w [maW h ai (xa 0) sh vh coh wh kh mh (la 0) (ea 0) (ua 0) c1h c2h c3h c4h ph qh, pgW g ph pa pr pf, plW g la lr_11 lf_15 30]) := ⟨(vz_uf lf_12 0 nf14), hP, hD⟩
              refine lv_aload_n hx hb dX9_plan_76 rfl (lv_at hl 1 rfl) ?_
              refine va_get (D := D) (ci := 9) (v := .ref (la 0)) (C := RX9) (T := TX9) (N := 17) hx hb hts inlX9 hown hK hP 0 rfl rfl 7 (by decide) (hts _ q35) (fun _ h => h) rfl dX9_plan_77 ?_
              refine lv_iload hx hb dX9_plan_80 (lv_at hl 0 rfl) ?_
              refine lv_iconst (v := 1) hx hb dX9_plan_82 (by decide) ?_
              refine lv_iload_n hx hb dX9_plan_83 rfl (lv_at hl 3 rfl) ?_
              refine vz_Vv2 (ws' := fun u : (Nat → Int32) => vz_w [maW h ai (xa 0) sh vh coh wh kh mh (la 0) (ea 0) (ua 0) c1h c2h c3h c4h ph qh, pgW g ph pa pr pf, plW g la lr_11 (vz_uf lf_15 0 u) 30]) (As := [.int v10, .int 1, .int n2]) (rest := []) hx hb hml hown hts hK hA hP hD hS (c_T_set l D g (la 0) (la 1) H.size 4 30 (lr_11 0) (30 * 4) (lf_15 0) v10 1 n2 ⟨rfl, by omega, by omega, by decide, by decide, hw_lr_11 0⟩) kv_X9_125 ⟨Nat.le_of_ble_eq_true rfl, Nat.le_of_ble_eq_true rfl⟩ (q0 := 12) (ci := 6) rfl rfl rfl [12, 13] rfl (by decide) (fun _ => rfl) (fun _ => rfl) hl.1 (Nat.le_of_ble_eq_true rfl) dX9_plan_84 ⟨Nat.le_refl _, Nat.le_refl _⟩ rfl (fun nf16 H locs _ _ hP hD hS => ?_)
              obtain ⟨lf_17, hP, hD⟩ : ∃ lf_17 : Nat → Nat → Int32, va_P D vwCl (vz_w [maW h ai (xa 0) sh vh coh wh kh mh (la 0) (ea 0) (ua 0) c1h c2h c3h c4h ph qh, pgW g ph pa pr pf, plW g la lr_11 lf_17 30]) H ∧ va_D A (vz_w [maW h ai (xa 0) sh vh coh wh kh mh (la 0) (ea 0) (ua 0) c1h c2h c3h c4h ph qh, pgW g ph pa pr pf, plW g la lr_11 lf_17 30]) := ⟨(vz_uf lf_15 0 nf16), hP, hD⟩
              refine lv_aload_n hx hb dX9_plan_87 rfl (lv_at hl 1 rfl) ?_
              refine va_get (D := D) (ci := 9) (v := .ref (la 0)) (C := RX9) (T := TX9) (N := 17) hx hb hts inlX9 hown hK hP 0 rfl rfl 7 (by decide) (hts _ q35) (fun _ h => h) rfl dX9_plan_88 ?_
              refine lv_iload hx hb dX9_plan_91 (lv_at hl 0 rfl) ?_
              refine lv_iconst (v := 2) hx hb dX9_plan_93 (by decide) ?_
              refine lv_iload_n hx hb dX9_plan_94 rfl (lv_at hl 4 rfl) ?_
              refine vz_Vv2 (ws' := fun u : (Nat → Int32) => vz_w [maW h ai (xa 0) sh vh coh wh kh mh (la 0) (ea 0) (ua 0) c1h c2h c3h c4h ph qh, pgW g ph pa pr pf, plW g la lr_11 (vz_uf lf_17 0 u) 30]) (As := [.int v10, .int 2, .int n3]) (rest := []) hx hb hml hown hts hK hA hP hD hS (c_T_set l D g (la 0) (la 1) H.size 4 30 (lr_11 0) (30 * 4) (lf_17 0) v10 2 n3 ⟨rfl, by omega, by omega, by decide, by decide, hw_lr_11 0⟩) kv_X9_125 ⟨Nat.le_of_ble_eq_true rfl, Nat.le_of_ble_eq_true rfl⟩ (q0 := 12) (ci := 6) rfl rfl rfl [12, 13] rfl (by decide) (fun _ => rfl) (fun _ => rfl) hl.1 (Nat.le_of_ble_eq_true rfl) dX9_plan_95 ⟨Nat.le_refl _, Nat.le_refl _⟩ rfl (fun nf18 H locs _ _ hP hD hS => ?_)
              obtain ⟨lf_19, hP, hD⟩ : ∃ lf_19 : Nat → Nat → Int32, va_P D vwCl (vz_w [maW h ai (xa 0) sh vh coh wh kh mh (la 0) (ea 0) (ua 0) c1h c2h c3h c4h ph qh, pgW g ph pa pr pf, plW g la lr_11 lf_19 30]) H ∧ va_D A (vz_w [maW h ai (xa 0) sh vh coh wh kh mh (la 0) (ea 0) (ua 0) c1h c2h c3h c4h ph qh, pgW g ph pa pr pf, plW g la lr_11 lf_19 30]) := ⟨(vz_uf lf_17 0 nf18), hP, hD⟩
              refine lv_aload_n hx hb dX9_plan_98 rfl (lv_at hl 1 rfl) ?_
              refine va_get (D := D) (ci := 9) (v := .ref (la 0)) (C := RX9) (T := TX9) (N := 17) hx hb hts inlX9 hown hK hP 0 rfl rfl 7 (by decide) (hts _ q35) (fun _ h => h) rfl dX9_plan_99 ?_
              refine lv_iload hx hb dX9_plan_102 (lv_at hl 0 rfl) ?_
              refine lv_iconst (v := 3) hx hb dX9_plan_104 (by decide) ?_
              refine lv_iload hx hb dX9_plan_105 (lv_at hl 5 rfl) ?_
              refine vz_Vv2 (ws' := fun u : (Nat → Int32) => vz_w [maW h ai (xa 0) sh vh coh wh kh mh (la 0) (ea 0) (ua 0) c1h c2h c3h c4h ph qh, pgW g ph pa pr pf, plW g la lr_11 (vz_uf lf_19 0 u) 30]) (As := [.int v10, .int 3, .int n4]) (rest := []) hx hb hml hown hts hK hA hP hD hS (c_T_set l D g (la 0) (la 1) H.size 4 30 (lr_11 0) (30 * 4) (lf_19 0) v10 3 n4 ⟨rfl, by omega, by omega, by decide, by decide, hw_lr_11 0⟩) kv_X9_125 ⟨Nat.le_of_ble_eq_true rfl, Nat.le_of_ble_eq_true rfl⟩ (q0 := 12) (ci := 6) rfl rfl rfl [12, 13] rfl (by decide) (fun _ => rfl) (fun _ => rfl) hl.1 (Nat.le_of_ble_eq_true rfl) dX9_plan_107 ⟨Nat.le_refl _, Nat.le_refl _⟩ rfl (fun nf20 H locs _ _ hP hD hS => ?_)
              obtain ⟨lf_21, hP, hD⟩ : ∃ lf_21 : Nat → Nat → Int32, va_P D vwCl (vz_w [maW h ai (xa 0) sh vh coh wh kh mh (la 0) (ea 0) (ua 0) c1h c2h c3h c4h ph qh, pgW g ph pa pr pf, plW g la lr_11 lf_21 30]) H ∧ va_D A (vz_w [maW h ai (xa 0) sh vh coh wh kh mh (la 0) (ea 0) (ua 0) c1h c2h c3h c4h ph qh, pgW g ph pa pr pf, plW g la lr_11 lf_21 30]) := ⟨(vz_uf lf_19 0 nf20), hP, hD⟩
              refine lv_aload_n hx hb dX9_plan_110 rfl (lv_at hl 1 rfl) ?_
              refine va_get (D := D) (ci := 9) (v := .ref (la 0)) (C := RX9) (T := TX9) (N := 17) hx hb hts inlX9 hown hK hP 0 rfl rfl 7 (by decide) (hts _ q35) (fun _ h => h) rfl dX9_plan_111 ?_
              refine va_get (D := D) (ci := 6) (v := .int (nI (lr_11 0))) (C := RX6) (T := TX6) (N := 4) hx hb hts inlX6 hown hK hP 12 rfl rfl 3 (by decide) (hts _ q259) (fun _ h => h) rfl dX9_plan_114 ?_
              rw [hQ]
              exact vz_iret3 hx hb hr hlk hK hP hD hS (lr_11, lf_21) hw_lr_11 rfl (Nat.le_refl 0) (Nat.le_refl 0) dX9_plan_117
            · refine lv_bipush (v := (-2)) hx hb dX9_plan_62 (by decide) ?_
              rw [hQ]
              exact vz_iret3 hx hb hr hlk hK hP hD hS (lr_11, lf_12) hw_lr_11 rfl (Nat.le_refl 0) (Nat.le_refl 0) dX9_plan_64
          · exact J44 lr lf hw_l H locs ls hP hD hS (lv_sub hl [0, 1, 2, 3, 4] rfl)
theorem q48 : Cond.fieldLink RX9 86 "WaysAtlas" "world" "LWaysAtlas$World;" ∈ wsL_law := mT_2 (List.mem_of_getElem? (i := 142) rfl) rfl
theorem q1015 : Cond.methodLink RX9 222 yX8_prepare ∈ wsL_law := mT_4 (List.mem_of_getElem? (i := 194) rfl) rfl
theorem q1016 : Cond.instanceMethod yX8_prepare ∈ wsL_law := mT_4 (List.mem_of_getElem? (i := 195) rfl) rfl
theorem q1017 : Cond.selects RX8 yX8_prepare yX8_prepare ∈ wsL_law := mT_4 (List.mem_of_getElem? (i := 196) rfl) rfl
theorem q1018 : Cond.code yX8_prepare cX8_prepare 5 none ∈ wsL_law := mT_4 (List.mem_of_getElem? (i := 197) rfl) rfl
theorem kv_X9_222 : vz_cv RX9 222 yX8_prepare cX8_prepare 5 none 4 := ⟨q1015, q1016, q1017, q47, q1018, by decide +kernel⟩
theorem q52 : Cond.fieldLink RX9 95 "WaysAtlas" "walker" "LWaysAtlas$Walker;" ∈ wsL_law := mT_2 (List.mem_of_getElem? (i := 143) rfl) rfl
theorem q1035 : Cond.methodLink RX9 226 yX7_walk ∈ wsL_law := mT_4 (List.mem_of_getElem? (i := 205) rfl) rfl
theorem q1036 : Cond.instanceMethod yX7_walk ∈ wsL_law := mT_4 (List.mem_of_getElem? (i := 206) rfl) rfl
theorem q1037 : Cond.selects RX7 yX7_walk yX7_walk ∈ wsL_law := mT_4 (List.mem_of_getElem? (i := 207) rfl) rfl
theorem q1038 : Cond.code yX7_walk cX7_walk 6 none ∈ wsL_law := mT_4 (List.mem_of_getElem? (i := 208) rfl) rfl
theorem kv_X9_226 : vz_cv RX9 226 yX7_walk cX7_walk 6 none 3 := ⟨q1035, q1036, q1037, q51, q1038, by decide +kernel⟩
theorem q58 : Cond.fieldLink RX9 110 "WaysAtlas" "machine" "LWaysAtlas$Machine;" ∈ wsL_law := mT_2 (List.mem_of_getElem? (i := 144) rfl) rfl
theorem q1260 : Cond.methodLink RX9 229 yX1_work ∈ wsL_law := mT_5 (List.mem_of_getElem? (i := 166) rfl) rfl
theorem q1261 : Cond.instanceMethod yX1_work ∈ wsL_law := mT_5 (List.mem_of_getElem? (i := 167) rfl) rfl
theorem q1262 : Cond.selects RX1 yX1_work yX1_work ∈ wsL_law := mT_5 (List.mem_of_getElem? (i := 168) rfl) rfl
theorem q1263 : Cond.code yX1_work cX1_work 8 none ∈ wsL_law := mT_5 (List.mem_of_getElem? (i := 169) rfl) rfl
theorem kv_X9_229 : vz_cv RX9 229 yX1_work cX1_work 8 none 3 := ⟨q1260, q1261, q1262, q55, q1263, by decide +kernel⟩
theorem dX9_perform_0 : decode cX9_perform 0 = .ok (.aload_n 0, 1) := by decide +kernel
theorem dX9_perform_1 : decode cX9_perform 1 = .ok (.getfield 86, 3) := by decide +kernel
theorem dX9_perform_4 : decode cX9_perform 4 = .ok (.aload_n 0, 1) := by decide +kernel
theorem dX9_perform_5 : decode cX9_perform 5 = .ok (.getfield 28, 3) := by decide +kernel
theorem dX9_perform_8 : decode cX9_perform 8 = .ok (.aload_n 3, 1) := by decide +kernel
theorem dX9_perform_9 : decode cX9_perform 9 = .ok (.aload_n 2, 1) := by decide +kernel
theorem dX9_perform_10 : decode cX9_perform 10 = .ok (.iload 7, 2) := by decide +kernel
theorem dX9_perform_12 : decode cX9_perform 12 = .ok (.invokevirtual 222, 3) := by decide +kernel
theorem dX9_perform_15 : decode cX9_perform 15 = .ok (.iload_n 1, 1) := by decide +kernel
theorem dX9_perform_16 : decode cX9_perform 16 = .ok (.ifCond .eq 19, 3) := by decide +kernel
theorem dX9_perform_19 : decode cX9_perform 19 = .ok (.aload_n 0, 1) := by decide +kernel
theorem dX9_perform_20 : decode cX9_perform 20 = .ok (.getfield 95, 3) := by decide +kernel
theorem dX9_perform_23 : decode cX9_perform 23 = .ok (.iload 4, 2) := by decide +kernel
theorem dX9_perform_25 : decode cX9_perform 25 = .ok (.iload 5, 2) := by decide +kernel
theorem dX9_perform_27 : decode cX9_perform 27 = .ok (.iload 6, 2) := by decide +kernel
theorem dX9_perform_29 : decode cX9_perform 29 = .ok (.invokevirtual 226, 3) := by decide +kernel
theorem dX9_perform_32 : decode cX9_perform 32 = .ok (.goto 16, 3) := by decide +kernel
theorem dX9_perform_35 : decode cX9_perform 35 = .ok (.aload_n 0, 1) := by decide +kernel
theorem dX9_perform_36 : decode cX9_perform 36 = .ok (.getfield 110, 3) := by decide +kernel
theorem dX9_perform_39 : decode cX9_perform 39 = .ok (.iload 4, 2) := by decide +kernel
theorem dX9_perform_41 : decode cX9_perform 41 = .ok (.iload 5, 2) := by decide +kernel
theorem dX9_perform_43 : decode cX9_perform 43 = .ok (.iload 6, 2) := by decide +kernel
theorem dX9_perform_45 : decode cX9_perform 45 = .ok (.invokevirtual 229, 3) := by decide +kernel
theorem dX9_perform_48 : decode cX9_perform 48 = .ok (.aload_n 2, 1) := by decide +kernel
theorem dX9_perform_49 : decode cX9_perform 49 = .ok (.getfield 147, 3) := by decide +kernel
theorem dX9_perform_52 : decode cX9_perform 52 = .ok (.ireturn, 1) := by decide +kernel
set_option maxHeartbeats 8000000 in
set_option maxRecDepth 100000 in
theorem a_X_perform (l : Launch) (D : va_G) (g : Nat → ClassId)   (sz : Nat) (h : Nat) (ai : Nat → Int32) (xa : Nat → Nat) (sh : Nat) (vh : Nat) (coh : Nat) (wh : Nat) (kh : Nat) (mh : Nat) (la : Nat → Nat) (ea : Nat → Nat) (ua : Nat → Nat) (c1h : Nat) (c2h : Nat) (c3h : Nat) (c4h : Nat) (ph : Nat) (qh : Nat) (wa : Nat → Nat) (wi : Nat → Int32) (wr : Nat → Nat) (wf : Nat → Nat → Int32) (wph : Nat) (wrh : Nat) (wpl : Nat) (ki : Nat → Int32) (ma : Nat → Nat) (mi : Nat → Int32) (mr : Nat → Nat) (mf : Nat → Nat → Int32) (da : Nat → Nat) (dr : Nat → Nat) (df : Nat → Nat → Int32) (pa : Nat → Nat) (pr : Nat → Nat) (pf : Nat → Nat → Int32) (rh : Nat) (ca : Nat → Nat) (ci : Nat → Int32) (cr : Nat → Nat) (cf : Nat → Nat → Int32) (ba : Nat → Nat) (br : Nat → Nat) (bf : Nat → Nat → Int32) (bmx : Nat) (n1 : Int32) (n2 : Int32) (n3 : Int32) (n4 : Int32) (n5 : Int32) (hw_w : ∀ k, wr k ≤ woW_lim k) (hw_m : ∀ k, mr k ≤ mcW_lim k) (hw_d : ∀ k, dr k ≤ cdW_lim k) (hw_p : ∀ k, pr k ≤ pgW_lim k) (hw_c : ∀ k, cr k ≤ rcW_lim k) (hw_b : ∀ k, br k ≤ (plW_lim bmx) k) (hmx_b : bmx ≤ 30) : vz_Mi l D (tyG g) yX9_perform cX9_perform 8 105 3145 0 0 .int [.ref h, .int n1, .ref rh, .ref (ba 0), .int n2, .int n3, .int n4, .int n5] sz (vz_w [maW h ai (xa 0) sh vh coh wh kh mh (la 0) (ea 0) (ua 0) c1h c2h c3h c4h ph qh, woW g wh wa wi wr wf wph wrh wpl, wkW kh ki wh, mcW g mh ma mi mr mf wh (da 0) (da 2), cdW g da dr df, pgW g ph pa pr pf, rcW g rh ca ci cr cf, plW g ba br bf bmx]) (fun r (u : (Nat → Int32) × (Nat → Nat) × (Nat → Nat → Int32) × (Nat → Int32) × (Nat → Int32) × (Nat → Nat) × (Nat → Nat → Int32) × (Nat → Int32) × (Nat → Nat) × (Nat → Nat → Int32)) => (∀ k, u.2.1 k ≤ woW_lim k) ∧ (∀ k, u.2.2.2.2.2.1 k ≤ mcW_lim k) ∧ (∀ k, u.2.2.2.2.2.2.2.2.1 k ≤ rcW_lim k)) (fun u => vz_w [maW h ai (xa 0) sh vh coh wh kh mh (la 0) (ea 0) (ua 0) c1h c2h c3h c4h ph qh, woW g wh wa u.1 u.2.1 u.2.2.1 ph rh (ba 0), wkW kh u.2.2.2.1 wh, mcW g mh ma u.2.2.2.2.1 u.2.2.2.2.2.1 u.2.2.2.2.2.2.1 wh (da 0) (da 2), cdW g da dr df, pgW g ph pa pr pf, rcW g rh ca u.2.2.2.2.2.2.2.1 u.2.2.2.2.2.2.2.2.1 u.2.2.2.2.2.2.2.2.2, plW g ba br bf bmx]) := by
  refine vz_siQ (by decide) (Nat.le_of_ble_eq_true rfl) (fun p e s m args below meth c hx hb hr hml hts hown hlk hin hK hsz A hA H locs hP hD hS ls hl Q hQ => ?_)
  have hl : lv_has ls 8 [(0, .ref h), (1, .int n1), (2, .ref rh), (3, .ref (ba 0)), (4, .int n2), (5, .int n3), (6, .int n4), (7, .int n5)] := hl
  have J48 : ∀ (wi_48 : Nat → Int32), ∀ (wr_48 : Nat → Nat), ∀ (wf_48 : Nat → Nat → Int32), ∀ (ki_48 : Nat → Int32), ∀ (mi_48 : Nat → Int32), ∀ (mr_48 : Nat → Nat), ∀ (mf_48 : Nat → Nat → Int32), ∀ (ci_48 : Nat → Int32), ∀ (cr_48 : Nat → Nat), ∀ (cf_48 : Nat → Nat → Int32), (∀ k, wr_48 k ≤ woW_lim k) → (∀ k, mr_48 k ≤ mcW_lim k) → (∀ k, cr_48 k ≤ rcW_lim k) → ∀ (H : Heap) (locs : List Loc) (ls : Array Slot), va_P D vwCl (vz_w [maW h ai (xa 0) sh vh coh wh kh mh (la 0) (ea 0) (ua 0) c1h c2h c3h c4h ph qh, woW g wh wa wi_48 wr_48 wf_48 ph rh (ba 0), wkW kh ki_48 wh, mcW g mh ma mi_48 mr_48 mf_48 wh (da 0) (da 2), cdW g da dr df, pgW g ph pa pr pf, rcW g rh ca ci_48 cr_48 cf_48, plW g ba br bf bmx]) H → va_D A (vz_w [maW h ai (xa 0) sh vh coh wh kh mh (la 0) (ea 0) (ua 0) c1h c2h c3h c4h ph qh, woW g wh wa wi_48 wr_48 wf_48 ph rh (ba 0), wkW kh ki_48 wh, mcW g mh ma mi_48 mr_48 mf_48 wh (da 0) (da 2), cdW g da dr df, pgW g ph pa pr pf, rcW g rh ca ci_48 cr_48 cf_48, plW g ba br bf bmx]) → va_S A s.heap H locs → lv_has ls 8 [(0, .ref h), (1, .int n1), (2, .ref rh), (3, .ref (ba 0)), (4, .int n2), (5, .int n3), (6, .int n4), (7, .int n5)] → W p l e { frames := 105, cells := 0, slots := 0, locals := 3145 } s m args below meth c H locs 0 0 Q (F0 m 48 ls []) := by
    intro wi_48 wr_48 wf_48 ki_48 mi_48 mr_48 mf_48 ci_48 cr_48 cf_48 hw_w_48 hw_m_48 hw_c_48 H locs ls hP hD hS hl
    refine lv_aload_n hx hb dX9_perform_48 rfl (lv_at hl 2 rfl) ?_
    refine va_get (D := D) (ci := 4) (v := .int (ci_48 0)) (C := RX4) (T := TX4) (N := 12) hx hb hts inlX4 hown hK hP 31 rfl rfl 5 (by decide) (hts _ q282) (fun _ h => h) rfl dX9_perform_49 ?_
    rw [hQ]
    exact vz_iret3 hx hb hr hlk hK hP hD hS (wi_48, wr_48, wf_48, ki_48, mi_48, mr_48, mf_48, ci_48, cr_48, cf_48) (⟨hw_w_48, hw_m_48, hw_c_48⟩) rfl (Nat.le_refl 0) (Nat.le_refl 0) dX9_perform_52
  refine lv_aload_n hx hb dX9_perform_0 rfl (lv_at hl 0 rfl) ?_
  refine va_get (D := D) (ci := 9) (v := .ref wh) (C := RX9) (T := TX9) (N := 17) hx hb hts inlX9 hown hK hP 0 rfl rfl 4 (by decide) (hts _ q48) (fun _ h => h) rfl dX9_perform_1 ?_
  refine lv_aload_n hx hb dX9_perform_4 rfl (lv_at hl 0 rfl) ?_
  refine va_get (D := D) (ci := 9) (v := .ref ph) (C := RX9) (T := TX9) (N := 17) hx hb hts inlX9 hown hK hP 0 rfl rfl 14 (by decide) (hts _ q24) (fun _ h => h) rfl dX9_perform_5 ?_
  refine lv_aload_n hx hb dX9_perform_8 rfl (lv_at hl 3 rfl) ?_
  refine lv_aload_n hx hb dX9_perform_9 rfl (lv_at hl 2 rfl) ?_
  refine lv_iload hx hb dX9_perform_10 (lv_at hl 7 rfl) ?_
  refine vz_Vv4 (n9 := 8) (bs2 := fun u : (Nat → Int32) × (Nat → Nat) × (Nat → Nat → Int32) × (Nat → Int32) × (Nat → Nat) × (Nat → Nat → Int32) => [maW h ai (xa 0) sh vh coh wh kh mh (la 0) (ea 0) (ua 0) c1h c2h c3h c4h ph qh, woW g wh wa u.1 u.2.1 u.2.2.1 ph rh (ba 0), wkW kh ki wh, mcW g mh ma mi mr mf wh (da 0) (da 2), cdW g da dr df, pgW g ph pa pr pf, rcW g rh ca u.2.2.2.1 u.2.2.2.2.1 u.2.2.2.2.2, plW g ba br bf bmx]) (br := [maW h ai (xa 0) sh vh coh wh kh mh (la 0) (ea 0) (ua 0) c1h c2h c3h c4h ph qh, wkW kh ki wh, mcW g mh ma mi mr mf wh (da 0) (da 2), cdW g da dr df]) (As := [.ref ph, .ref (ba 0), .ref rh, .int n5]) (rest := []) hx hb hml hown hts hK hA hP hD hS (a_W_prepare l D g H.size wh wa wi wr wf wph wrh wpl ph pa pr pf rh ca ci cr cf ba br bf bmx n5 hw_w hw_p hw_c hw_b hmx_b) kv_X9_222 ⟨Nat.le_of_ble_eq_true rfl, Nat.le_of_ble_eq_true rfl⟩ (q0 := 1) (ci := 8) rfl rfl rfl [1, 5, 6, 7] [0, 2, 3, 4] rfl (by decide) rfl (fun _ => rfl) (fun _ => rfl) hl.1 (Nat.le_of_ble_eq_true rfl) dX9_perform_12 ⟨Nat.le_refl _, Nat.le_refl _⟩ rfl (fun ⟨wi_1, wr_2, wf_3, ci_4, cr_5, cf_6⟩ H locs ⟨hw_7, hw_8⟩ _ hP hD hS => ?_)
  try dsimp only at hw_7 hw_8
  replace hP : va_P D vwCl (vz_w [maW h ai (xa 0) sh vh coh wh kh mh (la 0) (ea 0) (ua 0) c1h c2h c3h c4h ph qh, woW g wh wa wi_1 wr_2 wf_3 ph rh (ba 0), wkW kh ki wh, mcW g mh ma mi mr mf wh (da 0) (da 2), cdW g da dr df, pgW g ph pa pr pf, rcW g rh ca ci_4 cr_5 cf_6, plW g ba br bf bmx]) H := hP
  replace hD : va_D A (vz_w [maW h ai (xa 0) sh vh coh wh kh mh (la 0) (ea 0) (ua 0) c1h c2h c3h c4h ph qh, woW g wh wa wi_1 wr_2 wf_3 ph rh (ba 0), wkW kh ki wh, mcW g mh ma mi mr mf wh (da 0) (da 2), cdW g da dr df, pgW g ph pa pr pf, rcW g rh ca ci_4 cr_5 cf_6, plW g ba br bf bmx]) := hD
  refine lv_iload_n hx hb dX9_perform_15 rfl (lv_at hl 1 rfl) ?_
  refine lv_if_eq (tgt := 35) hx hb dX9_perform_16 (by decide) (fun kc9 => ?_) (fun kc9 => ?_)
  · refine lv_aload_n hx hb dX9_perform_35 rfl (lv_at hl 0 rfl) ?_
    refine va_get (D := D) (ci := 9) (v := .ref mh) (C := RX9) (T := TX9) (N := 17) hx hb hts inlX9 hown hK hP 0 rfl rfl 6 (by decide) (hts _ q58) (fun _ h => h) rfl dX9_perform_36 ?_
    refine lv_iload hx hb dX9_perform_39 (lv_at hl 4 rfl) ?_
    refine lv_iload hx hb dX9_perform_41 (lv_at hl 5 rfl) ?_
    refine lv_iload hx hb dX9_perform_43 (lv_at hl 6 rfl) ?_
    refine vz_Vv4 (n9 := 8) (bs2 := fun u : (Nat → Int32) × (Nat → Nat) × (Nat → Nat → Int32) × (Nat → Int32) × (Nat → Nat) × (Nat → Nat → Int32) × (Nat → Int32) × (Nat → Nat) × (Nat → Nat → Int32) => [maW h ai (xa 0) sh vh coh wh kh mh (la 0) (ea 0) (ua 0) c1h c2h c3h c4h ph qh, woW g wh wa u.2.2.2.1 u.2.2.2.2.1 u.2.2.2.2.2.1 ph rh (ba 0), wkW kh ki wh, mcW g mh ma u.1 u.2.1 u.2.2.1 wh (da 0) (da 2), cdW g da dr df, pgW g ph pa pr pf, rcW g rh ca u.2.2.2.2.2.2.1 u.2.2.2.2.2.2.2.1 u.2.2.2.2.2.2.2.2, plW g ba br bf bmx]) (br := [maW h ai (xa 0) sh vh coh wh kh mh (la 0) (ea 0) (ua 0) c1h c2h c3h c4h ph qh, wkW kh ki wh]) (As := [.int n2, .int n3, .int n4]) (rest := []) hx hb hml hown hts hK hA hP hD hS (a_M_work l D g H.size mh ma mi mr mf wh da dr df wa wi_1 wr_2 wf_3 ph rh ba pa pr pf ca ci_4 cr_5 cf_6 br bf bmx n2 n3 n4 hw_m hw_d hw_7 hw_p hw_8 hw_b hmx_b) kv_X9_229 ⟨Nat.le_of_ble_eq_true rfl, Nat.le_of_ble_eq_true rfl⟩ (q0 := 13) (ci := 1) rfl rfl rfl [3, 4, 1, 5, 6, 7] [0, 2] rfl (by decide) rfl (fun _ => rfl) (fun _ => rfl) hl.1 (Nat.le_of_ble_eq_true rfl) dX9_perform_45 ⟨Nat.le_refl _, Nat.le_refl _⟩ rfl (fun ⟨mi_10, mr_11, mf_12, wi_13, wr_14, wf_15, ci_16, cr_17, cf_18⟩ H locs ⟨hw_19, hw_20, hw_21⟩ _ hP hD hS => ?_)
    try dsimp only at hw_19 hw_20 hw_21
    replace hP : va_P D vwCl (vz_w [maW h ai (xa 0) sh vh coh wh kh mh (la 0) (ea 0) (ua 0) c1h c2h c3h c4h ph qh, woW g wh wa wi_13 wr_14 wf_15 ph rh (ba 0), wkW kh ki wh, mcW g mh ma mi_10 mr_11 mf_12 wh (da 0) (da 2), cdW g da dr df, pgW g ph pa pr pf, rcW g rh ca ci_16 cr_17 cf_18, plW g ba br bf bmx]) H := hP
    replace hD : va_D A (vz_w [maW h ai (xa 0) sh vh coh wh kh mh (la 0) (ea 0) (ua 0) c1h c2h c3h c4h ph qh, woW g wh wa wi_13 wr_14 wf_15 ph rh (ba 0), wkW kh ki wh, mcW g mh ma mi_10 mr_11 mf_12 wh (da 0) (da 2), cdW g da dr df, pgW g ph pa pr pf, rcW g rh ca ci_16 cr_17 cf_18, plW g ba br bf bmx]) := hD
    exact J48 wi_13 wr_14 wf_15 ki mi_10 mr_11 mf_12 ci_16 cr_17 cf_18 hw_20 hw_19 hw_21 H locs ls hP hD hS (lv_sub hl [0, 1, 2, 3, 4, 5, 6, 7] rfl)
  · refine lv_aload_n hx hb dX9_perform_19 rfl (lv_at hl 0 rfl) ?_
    refine va_get (D := D) (ci := 9) (v := .ref kh) (C := RX9) (T := TX9) (N := 17) hx hb hts inlX9 hown hK hP 0 rfl rfl 5 (by decide) (hts _ q52) (fun _ h => h) rfl dX9_perform_20 ?_
    refine lv_iload hx hb dX9_perform_23 (lv_at hl 4 rfl) ?_
    refine lv_iload hx hb dX9_perform_25 (lv_at hl 5 rfl) ?_
    refine lv_iload hx hb dX9_perform_27 (lv_at hl 6 rfl) ?_
    refine vz_Vv4 (n9 := 8) (bs2 := fun u : (Nat → Int32) × (Nat → Int32) × (Nat → Nat) × (Nat → Nat → Int32) × (Nat → Int32) × (Nat → Nat) × (Nat → Nat → Int32) => [maW h ai (xa 0) sh vh coh wh kh mh (la 0) (ea 0) (ua 0) c1h c2h c3h c4h ph qh, woW g wh wa u.2.1 u.2.2.1 u.2.2.2.1 ph rh (ba 0), wkW kh u.1 wh, mcW g mh ma mi mr mf wh (da 0) (da 2), cdW g da dr df, pgW g ph pa pr pf, rcW g rh ca u.2.2.2.2.1 u.2.2.2.2.2.1 u.2.2.2.2.2.2, plW g ba br bf bmx]) (br := [maW h ai (xa 0) sh vh coh wh kh mh (la 0) (ea 0) (ua 0) c1h c2h c3h c4h ph qh, mcW g mh ma mi mr mf wh (da 0) (da 2), cdW g da dr df]) (As := [.int n2, .int n3, .int n4]) (rest := []) hx hb hml hown hts hK hA hP hD hS (a_K_walk l D g H.size kh ki wh wa wi_1 wr_2 wf_3 ph rh ba pa pr pf ca ci_4 cr_5 cf_6 br bf bmx n2 n3 n4 hw_7 hw_p hw_8 hw_b hmx_b) kv_X9_226 ⟨Nat.le_of_ble_eq_true rfl, Nat.le_of_ble_eq_true rfl⟩ (q0 := 12) (ci := 7) rfl rfl rfl [2, 1, 5, 6, 7] [0, 3, 4] rfl (by decide) rfl (fun _ => rfl) (fun _ => rfl) hl.1 (Nat.le_of_ble_eq_true rfl) dX9_perform_29 ⟨Nat.le_refl _, Nat.le_refl _⟩ rfl (fun ⟨ki_22, wi_23, wr_24, wf_25, ci_26, cr_27, cf_28⟩ H locs ⟨hw_29, hw_30⟩ _ hP hD hS => ?_)
    try dsimp only at hw_29 hw_30
    replace hP : va_P D vwCl (vz_w [maW h ai (xa 0) sh vh coh wh kh mh (la 0) (ea 0) (ua 0) c1h c2h c3h c4h ph qh, woW g wh wa wi_23 wr_24 wf_25 ph rh (ba 0), wkW kh ki_22 wh, mcW g mh ma mi mr mf wh (da 0) (da 2), cdW g da dr df, pgW g ph pa pr pf, rcW g rh ca ci_26 cr_27 cf_28, plW g ba br bf bmx]) H := hP
    replace hD : va_D A (vz_w [maW h ai (xa 0) sh vh coh wh kh mh (la 0) (ea 0) (ua 0) c1h c2h c3h c4h ph qh, woW g wh wa wi_23 wr_24 wf_25 ph rh (ba 0), wkW kh ki_22 wh, mcW g mh ma mi mr mf wh (da 0) (da 2), cdW g da dr df, pgW g ph pa pr pf, rcW g rh ca ci_26 cr_27 cf_28, plW g ba br bf bmx]) := hD
    refine lv_goto (tgt := 48) hx hb dX9_perform_32 (by decide) ?_
    exact J48 wi_23 wr_24 wf_25 ki_22 mi mr mf ci_26 cr_27 cf_28 hw_29 hw_m hw_30 H locs ls hP hD hS (lv_sub hl [0, 1, 2, 3, 4, 5, 6, 7] rfl)
theorem q1007 : Cond.methodLink RX9 166 yX9_isNoMethod ∈ wsL_law := mT_4 (List.mem_of_getElem? (i := 186) rfl) rfl
theorem q1008 : Cond.instanceMethod yX9_isNoMethod ∈ wsL_law := mT_4 (List.mem_of_getElem? (i := 188) rfl) rfl
theorem q1009 : Cond.selects RX9 yX9_isNoMethod yX9_isNoMethod ∈ wsL_law := mS_4 (q := (yX9_isNoMethod, 17)) (List.mem_of_getElem? (i := 15) rfl) rfl
theorem q1010 : Cond.code yX9_isNoMethod cX9_isNoMethod 2 (some .boolean) ∈ wsL_law := mT_4 (List.mem_of_getElem? (i := 189) rfl) rfl
theorem kv_X9_166 : vz_cv RX9 166 yX9_isNoMethod cX9_isNoMethod 2 (some .boolean) 1 := ⟨q1007, q1008, q1009, q2, q1010, by decide +kernel⟩
theorem q1011 : Cond.methodLink RX9 170 yX9_perform ∈ wsL_law := mT_4 (List.mem_of_getElem? (i := 190) rfl) rfl
theorem q1012 : Cond.instanceMethod yX9_perform ∈ wsL_law := mT_4 (List.mem_of_getElem? (i := 192) rfl) rfl
theorem q1013 : Cond.selects RX9 yX9_perform yX9_perform ∈ wsL_law := mS_5 (q := (yX9_perform, 17)) (List.mem_of_getElem? (i := 0) rfl) rfl
theorem q1014 : Cond.code yX9_perform cX9_perform 8 (some .int) ∈ wsL_law := mT_4 (List.mem_of_getElem? (i := 193) rfl) rfl
theorem kv_X9_170 : vz_cv RX9 170 yX9_perform cX9_perform 8 (some .int) 7 := ⟨q1011, q1012, q1013, q2, q1014, by decide +kernel⟩
theorem dX9_run_0 : decode cX9_run 0 = .ok (.aload_n 0, 1) := by decide +kernel
theorem dX9_run_1 : decode cX9_run 1 = .ok (.iload_n 2, 1) := by decide +kernel
theorem dX9_run_2 : decode cX9_run 2 = .ok (.invokevirtual 166, 3) := by decide +kernel
theorem dX9_run_5 : decode cX9_run 5 = .ok (.ifCond .ne 16, 3) := by decide +kernel
theorem dX9_run_8 : decode cX9_run 8 = .ok (.iload 5, 2) := by decide +kernel
theorem dX9_run_10 : decode cX9_run 10 = .ok (.ifCond .lt 11, 3) := by decide +kernel
theorem dX9_run_13 : decode cX9_run 13 = .ok (.iload 5, 2) := by decide +kernel
theorem dX9_run_15 : decode cX9_run 15 = .ok (.sipush 400, 3) := by decide +kernel
theorem dX9_run_18 : decode cX9_run 18 = .ok (.if_icmp .le 5, 3) := by decide +kernel
theorem dX9_run_21 : decode cX9_run 21 = .ok (.iconst (-1), 1) := by decide +kernel
theorem dX9_run_22 : decode cX9_run 22 = .ok (.ireturn, 1) := by decide +kernel
theorem dX9_run_23 : decode cX9_run 23 = .ok (.aload_n 0, 1) := by decide +kernel
theorem dX9_run_24 : decode cX9_run 24 = .ok (.iload_n 1, 1) := by decide +kernel
theorem dX9_run_25 : decode cX9_run 25 = .ok (.iload_n 1, 1) := by decide +kernel
theorem dX9_run_26 : decode cX9_run 26 = .ok (.ifCond .eq 10, 3) := by decide +kernel
theorem dX9_run_29 : decode cX9_run 29 = .ok (.aload_n 0, 1) := by decide +kernel
theorem dX9_run_30 : decode cX9_run 30 = .ok (.getfield 72, 3) := by decide +kernel
theorem dX9_run_33 : decode cX9_run 33 = .ok (.goto 7, 3) := by decide +kernel
theorem dX9_run_36 : decode cX9_run 36 = .ok (.aload_n 0, 1) := by decide +kernel
theorem dX9_run_37 : decode cX9_run 37 = .ok (.getfield 68, 3) := by decide +kernel
theorem dX9_run_40 : decode cX9_run 40 = .ok (.aload_n 0, 1) := by decide +kernel
theorem dX9_run_41 : decode cX9_run 41 = .ok (.getfield 56, 3) := by decide +kernel
theorem dX9_run_44 : decode cX9_run 44 = .ok (.iload_n 2, 1) := by decide +kernel
theorem dX9_run_45 : decode cX9_run 45 = .ok (.iload_n 3, 1) := by decide +kernel
theorem dX9_run_46 : decode cX9_run 46 = .ok (.iload 4, 2) := by decide +kernel
theorem dX9_run_48 : decode cX9_run 48 = .ok (.iload 5, 2) := by decide +kernel
theorem dX9_run_50 : decode cX9_run 50 = .ok (.invokevirtual 170, 3) := by decide +kernel
theorem dX9_run_53 : decode cX9_run 53 = .ok (.ireturn, 1) := by decide +kernel
set_option maxHeartbeats 8000000 in
set_option maxRecDepth 100000 in
theorem a_X_run (l : Launch) (D : va_G) (g : Nat → ClassId)   (sz : Nat) (h : Nat) (ai : Nat → Int32) (xa : Nat → Nat) (sh : Nat) (vh : Nat) (coh : Nat) (wh : Nat) (kh : Nat) (mh : Nat) (la : Nat → Nat) (ea : Nat → Nat) (ua : Nat → Nat) (c1h : Nat) (c2h : Nat) (c3h : Nat) (c4h : Nat) (ph : Nat) (qh : Nat) (wa : Nat → Nat) (wi : Nat → Int32) (wr : Nat → Nat) (wf : Nat → Nat → Int32) (wph : Nat) (wrh : Nat) (wpl : Nat) (ki : Nat → Int32) (ma : Nat → Nat) (mi : Nat → Int32) (mr : Nat → Nat) (mf : Nat → Nat → Int32) (da : Nat → Nat) (dr : Nat → Nat) (df : Nat → Nat → Int32) (pa : Nat → Nat) (pr : Nat → Nat) (pf : Nat → Nat → Int32) (c1a : Nat → Nat) (c1i : Nat → Int32) (c1r : Nat → Nat) (c1f : Nat → Nat → Int32) (c2a : Nat → Nat) (c2i : Nat → Int32) (c2r : Nat → Nat) (c2f : Nat → Nat → Int32) (lr : Nat → Nat) (lf : Nat → Nat → Int32) (n1 : Int32) (n2 : Int32) (n3 : Int32) (n4 : Int32) (n5 : Int32) (hw_w : ∀ k, wr k ≤ woW_lim k) (hw_m : ∀ k, mr k ≤ mcW_lim k) (hw_d : ∀ k, dr k ≤ cdW_lim k) (hw_p : ∀ k, pr k ≤ pgW_lim k) (hw_c1 : ∀ k, c1r k ≤ rcW_lim k) (hw_c2 : ∀ k, c2r k ≤ rcW_lim k) (hw_l : ∀ k, lr k ≤ (plW_lim 30) k) (hmx_l : 30 ≤ 30) : vz_Mi l D (tyG g) yX9_run cX9_run 6 106 3172 0 0 .int [.ref h, .int n1, .int n2, .int n3, .int n4, .int n5] sz (vz_w [maW h ai (xa 0) sh vh coh wh kh mh (la 0) (ea 0) (ua 0) c1h c2h c3h c4h ph qh, woW g wh wa wi wr wf wph wrh wpl, wkW kh ki wh, mcW g mh ma mi mr mf wh (da 0) (da 2), cdW g da dr df, pgW g ph pa pr pf, rcW g c1h c1a c1i c1r c1f, rcW g c2h c2a c2i c2r c2f, plW g la lr lf 30]) (fun r (u : (Nat → Int32) × (Nat → Nat) × (Nat → Nat → Int32) × Nat × Nat × Nat × (Nat → Int32) × (Nat → Int32) × (Nat → Nat) × (Nat → Nat → Int32) × (Nat → Int32) × (Nat → Nat) × (Nat → Nat → Int32) × (Nat → Int32) × (Nat → Nat) × (Nat → Nat → Int32)) => (∀ k, u.2.1 k ≤ woW_lim k) ∧ (∀ k, u.2.2.2.2.2.2.2.2.1 k ≤ mcW_lim k) ∧ (∀ k, u.2.2.2.2.2.2.2.2.2.2.2.1 k ≤ rcW_lim k) ∧ (∀ k, u.2.2.2.2.2.2.2.2.2.2.2.2.2.2.1 k ≤ rcW_lim k)) (fun u => vz_w [maW h ai (xa 0) sh vh coh wh kh mh (la 0) (ea 0) (ua 0) c1h c2h c3h c4h ph qh, woW g wh wa u.1 u.2.1 u.2.2.1 u.2.2.2.1 u.2.2.2.2.1 u.2.2.2.2.2.1, wkW kh u.2.2.2.2.2.2.1 wh, mcW g mh ma u.2.2.2.2.2.2.2.1 u.2.2.2.2.2.2.2.2.1 u.2.2.2.2.2.2.2.2.2.1 wh (da 0) (da 2), cdW g da dr df, pgW g ph pa pr pf, rcW g c1h c1a u.2.2.2.2.2.2.2.2.2.2.1 u.2.2.2.2.2.2.2.2.2.2.2.1 u.2.2.2.2.2.2.2.2.2.2.2.2.1, rcW g c2h c2a u.2.2.2.2.2.2.2.2.2.2.2.2.2.1 u.2.2.2.2.2.2.2.2.2.2.2.2.2.2.1 u.2.2.2.2.2.2.2.2.2.2.2.2.2.2.2, plW g la lr lf 30]) := by
  refine vz_siQ (by decide) (Nat.le_of_ble_eq_true rfl) (fun p e s m args below meth c hx hb hr hml hts hown hlk hin hK hsz A hA H locs hP hD hS ls hl Q hQ => ?_)
  have hl : lv_has ls 6 [(0, .ref h), (1, .int n1), (2, .int n2), (3, .int n3), (4, .int n4), (5, .int n5)] := hl
  refine lv_aload_n hx hb dX9_run_0 rfl (lv_at hl 0 rfl) ?_
  refine lv_iload_n hx hb dX9_run_1 rfl (lv_at hl 2 rfl) ?_
  refine vz_Vi4 (n9 := 9) (bs2 := fun u : Unit => [maW h ai (xa 0) sh vh coh wh kh mh (la 0) (ea 0) (ua 0) c1h c2h c3h c4h ph qh, woW g wh wa wi wr wf wph wrh wpl, wkW kh ki wh, mcW g mh ma mi mr mf wh (da 0) (da 2), cdW g da dr df, pgW g ph pa pr pf, rcW g c1h c1a c1i c1r c1f, rcW g c2h c2a c2i c2r c2f, plW g la lr lf 30]) (br := [woW g wh wa wi wr wf wph wrh wpl, wkW kh ki wh, mcW g mh ma mi mr mf wh (da 0) (da 2), cdW g da dr df, rcW g c1h c1a c1i c1r c1f, rcW g c2h c2a c2i c2r c2f, plW g la lr lf 30]) (As := [.int n2]) (rest := []) hx hb hml hown hts hK hA hP hD hS (a_X_isNoMethod l D g H.size h ai xa sh vh coh wh kh mh la ea ua c1h c2h c3h c4h ph qh pa pr pf n2 hw_p) kv_X9_166 ⟨Nat.le_of_ble_eq_true rfl, Nat.le_of_ble_eq_true rfl⟩ (q0 := 0) (ci := 9) rfl rfl rfl [0, 5] [1, 2, 3, 4, 6, 7, 8] rfl (by decide) rfl (fun _ => rfl) (fun _ => rfl) hl.1 (Nat.le_of_ble_eq_true rfl) dX9_run_2 ⟨Nat.le_refl _, Nat.le_refl _⟩ rfl (fun v1 _ H locs hz2 _ hP hD hS => ?_)
  refine lv_if_ne (tgt := 21) hx hb dX9_run_5 (by decide) (fun kc3 => ?_) (fun kc3 => ?_)
  · refine lv_iconst (v := (-1)) hx hb dX9_run_21 (by decide) ?_
    rw [hQ]
    exact vz_iret3 hx hb hr hlk hK hP hD hS (wi, wr, wf, wph, wrh, wpl, ki, mi, mr, mf, c1i, c1r, c1f, c2i, c2r, c2f) (⟨hw_w, hw_m, hw_c1, hw_c2⟩) rfl (Nat.le_refl 0) (Nat.le_refl 0) dX9_run_22
  · refine lv_iload hx hb dX9_run_8 (lv_at hl 5 rfl) ?_
    refine lv_if_lt (tgt := 21) hx hb dX9_run_10 (by decide) (fun kc4 => ?_) (fun kc4 => ?_)
    · refine lv_iconst (v := (-1)) hx hb dX9_run_21 (by decide) ?_
      rw [hQ]
      exact vz_iret3 hx hb hr hlk hK hP hD hS (wi, wr, wf, wph, wrh, wpl, ki, mi, mr, mf, c1i, c1r, c1f, c2i, c2r, c2f) (⟨hw_w, hw_m, hw_c1, hw_c2⟩) rfl (Nat.le_refl 0) (Nat.le_refl 0) dX9_run_22
    · refine lv_iload hx hb dX9_run_13 (lv_at hl 5 rfl) ?_
      refine lv_sipush (v := 400) hx hb dX9_run_15 (by decide) ?_
      refine lv_icmp_le (tgt := 23) hx hb dX9_run_18 (by decide) (fun kc5 => ?_) (fun kc5 => ?_)
      · refine lv_aload_n hx hb dX9_run_23 rfl (lv_at hl 0 rfl) ?_
        refine lv_iload_n hx hb dX9_run_24 rfl (lv_at hl 1 rfl) ?_
        refine lv_iload_n hx hb dX9_run_25 rfl (lv_at hl 1 rfl) ?_
        refine lv_if_eq (tgt := 36) hx hb dX9_run_26 (by decide) (fun kc6 => ?_) (fun kc6 => ?_)
        · refine lv_aload_n hx hb dX9_run_36 rfl (lv_at hl 0 rfl) ?_
          refine va_get (D := D) (ci := 9) (v := .ref c1h) (C := RX9) (T := TX9) (N := 17) hx hb hts inlX9 hown hK hP 0 rfl rfl 10 (by decide) (hts _ q41) (fun _ h => h) rfl dX9_run_37 ?_
          refine lv_aload_n hx hb dX9_run_40 rfl (lv_at hl 0 rfl) ?_
          refine va_get (D := D) (ci := 9) (v := .ref (la 0)) (C := RX9) (T := TX9) (N := 17) hx hb hts inlX9 hown hK hP 0 rfl rfl 7 (by decide) (hts _ q35) (fun _ h => h) rfl dX9_run_41 ?_
          refine lv_iload_n hx hb dX9_run_44 rfl (lv_at hl 2 rfl) ?_
          refine lv_iload_n hx hb dX9_run_45 rfl (lv_at hl 3 rfl) ?_
          refine lv_iload hx hb dX9_run_46 (lv_at hl 4 rfl) ?_
          refine lv_iload hx hb dX9_run_48 (lv_at hl 5 rfl) ?_
          refine vz_Vi4 (n9 := 9) (bs2 := fun u : (Nat → Int32) × (Nat → Nat) × (Nat → Nat → Int32) × (Nat → Int32) × (Nat → Int32) × (Nat → Nat) × (Nat → Nat → Int32) × (Nat → Int32) × (Nat → Nat) × (Nat → Nat → Int32) => [maW h ai (xa 0) sh vh coh wh kh mh (la 0) (ea 0) (ua 0) c1h c2h c3h c4h ph qh, woW g wh wa u.1 u.2.1 u.2.2.1 ph c1h (la 0), wkW kh u.2.2.2.1 wh, mcW g mh ma u.2.2.2.2.1 u.2.2.2.2.2.1 u.2.2.2.2.2.2.1 wh (da 0) (da 2), cdW g da dr df, pgW g ph pa pr pf, rcW g c1h c1a u.2.2.2.2.2.2.2.1 u.2.2.2.2.2.2.2.2.1 u.2.2.2.2.2.2.2.2.2, rcW g c2h c2a c2i c2r c2f, plW g la lr lf 30]) (br := [rcW g c2h c2a c2i c2r c2f]) (As := [.int n1, .ref c1h, .ref (la 0), .int n2, .int n3, .int n4, .int n5]) (rest := []) hx hb hml hown hts hK hA hP hD hS (a_X_perform l D g H.size h ai xa sh vh coh wh kh mh la ea ua c1h c2h c3h c4h ph qh wa wi wr wf wph wrh wpl ki ma mi mr mf da dr df pa pr pf c1h c1a c1i c1r c1f la lr lf 30 n1 n2 n3 n4 n5 hw_w hw_m hw_d hw_p hw_c1 hw_l (by decide)) kv_X9_170 ⟨Nat.le_of_ble_eq_true rfl, Nat.le_of_ble_eq_true rfl⟩ (q0 := 0) (ci := 9) rfl rfl rfl [0, 1, 2, 3, 4, 5, 6, 8] [7] rfl (by decide) rfl (fun _ => rfl) (fun _ => rfl) hl.1 (Nat.le_of_ble_eq_true rfl) dX9_run_50 ⟨Nat.le_refl _, Nat.le_refl _⟩ rfl (fun v20 ⟨wi_7, wr_8, wf_9, ki_10, mi_11, mr_12, mf_13, c1i_14, c1r_15, c1f_16⟩ H locs ⟨hw_17, hw_18, hw_19⟩ _ hP hD hS => ?_)
          try dsimp only at hw_17 hw_18 hw_19
          replace hP : va_P D vwCl (vz_w [maW h ai (xa 0) sh vh coh wh kh mh (la 0) (ea 0) (ua 0) c1h c2h c3h c4h ph qh, woW g wh wa wi_7 wr_8 wf_9 ph c1h (la 0), wkW kh ki_10 wh, mcW g mh ma mi_11 mr_12 mf_13 wh (da 0) (da 2), cdW g da dr df, pgW g ph pa pr pf, rcW g c1h c1a c1i_14 c1r_15 c1f_16, rcW g c2h c2a c2i c2r c2f, plW g la lr lf 30]) H := hP
          replace hD : va_D A (vz_w [maW h ai (xa 0) sh vh coh wh kh mh (la 0) (ea 0) (ua 0) c1h c2h c3h c4h ph qh, woW g wh wa wi_7 wr_8 wf_9 ph c1h (la 0), wkW kh ki_10 wh, mcW g mh ma mi_11 mr_12 mf_13 wh (da 0) (da 2), cdW g da dr df, pgW g ph pa pr pf, rcW g c1h c1a c1i_14 c1r_15 c1f_16, rcW g c2h c2a c2i c2r c2f, plW g la lr lf 30]) := hD
          rw [hQ]
          exact vz_iret3 hx hb hr hlk hK hP hD hS (wi_7, wr_8, wf_9, ph, c1h, (la 0), ki_10, mi_11, mr_12, mf_13, c1i_14, c1r_15, c1f_16, c2i, c2r, c2f) (⟨hw_17, hw_18, hw_19, hw_c2⟩) rfl (Nat.le_refl 0) (Nat.le_refl 0) dX9_run_53
        · refine lv_aload_n hx hb dX9_run_29 rfl (lv_at hl 0 rfl) ?_
          refine va_get (D := D) (ci := 9) (v := .ref c2h) (C := RX9) (T := TX9) (N := 17) hx hb hts inlX9 hown hK hP 0 rfl rfl 11 (by decide) (hts _ q42) (fun _ h => h) rfl dX9_run_30 ?_
          refine lv_goto (tgt := 40) hx hb dX9_run_33 (by decide) ?_
          refine lv_aload_n hx hb dX9_run_40 rfl (lv_at hl 0 rfl) ?_
          refine va_get (D := D) (ci := 9) (v := .ref (la 0)) (C := RX9) (T := TX9) (N := 17) hx hb hts inlX9 hown hK hP 0 rfl rfl 7 (by decide) (hts _ q35) (fun _ h => h) rfl dX9_run_41 ?_
          refine lv_iload_n hx hb dX9_run_44 rfl (lv_at hl 2 rfl) ?_
          refine lv_iload_n hx hb dX9_run_45 rfl (lv_at hl 3 rfl) ?_
          refine lv_iload hx hb dX9_run_46 (lv_at hl 4 rfl) ?_
          refine lv_iload hx hb dX9_run_48 (lv_at hl 5 rfl) ?_
          refine vz_Vi4 (n9 := 9) (bs2 := fun u : (Nat → Int32) × (Nat → Nat) × (Nat → Nat → Int32) × (Nat → Int32) × (Nat → Int32) × (Nat → Nat) × (Nat → Nat → Int32) × (Nat → Int32) × (Nat → Nat) × (Nat → Nat → Int32) => [maW h ai (xa 0) sh vh coh wh kh mh (la 0) (ea 0) (ua 0) c1h c2h c3h c4h ph qh, woW g wh wa u.1 u.2.1 u.2.2.1 ph c2h (la 0), wkW kh u.2.2.2.1 wh, mcW g mh ma u.2.2.2.2.1 u.2.2.2.2.2.1 u.2.2.2.2.2.2.1 wh (da 0) (da 2), cdW g da dr df, pgW g ph pa pr pf, rcW g c1h c1a c1i c1r c1f, rcW g c2h c2a u.2.2.2.2.2.2.2.1 u.2.2.2.2.2.2.2.2.1 u.2.2.2.2.2.2.2.2.2, plW g la lr lf 30]) (br := [rcW g c1h c1a c1i c1r c1f]) (As := [.int n1, .ref c2h, .ref (la 0), .int n2, .int n3, .int n4, .int n5]) (rest := []) hx hb hml hown hts hK hA hP hD hS (a_X_perform l D g H.size h ai xa sh vh coh wh kh mh la ea ua c1h c2h c3h c4h ph qh wa wi wr wf wph wrh wpl ki ma mi mr mf da dr df pa pr pf c2h c2a c2i c2r c2f la lr lf 30 n1 n2 n3 n4 n5 hw_w hw_m hw_d hw_p hw_c2 hw_l (by decide)) kv_X9_170 ⟨Nat.le_of_ble_eq_true rfl, Nat.le_of_ble_eq_true rfl⟩ (q0 := 0) (ci := 9) rfl rfl rfl [0, 1, 2, 3, 4, 5, 7, 8] [6] rfl (by decide) rfl (fun _ => rfl) (fun _ => rfl) hl.1 (Nat.le_of_ble_eq_true rfl) dX9_run_50 ⟨Nat.le_refl _, Nat.le_refl _⟩ rfl (fun v34 ⟨wi_21, wr_22, wf_23, ki_24, mi_25, mr_26, mf_27, c2i_28, c2r_29, c2f_30⟩ H locs ⟨hw_31, hw_32, hw_33⟩ _ hP hD hS => ?_)
          try dsimp only at hw_31 hw_32 hw_33
          replace hP : va_P D vwCl (vz_w [maW h ai (xa 0) sh vh coh wh kh mh (la 0) (ea 0) (ua 0) c1h c2h c3h c4h ph qh, woW g wh wa wi_21 wr_22 wf_23 ph c2h (la 0), wkW kh ki_24 wh, mcW g mh ma mi_25 mr_26 mf_27 wh (da 0) (da 2), cdW g da dr df, pgW g ph pa pr pf, rcW g c1h c1a c1i c1r c1f, rcW g c2h c2a c2i_28 c2r_29 c2f_30, plW g la lr lf 30]) H := hP
          replace hD : va_D A (vz_w [maW h ai (xa 0) sh vh coh wh kh mh (la 0) (ea 0) (ua 0) c1h c2h c3h c4h ph qh, woW g wh wa wi_21 wr_22 wf_23 ph c2h (la 0), wkW kh ki_24 wh, mcW g mh ma mi_25 mr_26 mf_27 wh (da 0) (da 2), cdW g da dr df, pgW g ph pa pr pf, rcW g c1h c1a c1i c1r c1f, rcW g c2h c2a c2i_28 c2r_29 c2f_30, plW g la lr lf 30]) := hD
          rw [hQ]
          exact vz_iret3 hx hb hr hlk hK hP hD hS (wi_21, wr_22, wf_23, ph, c2h, (la 0), ki_24, mi_25, mr_26, mf_27, c1i, c1r, c1f, c2i_28, c2r_29, c2f_30) (⟨hw_31, hw_32, hw_c1, hw_33⟩) rfl (Nat.le_refl 0) (Nat.le_refl 0) dX9_run_53
      · refine lv_iconst (v := (-1)) hx hb dX9_run_21 (by decide) ?_
        rw [hQ]
        exact vz_iret3 hx hb hr hlk hK hP hD hS (wi, wr, wf, wph, wrh, wpl, ki, mi, mr, mf, c1i, c1r, c1f, c2i, c2r, c2f) (⟨hw_w, hw_m, hw_c1, hw_c2⟩) rfl (Nat.le_refl 0) (Nat.le_refl 0) dX9_run_22
theorem q36 : Cond.fieldLink RX9 59 "WaysAtlas" "alone" "LWaysAtlas$Table;" ∈ wsL_law := mT_2 (List.mem_of_getElem? (i := 146) rfl) rfl
theorem q1597 : Cond.fieldLink RX9 204 "WaysAtlas$World" "passings" "LWaysAtlas$Table;" ∈ wsL_law := mT_2 (List.mem_of_getElem? (i := 39) rfl) rfl
theorem dX9_planAlone_0 : decode cX9_planAlone 0 = .ok (.aload_n 0, 1) := by decide +kernel
theorem dX9_planAlone_1 : decode cX9_planAlone 1 = .ok (.getfield 59, 3) := by decide +kernel
theorem dX9_planAlone_4 : decode cX9_planAlone 4 = .ok (.invokevirtual 133, 3) := by decide +kernel
theorem dX9_planAlone_7 : decode cX9_planAlone 7 = .ok (.aload_n 0, 1) := by decide +kernel
theorem dX9_planAlone_8 : decode cX9_planAlone 8 = .ok (.getfield 59, 3) := by decide +kernel
theorem dX9_planAlone_11 : decode cX9_planAlone 11 = .ok (.invokevirtual 121, 3) := by decide +kernel
theorem dX9_planAlone_14 : decode cX9_planAlone 14 = .ok (.istore_n 2, 1) := by decide +kernel
theorem dX9_planAlone_15 : decode cX9_planAlone 15 = .ok (.iconst 0, 1) := by decide +kernel
theorem dX9_planAlone_16 : decode cX9_planAlone 16 = .ok (.istore_n 3, 1) := by decide +kernel
theorem dX9_planAlone_17 : decode cX9_planAlone 17 = .ok (.iload_n 3, 1) := by decide +kernel
theorem dX9_planAlone_18 : decode cX9_planAlone 18 = .ok (.iconst 2, 1) := by decide +kernel
theorem dX9_planAlone_19 : decode cX9_planAlone 19 = .ok (.if_icmp .gt 30, 3) := by decide +kernel
theorem dX9_planAlone_22 : decode cX9_planAlone 22 = .ok (.aload_n 0, 1) := by decide +kernel
theorem dX9_planAlone_23 : decode cX9_planAlone 23 = .ok (.getfield 59, 3) := by decide +kernel
theorem dX9_planAlone_26 : decode cX9_planAlone 26 = .ok (.iload_n 2, 1) := by decide +kernel
theorem dX9_planAlone_27 : decode cX9_planAlone 27 = .ok (.iload_n 3, 1) := by decide +kernel
theorem dX9_planAlone_28 : decode cX9_planAlone 28 = .ok (.aload_n 0, 1) := by decide +kernel
theorem dX9_planAlone_29 : decode cX9_planAlone 29 = .ok (.getfield 86, 3) := by decide +kernel
theorem dX9_planAlone_32 : decode cX9_planAlone 32 = .ok (.getfield 204, 3) := by decide +kernel
theorem dX9_planAlone_35 : decode cX9_planAlone 35 = .ok (.iload_n 1, 1) := by decide +kernel
theorem dX9_planAlone_36 : decode cX9_planAlone 36 = .ok (.iload_n 3, 1) := by decide +kernel
theorem dX9_planAlone_37 : decode cX9_planAlone 37 = .ok (.invokevirtual 188, 3) := by decide +kernel
theorem dX9_planAlone_40 : decode cX9_planAlone 40 = .ok (.invokevirtual 125, 3) := by decide +kernel
theorem dX9_planAlone_43 : decode cX9_planAlone 43 = .ok (.iinc 3 1, 3) := by decide +kernel
theorem dX9_planAlone_46 : decode cX9_planAlone 46 = .ok (.goto (-29), 3) := by decide +kernel
theorem dX9_planAlone_49 : decode cX9_planAlone 49 = .ok (.aload_n 0, 1) := by decide +kernel
theorem dX9_planAlone_50 : decode cX9_planAlone 50 = .ok (.getfield 59, 3) := by decide +kernel
theorem dX9_planAlone_53 : decode cX9_planAlone 53 = .ok (.iload_n 2, 1) := by decide +kernel
theorem dX9_planAlone_54 : decode cX9_planAlone 54 = .ok (.iconst 3, 1) := by decide +kernel
theorem dX9_planAlone_55 : decode cX9_planAlone 55 = .ok (.iconst 0, 1) := by decide +kernel
theorem dX9_planAlone_56 : decode cX9_planAlone 56 = .ok (.invokevirtual 125, 3) := by decide +kernel
theorem dX9_planAlone_59 : decode cX9_planAlone 59 = .ok (.return_, 1) := by decide +kernel
set_option maxHeartbeats 8000000 in
set_option maxRecDepth 100000 in
theorem a_X_planAlone (l : Launch) (D : va_G) (g : Nat → ClassId)   (sz : Nat) (h : Nat) (ai : Nat → Int32) (xa : Nat → Nat) (sh : Nat) (vh : Nat) (coh : Nat) (wh : Nat) (kh : Nat) (mh : Nat) (la : Nat → Nat) (ea : Nat → Nat) (ua : Nat → Nat) (c1h : Nat) (c2h : Nat) (c3h : Nat) (c4h : Nat) (ph : Nat) (qh : Nat) (wa : Nat → Nat) (wi : Nat → Int32) (wr : Nat → Nat) (wf : Nat → Nat → Int32) (wph : Nat) (wrh : Nat) (wpl : Nat) (er : Nat → Nat) (ef : Nat → Nat → Int32) (n1 : Int32) (hw_w : ∀ k, wr k ≤ woW_lim k) (hw_e : ∀ k, er k ≤ (plW_lim 1) k) (hmx_e : 1 ≤ 30) : vz_Mv l D (tyG g) yX9_planAlone cX9_planAlone 4 1 24 0 0 [.ref h, .int n1] sz (vz_w [maW h ai (xa 0) sh vh coh wh kh mh (la 0) (ea 0) (ua 0) c1h c2h c3h c4h ph qh, woW g wh wa wi wr wf wph wrh wpl, plW g ea er ef 1]) (fun u : (Nat → Nat) × (Nat → Nat → Int32) => (∀ k, u.1 k ≤ (plW_lim 1) k)) (fun u => vz_w [maW h ai (xa 0) sh vh coh wh kh mh (la 0) (ea 0) (ua 0) c1h c2h c3h c4h ph qh, woW g wh wa wi wr wf wph wrh wpl, plW g ea u.1 u.2 1]) := by
  refine vz_svQ (by decide) (Nat.le_of_ble_eq_true rfl) (fun p e s m args below meth c hx hb hr hml hts hown hlk hin hK hsz A hA H locs hP hD hS ls hl Q hQ => ?_)
  have hl : lv_has ls 4 [(0, .ref h), (1, .int n1)] := hl
  have J17 : ∀ (fu17 n17 : Nat), 3 - n17 < fu17 → n17 ≤ 3 → ∀ (x2_17 : Int32), ∀ (er_17 : Nat → Nat), ∀ (ef_17 : Nat → Nat → Int32), (∀ k, er_17 k ≤ (plW_lim 1) k) → ∀ (H : Heap) (locs : List Loc) (ls : Array Slot), va_P D vwCl (vz_w [maW h ai (xa 0) sh vh coh wh kh mh (la 0) (ea 0) (ua 0) c1h c2h c3h c4h ph qh, woW g wh wa wi wr wf wph wrh wpl, plW g ea er_17 ef_17 1]) H → va_D A (vz_w [maW h ai (xa 0) sh vh coh wh kh mh (la 0) (ea 0) (ua 0) c1h c2h c3h c4h ph qh, woW g wh wa wi wr wf wph wrh wpl, plW g ea er_17 ef_17 1]) → va_S A s.heap H locs → lv_has ls 4 [(0, .ref h), (1, .int n1), (2, .int x2_17), (3, .int (nI n17))] → W p l e { frames := 1, cells := 0, slots := 0, locals := 24 } s m args below meth c H locs 0 0 Q (F0 m 17 ls []) := by
    intro fu17
    induction fu17 with
    | zero => intro n17 z; omega
    | succ fu17 ih17 =>
      intro n17 hf17 hb17 x2_17 er_17 ef_17 hw_e_17 H locs ls hP hD hS hl
      refine lv_iload_n hx hb dX9_planAlone_17 rfl (lv_at hl 3 rfl) ?_
      refine lv_iconst (v := 2) hx hb dX9_planAlone_18 (by decide) ?_
      refine lv_icmp_gt (tgt := 49) hx hb dX9_planAlone_19 (by decide) (fun kc1 => ?_) (fun kc1 => ?_)
      · refine lv_aload_n hx hb dX9_planAlone_49 rfl (lv_at hl 0 rfl) ?_
        refine va_get (D := D) (ci := 9) (v := .ref (ea 0)) (C := RX9) (T := TX9) (N := 17) hx hb hts inlX9 hown hK hP 0 rfl rfl 8 (by decide) (hts _ q36) (fun _ h => h) rfl dX9_planAlone_50 ?_
        refine lv_iload_n hx hb dX9_planAlone_53 rfl (lv_at hl 2 rfl) ?_
        refine lv_iconst (v := 3) hx hb dX9_planAlone_54 (by decide) ?_
        refine lv_iconst (v := 0) hx hb dX9_planAlone_55 (by decide) ?_
        refine vz_Vv2 (ws' := fun u : (Nat → Int32) => vz_w [maW h ai (xa 0) sh vh coh wh kh mh (la 0) (ea 0) (ua 0) c1h c2h c3h c4h ph qh, woW g wh wa wi wr wf wph wrh wpl, plW g ea er_17 (vz_uf ef_17 0 u) 1]) (As := [.int x2_17, .int 3, .int 0]) (rest := []) hx hb hml hown hts hK hA hP hD hS (c_T_set l D g (ea 0) (ea 1) H.size 4 1 (er_17 0) (1 * 4) (ef_17 0) x2_17 3 0 ⟨rfl, by omega, by omega, by decide, by decide, hw_e_17 0⟩) kv_X9_125 ⟨Nat.le_of_ble_eq_true rfl, Nat.le_of_ble_eq_true rfl⟩ (q0 := 12) (ci := 6) rfl rfl rfl [12, 13] rfl (by decide) (fun _ => rfl) (fun _ => rfl) hl.1 (Nat.le_of_ble_eq_true rfl) dX9_planAlone_56 ⟨Nat.le_refl _, Nat.le_refl _⟩ rfl (fun nf2 H locs _ _ hP hD hS => ?_)
        obtain ⟨ef_3, hP, hD⟩ : ∃ ef_3 : Nat → Nat → Int32, va_P D vwCl (vz_w [maW h ai (xa 0) sh vh coh wh kh mh (la 0) (ea 0) (ua 0) c1h c2h c3h c4h ph qh, woW g wh wa wi wr wf wph wrh wpl, plW g ea er_17 ef_3 1]) H ∧ va_D A (vz_w [maW h ai (xa 0) sh vh coh wh kh mh (la 0) (ea 0) (ua 0) c1h c2h c3h c4h ph qh, woW g wh wa wi wr wf wph wrh wpl, plW g ea er_17 ef_3 1]) := ⟨(vz_uf ef_17 0 nf2), hP, hD⟩
        rw [hQ]
        exact vz_vret3 hx hb hr hlk hK hP hD hS (er_17, ef_3) hw_e_17 rfl (Nat.le_refl 0) (Nat.le_refl 0) dX9_planAlone_59
      · have hn17 : n17 < 3 := vz_ltgt (B := 2) (by decide) (by omega) kc1
        refine lv_aload_n hx hb dX9_planAlone_22 rfl (lv_at hl 0 rfl) ?_
        refine va_get (D := D) (ci := 9) (v := .ref (ea 0)) (C := RX9) (T := TX9) (N := 17) hx hb hts inlX9 hown hK hP 0 rfl rfl 8 (by decide) (hts _ q36) (fun _ h => h) rfl dX9_planAlone_23 ?_
        refine lv_iload_n hx hb dX9_planAlone_26 rfl (lv_at hl 2 rfl) ?_
        refine lv_iload_n hx hb dX9_planAlone_27 rfl (lv_at hl 3 rfl) ?_
        refine lv_aload_n hx hb dX9_planAlone_28 rfl (lv_at hl 0 rfl) ?_
        refine va_get (D := D) (ci := 9) (v := .ref wh) (C := RX9) (T := TX9) (N := 17) hx hb hts inlX9 hown hK hP 0 rfl rfl 4 (by decide) (hts _ q48) (fun _ h => h) rfl dX9_planAlone_29 ?_
        refine va_get (D := D) (ci := 8) (v := .ref (wa 0)) (C := RX8) (T := TX8) (N := 11) hx hb hts inlX8 hown hK hP 1 rfl rfl 0 (by decide) (hts _ q1597) (fun _ h => h) rfl dX9_planAlone_32 ?_
        refine lv_iload_n hx hb dX9_planAlone_35 rfl (lv_at hl 1 rfl) ?_
        refine lv_iload_n hx hb dX9_planAlone_36 rfl (lv_at hl 3 rfl) ?_
        refine vz_Vi2 (ws' := fun u : Unit => vz_w [maW h ai (xa 0) sh vh coh wh kh mh (la 0) (ea 0) (ua 0) c1h c2h c3h c4h ph qh, woW g wh wa wi wr wf wph wrh wpl, plW g ea er_17 ef_17 1]) (As := [.int n1, .int (nI n17)]) (rest := [.int (nI n17), .int x2_17, .ref (ea 0)]) hx hb hml hown hts hK hA hP hD hS (c_T_get l D g (wa 0) (wa 1) H.size 3 60 (wr 0) 180 (wf 0) n1 (nI n17) ⟨rfl, by decide, by decide, by decide, by decide, hw_w 0⟩) kv_X9_188 ⟨Nat.le_of_ble_eq_true rfl, Nat.le_of_ble_eq_true rfl⟩ (q0 := 2) (ci := 6) rfl rfl rfl [2, 3] rfl (by decide) (fun _ => rfl) (fun _ => rfl) hl.1 (Nat.le_of_ble_eq_true rfl) dX9_planAlone_37 ⟨Nat.le_refl _, Nat.le_refl _⟩ rfl (fun v4 _ H locs he5 _ hP hD hS => ?_)
        refine vz_Vv2 (ws' := fun u : (Nat → Int32) => vz_w [maW h ai (xa 0) sh vh coh wh kh mh (la 0) (ea 0) (ua 0) c1h c2h c3h c4h ph qh, woW g wh wa wi wr wf wph wrh wpl, plW g ea er_17 (vz_uf ef_17 0 u) 1]) (As := [.int x2_17, .int (nI n17), .int v4]) (rest := []) hx hb hml hown hts hK hA hP hD hS (c_T_set l D g (ea 0) (ea 1) H.size 4 1 (er_17 0) (1 * 4) (ef_17 0) x2_17 (nI n17) v4 ⟨rfl, by omega, by omega, by decide, by decide, hw_e_17 0⟩) kv_X9_125 ⟨Nat.le_of_ble_eq_true rfl, Nat.le_of_ble_eq_true rfl⟩ (q0 := 12) (ci := 6) rfl rfl rfl [12, 13] rfl (by decide) (fun _ => rfl) (fun _ => rfl) hl.1 (Nat.le_of_ble_eq_true rfl) dX9_planAlone_40 ⟨Nat.le_refl _, Nat.le_refl _⟩ rfl (fun nf6 H locs _ _ hP hD hS => ?_)
        obtain ⟨ef_7, hP, hD⟩ : ∃ ef_7 : Nat → Nat → Int32, va_P D vwCl (vz_w [maW h ai (xa 0) sh vh coh wh kh mh (la 0) (ea 0) (ua 0) c1h c2h c3h c4h ph qh, woW g wh wa wi wr wf wph wrh wpl, plW g ea er_17 ef_7 1]) H ∧ va_D A (vz_w [maW h ai (xa 0) sh vh coh wh kh mh (la 0) (ea 0) (ua 0) c1h c2h c3h c4h ph qh, woW g wh wa wi wr wf wph wrh wpl, plW g ea er_17 ef_7 1]) := ⟨(vz_uf ef_17 0 nf6), hP, hD⟩
        refine lv_iinc (v := (nI (n17 + 1))) (lv' := [(3, .int (nI (n17 + 1))), (0, .ref h), (1, .int n1), (2, .int x2_17)]) hx hb dX9_planAlone_43 hl (k := 3) rfl (nI_1 n17) (by decide) rfl (fun ls hl => ?_)
        refine lv_goto (tgt := 17) hx hb dX9_planAlone_46 (by decide) ?_
        exact ih17 (n17 + 1) (by omega) (by omega) x2_17 er_17 ef_7 hw_e_17 H locs ls hP hD hS (lv_sub hl [1, 2, 3, 0] rfl)
  refine lv_aload_n hx hb dX9_planAlone_0 rfl (lv_at hl 0 rfl) ?_
  refine va_get (D := D) (ci := 9) (v := .ref (ea 0)) (C := RX9) (T := TX9) (N := 17) hx hb hts inlX9 hown hK hP 0 rfl rfl 8 (by decide) (hts _ q36) (fun _ h => h) rfl dX9_planAlone_1 ?_
  refine vz_Vv2 (ws' := fun u : Unit => vz_w [maW h ai (xa 0) sh vh coh wh kh mh (la 0) (ea 0) (ua 0) c1h c2h c3h c4h ph qh, woW g wh wa wi wr wf wph wrh wpl, plW g ea (vz_un er 0 0) ef 1]) (As := []) (rest := []) hx hb hml hown hts hK hA hP hD hS (c_T_reset l D g (ea 0) (ea 1) H.size (nI 4) (nI 1) (nI (er 0))) kv_X9_133 ⟨Nat.le_of_ble_eq_true rfl, Nat.le_of_ble_eq_true rfl⟩ (q0 := 12) (ci := 6) rfl rfl rfl [12] rfl (by decide) (fun _ => rfl) (fun _ => rfl) hl.1 (Nat.le_of_ble_eq_true rfl) dX9_planAlone_4 ⟨Nat.le_refl _, Nat.le_refl _⟩ rfl (fun _ H locs _ _ hP hD hS => ?_)
  obtain ⟨er_1, hw_er_1, hP, hD⟩ : ∃ er_1 : Nat → Nat, (∀ k, er_1 k ≤ (plW_lim 1) k) ∧ va_P D vwCl (vz_w [maW h ai (xa 0) sh vh coh wh kh mh (la 0) (ea 0) (ua 0) c1h c2h c3h c4h ph qh, woW g wh wa wi wr wf wph wrh wpl, plW g ea er_1 ef 1]) H ∧ va_D A (vz_w [maW h ai (xa 0) sh vh coh wh kh mh (la 0) (ea 0) (ua 0) c1h c2h c3h c4h ph qh, woW g wh wa wi wr wf wph wrh wpl, plW g ea er_1 ef 1]) := ⟨(vz_un er 0 0), (vz_wf hw_e (t := 0) (v := 0) (Nat.zero_le _)), hP, hD⟩
  refine lv_aload_n hx hb dX9_planAlone_7 rfl (lv_at hl 0 rfl) ?_
  refine va_get (D := D) (ci := 9) (v := .ref (ea 0)) (C := RX9) (T := TX9) (N := 17) hx hb hts inlX9 hown hK hP 0 rfl rfl 8 (by decide) (hts _ q36) (fun _ h => h) rfl dX9_planAlone_8 ?_
  refine vz_Vi2 (ws' := fun u : (Nat × (Nat → Int32)) => vz_w [maW h ai (xa 0) sh vh coh wh kh mh (la 0) (ea 0) (ua 0) c1h c2h c3h c4h ph qh, woW g wh wa wi wr wf wph wrh wpl, plW g ea (vz_un er_1 0 u.1) (vz_uf ef 0 u.2) 1]) (As := []) (rest := []) hx hb hml hown hts hK hA hP hD hS (c_T_add l D g (ea 0) (ea 1) H.size 4 1 (er_1 0) (1 * 4) (ef 0) ⟨rfl, by omega, by omega, by decide, by decide, hw_er_1 0⟩) kv_X9_121 ⟨Nat.le_of_ble_eq_true rfl, Nat.le_of_ble_eq_true rfl⟩ (q0 := 12) (ci := 6) rfl rfl rfl [12, 13] rfl (by decide) (fun _ => rfl) (fun _ => rfl) hl.1 (Nat.le_of_ble_eq_true rfl) dX9_planAlone_11 ⟨Nat.le_refl _, Nat.le_refl _⟩ rfl (fun v4 ⟨u2R, u2f⟩ H locs ha3 _ hP hD hS => ?_)
  have hq : (er_1 0) ≤ 1 := hw_er_1 0
  replace ha3 : u2R ≤ 1 := by rcases ha3 with ⟨z1, -, z2, -⟩ | ⟨z1, -, z2, -⟩ <;> (dsimp only at z2; omega)
  obtain ⟨er_5, hw_er_5, ef_6, hP, hD⟩ : ∃ er_5 : Nat → Nat, (∀ k, er_5 k ≤ (plW_lim 1) k) ∧ ∃ ef_6 : Nat → Nat → Int32, va_P D vwCl (vz_w [maW h ai (xa 0) sh vh coh wh kh mh (la 0) (ea 0) (ua 0) c1h c2h c3h c4h ph qh, woW g wh wa wi wr wf wph wrh wpl, plW g ea er_5 ef_6 1]) H ∧ va_D A (vz_w [maW h ai (xa 0) sh vh coh wh kh mh (la 0) (ea 0) (ua 0) c1h c2h c3h c4h ph qh, woW g wh wa wi wr wf wph wrh wpl, plW g ea er_5 ef_6 1]) := ⟨(vz_un er_1 0 u2R), (vz_wf hw_er_1 (t := 0) (v := u2R) (ha3)), (vz_uf ef 0 u2f), hP, hD⟩
  refine lv_istore_n (lv' := [(2, .int v4), (0, .ref h), (1, .int n1)]) hx hb dX9_planAlone_14 rfl hl (by decide) rfl (fun ls hl => ?_)
  refine lv_iconst (v := 0) hx hb dX9_planAlone_15 (by decide) ?_
  refine lv_istore_n (lv' := [(3, .int 0), (2, .int v4), (0, .ref h), (1, .int n1)]) hx hb dX9_planAlone_16 rfl hl (by decide) rfl (fun ls hl => ?_)
  exact J17 (4) 0 (by omega) (by omega) v4 er_5 ef_6 hw_er_5 H locs ls hP hD hS (lv_sub hl [2, 3, 1, 0] rfl)
theorem q43 : Cond.fieldLink RX9 75 "WaysAtlas" "trial" "LWaysAtlas$RunRecord;" ∈ wsL_law := mT_2 (List.mem_of_getElem? (i := 150) rfl) rfl
theorem q1603 : Cond.fieldLink RX9 232 "WaysAtlas$RunRecord" "ender" "I" ∈ wsL_law := mT_1 (List.mem_of_getElem? (i := 228) rfl) rfl
theorem q37 : Cond.fieldLink RX9 62 "WaysAtlas" "outcomes" "LWaysAtlas$Table;" ∈ wsL_law := mT_2 (List.mem_of_getElem? (i := 147) rfl) rfl
theorem q1604 : Cond.fieldLink RX9 235 "WaysAtlas$RunRecord" "returned" "I" ∈ wsL_law := mT_1 (List.mem_of_getElem? (i := 225) rfl) rfl
theorem dX9_noteOutcome_0 : decode cX9_noteOutcome 0 = .ok (.aload_n 0, 1) := by decide +kernel
theorem dX9_noteOutcome_1 : decode cX9_noteOutcome 1 = .ok (.getfield 75, 3) := by decide +kernel
theorem dX9_noteOutcome_4 : decode cX9_noteOutcome 4 = .ok (.getfield 192, 3) := by decide +kernel
theorem dX9_noteOutcome_7 : decode cX9_noteOutcome 7 = .ok (.aload_n 0, 1) := by decide +kernel
theorem dX9_noteOutcome_8 : decode cX9_noteOutcome 8 = .ok (.getfield 75, 3) := by decide +kernel
theorem dX9_noteOutcome_11 : decode cX9_noteOutcome 11 = .ok (.getfield 232, 3) := by decide +kernel
theorem dX9_noteOutcome_14 : decode cX9_noteOutcome 14 = .ok (.iconst 0, 1) := by decide +kernel
theorem dX9_noteOutcome_15 : decode cX9_noteOutcome 15 = .ok (.invokevirtual 188, 3) := by decide +kernel
theorem dX9_noteOutcome_18 : decode cX9_noteOutcome 18 = .ok (.istore_n 1, 1) := by decide +kernel
theorem dX9_noteOutcome_19 : decode cX9_noteOutcome 19 = .ok (.aload_n 0, 1) := by decide +kernel
theorem dX9_noteOutcome_20 : decode cX9_noteOutcome 20 = .ok (.getfield 75, 3) := by decide +kernel
theorem dX9_noteOutcome_23 : decode cX9_noteOutcome 23 = .ok (.getfield 185, 3) := by decide +kernel
theorem dX9_noteOutcome_26 : decode cX9_noteOutcome 26 = .ok (.aload_n 0, 1) := by decide +kernel
theorem dX9_noteOutcome_27 : decode cX9_noteOutcome 27 = .ok (.getfield 75, 3) := by decide +kernel
theorem dX9_noteOutcome_30 : decode cX9_noteOutcome 30 = .ok (.getfield 185, 3) := by decide +kernel
theorem dX9_noteOutcome_33 : decode cX9_noteOutcome 33 = .ok (.getfield 118, 3) := by decide +kernel
theorem dX9_noteOutcome_36 : decode cX9_noteOutcome 36 = .ok (.iconst 1, 1) := by decide +kernel
theorem dX9_noteOutcome_37 : decode cX9_noteOutcome 37 = .ok (.isub, 1) := by decide +kernel
theorem dX9_noteOutcome_38 : decode cX9_noteOutcome 38 = .ok (.iconst 0, 1) := by decide +kernel
theorem dX9_noteOutcome_39 : decode cX9_noteOutcome 39 = .ok (.invokevirtual 188, 3) := by decide +kernel
theorem dX9_noteOutcome_42 : decode cX9_noteOutcome 42 = .ok (.istore_n 2, 1) := by decide +kernel
theorem dX9_noteOutcome_43 : decode cX9_noteOutcome 43 = .ok (.iconst 0, 1) := by decide +kernel
theorem dX9_noteOutcome_44 : decode cX9_noteOutcome 44 = .ok (.istore_n 3, 1) := by decide +kernel
theorem dX9_noteOutcome_45 : decode cX9_noteOutcome 45 = .ok (.iload_n 3, 1) := by decide +kernel
theorem dX9_noteOutcome_46 : decode cX9_noteOutcome 46 = .ok (.aload_n 0, 1) := by decide +kernel
theorem dX9_noteOutcome_47 : decode cX9_noteOutcome 47 = .ok (.getfield 62, 3) := by decide +kernel
theorem dX9_noteOutcome_50 : decode cX9_noteOutcome 50 = .ok (.getfield 118, 3) := by decide +kernel
theorem dX9_noteOutcome_53 : decode cX9_noteOutcome 53 = .ok (.if_icmp .ge 74, 3) := by decide +kernel
theorem dX9_noteOutcome_56 : decode cX9_noteOutcome 56 = .ok (.aload_n 0, 1) := by decide +kernel
theorem dX9_noteOutcome_57 : decode cX9_noteOutcome 57 = .ok (.getfield 62, 3) := by decide +kernel
theorem dX9_noteOutcome_60 : decode cX9_noteOutcome 60 = .ok (.iload_n 3, 1) := by decide +kernel
theorem dX9_noteOutcome_61 : decode cX9_noteOutcome 61 = .ok (.iconst 0, 1) := by decide +kernel
theorem dX9_noteOutcome_62 : decode cX9_noteOutcome 62 = .ok (.invokevirtual 188, 3) := by decide +kernel
theorem dX9_noteOutcome_65 : decode cX9_noteOutcome 65 = .ok (.aload_n 0, 1) := by decide +kernel
theorem dX9_noteOutcome_66 : decode cX9_noteOutcome 66 = .ok (.getfield 75, 3) := by decide +kernel
theorem dX9_noteOutcome_69 : decode cX9_noteOutcome 69 = .ok (.getfield 147, 3) := by decide +kernel
theorem dX9_noteOutcome_72 : decode cX9_noteOutcome 72 = .ok (.if_icmp .ne 49, 3) := by decide +kernel
theorem dX9_noteOutcome_75 : decode cX9_noteOutcome 75 = .ok (.aload_n 0, 1) := by decide +kernel
theorem dX9_noteOutcome_76 : decode cX9_noteOutcome 76 = .ok (.getfield 62, 3) := by decide +kernel
theorem dX9_noteOutcome_79 : decode cX9_noteOutcome 79 = .ok (.iload_n 3, 1) := by decide +kernel
theorem dX9_noteOutcome_80 : decode cX9_noteOutcome 80 = .ok (.iconst 1, 1) := by decide +kernel
theorem dX9_noteOutcome_81 : decode cX9_noteOutcome 81 = .ok (.invokevirtual 188, 3) := by decide +kernel
theorem dX9_noteOutcome_84 : decode cX9_noteOutcome 84 = .ok (.aload_n 0, 1) := by decide +kernel
theorem dX9_noteOutcome_85 : decode cX9_noteOutcome 85 = .ok (.getfield 75, 3) := by decide +kernel
theorem dX9_noteOutcome_88 : decode cX9_noteOutcome 88 = .ok (.getfield 235, 3) := by decide +kernel
theorem dX9_noteOutcome_91 : decode cX9_noteOutcome 91 = .ok (.if_icmp .ne 30, 3) := by decide +kernel
theorem dX9_noteOutcome_94 : decode cX9_noteOutcome 94 = .ok (.aload_n 0, 1) := by decide +kernel
theorem dX9_noteOutcome_95 : decode cX9_noteOutcome 95 = .ok (.getfield 62, 3) := by decide +kernel
theorem dX9_noteOutcome_98 : decode cX9_noteOutcome 98 = .ok (.iload_n 3, 1) := by decide +kernel
theorem dX9_noteOutcome_99 : decode cX9_noteOutcome 99 = .ok (.iconst 2, 1) := by decide +kernel
theorem dX9_noteOutcome_100 : decode cX9_noteOutcome 100 = .ok (.invokevirtual 188, 3) := by decide +kernel
theorem dX9_noteOutcome_103 : decode cX9_noteOutcome 103 = .ok (.iload_n 1, 1) := by decide +kernel
theorem dX9_noteOutcome_104 : decode cX9_noteOutcome 104 = .ok (.if_icmp .ne 17, 3) := by decide +kernel
theorem dX9_noteOutcome_107 : decode cX9_noteOutcome 107 = .ok (.aload_n 0, 1) := by decide +kernel
theorem dX9_noteOutcome_108 : decode cX9_noteOutcome 108 = .ok (.getfield 62, 3) := by decide +kernel
theorem dX9_noteOutcome_111 : decode cX9_noteOutcome 111 = .ok (.iload_n 3, 1) := by decide +kernel
theorem dX9_noteOutcome_112 : decode cX9_noteOutcome 112 = .ok (.iconst 3, 1) := by decide +kernel
theorem dX9_noteOutcome_113 : decode cX9_noteOutcome 113 = .ok (.invokevirtual 188, 3) := by decide +kernel
theorem dX9_noteOutcome_116 : decode cX9_noteOutcome 116 = .ok (.iload_n 2, 1) := by decide +kernel
theorem dX9_noteOutcome_117 : decode cX9_noteOutcome 117 = .ok (.if_icmp .ne 4, 3) := by decide +kernel
theorem dX9_noteOutcome_120 : decode cX9_noteOutcome 120 = .ok (.return_, 1) := by decide +kernel
theorem dX9_noteOutcome_121 : decode cX9_noteOutcome 121 = .ok (.iinc 3 1, 3) := by decide +kernel
theorem dX9_noteOutcome_124 : decode cX9_noteOutcome 124 = .ok (.goto (-79), 3) := by decide +kernel
theorem dX9_noteOutcome_127 : decode cX9_noteOutcome 127 = .ok (.aload_n 0, 1) := by decide +kernel
theorem dX9_noteOutcome_128 : decode cX9_noteOutcome 128 = .ok (.getfield 62, 3) := by decide +kernel
theorem dX9_noteOutcome_131 : decode cX9_noteOutcome 131 = .ok (.invokevirtual 121, 3) := by decide +kernel
theorem dX9_noteOutcome_134 : decode cX9_noteOutcome 134 = .ok (.istore_n 3, 1) := by decide +kernel
theorem dX9_noteOutcome_135 : decode cX9_noteOutcome 135 = .ok (.aload_n 0, 1) := by decide +kernel
theorem dX9_noteOutcome_136 : decode cX9_noteOutcome 136 = .ok (.getfield 62, 3) := by decide +kernel
theorem dX9_noteOutcome_139 : decode cX9_noteOutcome 139 = .ok (.iload_n 3, 1) := by decide +kernel
theorem dX9_noteOutcome_140 : decode cX9_noteOutcome 140 = .ok (.iconst 0, 1) := by decide +kernel
theorem dX9_noteOutcome_141 : decode cX9_noteOutcome 141 = .ok (.aload_n 0, 1) := by decide +kernel
theorem dX9_noteOutcome_142 : decode cX9_noteOutcome 142 = .ok (.getfield 75, 3) := by decide +kernel
theorem dX9_noteOutcome_145 : decode cX9_noteOutcome 145 = .ok (.getfield 147, 3) := by decide +kernel
theorem dX9_noteOutcome_148 : decode cX9_noteOutcome 148 = .ok (.invokevirtual 125, 3) := by decide +kernel
theorem dX9_noteOutcome_151 : decode cX9_noteOutcome 151 = .ok (.aload_n 0, 1) := by decide +kernel
theorem dX9_noteOutcome_152 : decode cX9_noteOutcome 152 = .ok (.getfield 62, 3) := by decide +kernel
theorem dX9_noteOutcome_155 : decode cX9_noteOutcome 155 = .ok (.iload_n 3, 1) := by decide +kernel
theorem dX9_noteOutcome_156 : decode cX9_noteOutcome 156 = .ok (.iconst 1, 1) := by decide +kernel
theorem dX9_noteOutcome_157 : decode cX9_noteOutcome 157 = .ok (.aload_n 0, 1) := by decide +kernel
theorem dX9_noteOutcome_158 : decode cX9_noteOutcome 158 = .ok (.getfield 75, 3) := by decide +kernel
theorem dX9_noteOutcome_161 : decode cX9_noteOutcome 161 = .ok (.getfield 235, 3) := by decide +kernel
theorem dX9_noteOutcome_164 : decode cX9_noteOutcome 164 = .ok (.invokevirtual 125, 3) := by decide +kernel
theorem dX9_noteOutcome_167 : decode cX9_noteOutcome 167 = .ok (.aload_n 0, 1) := by decide +kernel
theorem dX9_noteOutcome_168 : decode cX9_noteOutcome 168 = .ok (.getfield 62, 3) := by decide +kernel
theorem dX9_noteOutcome_171 : decode cX9_noteOutcome 171 = .ok (.iload_n 3, 1) := by decide +kernel
theorem dX9_noteOutcome_172 : decode cX9_noteOutcome 172 = .ok (.iconst 2, 1) := by decide +kernel
theorem dX9_noteOutcome_173 : decode cX9_noteOutcome 173 = .ok (.iload_n 1, 1) := by decide +kernel
theorem dX9_noteOutcome_174 : decode cX9_noteOutcome 174 = .ok (.invokevirtual 125, 3) := by decide +kernel
theorem dX9_noteOutcome_177 : decode cX9_noteOutcome 177 = .ok (.aload_n 0, 1) := by decide +kernel
theorem dX9_noteOutcome_178 : decode cX9_noteOutcome 178 = .ok (.getfield 62, 3) := by decide +kernel
theorem dX9_noteOutcome_181 : decode cX9_noteOutcome 181 = .ok (.iload_n 3, 1) := by decide +kernel
theorem dX9_noteOutcome_182 : decode cX9_noteOutcome 182 = .ok (.iconst 3, 1) := by decide +kernel
theorem dX9_noteOutcome_183 : decode cX9_noteOutcome 183 = .ok (.iload_n 2, 1) := by decide +kernel
theorem dX9_noteOutcome_184 : decode cX9_noteOutcome 184 = .ok (.invokevirtual 125, 3) := by decide +kernel
theorem dX9_noteOutcome_187 : decode cX9_noteOutcome 187 = .ok (.return_, 1) := by decide +kernel
set_option maxHeartbeats 8000000 in
set_option maxRecDepth 100000 in
theorem a_X_noteOutcome (l : Launch) (D : va_G) (g : Nat → ClassId)   (sz : Nat) (h : Nat) (ai : Nat → Int32) (xa : Nat → Nat) (sh : Nat) (vh : Nat) (coh : Nat) (wh : Nat) (kh : Nat) (mh : Nat) (la : Nat → Nat) (ea : Nat → Nat) (ua : Nat → Nat) (c1h : Nat) (c2h : Nat) (c3h : Nat) (c4h : Nat) (ph : Nat) (qh : Nat) (ur : Nat → Nat) (uf : Nat → Nat → Int32) (c3a : Nat → Nat) (c3i : Nat → Int32) (c3r : Nat → Nat) (c3f : Nat → Nat → Int32) (hw_u : ∀ k, ur k ≤ oucW_lim k) (hw_c3 : ∀ k, c3r k ≤ rcW_lim k) : vz_Mv l D (tyG g) yX9_noteOutcome cX9_noteOutcome 4 1 24 0 0 [.ref h] sz (vz_w [maW h ai (xa 0) sh vh coh wh kh mh (la 0) (ea 0) (ua 0) c1h c2h c3h c4h ph qh, oucW g ua ur uf, rcW g c3h c3a c3i c3r c3f]) (fun u : (Nat → Nat) × (Nat → Nat → Int32) => (∀ k, u.1 k ≤ oucW_lim k)) (fun u => vz_w [maW h ai (xa 0) sh vh coh wh kh mh (la 0) (ea 0) (ua 0) c1h c2h c3h c4h ph qh, oucW g ua u.1 u.2, rcW g c3h c3a c3i c3r c3f]) := by
  refine vz_svQ (by decide) (Nat.le_of_ble_eq_true rfl) (fun p e s m args below meth c hx hb hr hml hts hown hlk hin hK hsz A hA H locs hP hD hS ls hl Q hQ => ?_)
  have hl : lv_has ls 4 [(0, .ref h)] := hl
  have J45 : ∀ (fu45 n45 : Nat), 61 - n45 < fu45 → n45 ≤ 61 → ∀ (x1_45 : Int32), ∀ (x2_45 : Int32), ∀ (ur_45 : Nat → Nat), ∀ (uf_45 : Nat → Nat → Int32), (∀ k, ur_45 k ≤ oucW_lim k) → ∀ (H : Heap) (locs : List Loc) (ls : Array Slot), va_P D vwCl (vz_w [maW h ai (xa 0) sh vh coh wh kh mh (la 0) (ea 0) (ua 0) c1h c2h c3h c4h ph qh, oucW g ua ur_45 uf_45, rcW g c3h c3a c3i c3r c3f]) H → va_D A (vz_w [maW h ai (xa 0) sh vh coh wh kh mh (la 0) (ea 0) (ua 0) c1h c2h c3h c4h ph qh, oucW g ua ur_45 uf_45, rcW g c3h c3a c3i c3r c3f]) → va_S A s.heap H locs → lv_has ls 4 [(0, .ref h), (1, .int x1_45), (2, .int x2_45), (3, .int (nI n45))] → W p l e { frames := 1, cells := 0, slots := 0, locals := 24 } s m args below meth c H locs 0 0 Q (F0 m 45 ls []) := by
    intro fu45
    induction fu45 with
    | zero => intro n45 z; omega
    | succ fu45 ih45 =>
      intro n45 hf45 hb45 x1_45 x2_45 ur_45 uf_45 hw_u_45 H locs ls hP hD hS hl
      have J121 : n45 < 61 → ∀ (ur_121 : Nat → Nat), ∀ (uf_121 : Nat → Nat → Int32), (∀ k, ur_121 k ≤ oucW_lim k) → ∀ (H : Heap) (locs : List Loc) (ls : Array Slot), va_P D vwCl (vz_w [maW h ai (xa 0) sh vh coh wh kh mh (la 0) (ea 0) (ua 0) c1h c2h c3h c4h ph qh, oucW g ua ur_121 uf_121, rcW g c3h c3a c3i c3r c3f]) H → va_D A (vz_w [maW h ai (xa 0) sh vh coh wh kh mh (la 0) (ea 0) (ua 0) c1h c2h c3h c4h ph qh, oucW g ua ur_121 uf_121, rcW g c3h c3a c3i c3r c3f]) → va_S A s.heap H locs → lv_has ls 4 [(0, .ref h), (1, .int x1_45), (2, .int x2_45), (3, .int (nI n45))] → W p l e { frames := 1, cells := 0, slots := 0, locals := 24 } s m args below meth c H locs 0 0 Q (F0 m 121 ls []) := by
        intro hn45 ur_121 uf_121 hw_u_121 H locs ls hP hD hS hl
        refine lv_iinc (v := (nI (n45 + 1))) (lv' := [(3, .int (nI (n45 + 1))), (0, .ref h), (1, .int x1_45), (2, .int x2_45)]) hx hb dX9_noteOutcome_121 hl (k := 3) rfl (nI_1 n45) (by decide) rfl (fun ls hl => ?_)
        refine lv_goto (tgt := 45) hx hb dX9_noteOutcome_124 (by decide) ?_
        exact ih45 (n45 + 1) (by omega) (by omega) x1_45 x2_45 ur_121 uf_121 hw_u_121 H locs ls hP hD hS (lv_sub hl [1, 2, 3, 0] rfl)
      refine lv_iload_n hx hb dX9_noteOutcome_45 rfl (lv_at hl 3 rfl) ?_
      refine lv_aload_n hx hb dX9_noteOutcome_46 rfl (lv_at hl 0 rfl) ?_
      refine va_get (D := D) (ci := 9) (v := .ref (ua 0)) (C := RX9) (T := TX9) (N := 17) hx hb hts inlX9 hown hK hP 0 rfl rfl 9 (by decide) (hts _ q37) (fun _ h => h) rfl dX9_noteOutcome_47 ?_
      refine va_get (D := D) (ci := 6) (v := .int (nI (ur_45 0))) (C := RX6) (T := TX6) (N := 4) hx hb hts inlX6 hown hK hP 1 rfl rfl 3 (by decide) (hts _ q259) (fun _ h => h) rfl dX9_noteOutcome_50 ?_
      refine lv_icmp_ge (tgt := 127) hx hb dX9_noteOutcome_53 (by decide) (fun kc1 => ?_) (fun kc1 => ?_)
      · refine lv_aload_n hx hb dX9_noteOutcome_127 rfl (lv_at hl 0 rfl) ?_
        refine va_get (D := D) (ci := 9) (v := .ref (ua 0)) (C := RX9) (T := TX9) (N := 17) hx hb hts inlX9 hown hK hP 0 rfl rfl 9 (by decide) (hts _ q37) (fun _ h => h) rfl dX9_noteOutcome_128 ?_
        refine vz_Vi2 (ws' := fun u : (Nat × (Nat → Int32)) => vz_w [maW h ai (xa 0) sh vh coh wh kh mh (la 0) (ea 0) (ua 0) c1h c2h c3h c4h ph qh, oucW g ua (vz_un ur_45 0 u.1) (vz_uf uf_45 0 u.2), rcW g c3h c3a c3i c3r c3f]) (As := []) (rest := []) hx hb hml hown hts hK hA hP hD hS (c_T_add l D g (ua 0) (ua 1) H.size 4 61 (ur_45 0) 244 (uf_45 0) ⟨rfl, by decide, by decide, by decide, by decide, hw_u_45 0⟩) kv_X9_121 ⟨Nat.le_of_ble_eq_true rfl, Nat.le_of_ble_eq_true rfl⟩ (q0 := 1) (ci := 6) rfl rfl rfl [1, 2] rfl (by decide) (fun _ => rfl) (fun _ => rfl) hl.1 (Nat.le_of_ble_eq_true rfl) dX9_noteOutcome_131 ⟨Nat.le_refl _, Nat.le_refl _⟩ rfl (fun v4 ⟨u2R, u2f⟩ H locs ha3 _ hP hD hS => ?_)
        have hq : (ur_45 0) ≤ 61 := hw_u_45 0
        replace ha3 : u2R ≤ 61 := by rcases ha3 with ⟨z1, -, z2, -⟩ | ⟨z1, -, z2, -⟩ <;> (dsimp only at z2; omega)
        obtain ⟨ur_5, hw_ur_5, uf_6, hP, hD⟩ : ∃ ur_5 : Nat → Nat, (∀ k, ur_5 k ≤ oucW_lim k) ∧ ∃ uf_6 : Nat → Nat → Int32, va_P D vwCl (vz_w [maW h ai (xa 0) sh vh coh wh kh mh (la 0) (ea 0) (ua 0) c1h c2h c3h c4h ph qh, oucW g ua ur_5 uf_6, rcW g c3h c3a c3i c3r c3f]) H ∧ va_D A (vz_w [maW h ai (xa 0) sh vh coh wh kh mh (la 0) (ea 0) (ua 0) c1h c2h c3h c4h ph qh, oucW g ua ur_5 uf_6, rcW g c3h c3a c3i c3r c3f]) := ⟨(vz_un ur_45 0 u2R), (vz_wf hw_u_45 (t := 0) (v := u2R) (ha3)), (vz_uf uf_45 0 u2f), hP, hD⟩
        refine lv_istore_n (lv' := [(3, .int v4), (0, .ref h), (1, .int x1_45), (2, .int x2_45)]) hx hb dX9_noteOutcome_134 rfl hl (by decide) rfl (fun ls hl => ?_)
        refine lv_aload_n hx hb dX9_noteOutcome_135 rfl (lv_at hl 1 rfl) ?_
        refine va_get (D := D) (ci := 9) (v := .ref (ua 0)) (C := RX9) (T := TX9) (N := 17) hx hb hts inlX9 hown hK hP 0 rfl rfl 9 (by decide) (hts _ q37) (fun _ h => h) rfl dX9_noteOutcome_136 ?_
        refine lv_iload_n hx hb dX9_noteOutcome_139 rfl (lv_at hl 0 rfl) ?_
        refine lv_iconst (v := 0) hx hb dX9_noteOutcome_140 (by decide) ?_
        refine lv_aload_n hx hb dX9_noteOutcome_141 rfl (lv_at hl 1 rfl) ?_
        refine va_get (D := D) (ci := 9) (v := .ref c3h) (C := RX9) (T := TX9) (N := 17) hx hb hts inlX9 hown hK hP 0 rfl rfl 12 (by decide) (hts _ q43) (fun _ h => h) rfl dX9_noteOutcome_142 ?_
        refine va_get (D := D) (ci := 4) (v := .int (c3i 0)) (C := RX4) (T := TX4) (N := 12) hx hb hts inlX4 hown hK hP 3 rfl rfl 5 (by decide) (hts _ q282) (fun _ h => h) rfl dX9_noteOutcome_145 ?_
        refine vz_Vv2 (ws' := fun u : (Nat → Int32) => vz_w [maW h ai (xa 0) sh vh coh wh kh mh (la 0) (ea 0) (ua 0) c1h c2h c3h c4h ph qh, oucW g ua ur_5 (vz_uf uf_6 0 u), rcW g c3h c3a c3i c3r c3f]) (As := [.int v4, .int 0, .int (c3i 0)]) (rest := []) hx hb hml hown hts hK hA hP hD hS (c_T_set l D g (ua 0) (ua 1) H.size 4 61 (ur_5 0) 244 (uf_6 0) v4 0 (c3i 0) ⟨rfl, by decide, by decide, by decide, by decide, hw_ur_5 0⟩) kv_X9_125 ⟨Nat.le_of_ble_eq_true rfl, Nat.le_of_ble_eq_true rfl⟩ (q0 := 1) (ci := 6) rfl rfl rfl [1, 2] rfl (by decide) (fun _ => rfl) (fun _ => rfl) hl.1 (Nat.le_of_ble_eq_true rfl) dX9_noteOutcome_148 ⟨Nat.le_refl _, Nat.le_refl _⟩ rfl (fun nf7 H locs _ _ hP hD hS => ?_)
        obtain ⟨uf_8, hP, hD⟩ : ∃ uf_8 : Nat → Nat → Int32, va_P D vwCl (vz_w [maW h ai (xa 0) sh vh coh wh kh mh (la 0) (ea 0) (ua 0) c1h c2h c3h c4h ph qh, oucW g ua ur_5 uf_8, rcW g c3h c3a c3i c3r c3f]) H ∧ va_D A (vz_w [maW h ai (xa 0) sh vh coh wh kh mh (la 0) (ea 0) (ua 0) c1h c2h c3h c4h ph qh, oucW g ua ur_5 uf_8, rcW g c3h c3a c3i c3r c3f]) := ⟨(vz_uf uf_6 0 nf7), hP, hD⟩
        refine lv_aload_n hx hb dX9_noteOutcome_151 rfl (lv_at hl 1 rfl) ?_
        refine va_get (D := D) (ci := 9) (v := .ref (ua 0)) (C := RX9) (T := TX9) (N := 17) hx hb hts inlX9 hown hK hP 0 rfl rfl 9 (by decide) (hts _ q37) (fun _ h => h) rfl dX9_noteOutcome_152 ?_
        refine lv_iload_n hx hb dX9_noteOutcome_155 rfl (lv_at hl 0 rfl) ?_
        refine lv_iconst (v := 1) hx hb dX9_noteOutcome_156 (by decide) ?_
        refine lv_aload_n hx hb dX9_noteOutcome_157 rfl (lv_at hl 1 rfl) ?_
        refine va_get (D := D) (ci := 9) (v := .ref c3h) (C := RX9) (T := TX9) (N := 17) hx hb hts inlX9 hown hK hP 0 rfl rfl 12 (by decide) (hts _ q43) (fun _ h => h) rfl dX9_noteOutcome_158 ?_
        refine va_get (D := D) (ci := 4) (v := .int (c3i 1)) (C := RX4) (T := TX4) (N := 12) hx hb hts inlX4 hown hK hP 3 rfl rfl 6 (by decide) (hts _ q1604) (fun _ h => h) rfl dX9_noteOutcome_161 ?_
        refine vz_Vv2 (ws' := fun u : (Nat → Int32) => vz_w [maW h ai (xa 0) sh vh coh wh kh mh (la 0) (ea 0) (ua 0) c1h c2h c3h c4h ph qh, oucW g ua ur_5 (vz_uf uf_8 0 u), rcW g c3h c3a c3i c3r c3f]) (As := [.int v4, .int 1, .int (c3i 1)]) (rest := []) hx hb hml hown hts hK hA hP hD hS (c_T_set l D g (ua 0) (ua 1) H.size 4 61 (ur_5 0) 244 (uf_8 0) v4 1 (c3i 1) ⟨rfl, by decide, by decide, by decide, by decide, hw_ur_5 0⟩) kv_X9_125 ⟨Nat.le_of_ble_eq_true rfl, Nat.le_of_ble_eq_true rfl⟩ (q0 := 1) (ci := 6) rfl rfl rfl [1, 2] rfl (by decide) (fun _ => rfl) (fun _ => rfl) hl.1 (Nat.le_of_ble_eq_true rfl) dX9_noteOutcome_164 ⟨Nat.le_refl _, Nat.le_refl _⟩ rfl (fun nf9 H locs _ _ hP hD hS => ?_)
        obtain ⟨uf_10, hP, hD⟩ : ∃ uf_10 : Nat → Nat → Int32, va_P D vwCl (vz_w [maW h ai (xa 0) sh vh coh wh kh mh (la 0) (ea 0) (ua 0) c1h c2h c3h c4h ph qh, oucW g ua ur_5 uf_10, rcW g c3h c3a c3i c3r c3f]) H ∧ va_D A (vz_w [maW h ai (xa 0) sh vh coh wh kh mh (la 0) (ea 0) (ua 0) c1h c2h c3h c4h ph qh, oucW g ua ur_5 uf_10, rcW g c3h c3a c3i c3r c3f]) := ⟨(vz_uf uf_8 0 nf9), hP, hD⟩
        refine lv_aload_n hx hb dX9_noteOutcome_167 rfl (lv_at hl 1 rfl) ?_
        refine va_get (D := D) (ci := 9) (v := .ref (ua 0)) (C := RX9) (T := TX9) (N := 17) hx hb hts inlX9 hown hK hP 0 rfl rfl 9 (by decide) (hts _ q37) (fun _ h => h) rfl dX9_noteOutcome_168 ?_
        refine lv_iload_n hx hb dX9_noteOutcome_171 rfl (lv_at hl 0 rfl) ?_
        refine lv_iconst (v := 2) hx hb dX9_noteOutcome_172 (by decide) ?_
        refine lv_iload_n hx hb dX9_noteOutcome_173 rfl (lv_at hl 2 rfl) ?_
        refine vz_Vv2 (ws' := fun u : (Nat → Int32) => vz_w [maW h ai (xa 0) sh vh coh wh kh mh (la 0) (ea 0) (ua 0) c1h c2h c3h c4h ph qh, oucW g ua ur_5 (vz_uf uf_10 0 u), rcW g c3h c3a c3i c3r c3f]) (As := [.int v4, .int 2, .int x1_45]) (rest := []) hx hb hml hown hts hK hA hP hD hS (c_T_set l D g (ua 0) (ua 1) H.size 4 61 (ur_5 0) 244 (uf_10 0) v4 2 x1_45 ⟨rfl, by decide, by decide, by decide, by decide, hw_ur_5 0⟩) kv_X9_125 ⟨Nat.le_of_ble_eq_true rfl, Nat.le_of_ble_eq_true rfl⟩ (q0 := 1) (ci := 6) rfl rfl rfl [1, 2] rfl (by decide) (fun _ => rfl) (fun _ => rfl) hl.1 (Nat.le_of_ble_eq_true rfl) dX9_noteOutcome_174 ⟨Nat.le_refl _, Nat.le_refl _⟩ rfl (fun nf11 H locs _ _ hP hD hS => ?_)
        obtain ⟨uf_12, hP, hD⟩ : ∃ uf_12 : Nat → Nat → Int32, va_P D vwCl (vz_w [maW h ai (xa 0) sh vh coh wh kh mh (la 0) (ea 0) (ua 0) c1h c2h c3h c4h ph qh, oucW g ua ur_5 uf_12, rcW g c3h c3a c3i c3r c3f]) H ∧ va_D A (vz_w [maW h ai (xa 0) sh vh coh wh kh mh (la 0) (ea 0) (ua 0) c1h c2h c3h c4h ph qh, oucW g ua ur_5 uf_12, rcW g c3h c3a c3i c3r c3f]) := ⟨(vz_uf uf_10 0 nf11), hP, hD⟩
        refine lv_aload_n hx hb dX9_noteOutcome_177 rfl (lv_at hl 1 rfl) ?_
        refine va_get (D := D) (ci := 9) (v := .ref (ua 0)) (C := RX9) (T := TX9) (N := 17) hx hb hts inlX9 hown hK hP 0 rfl rfl 9 (by decide) (hts _ q37) (fun _ h => h) rfl dX9_noteOutcome_178 ?_
        refine lv_iload_n hx hb dX9_noteOutcome_181 rfl (lv_at hl 0 rfl) ?_
        refine lv_iconst (v := 3) hx hb dX9_noteOutcome_182 (by decide) ?_
        refine lv_iload_n hx hb dX9_noteOutcome_183 rfl (lv_at hl 3 rfl) ?_
        refine vz_Vv2 (ws' := fun u : (Nat → Int32) => vz_w [maW h ai (xa 0) sh vh coh wh kh mh (la 0) (ea 0) (ua 0) c1h c2h c3h c4h ph qh, oucW g ua ur_5 (vz_uf uf_12 0 u), rcW g c3h c3a c3i c3r c3f]) (As := [.int v4, .int 3, .int x2_45]) (rest := []) hx hb hml hown hts hK hA hP hD hS (c_T_set l D g (ua 0) (ua 1) H.size 4 61 (ur_5 0) 244 (uf_12 0) v4 3 x2_45 ⟨rfl, by decide, by decide, by decide, by decide, hw_ur_5 0⟩) kv_X9_125 ⟨Nat.le_of_ble_eq_true rfl, Nat.le_of_ble_eq_true rfl⟩ (q0 := 1) (ci := 6) rfl rfl rfl [1, 2] rfl (by decide) (fun _ => rfl) (fun _ => rfl) hl.1 (Nat.le_of_ble_eq_true rfl) dX9_noteOutcome_184 ⟨Nat.le_refl _, Nat.le_refl _⟩ rfl (fun nf13 H locs _ _ hP hD hS => ?_)
        obtain ⟨uf_14, hP, hD⟩ : ∃ uf_14 : Nat → Nat → Int32, va_P D vwCl (vz_w [maW h ai (xa 0) sh vh coh wh kh mh (la 0) (ea 0) (ua 0) c1h c2h c3h c4h ph qh, oucW g ua ur_5 uf_14, rcW g c3h c3a c3i c3r c3f]) H ∧ va_D A (vz_w [maW h ai (xa 0) sh vh coh wh kh mh (la 0) (ea 0) (ua 0) c1h c2h c3h c4h ph qh, oucW g ua ur_5 uf_14, rcW g c3h c3a c3i c3r c3f]) := ⟨(vz_uf uf_12 0 nf13), hP, hD⟩
        rw [hQ]
        exact vz_vret3 hx hb hr hlk hK hP hD hS (ur_5, uf_14) hw_ur_5 rfl (Nat.le_refl 0) (Nat.le_refl 0) dX9_noteOutcome_187
      · have hn45 : n45 < 61 := Nat.lt_of_lt_of_le (vz_ltge (by omega) kc1) (hw_u_45 0)
        refine lv_aload_n hx hb dX9_noteOutcome_56 rfl (lv_at hl 0 rfl) ?_
        refine va_get (D := D) (ci := 9) (v := .ref (ua 0)) (C := RX9) (T := TX9) (N := 17) hx hb hts inlX9 hown hK hP 0 rfl rfl 9 (by decide) (hts _ q37) (fun _ h => h) rfl dX9_noteOutcome_57 ?_
        refine lv_iload_n hx hb dX9_noteOutcome_60 rfl (lv_at hl 3 rfl) ?_
        refine lv_iconst (v := 0) hx hb dX9_noteOutcome_61 (by decide) ?_
        refine vz_Vi2 (ws' := fun u : Unit => vz_w [maW h ai (xa 0) sh vh coh wh kh mh (la 0) (ea 0) (ua 0) c1h c2h c3h c4h ph qh, oucW g ua ur_45 uf_45, rcW g c3h c3a c3i c3r c3f]) (As := [.int (nI n45), .int 0]) (rest := []) hx hb hml hown hts hK hA hP hD hS (c_T_get l D g (ua 0) (ua 1) H.size 4 61 (ur_45 0) 244 (uf_45 0) (nI n45) 0 ⟨rfl, by decide, by decide, by decide, by decide, hw_u_45 0⟩) kv_X9_188 ⟨Nat.le_of_ble_eq_true rfl, Nat.le_of_ble_eq_true rfl⟩ (q0 := 1) (ci := 6) rfl rfl rfl [1, 2] rfl (by decide) (fun _ => rfl) (fun _ => rfl) hl.1 (Nat.le_of_ble_eq_true rfl) dX9_noteOutcome_62 ⟨Nat.le_refl _, Nat.le_refl _⟩ rfl (fun v15 _ H locs he16 _ hP hD hS => ?_)
        refine lv_aload_n hx hb dX9_noteOutcome_65 rfl (lv_at hl 0 rfl) ?_
        refine va_get (D := D) (ci := 9) (v := .ref c3h) (C := RX9) (T := TX9) (N := 17) hx hb hts inlX9 hown hK hP 0 rfl rfl 12 (by decide) (hts _ q43) (fun _ h => h) rfl dX9_noteOutcome_66 ?_
        refine va_get (D := D) (ci := 4) (v := .int (c3i 0)) (C := RX4) (T := TX4) (N := 12) hx hb hts inlX4 hown hK hP 3 rfl rfl 5 (by decide) (hts _ q282) (fun _ h => h) rfl dX9_noteOutcome_69 ?_
        refine lv_icmp_ne (tgt := 121) hx hb dX9_noteOutcome_72 (by decide) (fun kc17 => ?_) (fun kc17 => ?_)
        · exact J121 hn45 ur_45 uf_45 hw_u_45 H locs ls hP hD hS (lv_sub hl [0, 1, 2, 3] rfl)
        · refine lv_aload_n hx hb dX9_noteOutcome_75 rfl (lv_at hl 0 rfl) ?_
          refine va_get (D := D) (ci := 9) (v := .ref (ua 0)) (C := RX9) (T := TX9) (N := 17) hx hb hts inlX9 hown hK hP 0 rfl rfl 9 (by decide) (hts _ q37) (fun _ h => h) rfl dX9_noteOutcome_76 ?_
          refine lv_iload_n hx hb dX9_noteOutcome_79 rfl (lv_at hl 3 rfl) ?_
          refine lv_iconst (v := 1) hx hb dX9_noteOutcome_80 (by decide) ?_
          refine vz_Vi2 (ws' := fun u : Unit => vz_w [maW h ai (xa 0) sh vh coh wh kh mh (la 0) (ea 0) (ua 0) c1h c2h c3h c4h ph qh, oucW g ua ur_45 uf_45, rcW g c3h c3a c3i c3r c3f]) (As := [.int (nI n45), .int 1]) (rest := []) hx hb hml hown hts hK hA hP hD hS (c_T_get l D g (ua 0) (ua 1) H.size 4 61 (ur_45 0) 244 (uf_45 0) (nI n45) 1 ⟨rfl, by decide, by decide, by decide, by decide, hw_u_45 0⟩) kv_X9_188 ⟨Nat.le_of_ble_eq_true rfl, Nat.le_of_ble_eq_true rfl⟩ (q0 := 1) (ci := 6) rfl rfl rfl [1, 2] rfl (by decide) (fun _ => rfl) (fun _ => rfl) hl.1 (Nat.le_of_ble_eq_true rfl) dX9_noteOutcome_81 ⟨Nat.le_refl _, Nat.le_refl _⟩ rfl (fun v18 _ H locs he19 _ hP hD hS => ?_)
          refine lv_aload_n hx hb dX9_noteOutcome_84 rfl (lv_at hl 0 rfl) ?_
          refine va_get (D := D) (ci := 9) (v := .ref c3h) (C := RX9) (T := TX9) (N := 17) hx hb hts inlX9 hown hK hP 0 rfl rfl 12 (by decide) (hts _ q43) (fun _ h => h) rfl dX9_noteOutcome_85 ?_
          refine va_get (D := D) (ci := 4) (v := .int (c3i 1)) (C := RX4) (T := TX4) (N := 12) hx hb hts inlX4 hown hK hP 3 rfl rfl 6 (by decide) (hts _ q1604) (fun _ h => h) rfl dX9_noteOutcome_88 ?_
          refine lv_icmp_ne (tgt := 121) hx hb dX9_noteOutcome_91 (by decide) (fun kc20 => ?_) (fun kc20 => ?_)
          · exact J121 hn45 ur_45 uf_45 hw_u_45 H locs ls hP hD hS (lv_sub hl [0, 1, 2, 3] rfl)
          · refine lv_aload_n hx hb dX9_noteOutcome_94 rfl (lv_at hl 0 rfl) ?_
            refine va_get (D := D) (ci := 9) (v := .ref (ua 0)) (C := RX9) (T := TX9) (N := 17) hx hb hts inlX9 hown hK hP 0 rfl rfl 9 (by decide) (hts _ q37) (fun _ h => h) rfl dX9_noteOutcome_95 ?_
            refine lv_iload_n hx hb dX9_noteOutcome_98 rfl (lv_at hl 3 rfl) ?_
            refine lv_iconst (v := 2) hx hb dX9_noteOutcome_99 (by decide) ?_
            refine vz_Vi2 (ws' := fun u : Unit => vz_w [maW h ai (xa 0) sh vh coh wh kh mh (la 0) (ea 0) (ua 0) c1h c2h c3h c4h ph qh, oucW g ua ur_45 uf_45, rcW g c3h c3a c3i c3r c3f]) (As := [.int (nI n45), .int 2]) (rest := []) hx hb hml hown hts hK hA hP hD hS (c_T_get l D g (ua 0) (ua 1) H.size 4 61 (ur_45 0) 244 (uf_45 0) (nI n45) 2 ⟨rfl, by decide, by decide, by decide, by decide, hw_u_45 0⟩) kv_X9_188 ⟨Nat.le_of_ble_eq_true rfl, Nat.le_of_ble_eq_true rfl⟩ (q0 := 1) (ci := 6) rfl rfl rfl [1, 2] rfl (by decide) (fun _ => rfl) (fun _ => rfl) hl.1 (Nat.le_of_ble_eq_true rfl) dX9_noteOutcome_100 ⟨Nat.le_refl _, Nat.le_refl _⟩ rfl (fun v21 _ H locs he22 _ hP hD hS => ?_)
            refine lv_iload_n hx hb dX9_noteOutcome_103 rfl (lv_at hl 1 rfl) ?_
            refine lv_icmp_ne (tgt := 121) hx hb dX9_noteOutcome_104 (by decide) (fun kc23 => ?_) (fun kc23 => ?_)
            · exact J121 hn45 ur_45 uf_45 hw_u_45 H locs ls hP hD hS (lv_sub hl [0, 1, 2, 3] rfl)
            · refine lv_aload_n hx hb dX9_noteOutcome_107 rfl (lv_at hl 0 rfl) ?_
              refine va_get (D := D) (ci := 9) (v := .ref (ua 0)) (C := RX9) (T := TX9) (N := 17) hx hb hts inlX9 hown hK hP 0 rfl rfl 9 (by decide) (hts _ q37) (fun _ h => h) rfl dX9_noteOutcome_108 ?_
              refine lv_iload_n hx hb dX9_noteOutcome_111 rfl (lv_at hl 3 rfl) ?_
              refine lv_iconst (v := 3) hx hb dX9_noteOutcome_112 (by decide) ?_
              refine vz_Vi2 (ws' := fun u : Unit => vz_w [maW h ai (xa 0) sh vh coh wh kh mh (la 0) (ea 0) (ua 0) c1h c2h c3h c4h ph qh, oucW g ua ur_45 uf_45, rcW g c3h c3a c3i c3r c3f]) (As := [.int (nI n45), .int 3]) (rest := []) hx hb hml hown hts hK hA hP hD hS (c_T_get l D g (ua 0) (ua 1) H.size 4 61 (ur_45 0) 244 (uf_45 0) (nI n45) 3 ⟨rfl, by decide, by decide, by decide, by decide, hw_u_45 0⟩) kv_X9_188 ⟨Nat.le_of_ble_eq_true rfl, Nat.le_of_ble_eq_true rfl⟩ (q0 := 1) (ci := 6) rfl rfl rfl [1, 2] rfl (by decide) (fun _ => rfl) (fun _ => rfl) hl.1 (Nat.le_of_ble_eq_true rfl) dX9_noteOutcome_113 ⟨Nat.le_refl _, Nat.le_refl _⟩ rfl (fun v24 _ H locs he25 _ hP hD hS => ?_)
              refine lv_iload_n hx hb dX9_noteOutcome_116 rfl (lv_at hl 2 rfl) ?_
              refine lv_icmp_ne (tgt := 121) hx hb dX9_noteOutcome_117 (by decide) (fun kc26 => ?_) (fun kc26 => ?_)
              · exact J121 hn45 ur_45 uf_45 hw_u_45 H locs ls hP hD hS (lv_sub hl [0, 1, 2, 3] rfl)
              · rw [hQ]
                exact vz_vret3 hx hb hr hlk hK hP hD hS (ur_45, uf_45) hw_u_45 rfl (Nat.le_refl 0) (Nat.le_refl 0) dX9_noteOutcome_120
  refine lv_aload_n hx hb dX9_noteOutcome_0 rfl (lv_at hl 0 rfl) ?_
  refine va_get (D := D) (ci := 9) (v := .ref c3h) (C := RX9) (T := TX9) (N := 17) hx hb hts inlX9 hown hK hP 0 rfl rfl 12 (by decide) (hts _ q43) (fun _ h => h) rfl dX9_noteOutcome_1 ?_
  refine va_get (D := D) (ci := 4) (v := .ref (c3a 2)) (C := RX4) (T := TX4) (N := 12) hx hb hts inlX4 hown hK hP 3 rfl rfl 1 (by decide) (hts _ q1549) (fun _ h => h) rfl dX9_noteOutcome_4 ?_
  refine lv_aload_n hx hb dX9_noteOutcome_7 rfl (lv_at hl 0 rfl) ?_
  refine va_get (D := D) (ci := 9) (v := .ref c3h) (C := RX9) (T := TX9) (N := 17) hx hb hts inlX9 hown hK hP 0 rfl rfl 12 (by decide) (hts _ q43) (fun _ h => h) rfl dX9_noteOutcome_8 ?_
  refine va_get (D := D) (ci := 4) (v := .int (c3i 2)) (C := RX4) (T := TX4) (N := 12) hx hb hts inlX4 hown hK hP 3 rfl rfl 7 (by decide) (hts _ q1603) (fun _ h => h) rfl dX9_noteOutcome_11 ?_
  refine lv_iconst (v := 0) hx hb dX9_noteOutcome_14 (by decide) ?_
  refine vz_Vi2 (ws' := fun u : Unit => vz_w [maW h ai (xa 0) sh vh coh wh kh mh (la 0) (ea 0) (ua 0) c1h c2h c3h c4h ph qh, oucW g ua ur uf, rcW g c3h c3a c3i c3r c3f]) (As := [.int (c3i 2), .int 0]) (rest := []) hx hb hml hown hts hK hA hP hD hS (c_T_get l D g (c3a 2) (c3a 3) H.size 7 400 (c3r 1) 2800 (c3f 1) (c3i 2) 0 ⟨rfl, by decide, by decide, by decide, by decide, hw_c3 1⟩) kv_X9_188 ⟨Nat.le_of_ble_eq_true rfl, Nat.le_of_ble_eq_true rfl⟩ (q0 := 6) (ci := 6) rfl rfl rfl [6, 7] rfl (by decide) (fun _ => rfl) (fun _ => rfl) hl.1 (Nat.le_of_ble_eq_true rfl) dX9_noteOutcome_15 ⟨Nat.le_refl _, Nat.le_refl _⟩ rfl (fun v1 _ H locs he2 _ hP hD hS => ?_)
  refine lv_istore_n (lv' := [(1, .int v1), (0, .ref h)]) hx hb dX9_noteOutcome_18 rfl hl (by decide) rfl (fun ls hl => ?_)
  refine lv_aload_n hx hb dX9_noteOutcome_19 rfl (lv_at hl 1 rfl) ?_
  refine va_get (D := D) (ci := 9) (v := .ref c3h) (C := RX9) (T := TX9) (N := 17) hx hb hts inlX9 hown hK hP 0 rfl rfl 12 (by decide) (hts _ q43) (fun _ h => h) rfl dX9_noteOutcome_20 ?_
  refine va_get (D := D) (ci := 4) (v := .ref (c3a 0)) (C := RX4) (T := TX4) (N := 12) hx hb hts inlX4 hown hK hP 3 rfl rfl 0 (by decide) (hts _ q1539) (fun _ h => h) rfl dX9_noteOutcome_23 ?_
  refine lv_aload_n hx hb dX9_noteOutcome_26 rfl (lv_at hl 1 rfl) ?_
  refine va_get (D := D) (ci := 9) (v := .ref c3h) (C := RX9) (T := TX9) (N := 17) hx hb hts inlX9 hown hK hP 0 rfl rfl 12 (by decide) (hts _ q43) (fun _ h => h) rfl dX9_noteOutcome_27 ?_
  refine va_get (D := D) (ci := 4) (v := .ref (c3a 0)) (C := RX4) (T := TX4) (N := 12) hx hb hts inlX4 hown hK hP 3 rfl rfl 0 (by decide) (hts _ q1539) (fun _ h => h) rfl dX9_noteOutcome_30 ?_
  refine va_get (D := D) (ci := 6) (v := .int (nI (c3r 0))) (C := RX6) (T := TX6) (N := 4) hx hb hts inlX6 hown hK hP 4 rfl rfl 3 (by decide) (hts _ q259) (fun _ h => h) rfl dX9_noteOutcome_33 ?_
  refine lv_iconst (v := 1) hx hb dX9_noteOutcome_36 (by decide) ?_
  refine lv_isub hx hb dX9_noteOutcome_37 ?_
  refine lv_iconst (v := 0) hx hb dX9_noteOutcome_38 (by decide) ?_
  refine vz_Vi2 (ws' := fun u : Unit => vz_w [maW h ai (xa 0) sh vh coh wh kh mh (la 0) (ea 0) (ua 0) c1h c2h c3h c4h ph qh, oucW g ua ur uf, rcW g c3h c3a c3i c3r c3f]) (As := [.int ((nI (c3r 0)) - 1), .int 0]) (rest := []) hx hb hml hown hts hK hA hP hD hS (c_T_get l D g (c3a 0) (c3a 1) H.size 1 400 (c3r 0) 400 (c3f 0) ((nI (c3r 0)) - 1) 0 ⟨rfl, by decide, by decide, by decide, by decide, hw_c3 0⟩) kv_X9_188 ⟨Nat.le_of_ble_eq_true rfl, Nat.le_of_ble_eq_true rfl⟩ (q0 := 4) (ci := 6) rfl rfl rfl [4, 5] rfl (by decide) (fun _ => rfl) (fun _ => rfl) hl.1 (Nat.le_of_ble_eq_true rfl) dX9_noteOutcome_39 ⟨Nat.le_refl _, Nat.le_refl _⟩ rfl (fun v3 _ H locs he4 _ hP hD hS => ?_)
  refine lv_istore_n (lv' := [(2, .int v3), (1, .int v1), (0, .ref h)]) hx hb dX9_noteOutcome_42 rfl hl (by decide) rfl (fun ls hl => ?_)
  refine lv_iconst (v := 0) hx hb dX9_noteOutcome_43 (by decide) ?_
  refine lv_istore_n (lv' := [(3, .int 0), (2, .int v3), (1, .int v1), (0, .ref h)]) hx hb dX9_noteOutcome_44 rfl hl (by decide) rfl (fun ls hl => ?_)
  exact J45 (62) 0 (by omega) (by omega) v1 v3 ur uf hw_u H locs ls hP hD hS (lv_sub hl [3, 2, 1, 0] rfl)
theorem q1598 : Cond.fieldLink RX9 207 "WaysAtlas$World" "notesPassings" "Z" ∈ wsL_law := mT_2 (List.mem_of_getElem? (i := 56) rfl) rfl
theorem q1599 : Cond.methodLink RX9 211 yX9_noteOutcome ∈ wsL_law := mT_6 (List.mem_of_getElem? (i := 62) rfl) rfl
theorem q1600 : Cond.instanceMethod yX9_noteOutcome ∈ wsL_law := mT_6 (List.mem_of_getElem? (i := 64) rfl) rfl
theorem q1601 : Cond.selects RX9 yX9_noteOutcome yX9_noteOutcome ∈ wsL_law := mS_7 (q := (yX9_noteOutcome, 17)) (List.mem_of_getElem? (i := 7) rfl) rfl
theorem q1602 : Cond.code yX9_noteOutcome cX9_noteOutcome 4 none ∈ wsL_law := mT_6 (List.mem_of_getElem? (i := 65) rfl) rfl
theorem kv_X9_211 : vz_cv RX9 211 yX9_noteOutcome cX9_noteOutcome 4 none 0 := ⟨q1599, q1600, q1601, q2, q1602, by decide +kernel⟩
theorem q1605 : Cond.methodLink RX9 214 yX9_planAlone ∈ wsL_law := mT_6 (List.mem_of_getElem? (i := 66) rfl) rfl
theorem q1606 : Cond.instanceMethod yX9_planAlone ∈ wsL_law := mT_6 (List.mem_of_getElem? (i := 68) rfl) rfl
theorem q1607 : Cond.selects RX9 yX9_planAlone yX9_planAlone ∈ wsL_law := mS_7 (q := (yX9_planAlone, 17)) (List.mem_of_getElem? (i := 8) rfl) rfl
theorem q1608 : Cond.code yX9_planAlone cX9_planAlone 4 none ∈ wsL_law := mT_6 (List.mem_of_getElem? (i := 69) rfl) rfl
theorem kv_X9_214 : vz_cv RX9 214 yX9_planAlone cX9_planAlone 4 none 1 := ⟨q1605, q1606, q1607, q2, q1608, by decide +kernel⟩
theorem dX9_ways_0 : decode cX9_ways 0 = .ok (.aload_n 0, 1) := by decide +kernel
theorem dX9_ways_1 : decode cX9_ways 1 = .ok (.iload_n 1, 1) := by decide +kernel
theorem dX9_ways_2 : decode cX9_ways 2 = .ok (.invokevirtual 166, 3) := by decide +kernel
theorem dX9_ways_5 : decode cX9_ways 5 = .ok (.ifCond .eq 5, 3) := by decide +kernel
theorem dX9_ways_8 : decode cX9_ways 8 = .ok (.iconst (-1), 1) := by decide +kernel
theorem dX9_ways_9 : decode cX9_ways 9 = .ok (.ireturn, 1) := by decide +kernel
theorem dX9_ways_10 : decode cX9_ways 10 = .ok (.aload_n 0, 1) := by decide +kernel
theorem dX9_ways_11 : decode cX9_ways 11 = .ok (.getfield 59, 3) := by decide +kernel
theorem dX9_ways_14 : decode cX9_ways 14 = .ok (.invokevirtual 133, 3) := by decide +kernel
theorem dX9_ways_17 : decode cX9_ways 17 = .ok (.aload_n 0, 1) := by decide +kernel
theorem dX9_ways_18 : decode cX9_ways 18 = .ok (.getfield 62, 3) := by decide +kernel
theorem dX9_ways_21 : decode cX9_ways 21 = .ok (.invokevirtual 133, 3) := by decide +kernel
theorem dX9_ways_24 : decode cX9_ways 24 = .ok (.aload_n 0, 1) := by decide +kernel
theorem dX9_ways_25 : decode cX9_ways 25 = .ok (.getfield 86, 3) := by decide +kernel
theorem dX9_ways_28 : decode cX9_ways 28 = .ok (.getfield 204, 3) := by decide +kernel
theorem dX9_ways_31 : decode cX9_ways 31 = .ok (.invokevirtual 133, 3) := by decide +kernel
theorem dX9_ways_34 : decode cX9_ways 34 = .ok (.aload_n 0, 1) := by decide +kernel
theorem dX9_ways_35 : decode cX9_ways 35 = .ok (.getfield 86, 3) := by decide +kernel
theorem dX9_ways_38 : decode cX9_ways 38 = .ok (.iconst 1, 1) := by decide +kernel
theorem dX9_ways_39 : decode cX9_ways 39 = .ok (.putfield 207, 3) := by decide +kernel
theorem dX9_ways_42 : decode cX9_ways 42 = .ok (.aload_n 0, 1) := by decide +kernel
theorem dX9_ways_43 : decode cX9_ways 43 = .ok (.iconst 0, 1) := by decide +kernel
theorem dX9_ways_44 : decode cX9_ways 44 = .ok (.aload_n 0, 1) := by decide +kernel
theorem dX9_ways_45 : decode cX9_ways 45 = .ok (.getfield 75, 3) := by decide +kernel
theorem dX9_ways_48 : decode cX9_ways 48 = .ok (.aload_n 0, 1) := by decide +kernel
theorem dX9_ways_49 : decode cX9_ways 49 = .ok (.getfield 59, 3) := by decide +kernel
theorem dX9_ways_52 : decode cX9_ways 52 = .ok (.iload_n 1, 1) := by decide +kernel
theorem dX9_ways_53 : decode cX9_ways 53 = .ok (.iload_n 2, 1) := by decide +kernel
theorem dX9_ways_54 : decode cX9_ways 54 = .ok (.iload_n 3, 1) := by decide +kernel
theorem dX9_ways_55 : decode cX9_ways 55 = .ok (.sipush 400, 3) := by decide +kernel
theorem dX9_ways_58 : decode cX9_ways 58 = .ok (.invokevirtual 170, 3) := by decide +kernel
theorem dX9_ways_61 : decode cX9_ways 61 = .ok (.pop, 1) := by decide +kernel
theorem dX9_ways_62 : decode cX9_ways 62 = .ok (.aload_n 0, 1) := by decide +kernel
theorem dX9_ways_63 : decode cX9_ways 63 = .ok (.getfield 86, 3) := by decide +kernel
theorem dX9_ways_66 : decode cX9_ways 66 = .ok (.iconst 0, 1) := by decide +kernel
theorem dX9_ways_67 : decode cX9_ways 67 = .ok (.putfield 207, 3) := by decide +kernel
theorem dX9_ways_70 : decode cX9_ways 70 = .ok (.aload_n 0, 1) := by decide +kernel
theorem dX9_ways_71 : decode cX9_ways 71 = .ok (.invokevirtual 211, 3) := by decide +kernel
theorem dX9_ways_74 : decode cX9_ways 74 = .ok (.iconst 0, 1) := by decide +kernel
theorem dX9_ways_75 : decode cX9_ways 75 = .ok (.istore 4, 2) := by decide +kernel
theorem dX9_ways_77 : decode cX9_ways 77 = .ok (.iload 4, 2) := by decide +kernel
theorem dX9_ways_79 : decode cX9_ways 79 = .ok (.aload_n 0, 1) := by decide +kernel
theorem dX9_ways_80 : decode cX9_ways 80 = .ok (.getfield 86, 3) := by decide +kernel
theorem dX9_ways_83 : decode cX9_ways 83 = .ok (.getfield 204, 3) := by decide +kernel
theorem dX9_ways_86 : decode cX9_ways 86 = .ok (.getfield 118, 3) := by decide +kernel
theorem dX9_ways_89 : decode cX9_ways 89 = .ok (.if_icmp .ge 39, 3) := by decide +kernel
theorem dX9_ways_92 : decode cX9_ways 92 = .ok (.aload_n 0, 1) := by decide +kernel
theorem dX9_ways_93 : decode cX9_ways 93 = .ok (.iload 4, 2) := by decide +kernel
theorem dX9_ways_95 : decode cX9_ways 95 = .ok (.invokevirtual 214, 3) := by decide +kernel
theorem dX9_ways_98 : decode cX9_ways 98 = .ok (.aload_n 0, 1) := by decide +kernel
theorem dX9_ways_99 : decode cX9_ways 99 = .ok (.iconst 0, 1) := by decide +kernel
theorem dX9_ways_100 : decode cX9_ways 100 = .ok (.aload_n 0, 1) := by decide +kernel
theorem dX9_ways_101 : decode cX9_ways 101 = .ok (.getfield 75, 3) := by decide +kernel
theorem dX9_ways_104 : decode cX9_ways 104 = .ok (.aload_n 0, 1) := by decide +kernel
theorem dX9_ways_105 : decode cX9_ways 105 = .ok (.getfield 59, 3) := by decide +kernel
theorem dX9_ways_108 : decode cX9_ways 108 = .ok (.iload_n 1, 1) := by decide +kernel
theorem dX9_ways_109 : decode cX9_ways 109 = .ok (.iload_n 2, 1) := by decide +kernel
theorem dX9_ways_110 : decode cX9_ways 110 = .ok (.iload_n 3, 1) := by decide +kernel
theorem dX9_ways_111 : decode cX9_ways 111 = .ok (.sipush 400, 3) := by decide +kernel
theorem dX9_ways_114 : decode cX9_ways 114 = .ok (.invokevirtual 170, 3) := by decide +kernel
theorem dX9_ways_117 : decode cX9_ways 117 = .ok (.pop, 1) := by decide +kernel
theorem dX9_ways_118 : decode cX9_ways 118 = .ok (.aload_n 0, 1) := by decide +kernel
theorem dX9_ways_119 : decode cX9_ways 119 = .ok (.invokevirtual 211, 3) := by decide +kernel
theorem dX9_ways_122 : decode cX9_ways 122 = .ok (.iinc 4 1, 3) := by decide +kernel
theorem dX9_ways_125 : decode cX9_ways 125 = .ok (.goto (-48), 3) := by decide +kernel
theorem dX9_ways_128 : decode cX9_ways 128 = .ok (.aload_n 0, 1) := by decide +kernel
theorem dX9_ways_129 : decode cX9_ways 129 = .ok (.getfield 62, 3) := by decide +kernel
theorem dX9_ways_132 : decode cX9_ways 132 = .ok (.getfield 118, 3) := by decide +kernel
theorem dX9_ways_135 : decode cX9_ways 135 = .ok (.ireturn, 1) := by decide +kernel
set_option maxHeartbeats 8000000 in
set_option maxRecDepth 100000 in
theorem a_X_ways (l : Launch) (D : va_G) (g : Nat → ClassId)   (sz : Nat) (h : Nat) (ai : Nat → Int32) (xa : Nat → Nat) (sh : Nat) (vh : Nat) (coh : Nat) (wh : Nat) (kh : Nat) (mh : Nat) (la : Nat → Nat) (ea : Nat → Nat) (ua : Nat → Nat) (c1h : Nat) (c2h : Nat) (c3h : Nat) (c4h : Nat) (ph : Nat) (qh : Nat) (wa : Nat → Nat) (wi : Nat → Int32) (wr : Nat → Nat) (wf : Nat → Nat → Int32) (wph : Nat) (wrh : Nat) (wpl : Nat) (ki : Nat → Int32) (ma : Nat → Nat) (mi : Nat → Int32) (mr : Nat → Nat) (mf : Nat → Nat → Int32) (da : Nat → Nat) (dr : Nat → Nat) (df : Nat → Nat → Int32) (pa : Nat → Nat) (pr : Nat → Nat) (pf : Nat → Nat → Int32) (c3a : Nat → Nat) (c3i : Nat → Int32) (c3r : Nat → Nat) (c3f : Nat → Nat → Int32) (er : Nat → Nat) (ef : Nat → Nat → Int32) (ur : Nat → Nat) (uf : Nat → Nat → Int32) (n1 : Int32) (n2 : Int32) (n3 : Int32) (hw_w : ∀ k, wr k ≤ woW_lim k) (hw_m : ∀ k, mr k ≤ mcW_lim k) (hw_d : ∀ k, dr k ≤ cdW_lim k) (hw_p : ∀ k, pr k ≤ pgW_lim k) (hw_c3 : ∀ k, c3r k ≤ rcW_lim k) (hw_e : ∀ k, er k ≤ (plW_lim 1) k) (hw_u : ∀ k, ur k ≤ oucW_lim k) (hmx_e : 1 ≤ 30) : vz_Mi l D (tyG g) yX9_ways cX9_ways 5 106 3172 0 0 .int [.ref h, .int n1, .int n2, .int n3] sz (vz_w [maW h ai (xa 0) sh vh coh wh kh mh (la 0) (ea 0) (ua 0) c1h c2h c3h c4h ph qh, woW g wh wa wi wr wf wph wrh wpl, wkW kh ki wh, mcW g mh ma mi mr mf wh (da 0) (da 2), cdW g da dr df, pgW g ph pa pr pf, rcW g c3h c3a c3i c3r c3f, plW g ea er ef 1, oucW g ua ur uf]) (fun r (u : (Nat → Int32) × (Nat → Nat) × (Nat → Nat → Int32) × Nat × Nat × Nat × (Nat → Int32) × (Nat → Int32) × (Nat → Nat) × (Nat → Nat → Int32) × (Nat → Int32) × (Nat → Nat) × (Nat → Nat → Int32) × (Nat → Nat) × (Nat → Nat → Int32) × (Nat → Nat) × (Nat → Nat → Int32)) => (∀ k, u.2.1 k ≤ woW_lim k) ∧ (∀ k, u.2.2.2.2.2.2.2.2.1 k ≤ mcW_lim k) ∧ (∀ k, u.2.2.2.2.2.2.2.2.2.2.2.1 k ≤ rcW_lim k) ∧ (∀ k, u.2.2.2.2.2.2.2.2.2.2.2.2.2.1 k ≤ (plW_lim 1) k) ∧ (∀ k, u.2.2.2.2.2.2.2.2.2.2.2.2.2.2.2.1 k ≤ oucW_lim k)) (fun u => vz_w [maW h ai (xa 0) sh vh coh wh kh mh (la 0) (ea 0) (ua 0) c1h c2h c3h c4h ph qh, woW g wh wa u.1 u.2.1 u.2.2.1 u.2.2.2.1 u.2.2.2.2.1 u.2.2.2.2.2.1, wkW kh u.2.2.2.2.2.2.1 wh, mcW g mh ma u.2.2.2.2.2.2.2.1 u.2.2.2.2.2.2.2.2.1 u.2.2.2.2.2.2.2.2.2.1 wh (da 0) (da 2), cdW g da dr df, pgW g ph pa pr pf, rcW g c3h c3a u.2.2.2.2.2.2.2.2.2.2.1 u.2.2.2.2.2.2.2.2.2.2.2.1 u.2.2.2.2.2.2.2.2.2.2.2.2.1, plW g ea u.2.2.2.2.2.2.2.2.2.2.2.2.2.1 u.2.2.2.2.2.2.2.2.2.2.2.2.2.2.1 1, oucW g ua u.2.2.2.2.2.2.2.2.2.2.2.2.2.2.2.1 u.2.2.2.2.2.2.2.2.2.2.2.2.2.2.2.2]) := by
  refine vz_siQ (by decide) (Nat.le_of_ble_eq_true rfl) (fun p e s m args below meth c hx hb hr hml hts hown hlk hin hK hsz A hA H locs hP hD hS ls hl Q hQ => ?_)
  have hl : lv_has ls 5 [(0, .ref h), (1, .int n1), (2, .int n2), (3, .int n3)] := hl
  have J77 : ∀ (fu77 n77 : Nat), 60 - n77 < fu77 → n77 ≤ 60 → ∀ (wi_77 : Nat → Int32), ∀ (wr_77 : Nat → Nat), ∀ (wf_77 : Nat → Nat → Int32), ∀ (ki_77 : Nat → Int32), ∀ (mi_77 : Nat → Int32), ∀ (mr_77 : Nat → Nat), ∀ (mf_77 : Nat → Nat → Int32), ∀ (c3i_77 : Nat → Int32), ∀ (c3r_77 : Nat → Nat), ∀ (c3f_77 : Nat → Nat → Int32), ∀ (er_77 : Nat → Nat), ∀ (ef_77 : Nat → Nat → Int32), ∀ (ur_77 : Nat → Nat), ∀ (uf_77 : Nat → Nat → Int32), (∀ k, wr_77 k ≤ woW_lim k) → (∀ k, mr_77 k ≤ mcW_lim k) → (∀ k, c3r_77 k ≤ rcW_lim k) → (∀ k, er_77 k ≤ (plW_lim 1) k) → (∀ k, ur_77 k ≤ oucW_lim k) → ∀ (H : Heap) (locs : List Loc) (ls : Array Slot), va_P D vwCl (vz_w [maW h ai (xa 0) sh vh coh wh kh mh (la 0) (ea 0) (ua 0) c1h c2h c3h c4h ph qh, woW g wh wa wi_77 wr_77 wf_77 ph c3h (ea 0), wkW kh ki_77 wh, mcW g mh ma mi_77 mr_77 mf_77 wh (da 0) (da 2), cdW g da dr df, pgW g ph pa pr pf, rcW g c3h c3a c3i_77 c3r_77 c3f_77, plW g ea er_77 ef_77 1, oucW g ua ur_77 uf_77]) H → va_D A (vz_w [maW h ai (xa 0) sh vh coh wh kh mh (la 0) (ea 0) (ua 0) c1h c2h c3h c4h ph qh, woW g wh wa wi_77 wr_77 wf_77 ph c3h (ea 0), wkW kh ki_77 wh, mcW g mh ma mi_77 mr_77 mf_77 wh (da 0) (da 2), cdW g da dr df, pgW g ph pa pr pf, rcW g c3h c3a c3i_77 c3r_77 c3f_77, plW g ea er_77 ef_77 1, oucW g ua ur_77 uf_77]) → va_S A s.heap H locs → lv_has ls 5 [(0, .ref h), (1, .int n1), (2, .int n2), (3, .int n3), (4, .int (nI n77))] → W p l e { frames := 106, cells := 0, slots := 0, locals := 3172 } s m args below meth c H locs 0 0 Q (F0 m 77 ls []) := by
    intro fu77
    induction fu77 with
    | zero => intro n77 z; omega
    | succ fu77 ih77 =>
      intro n77 hf77 hb77 wi_77 wr_77 wf_77 ki_77 mi_77 mr_77 mf_77 c3i_77 c3r_77 c3f_77 er_77 ef_77 ur_77 uf_77 hw_w_77 hw_m_77 hw_c3_77 hw_e_77 hw_u_77 H locs ls hP hD hS hl
      refine lv_iload hx hb dX9_ways_77 (lv_at hl 4 rfl) ?_
      refine lv_aload_n hx hb dX9_ways_79 rfl (lv_at hl 0 rfl) ?_
      refine va_get (D := D) (ci := 9) (v := .ref wh) (C := RX9) (T := TX9) (N := 17) hx hb hts inlX9 hown hK hP 0 rfl rfl 4 (by decide) (hts _ q48) (fun _ h => h) rfl dX9_ways_80 ?_
      refine va_get (D := D) (ci := 8) (v := .ref (wa 0)) (C := RX8) (T := TX8) (N := 11) hx hb hts inlX8 hown hK hP 1 rfl rfl 0 (by decide) (hts _ q1597) (fun _ h => h) rfl dX9_ways_83 ?_
      refine va_get (D := D) (ci := 6) (v := .int (nI (wr_77 0))) (C := RX6) (T := TX6) (N := 4) hx hb hts inlX6 hown hK hP 2 rfl rfl 3 (by decide) (hts _ q259) (fun _ h => h) rfl dX9_ways_86 ?_
      refine lv_icmp_ge (tgt := 128) hx hb dX9_ways_89 (by decide) (fun kc1 => ?_) (fun kc1 => ?_)
      · refine lv_aload_n hx hb dX9_ways_128 rfl (lv_at hl 0 rfl) ?_
        refine va_get (D := D) (ci := 9) (v := .ref (ua 0)) (C := RX9) (T := TX9) (N := 17) hx hb hts inlX9 hown hK hP 0 rfl rfl 9 (by decide) (hts _ q37) (fun _ h => h) rfl dX9_ways_129 ?_
        refine va_get (D := D) (ci := 6) (v := .int (nI (ur_77 0))) (C := RX6) (T := TX6) (N := 4) hx hb hts inlX6 hown hK hP 44 rfl rfl 3 (by decide) (hts _ q259) (fun _ h => h) rfl dX9_ways_132 ?_
        rw [hQ]
        exact vz_iret3 hx hb hr hlk hK hP hD hS (wi_77, wr_77, wf_77, ph, c3h, (ea 0), ki_77, mi_77, mr_77, mf_77, c3i_77, c3r_77, c3f_77, er_77, ef_77, ur_77, uf_77) (⟨hw_w_77, hw_m_77, hw_c3_77, hw_e_77, hw_u_77⟩) rfl (Nat.le_refl 0) (Nat.le_refl 0) dX9_ways_135
      · have hn77 : n77 < 60 := Nat.lt_of_lt_of_le (vz_ltge (by omega) kc1) (hw_w_77 0)
        refine lv_aload_n hx hb dX9_ways_92 rfl (lv_at hl 0 rfl) ?_
        refine lv_iload hx hb dX9_ways_93 (lv_at hl 4 rfl) ?_
        refine vz_Vv4 (n9 := 9) (bs2 := fun u : (Nat → Nat) × (Nat → Nat → Int32) => [maW h ai (xa 0) sh vh coh wh kh mh (la 0) (ea 0) (ua 0) c1h c2h c3h c4h ph qh, woW g wh wa wi_77 wr_77 wf_77 ph c3h (ea 0), wkW kh ki_77 wh, mcW g mh ma mi_77 mr_77 mf_77 wh (da 0) (da 2), cdW g da dr df, pgW g ph pa pr pf, rcW g c3h c3a c3i_77 c3r_77 c3f_77, plW g ea u.1 u.2 1, oucW g ua ur_77 uf_77]) (br := [wkW kh ki_77 wh, mcW g mh ma mi_77 mr_77 mf_77 wh (da 0) (da 2), cdW g da dr df, pgW g ph pa pr pf, rcW g c3h c3a c3i_77 c3r_77 c3f_77, oucW g ua ur_77 uf_77]) (As := [.int (nI n77)]) (rest := []) hx hb hml hown hts hK hA hP hD hS (a_X_planAlone l D g H.size h ai xa sh vh coh wh kh mh la ea ua c1h c2h c3h c4h ph qh wa wi_77 wr_77 wf_77 ph c3h (ea 0) er_77 ef_77 (nI n77) hw_w_77 hw_e_77 (by decide)) kv_X9_214 ⟨Nat.le_of_ble_eq_true rfl, Nat.le_of_ble_eq_true rfl⟩ (q0 := 0) (ci := 9) rfl rfl rfl [0, 1, 7] [2, 3, 4, 5, 6, 8] rfl (by decide) rfl (fun _ => rfl) (fun _ => rfl) hl.1 (Nat.le_of_ble_eq_true rfl) dX9_ways_95 ⟨Nat.le_refl _, Nat.le_refl _⟩ rfl (fun ⟨er_2, ef_3⟩ H locs hw_4 _ hP hD hS => ?_)
        try dsimp only at hw_4
        replace hP : va_P D vwCl (vz_w [maW h ai (xa 0) sh vh coh wh kh mh (la 0) (ea 0) (ua 0) c1h c2h c3h c4h ph qh, woW g wh wa wi_77 wr_77 wf_77 ph c3h (ea 0), wkW kh ki_77 wh, mcW g mh ma mi_77 mr_77 mf_77 wh (da 0) (da 2), cdW g da dr df, pgW g ph pa pr pf, rcW g c3h c3a c3i_77 c3r_77 c3f_77, plW g ea er_2 ef_3 1, oucW g ua ur_77 uf_77]) H := hP
        replace hD : va_D A (vz_w [maW h ai (xa 0) sh vh coh wh kh mh (la 0) (ea 0) (ua 0) c1h c2h c3h c4h ph qh, woW g wh wa wi_77 wr_77 wf_77 ph c3h (ea 0), wkW kh ki_77 wh, mcW g mh ma mi_77 mr_77 mf_77 wh (da 0) (da 2), cdW g da dr df, pgW g ph pa pr pf, rcW g c3h c3a c3i_77 c3r_77 c3f_77, plW g ea er_2 ef_3 1, oucW g ua ur_77 uf_77]) := hD
        refine lv_aload_n hx hb dX9_ways_98 rfl (lv_at hl 0 rfl) ?_
        refine lv_iconst (v := 0) hx hb dX9_ways_99 (by decide) ?_
        refine lv_aload_n hx hb dX9_ways_100 rfl (lv_at hl 0 rfl) ?_
        refine va_get (D := D) (ci := 9) (v := .ref c3h) (C := RX9) (T := TX9) (N := 17) hx hb hts inlX9 hown hK hP 0 rfl rfl 12 (by decide) (hts _ q43) (fun _ h => h) rfl dX9_ways_101 ?_
        refine lv_aload_n hx hb dX9_ways_104 rfl (lv_at hl 0 rfl) ?_
        refine va_get (D := D) (ci := 9) (v := .ref (ea 0)) (C := RX9) (T := TX9) (N := 17) hx hb hts inlX9 hown hK hP 0 rfl rfl 8 (by decide) (hts _ q36) (fun _ h => h) rfl dX9_ways_105 ?_
        refine lv_iload_n hx hb dX9_ways_108 rfl (lv_at hl 1 rfl) ?_
        refine lv_iload_n hx hb dX9_ways_109 rfl (lv_at hl 2 rfl) ?_
        refine lv_iload_n hx hb dX9_ways_110 rfl (lv_at hl 3 rfl) ?_
        refine lv_sipush (v := 400) hx hb dX9_ways_111 (by decide) ?_
        refine vz_Vi4 (n9 := 9) (bs2 := fun u : (Nat → Int32) × (Nat → Nat) × (Nat → Nat → Int32) × (Nat → Int32) × (Nat → Int32) × (Nat → Nat) × (Nat → Nat → Int32) × (Nat → Int32) × (Nat → Nat) × (Nat → Nat → Int32) => [maW h ai (xa 0) sh vh coh wh kh mh (la 0) (ea 0) (ua 0) c1h c2h c3h c4h ph qh, woW g wh wa u.1 u.2.1 u.2.2.1 ph c3h (ea 0), wkW kh u.2.2.2.1 wh, mcW g mh ma u.2.2.2.2.1 u.2.2.2.2.2.1 u.2.2.2.2.2.2.1 wh (da 0) (da 2), cdW g da dr df, pgW g ph pa pr pf, rcW g c3h c3a u.2.2.2.2.2.2.2.1 u.2.2.2.2.2.2.2.2.1 u.2.2.2.2.2.2.2.2.2, plW g ea er_2 ef_3 1, oucW g ua ur_77 uf_77]) (br := [oucW g ua ur_77 uf_77]) (As := [.int 0, .ref c3h, .ref (ea 0), .int n1, .int n2, .int n3, .int 400]) (rest := []) hx hb hml hown hts hK hA hP hD hS (a_X_perform l D g H.size h ai xa sh vh coh wh kh mh la ea ua c1h c2h c3h c4h ph qh wa wi_77 wr_77 wf_77 ph c3h (ea 0) ki_77 ma mi_77 mr_77 mf_77 da dr df pa pr pf c3h c3a c3i_77 c3r_77 c3f_77 ea er_2 ef_3 1 0 n1 n2 n3 400 hw_w_77 hw_m_77 hw_d hw_p hw_c3_77 hw_4 (by decide)) kv_X9_170 ⟨Nat.le_of_ble_eq_true rfl, Nat.le_of_ble_eq_true rfl⟩ (q0 := 0) (ci := 9) rfl rfl rfl [0, 1, 2, 3, 4, 5, 6, 7] [8] rfl (by decide) rfl (fun _ => rfl) (fun _ => rfl) hl.1 (Nat.le_of_ble_eq_true rfl) dX9_ways_114 ⟨Nat.le_refl _, Nat.le_refl _⟩ rfl (fun v18 ⟨wi_5, wr_6, wf_7, ki_8, mi_9, mr_10, mf_11, c3i_12, c3r_13, c3f_14⟩ H locs ⟨hw_15, hw_16, hw_17⟩ _ hP hD hS => ?_)
        try dsimp only at hw_15 hw_16 hw_17
        replace hP : va_P D vwCl (vz_w [maW h ai (xa 0) sh vh coh wh kh mh (la 0) (ea 0) (ua 0) c1h c2h c3h c4h ph qh, woW g wh wa wi_5 wr_6 wf_7 ph c3h (ea 0), wkW kh ki_8 wh, mcW g mh ma mi_9 mr_10 mf_11 wh (da 0) (da 2), cdW g da dr df, pgW g ph pa pr pf, rcW g c3h c3a c3i_12 c3r_13 c3f_14, plW g ea er_2 ef_3 1, oucW g ua ur_77 uf_77]) H := hP
        replace hD : va_D A (vz_w [maW h ai (xa 0) sh vh coh wh kh mh (la 0) (ea 0) (ua 0) c1h c2h c3h c4h ph qh, woW g wh wa wi_5 wr_6 wf_7 ph c3h (ea 0), wkW kh ki_8 wh, mcW g mh ma mi_9 mr_10 mf_11 wh (da 0) (da 2), cdW g da dr df, pgW g ph pa pr pf, rcW g c3h c3a c3i_12 c3r_13 c3f_14, plW g ea er_2 ef_3 1, oucW g ua ur_77 uf_77]) := hD
        refine lv_pop hx hb dX9_ways_117 rfl ?_
        refine lv_aload_n hx hb dX9_ways_118 rfl (lv_at hl 0 rfl) ?_
        refine vz_Vv4 (n9 := 9) (bs2 := fun u : (Nat → Nat) × (Nat → Nat → Int32) => [maW h ai (xa 0) sh vh coh wh kh mh (la 0) (ea 0) (ua 0) c1h c2h c3h c4h ph qh, woW g wh wa wi_5 wr_6 wf_7 ph c3h (ea 0), wkW kh ki_8 wh, mcW g mh ma mi_9 mr_10 mf_11 wh (da 0) (da 2), cdW g da dr df, pgW g ph pa pr pf, rcW g c3h c3a c3i_12 c3r_13 c3f_14, plW g ea er_2 ef_3 1, oucW g ua u.1 u.2]) (br := [woW g wh wa wi_5 wr_6 wf_7 ph c3h (ea 0), wkW kh ki_8 wh, mcW g mh ma mi_9 mr_10 mf_11 wh (da 0) (da 2), cdW g da dr df, pgW g ph pa pr pf, plW g ea er_2 ef_3 1]) (As := []) (rest := []) hx hb hml hown hts hK hA hP hD hS (a_X_noteOutcome l D g H.size h ai xa sh vh coh wh kh mh la ea ua c1h c2h c3h c4h ph qh ur_77 uf_77 c3a c3i_12 c3r_13 c3f_14 hw_u_77 hw_17) kv_X9_211 ⟨Nat.le_of_ble_eq_true rfl, Nat.le_of_ble_eq_true rfl⟩ (q0 := 0) (ci := 9) rfl rfl rfl [0, 8, 6] [1, 2, 3, 4, 5, 7] rfl (by decide) rfl (fun _ => rfl) (fun _ => rfl) hl.1 (Nat.le_of_ble_eq_true rfl) dX9_ways_119 ⟨Nat.le_refl _, Nat.le_refl _⟩ rfl (fun ⟨ur_19, uf_20⟩ H locs hw_21 _ hP hD hS => ?_)
        try dsimp only at hw_21
        replace hP : va_P D vwCl (vz_w [maW h ai (xa 0) sh vh coh wh kh mh (la 0) (ea 0) (ua 0) c1h c2h c3h c4h ph qh, woW g wh wa wi_5 wr_6 wf_7 ph c3h (ea 0), wkW kh ki_8 wh, mcW g mh ma mi_9 mr_10 mf_11 wh (da 0) (da 2), cdW g da dr df, pgW g ph pa pr pf, rcW g c3h c3a c3i_12 c3r_13 c3f_14, plW g ea er_2 ef_3 1, oucW g ua ur_19 uf_20]) H := hP
        replace hD : va_D A (vz_w [maW h ai (xa 0) sh vh coh wh kh mh (la 0) (ea 0) (ua 0) c1h c2h c3h c4h ph qh, woW g wh wa wi_5 wr_6 wf_7 ph c3h (ea 0), wkW kh ki_8 wh, mcW g mh ma mi_9 mr_10 mf_11 wh (da 0) (da 2), cdW g da dr df, pgW g ph pa pr pf, rcW g c3h c3a c3i_12 c3r_13 c3f_14, plW g ea er_2 ef_3 1, oucW g ua ur_19 uf_20]) := hD
        refine lv_iinc (v := (nI (n77 + 1))) (lv' := [(4, .int (nI (n77 + 1))), (0, .ref h), (1, .int n1), (2, .int n2), (3, .int n3)]) hx hb dX9_ways_122 hl (k := 4) rfl (nI_1 n77) (by decide) rfl (fun ls hl => ?_)
        refine lv_goto (tgt := 77) hx hb dX9_ways_125 (by decide) ?_
        exact ih77 (n77 + 1) (by omega) (by omega) wi_5 wr_6 wf_7 ki_8 mi_9 mr_10 mf_11 c3i_12 c3r_13 c3f_14 er_2 ef_3 ur_19 uf_20 hw_15 hw_16 hw_17 hw_4 hw_21 H locs ls hP hD hS (lv_sub hl [1, 2, 3, 4, 0] rfl)
  refine lv_aload_n hx hb dX9_ways_0 rfl (lv_at hl 0 rfl) ?_
  refine lv_iload_n hx hb dX9_ways_1 rfl (lv_at hl 1 rfl) ?_
  refine vz_Vi4 (n9 := 9) (bs2 := fun u : Unit => [maW h ai (xa 0) sh vh coh wh kh mh (la 0) (ea 0) (ua 0) c1h c2h c3h c4h ph qh, woW g wh wa wi wr wf wph wrh wpl, wkW kh ki wh, mcW g mh ma mi mr mf wh (da 0) (da 2), cdW g da dr df, pgW g ph pa pr pf, rcW g c3h c3a c3i c3r c3f, plW g ea er ef 1, oucW g ua ur uf]) (br := [woW g wh wa wi wr wf wph wrh wpl, wkW kh ki wh, mcW g mh ma mi mr mf wh (da 0) (da 2), cdW g da dr df, rcW g c3h c3a c3i c3r c3f, plW g ea er ef 1, oucW g ua ur uf]) (As := [.int n1]) (rest := []) hx hb hml hown hts hK hA hP hD hS (a_X_isNoMethod l D g H.size h ai xa sh vh coh wh kh mh la ea ua c1h c2h c3h c4h ph qh pa pr pf n1 hw_p) kv_X9_166 ⟨Nat.le_of_ble_eq_true rfl, Nat.le_of_ble_eq_true rfl⟩ (q0 := 0) (ci := 9) rfl rfl rfl [0, 5] [1, 2, 3, 4, 6, 7, 8] rfl (by decide) rfl (fun _ => rfl) (fun _ => rfl) hl.1 (Nat.le_of_ble_eq_true rfl) dX9_ways_2 ⟨Nat.le_refl _, Nat.le_refl _⟩ rfl (fun v1 _ H locs hz2 _ hP hD hS => ?_)
  refine lv_if_eq (tgt := 10) hx hb dX9_ways_5 (by decide) (fun kc3 => ?_) (fun kc3 => ?_)
  · refine lv_aload_n hx hb dX9_ways_10 rfl (lv_at hl 0 rfl) ?_
    refine va_get (D := D) (ci := 9) (v := .ref (ea 0)) (C := RX9) (T := TX9) (N := 17) hx hb hts inlX9 hown hK hP 0 rfl rfl 8 (by decide) (hts _ q36) (fun _ h => h) rfl dX9_ways_11 ?_
    refine vz_Vv2 (ws' := fun u : Unit => vz_w [maW h ai (xa 0) sh vh coh wh kh mh (la 0) (ea 0) (ua 0) c1h c2h c3h c4h ph qh, woW g wh wa wi wr wf wph wrh wpl, wkW kh ki wh, mcW g mh ma mi mr mf wh (da 0) (da 2), cdW g da dr df, pgW g ph pa pr pf, rcW g c3h c3a c3i c3r c3f, plW g ea (vz_un er 0 0) ef 1, oucW g ua ur uf]) (As := []) (rest := []) hx hb hml hown hts hK hA hP hD hS (c_T_reset l D g (ea 0) (ea 1) H.size (nI 4) (nI 1) (nI (er 0))) kv_X9_133 ⟨Nat.le_of_ble_eq_true rfl, Nat.le_of_ble_eq_true rfl⟩ (q0 := 42) (ci := 6) rfl rfl rfl [42] rfl (by decide) (fun _ => rfl) (fun _ => rfl) hl.1 (Nat.le_of_ble_eq_true rfl) dX9_ways_14 ⟨Nat.le_refl _, Nat.le_refl _⟩ rfl (fun _ H locs _ _ hP hD hS => ?_)
    obtain ⟨er_4, hw_er_4, hP, hD⟩ : ∃ er_4 : Nat → Nat, (∀ k, er_4 k ≤ (plW_lim 1) k) ∧ va_P D vwCl (vz_w [maW h ai (xa 0) sh vh coh wh kh mh (la 0) (ea 0) (ua 0) c1h c2h c3h c4h ph qh, woW g wh wa wi wr wf wph wrh wpl, wkW kh ki wh, mcW g mh ma mi mr mf wh (da 0) (da 2), cdW g da dr df, pgW g ph pa pr pf, rcW g c3h c3a c3i c3r c3f, plW g ea er_4 ef 1, oucW g ua ur uf]) H ∧ va_D A (vz_w [maW h ai (xa 0) sh vh coh wh kh mh (la 0) (ea 0) (ua 0) c1h c2h c3h c4h ph qh, woW g wh wa wi wr wf wph wrh wpl, wkW kh ki wh, mcW g mh ma mi mr mf wh (da 0) (da 2), cdW g da dr df, pgW g ph pa pr pf, rcW g c3h c3a c3i c3r c3f, plW g ea er_4 ef 1, oucW g ua ur uf]) := ⟨(vz_un er 0 0), (vz_wf hw_e (t := 0) (v := 0) (Nat.zero_le _)), hP, hD⟩
    refine lv_aload_n hx hb dX9_ways_17 rfl (lv_at hl 0 rfl) ?_
    refine va_get (D := D) (ci := 9) (v := .ref (ua 0)) (C := RX9) (T := TX9) (N := 17) hx hb hts inlX9 hown hK hP 0 rfl rfl 9 (by decide) (hts _ q37) (fun _ h => h) rfl dX9_ways_18 ?_
    refine vz_Vv2 (ws' := fun u : Unit => vz_w [maW h ai (xa 0) sh vh coh wh kh mh (la 0) (ea 0) (ua 0) c1h c2h c3h c4h ph qh, woW g wh wa wi wr wf wph wrh wpl, wkW kh ki wh, mcW g mh ma mi mr mf wh (da 0) (da 2), cdW g da dr df, pgW g ph pa pr pf, rcW g c3h c3a c3i c3r c3f, plW g ea er_4 ef 1, oucW g ua (vz_un ur 0 0) uf]) (As := []) (rest := []) hx hb hml hown hts hK hA hP hD hS (c_T_reset l D g (ua 0) (ua 1) H.size (nI 4) (nI 61) (nI (ur 0))) kv_X9_133 ⟨Nat.le_of_ble_eq_true rfl, Nat.le_of_ble_eq_true rfl⟩ (q0 := 44) (ci := 6) rfl rfl rfl [44] rfl (by decide) (fun _ => rfl) (fun _ => rfl) hl.1 (Nat.le_of_ble_eq_true rfl) dX9_ways_21 ⟨Nat.le_refl _, Nat.le_refl _⟩ rfl (fun _ H locs _ _ hP hD hS => ?_)
    obtain ⟨ur_5, hw_ur_5, hP, hD⟩ : ∃ ur_5 : Nat → Nat, (∀ k, ur_5 k ≤ oucW_lim k) ∧ va_P D vwCl (vz_w [maW h ai (xa 0) sh vh coh wh kh mh (la 0) (ea 0) (ua 0) c1h c2h c3h c4h ph qh, woW g wh wa wi wr wf wph wrh wpl, wkW kh ki wh, mcW g mh ma mi mr mf wh (da 0) (da 2), cdW g da dr df, pgW g ph pa pr pf, rcW g c3h c3a c3i c3r c3f, plW g ea er_4 ef 1, oucW g ua ur_5 uf]) H ∧ va_D A (vz_w [maW h ai (xa 0) sh vh coh wh kh mh (la 0) (ea 0) (ua 0) c1h c2h c3h c4h ph qh, woW g wh wa wi wr wf wph wrh wpl, wkW kh ki wh, mcW g mh ma mi mr mf wh (da 0) (da 2), cdW g da dr df, pgW g ph pa pr pf, rcW g c3h c3a c3i c3r c3f, plW g ea er_4 ef 1, oucW g ua ur_5 uf]) := ⟨(vz_un ur 0 0), (vz_wf hw_u (t := 0) (v := 0) (Nat.zero_le _)), hP, hD⟩
    refine lv_aload_n hx hb dX9_ways_24 rfl (lv_at hl 0 rfl) ?_
    refine va_get (D := D) (ci := 9) (v := .ref wh) (C := RX9) (T := TX9) (N := 17) hx hb hts inlX9 hown hK hP 0 rfl rfl 4 (by decide) (hts _ q48) (fun _ h => h) rfl dX9_ways_25 ?_
    refine va_get (D := D) (ci := 8) (v := .ref (wa 0)) (C := RX8) (T := TX8) (N := 11) hx hb hts inlX8 hown hK hP 1 rfl rfl 0 (by decide) (hts _ q1597) (fun _ h => h) rfl dX9_ways_28 ?_
    refine vz_Vv2 (ws' := fun u : Unit => vz_w [maW h ai (xa 0) sh vh coh wh kh mh (la 0) (ea 0) (ua 0) c1h c2h c3h c4h ph qh, woW g wh wa wi (vz_un wr 0 0) wf wph wrh wpl, wkW kh ki wh, mcW g mh ma mi mr mf wh (da 0) (da 2), cdW g da dr df, pgW g ph pa pr pf, rcW g c3h c3a c3i c3r c3f, plW g ea er_4 ef 1, oucW g ua ur_5 uf]) (As := []) (rest := []) hx hb hml hown hts hK hA hP hD hS (c_T_reset l D g (wa 0) (wa 1) H.size (nI 3) (nI 60) (nI (wr 0))) kv_X9_133 ⟨Nat.le_of_ble_eq_true rfl, Nat.le_of_ble_eq_true rfl⟩ (q0 := 2) (ci := 6) rfl rfl rfl [2] rfl (by decide) (fun _ => rfl) (fun _ => rfl) hl.1 (Nat.le_of_ble_eq_true rfl) dX9_ways_31 ⟨Nat.le_refl _, Nat.le_refl _⟩ rfl (fun _ H locs _ _ hP hD hS => ?_)
    obtain ⟨wr_6, hw_wr_6, hP, hD⟩ : ∃ wr_6 : Nat → Nat, (∀ k, wr_6 k ≤ woW_lim k) ∧ va_P D vwCl (vz_w [maW h ai (xa 0) sh vh coh wh kh mh (la 0) (ea 0) (ua 0) c1h c2h c3h c4h ph qh, woW g wh wa wi wr_6 wf wph wrh wpl, wkW kh ki wh, mcW g mh ma mi mr mf wh (da 0) (da 2), cdW g da dr df, pgW g ph pa pr pf, rcW g c3h c3a c3i c3r c3f, plW g ea er_4 ef 1, oucW g ua ur_5 uf]) H ∧ va_D A (vz_w [maW h ai (xa 0) sh vh coh wh kh mh (la 0) (ea 0) (ua 0) c1h c2h c3h c4h ph qh, woW g wh wa wi wr_6 wf wph wrh wpl, wkW kh ki wh, mcW g mh ma mi mr mf wh (da 0) (da 2), cdW g da dr df, pgW g ph pa pr pf, rcW g c3h c3a c3i c3r c3f, plW g ea er_4 ef 1, oucW g ua ur_5 uf]) := ⟨(vz_un wr 0 0), (vz_wf hw_w (t := 0) (v := 0) (Nat.zero_le _)), hP, hD⟩
    refine lv_aload_n hx hb dX9_ways_34 rfl (lv_at hl 0 rfl) ?_
    refine va_get (D := D) (ci := 9) (v := .ref wh) (C := RX9) (T := TX9) (N := 17) hx hb hts inlX9 hown hK hP 0 rfl rfl 4 (by decide) (hts _ q48) (fun _ h => h) rfl dX9_ways_35 ?_
    refine lv_iconst (v := 1) hx hb dX9_ways_38 (by decide) ?_
    refine va_put (D := D) (ci := 8) (v := .int 1) (ty := .boolean) (C := RX8) (T := TX8) (N := 11) hx hb hts inlX8 tyX8 tyX8_ok nmX8 hown hK hP hD hS 1 rfl rfl 10 (by decide) (hts _ q1598) (fun _ h => h) rfl (by decide +kernel) rfl rfl (Nat.le_of_ble_eq_true rfl) dX9_ways_39 (fun H locs hP hD hS => ?_)
    obtain ⟨wi_7, hwi_7, hP, hD⟩ : ∃ wi_7 : Nat → Int32, (wi_7 = (upd wi 2 1)) ∧ va_P D vwCl (vz_w [maW h ai (xa 0) sh vh coh wh kh mh (la 0) (ea 0) (ua 0) c1h c2h c3h c4h ph qh, woW g wh wa wi_7 wr_6 wf wph wrh wpl, wkW kh ki wh, mcW g mh ma mi mr mf wh (da 0) (da 2), cdW g da dr df, pgW g ph pa pr pf, rcW g c3h c3a c3i c3r c3f, plW g ea er_4 ef 1, oucW g ua ur_5 uf]) H ∧ va_D A (vz_w [maW h ai (xa 0) sh vh coh wh kh mh (la 0) (ea 0) (ua 0) c1h c2h c3h c4h ph qh, woW g wh wa wi_7 wr_6 wf wph wrh wpl, wkW kh ki wh, mcW g mh ma mi mr mf wh (da 0) (da 2), cdW g da dr df, pgW g ph pa pr pf, rcW g c3h c3a c3i c3r c3f, plW g ea er_4 ef 1, oucW g ua ur_5 uf]) := ⟨(upd wi 2 1), rfl, hP, hD⟩
    refine lv_aload_n hx hb dX9_ways_42 rfl (lv_at hl 0 rfl) ?_
    refine lv_iconst (v := 0) hx hb dX9_ways_43 (by decide) ?_
    refine lv_aload_n hx hb dX9_ways_44 rfl (lv_at hl 0 rfl) ?_
    refine va_get (D := D) (ci := 9) (v := .ref c3h) (C := RX9) (T := TX9) (N := 17) hx hb hts inlX9 hown hK hP 0 rfl rfl 12 (by decide) (hts _ q43) (fun _ h => h) rfl dX9_ways_45 ?_
    refine lv_aload_n hx hb dX9_ways_48 rfl (lv_at hl 0 rfl) ?_
    refine va_get (D := D) (ci := 9) (v := .ref (ea 0)) (C := RX9) (T := TX9) (N := 17) hx hb hts inlX9 hown hK hP 0 rfl rfl 8 (by decide) (hts _ q36) (fun _ h => h) rfl dX9_ways_49 ?_
    refine lv_iload_n hx hb dX9_ways_52 rfl (lv_at hl 1 rfl) ?_
    refine lv_iload_n hx hb dX9_ways_53 rfl (lv_at hl 2 rfl) ?_
    refine lv_iload_n hx hb dX9_ways_54 rfl (lv_at hl 3 rfl) ?_
    refine lv_sipush (v := 400) hx hb dX9_ways_55 (by decide) ?_
    refine vz_Vi4 (n9 := 9) (bs2 := fun u : (Nat → Int32) × (Nat → Nat) × (Nat → Nat → Int32) × (Nat → Int32) × (Nat → Int32) × (Nat → Nat) × (Nat → Nat → Int32) × (Nat → Int32) × (Nat → Nat) × (Nat → Nat → Int32) => [maW h ai (xa 0) sh vh coh wh kh mh (la 0) (ea 0) (ua 0) c1h c2h c3h c4h ph qh, woW g wh wa u.1 u.2.1 u.2.2.1 ph c3h (ea 0), wkW kh u.2.2.2.1 wh, mcW g mh ma u.2.2.2.2.1 u.2.2.2.2.2.1 u.2.2.2.2.2.2.1 wh (da 0) (da 2), cdW g da dr df, pgW g ph pa pr pf, rcW g c3h c3a u.2.2.2.2.2.2.2.1 u.2.2.2.2.2.2.2.2.1 u.2.2.2.2.2.2.2.2.2, plW g ea er_4 ef 1, oucW g ua ur_5 uf]) (br := [oucW g ua ur_5 uf]) (As := [.int 0, .ref c3h, .ref (ea 0), .int n1, .int n2, .int n3, .int 400]) (rest := []) hx hb hml hown hts hK hA hP hD hS (a_X_perform l D g H.size h ai xa sh vh coh wh kh mh la ea ua c1h c2h c3h c4h ph qh wa wi_7 wr_6 wf wph wrh wpl ki ma mi mr mf da dr df pa pr pf c3h c3a c3i c3r c3f ea er_4 ef 1 0 n1 n2 n3 400 hw_wr_6 hw_m hw_d hw_p hw_c3 hw_er_4 (by decide)) kv_X9_170 ⟨Nat.le_of_ble_eq_true rfl, Nat.le_of_ble_eq_true rfl⟩ (q0 := 0) (ci := 9) rfl rfl rfl [0, 1, 2, 3, 4, 5, 6, 7] [8] rfl (by decide) rfl (fun _ => rfl) (fun _ => rfl) hl.1 (Nat.le_of_ble_eq_true rfl) dX9_ways_58 ⟨Nat.le_refl _, Nat.le_refl _⟩ rfl (fun v21 ⟨wi_8, wr_9, wf_10, ki_11, mi_12, mr_13, mf_14, c3i_15, c3r_16, c3f_17⟩ H locs ⟨hw_18, hw_19, hw_20⟩ _ hP hD hS => ?_)
    try dsimp only at hw_18 hw_19 hw_20
    replace hP : va_P D vwCl (vz_w [maW h ai (xa 0) sh vh coh wh kh mh (la 0) (ea 0) (ua 0) c1h c2h c3h c4h ph qh, woW g wh wa wi_8 wr_9 wf_10 ph c3h (ea 0), wkW kh ki_11 wh, mcW g mh ma mi_12 mr_13 mf_14 wh (da 0) (da 2), cdW g da dr df, pgW g ph pa pr pf, rcW g c3h c3a c3i_15 c3r_16 c3f_17, plW g ea er_4 ef 1, oucW g ua ur_5 uf]) H := hP
    replace hD : va_D A (vz_w [maW h ai (xa 0) sh vh coh wh kh mh (la 0) (ea 0) (ua 0) c1h c2h c3h c4h ph qh, woW g wh wa wi_8 wr_9 wf_10 ph c3h (ea 0), wkW kh ki_11 wh, mcW g mh ma mi_12 mr_13 mf_14 wh (da 0) (da 2), cdW g da dr df, pgW g ph pa pr pf, rcW g c3h c3a c3i_15 c3r_16 c3f_17, plW g ea er_4 ef 1, oucW g ua ur_5 uf]) := hD
    refine lv_pop hx hb dX9_ways_61 rfl ?_
    refine lv_aload_n hx hb dX9_ways_62 rfl (lv_at hl 0 rfl) ?_
    refine va_get (D := D) (ci := 9) (v := .ref wh) (C := RX9) (T := TX9) (N := 17) hx hb hts inlX9 hown hK hP 0 rfl rfl 4 (by decide) (hts _ q48) (fun _ h => h) rfl dX9_ways_63 ?_
    refine lv_iconst (v := 0) hx hb dX9_ways_66 (by decide) ?_
    refine va_put (D := D) (ci := 8) (v := .int 0) (ty := .boolean) (C := RX8) (T := TX8) (N := 11) hx hb hts inlX8 tyX8 tyX8_ok nmX8 hown hK hP hD hS 1 rfl rfl 10 (by decide) (hts _ q1598) (fun _ h => h) rfl (by decide +kernel) rfl rfl (Nat.le_of_ble_eq_true rfl) dX9_ways_67 (fun H locs hP hD hS => ?_)
    obtain ⟨wi_22, hwi_22, hP, hD⟩ : ∃ wi_22 : Nat → Int32, (wi_22 = (upd wi_8 2 0)) ∧ va_P D vwCl (vz_w [maW h ai (xa 0) sh vh coh wh kh mh (la 0) (ea 0) (ua 0) c1h c2h c3h c4h ph qh, woW g wh wa wi_22 wr_9 wf_10 ph c3h (ea 0), wkW kh ki_11 wh, mcW g mh ma mi_12 mr_13 mf_14 wh (da 0) (da 2), cdW g da dr df, pgW g ph pa pr pf, rcW g c3h c3a c3i_15 c3r_16 c3f_17, plW g ea er_4 ef 1, oucW g ua ur_5 uf]) H ∧ va_D A (vz_w [maW h ai (xa 0) sh vh coh wh kh mh (la 0) (ea 0) (ua 0) c1h c2h c3h c4h ph qh, woW g wh wa wi_22 wr_9 wf_10 ph c3h (ea 0), wkW kh ki_11 wh, mcW g mh ma mi_12 mr_13 mf_14 wh (da 0) (da 2), cdW g da dr df, pgW g ph pa pr pf, rcW g c3h c3a c3i_15 c3r_16 c3f_17, plW g ea er_4 ef 1, oucW g ua ur_5 uf]) := ⟨(upd wi_8 2 0), rfl, hP, hD⟩
    refine lv_aload_n hx hb dX9_ways_70 rfl (lv_at hl 0 rfl) ?_
    refine vz_Vv4 (n9 := 9) (bs2 := fun u : (Nat → Nat) × (Nat → Nat → Int32) => [maW h ai (xa 0) sh vh coh wh kh mh (la 0) (ea 0) (ua 0) c1h c2h c3h c4h ph qh, woW g wh wa wi_22 wr_9 wf_10 ph c3h (ea 0), wkW kh ki_11 wh, mcW g mh ma mi_12 mr_13 mf_14 wh (da 0) (da 2), cdW g da dr df, pgW g ph pa pr pf, rcW g c3h c3a c3i_15 c3r_16 c3f_17, plW g ea er_4 ef 1, oucW g ua u.1 u.2]) (br := [woW g wh wa wi_22 wr_9 wf_10 ph c3h (ea 0), wkW kh ki_11 wh, mcW g mh ma mi_12 mr_13 mf_14 wh (da 0) (da 2), cdW g da dr df, pgW g ph pa pr pf, plW g ea er_4 ef 1]) (As := []) (rest := []) hx hb hml hown hts hK hA hP hD hS (a_X_noteOutcome l D g H.size h ai xa sh vh coh wh kh mh la ea ua c1h c2h c3h c4h ph qh ur_5 uf c3a c3i_15 c3r_16 c3f_17 hw_ur_5 hw_20) kv_X9_211 ⟨Nat.le_of_ble_eq_true rfl, Nat.le_of_ble_eq_true rfl⟩ (q0 := 0) (ci := 9) rfl rfl rfl [0, 8, 6] [1, 2, 3, 4, 5, 7] rfl (by decide) rfl (fun _ => rfl) (fun _ => rfl) hl.1 (Nat.le_of_ble_eq_true rfl) dX9_ways_71 ⟨Nat.le_refl _, Nat.le_refl _⟩ rfl (fun ⟨ur_23, uf_24⟩ H locs hw_25 _ hP hD hS => ?_)
    try dsimp only at hw_25
    replace hP : va_P D vwCl (vz_w [maW h ai (xa 0) sh vh coh wh kh mh (la 0) (ea 0) (ua 0) c1h c2h c3h c4h ph qh, woW g wh wa wi_22 wr_9 wf_10 ph c3h (ea 0), wkW kh ki_11 wh, mcW g mh ma mi_12 mr_13 mf_14 wh (da 0) (da 2), cdW g da dr df, pgW g ph pa pr pf, rcW g c3h c3a c3i_15 c3r_16 c3f_17, plW g ea er_4 ef 1, oucW g ua ur_23 uf_24]) H := hP
    replace hD : va_D A (vz_w [maW h ai (xa 0) sh vh coh wh kh mh (la 0) (ea 0) (ua 0) c1h c2h c3h c4h ph qh, woW g wh wa wi_22 wr_9 wf_10 ph c3h (ea 0), wkW kh ki_11 wh, mcW g mh ma mi_12 mr_13 mf_14 wh (da 0) (da 2), cdW g da dr df, pgW g ph pa pr pf, rcW g c3h c3a c3i_15 c3r_16 c3f_17, plW g ea er_4 ef 1, oucW g ua ur_23 uf_24]) := hD
    refine lv_iconst (v := 0) hx hb dX9_ways_74 (by decide) ?_
    refine lv_istore (lv' := [(4, .int 0), (0, .ref h), (1, .int n1), (2, .int n2), (3, .int n3)]) hx hb dX9_ways_75 hl (by decide) rfl (fun ls hl => ?_)
    exact J77 (61) 0 (by omega) (by omega) wi_22 wr_9 wf_10 ki_11 mi_12 mr_13 mf_14 c3i_15 c3r_16 c3f_17 er_4 ef ur_23 uf_24 hw_18 hw_19 hw_20 hw_er_4 hw_25 H locs ls hP hD hS (lv_sub hl [1, 2, 3, 4, 0] rfl)
  · refine lv_iconst (v := (-1)) hx hb dX9_ways_8 (by decide) ?_
    rw [hQ]
    exact vz_iret3 hx hb hr hlk hK hP hD hS (wi, wr, wf, wph, wrh, wpl, ki, mi, mr, mf, c3i, c3r, c3f, er, ef, ur, uf) (⟨hw_w, hw_m, hw_c3, hw_e, hw_u⟩) rfl (Nat.le_refl 0) (Nat.le_refl 0) dX9_ways_9
theorem q44 : Cond.fieldLink RX9 78 "WaysAtlas" "secondTrial" "LWaysAtlas$RunRecord;" ∈ wsL_law := mT_2 (List.mem_of_getElem? (i := 151) rfl) rfl
theorem q1622 : Cond.methodLink RX9 218 yX4_agrees ∈ wsL_law := mT_6 (List.mem_of_getElem? (i := 74) rfl) rfl
theorem q1623 : Cond.instanceMethod yX4_agrees ∈ wsL_law := mT_6 (List.mem_of_getElem? (i := 75) rfl) rfl
theorem q1624 : Cond.selects RX4 yX4_agrees yX4_agrees ∈ wsL_law := mT_6 (List.mem_of_getElem? (i := 76) rfl) rfl
theorem q1625 : Cond.code yX4_agrees cX4_agrees 3 (some .boolean) ∈ wsL_law := mT_6 (List.mem_of_getElem? (i := 77) rfl) rfl
theorem kv_X9_218 : vz_cv RX9 218 yX4_agrees cX4_agrees 3 (some .boolean) 1 := ⟨q1622, q1623, q1624, q40, q1625, by decide +kernel⟩
theorem dX9_same_0 : decode cX9_same 0 = .ok (.aload_n 0, 1) := by decide +kernel
theorem dX9_same_1 : decode cX9_same 1 = .ok (.iload_n 1, 1) := by decide +kernel
theorem dX9_same_2 : decode cX9_same 2 = .ok (.invokevirtual 166, 3) := by decide +kernel
theorem dX9_same_5 : decode cX9_same 5 = .ok (.ifCond .eq 5, 3) := by decide +kernel
theorem dX9_same_8 : decode cX9_same 8 = .ok (.iconst (-1), 1) := by decide +kernel
theorem dX9_same_9 : decode cX9_same 9 = .ok (.ireturn, 1) := by decide +kernel
theorem dX9_same_10 : decode cX9_same 10 = .ok (.aload_n 0, 1) := by decide +kernel
theorem dX9_same_11 : decode cX9_same 11 = .ok (.iconst 0, 1) := by decide +kernel
theorem dX9_same_12 : decode cX9_same 12 = .ok (.aload_n 0, 1) := by decide +kernel
theorem dX9_same_13 : decode cX9_same 13 = .ok (.getfield 75, 3) := by decide +kernel
theorem dX9_same_16 : decode cX9_same 16 = .ok (.aload_n 0, 1) := by decide +kernel
theorem dX9_same_17 : decode cX9_same 17 = .ok (.getfield 56, 3) := by decide +kernel
theorem dX9_same_20 : decode cX9_same 20 = .ok (.iload_n 1, 1) := by decide +kernel
theorem dX9_same_21 : decode cX9_same 21 = .ok (.iload_n 2, 1) := by decide +kernel
theorem dX9_same_22 : decode cX9_same 22 = .ok (.iload_n 3, 1) := by decide +kernel
theorem dX9_same_23 : decode cX9_same 23 = .ok (.sipush 400, 3) := by decide +kernel
theorem dX9_same_26 : decode cX9_same 26 = .ok (.invokevirtual 170, 3) := by decide +kernel
theorem dX9_same_29 : decode cX9_same 29 = .ok (.pop, 1) := by decide +kernel
theorem dX9_same_30 : decode cX9_same 30 = .ok (.aload_n 0, 1) := by decide +kernel
theorem dX9_same_31 : decode cX9_same 31 = .ok (.iconst 1, 1) := by decide +kernel
theorem dX9_same_32 : decode cX9_same 32 = .ok (.aload_n 0, 1) := by decide +kernel
theorem dX9_same_33 : decode cX9_same 33 = .ok (.getfield 78, 3) := by decide +kernel
theorem dX9_same_36 : decode cX9_same 36 = .ok (.aload_n 0, 1) := by decide +kernel
theorem dX9_same_37 : decode cX9_same 37 = .ok (.getfield 56, 3) := by decide +kernel
theorem dX9_same_40 : decode cX9_same 40 = .ok (.iload_n 1, 1) := by decide +kernel
theorem dX9_same_41 : decode cX9_same 41 = .ok (.iload_n 2, 1) := by decide +kernel
theorem dX9_same_42 : decode cX9_same 42 = .ok (.iload_n 3, 1) := by decide +kernel
theorem dX9_same_43 : decode cX9_same 43 = .ok (.sipush 400, 3) := by decide +kernel
theorem dX9_same_46 : decode cX9_same 46 = .ok (.invokevirtual 170, 3) := by decide +kernel
theorem dX9_same_49 : decode cX9_same 49 = .ok (.pop, 1) := by decide +kernel
theorem dX9_same_50 : decode cX9_same 50 = .ok (.aload_n 0, 1) := by decide +kernel
theorem dX9_same_51 : decode cX9_same 51 = .ok (.getfield 75, 3) := by decide +kernel
theorem dX9_same_54 : decode cX9_same 54 = .ok (.aload_n 0, 1) := by decide +kernel
theorem dX9_same_55 : decode cX9_same 55 = .ok (.getfield 78, 3) := by decide +kernel
theorem dX9_same_58 : decode cX9_same 58 = .ok (.invokevirtual 218, 3) := by decide +kernel
theorem dX9_same_61 : decode cX9_same 61 = .ok (.ifCond .eq 7, 3) := by decide +kernel
theorem dX9_same_64 : decode cX9_same 64 = .ok (.iconst 1, 1) := by decide +kernel
theorem dX9_same_65 : decode cX9_same 65 = .ok (.goto 4, 3) := by decide +kernel
theorem dX9_same_68 : decode cX9_same 68 = .ok (.iconst 0, 1) := by decide +kernel
theorem dX9_same_69 : decode cX9_same 69 = .ok (.ireturn, 1) := by decide +kernel
set_option maxHeartbeats 8000000 in
set_option maxRecDepth 100000 in
theorem a_X_same (l : Launch) (D : va_G) (g : Nat → ClassId)   (sz : Nat) (h : Nat) (ai : Nat → Int32) (xa : Nat → Nat) (sh : Nat) (vh : Nat) (coh : Nat) (wh : Nat) (kh : Nat) (mh : Nat) (la : Nat → Nat) (ea : Nat → Nat) (ua : Nat → Nat) (c1h : Nat) (c2h : Nat) (c3h : Nat) (c4h : Nat) (ph : Nat) (qh : Nat) (wa : Nat → Nat) (wi : Nat → Int32) (wr : Nat → Nat) (wf : Nat → Nat → Int32) (wph : Nat) (wrh : Nat) (wpl : Nat) (ki : Nat → Int32) (ma : Nat → Nat) (mi : Nat → Int32) (mr : Nat → Nat) (mf : Nat → Nat → Int32) (da : Nat → Nat) (dr : Nat → Nat) (df : Nat → Nat → Int32) (pa : Nat → Nat) (pr : Nat → Nat) (pf : Nat → Nat → Int32) (c3a : Nat → Nat) (c3i : Nat → Int32) (c3r : Nat → Nat) (c3f : Nat → Nat → Int32) (c4a : Nat → Nat) (c4i : Nat → Int32) (c4r : Nat → Nat) (c4f : Nat → Nat → Int32) (lr : Nat → Nat) (lf : Nat → Nat → Int32) (n1 : Int32) (n2 : Int32) (n3 : Int32) (hw_w : ∀ k, wr k ≤ woW_lim k) (hw_m : ∀ k, mr k ≤ mcW_lim k) (hw_d : ∀ k, dr k ≤ cdW_lim k) (hw_p : ∀ k, pr k ≤ pgW_lim k) (hw_c3 : ∀ k, c3r k ≤ rcW_lim k) (hw_c4 : ∀ k, c4r k ≤ rcW_lim k) (hw_l : ∀ k, lr k ≤ (plW_lim 30) k) (hmx_l : 30 ≤ 30) : vz_Mi l D (tyG g) yX9_same cX9_same 4 106 3172 0 0 .int [.ref h, .int n1, .int n2, .int n3] sz (vz_w [maW h ai (xa 0) sh vh coh wh kh mh (la 0) (ea 0) (ua 0) c1h c2h c3h c4h ph qh, woW g wh wa wi wr wf wph wrh wpl, wkW kh ki wh, mcW g mh ma mi mr mf wh (da 0) (da 2), cdW g da dr df, pgW g ph pa pr pf, rcW g c3h c3a c3i c3r c3f, rcW g c4h c4a c4i c4r c4f, plW g la lr lf 30]) (fun r (u : (Nat → Int32) × (Nat → Nat) × (Nat → Nat → Int32) × Nat × Nat × Nat × (Nat → Int32) × (Nat → Int32) × (Nat → Nat) × (Nat → Nat → Int32) × (Nat → Int32) × (Nat → Nat) × (Nat → Nat → Int32) × (Nat → Int32) × (Nat → Nat) × (Nat → Nat → Int32)) => (∀ k, u.2.1 k ≤ woW_lim k) ∧ (∀ k, u.2.2.2.2.2.2.2.2.1 k ≤ mcW_lim k) ∧ (∀ k, u.2.2.2.2.2.2.2.2.2.2.2.1 k ≤ rcW_lim k) ∧ (∀ k, u.2.2.2.2.2.2.2.2.2.2.2.2.2.2.1 k ≤ rcW_lim k)) (fun u => vz_w [maW h ai (xa 0) sh vh coh wh kh mh (la 0) (ea 0) (ua 0) c1h c2h c3h c4h ph qh, woW g wh wa u.1 u.2.1 u.2.2.1 u.2.2.2.1 u.2.2.2.2.1 u.2.2.2.2.2.1, wkW kh u.2.2.2.2.2.2.1 wh, mcW g mh ma u.2.2.2.2.2.2.2.1 u.2.2.2.2.2.2.2.2.1 u.2.2.2.2.2.2.2.2.2.1 wh (da 0) (da 2), cdW g da dr df, pgW g ph pa pr pf, rcW g c3h c3a u.2.2.2.2.2.2.2.2.2.2.1 u.2.2.2.2.2.2.2.2.2.2.2.1 u.2.2.2.2.2.2.2.2.2.2.2.2.1, rcW g c4h c4a u.2.2.2.2.2.2.2.2.2.2.2.2.2.1 u.2.2.2.2.2.2.2.2.2.2.2.2.2.2.1 u.2.2.2.2.2.2.2.2.2.2.2.2.2.2.2, plW g la lr lf 30]) := by
  refine vz_siQ (by decide) (Nat.le_of_ble_eq_true rfl) (fun p e s m args below meth c hx hb hr hml hts hown hlk hin hK hsz A hA H locs hP hD hS ls hl Q hQ => ?_)
  have hl : lv_has ls 4 [(0, .ref h), (1, .int n1), (2, .int n2), (3, .int n3)] := hl
  have J69 : ∀ (y0_69 : Int32), ∀ (wi_69 : Nat → Int32), ∀ (wr_69 : Nat → Nat), ∀ (wf_69 : Nat → Nat → Int32), ∀ (ki_69 : Nat → Int32), ∀ (mi_69 : Nat → Int32), ∀ (mr_69 : Nat → Nat), ∀ (mf_69 : Nat → Nat → Int32), ∀ (c3i_69 : Nat → Int32), ∀ (c3r_69 : Nat → Nat), ∀ (c3f_69 : Nat → Nat → Int32), ∀ (c4i_69 : Nat → Int32), ∀ (c4r_69 : Nat → Nat), ∀ (c4f_69 : Nat → Nat → Int32), (y0_69 = 0 ∨ y0_69 = 1) → (∀ k, wr_69 k ≤ woW_lim k) → (∀ k, mr_69 k ≤ mcW_lim k) → (∀ k, c3r_69 k ≤ rcW_lim k) → (∀ k, c4r_69 k ≤ rcW_lim k) → ∀ (H : Heap) (locs : List Loc) (ls : Array Slot), va_P D vwCl (vz_w [maW h ai (xa 0) sh vh coh wh kh mh (la 0) (ea 0) (ua 0) c1h c2h c3h c4h ph qh, woW g wh wa wi_69 wr_69 wf_69 ph c4h (la 0), wkW kh ki_69 wh, mcW g mh ma mi_69 mr_69 mf_69 wh (da 0) (da 2), cdW g da dr df, pgW g ph pa pr pf, rcW g c3h c3a c3i_69 c3r_69 c3f_69, rcW g c4h c4a c4i_69 c4r_69 c4f_69, plW g la lr lf 30]) H → va_D A (vz_w [maW h ai (xa 0) sh vh coh wh kh mh (la 0) (ea 0) (ua 0) c1h c2h c3h c4h ph qh, woW g wh wa wi_69 wr_69 wf_69 ph c4h (la 0), wkW kh ki_69 wh, mcW g mh ma mi_69 mr_69 mf_69 wh (da 0) (da 2), cdW g da dr df, pgW g ph pa pr pf, rcW g c3h c3a c3i_69 c3r_69 c3f_69, rcW g c4h c4a c4i_69 c4r_69 c4f_69, plW g la lr lf 30]) → va_S A s.heap H locs → lv_has ls 4 [(0, .ref h), (1, .int n1), (2, .int n2), (3, .int n3)] → W p l e { frames := 106, cells := 0, slots := 0, locals := 3172 } s m args below meth c H locs 0 0 Q (F0 m 69 ls [.int y0_69]) := by
    intro y0_69 wi_69 wr_69 wf_69 ki_69 mi_69 mr_69 mf_69 c3i_69 c3r_69 c3f_69 c4i_69 c4r_69 c4f_69 hz_y0_69 hw_w_69 hw_m_69 hw_c3_69 hw_c4_69 H locs ls hP hD hS hl
    rw [hQ]
    exact vz_iret3 hx hb hr hlk hK hP hD hS (wi_69, wr_69, wf_69, ph, c4h, (la 0), ki_69, mi_69, mr_69, mf_69, c3i_69, c3r_69, c3f_69, c4i_69, c4r_69, c4f_69) (⟨hw_w_69, hw_m_69, hw_c3_69, hw_c4_69⟩) rfl (Nat.le_refl 0) (Nat.le_refl 0) dX9_same_69
  refine lv_aload_n hx hb dX9_same_0 rfl (lv_at hl 0 rfl) ?_
  refine lv_iload_n hx hb dX9_same_1 rfl (lv_at hl 1 rfl) ?_
  refine vz_Vi4 (n9 := 9) (bs2 := fun u : Unit => [maW h ai (xa 0) sh vh coh wh kh mh (la 0) (ea 0) (ua 0) c1h c2h c3h c4h ph qh, woW g wh wa wi wr wf wph wrh wpl, wkW kh ki wh, mcW g mh ma mi mr mf wh (da 0) (da 2), cdW g da dr df, pgW g ph pa pr pf, rcW g c3h c3a c3i c3r c3f, rcW g c4h c4a c4i c4r c4f, plW g la lr lf 30]) (br := [woW g wh wa wi wr wf wph wrh wpl, wkW kh ki wh, mcW g mh ma mi mr mf wh (da 0) (da 2), cdW g da dr df, rcW g c3h c3a c3i c3r c3f, rcW g c4h c4a c4i c4r c4f, plW g la lr lf 30]) (As := [.int n1]) (rest := []) hx hb hml hown hts hK hA hP hD hS (a_X_isNoMethod l D g H.size h ai xa sh vh coh wh kh mh la ea ua c1h c2h c3h c4h ph qh pa pr pf n1 hw_p) kv_X9_166 ⟨Nat.le_of_ble_eq_true rfl, Nat.le_of_ble_eq_true rfl⟩ (q0 := 0) (ci := 9) rfl rfl rfl [0, 5] [1, 2, 3, 4, 6, 7, 8] rfl (by decide) rfl (fun _ => rfl) (fun _ => rfl) hl.1 (Nat.le_of_ble_eq_true rfl) dX9_same_2 ⟨Nat.le_refl _, Nat.le_refl _⟩ rfl (fun v1 _ H locs hz2 _ hP hD hS => ?_)
  refine lv_if_eq (tgt := 10) hx hb dX9_same_5 (by decide) (fun kc3 => ?_) (fun kc3 => ?_)
  · refine lv_aload_n hx hb dX9_same_10 rfl (lv_at hl 0 rfl) ?_
    refine lv_iconst (v := 0) hx hb dX9_same_11 (by decide) ?_
    refine lv_aload_n hx hb dX9_same_12 rfl (lv_at hl 0 rfl) ?_
    refine va_get (D := D) (ci := 9) (v := .ref c3h) (C := RX9) (T := TX9) (N := 17) hx hb hts inlX9 hown hK hP 0 rfl rfl 12 (by decide) (hts _ q43) (fun _ h => h) rfl dX9_same_13 ?_
    refine lv_aload_n hx hb dX9_same_16 rfl (lv_at hl 0 rfl) ?_
    refine va_get (D := D) (ci := 9) (v := .ref (la 0)) (C := RX9) (T := TX9) (N := 17) hx hb hts inlX9 hown hK hP 0 rfl rfl 7 (by decide) (hts _ q35) (fun _ h => h) rfl dX9_same_17 ?_
    refine lv_iload_n hx hb dX9_same_20 rfl (lv_at hl 1 rfl) ?_
    refine lv_iload_n hx hb dX9_same_21 rfl (lv_at hl 2 rfl) ?_
    refine lv_iload_n hx hb dX9_same_22 rfl (lv_at hl 3 rfl) ?_
    refine lv_sipush (v := 400) hx hb dX9_same_23 (by decide) ?_
    refine vz_Vi4 (n9 := 9) (bs2 := fun u : (Nat → Int32) × (Nat → Nat) × (Nat → Nat → Int32) × (Nat → Int32) × (Nat → Int32) × (Nat → Nat) × (Nat → Nat → Int32) × (Nat → Int32) × (Nat → Nat) × (Nat → Nat → Int32) => [maW h ai (xa 0) sh vh coh wh kh mh (la 0) (ea 0) (ua 0) c1h c2h c3h c4h ph qh, woW g wh wa u.1 u.2.1 u.2.2.1 ph c3h (la 0), wkW kh u.2.2.2.1 wh, mcW g mh ma u.2.2.2.2.1 u.2.2.2.2.2.1 u.2.2.2.2.2.2.1 wh (da 0) (da 2), cdW g da dr df, pgW g ph pa pr pf, rcW g c3h c3a u.2.2.2.2.2.2.2.1 u.2.2.2.2.2.2.2.2.1 u.2.2.2.2.2.2.2.2.2, rcW g c4h c4a c4i c4r c4f, plW g la lr lf 30]) (br := [rcW g c4h c4a c4i c4r c4f]) (As := [.int 0, .ref c3h, .ref (la 0), .int n1, .int n2, .int n3, .int 400]) (rest := []) hx hb hml hown hts hK hA hP hD hS (a_X_perform l D g H.size h ai xa sh vh coh wh kh mh la ea ua c1h c2h c3h c4h ph qh wa wi wr wf wph wrh wpl ki ma mi mr mf da dr df pa pr pf c3h c3a c3i c3r c3f la lr lf 30 0 n1 n2 n3 400 hw_w hw_m hw_d hw_p hw_c3 hw_l (by decide)) kv_X9_170 ⟨Nat.le_of_ble_eq_true rfl, Nat.le_of_ble_eq_true rfl⟩ (q0 := 0) (ci := 9) rfl rfl rfl [0, 1, 2, 3, 4, 5, 6, 8] [7] rfl (by decide) rfl (fun _ => rfl) (fun _ => rfl) hl.1 (Nat.le_of_ble_eq_true rfl) dX9_same_26 ⟨Nat.le_refl _, Nat.le_refl _⟩ rfl (fun v17 ⟨wi_4, wr_5, wf_6, ki_7, mi_8, mr_9, mf_10, c3i_11, c3r_12, c3f_13⟩ H locs ⟨hw_14, hw_15, hw_16⟩ _ hP hD hS => ?_)
    try dsimp only at hw_14 hw_15 hw_16
    replace hP : va_P D vwCl (vz_w [maW h ai (xa 0) sh vh coh wh kh mh (la 0) (ea 0) (ua 0) c1h c2h c3h c4h ph qh, woW g wh wa wi_4 wr_5 wf_6 ph c3h (la 0), wkW kh ki_7 wh, mcW g mh ma mi_8 mr_9 mf_10 wh (da 0) (da 2), cdW g da dr df, pgW g ph pa pr pf, rcW g c3h c3a c3i_11 c3r_12 c3f_13, rcW g c4h c4a c4i c4r c4f, plW g la lr lf 30]) H := hP
    replace hD : va_D A (vz_w [maW h ai (xa 0) sh vh coh wh kh mh (la 0) (ea 0) (ua 0) c1h c2h c3h c4h ph qh, woW g wh wa wi_4 wr_5 wf_6 ph c3h (la 0), wkW kh ki_7 wh, mcW g mh ma mi_8 mr_9 mf_10 wh (da 0) (da 2), cdW g da dr df, pgW g ph pa pr pf, rcW g c3h c3a c3i_11 c3r_12 c3f_13, rcW g c4h c4a c4i c4r c4f, plW g la lr lf 30]) := hD
    refine lv_pop hx hb dX9_same_29 rfl ?_
    refine lv_aload_n hx hb dX9_same_30 rfl (lv_at hl 0 rfl) ?_
    refine lv_iconst (v := 1) hx hb dX9_same_31 (by decide) ?_
    refine lv_aload_n hx hb dX9_same_32 rfl (lv_at hl 0 rfl) ?_
    refine va_get (D := D) (ci := 9) (v := .ref c4h) (C := RX9) (T := TX9) (N := 17) hx hb hts inlX9 hown hK hP 0 rfl rfl 13 (by decide) (hts _ q44) (fun _ h => h) rfl dX9_same_33 ?_
    refine lv_aload_n hx hb dX9_same_36 rfl (lv_at hl 0 rfl) ?_
    refine va_get (D := D) (ci := 9) (v := .ref (la 0)) (C := RX9) (T := TX9) (N := 17) hx hb hts inlX9 hown hK hP 0 rfl rfl 7 (by decide) (hts _ q35) (fun _ h => h) rfl dX9_same_37 ?_
    refine lv_iload_n hx hb dX9_same_40 rfl (lv_at hl 1 rfl) ?_
    refine lv_iload_n hx hb dX9_same_41 rfl (lv_at hl 2 rfl) ?_
    refine lv_iload_n hx hb dX9_same_42 rfl (lv_at hl 3 rfl) ?_
    refine lv_sipush (v := 400) hx hb dX9_same_43 (by decide) ?_
    refine vz_Vi4 (n9 := 9) (bs2 := fun u : (Nat → Int32) × (Nat → Nat) × (Nat → Nat → Int32) × (Nat → Int32) × (Nat → Int32) × (Nat → Nat) × (Nat → Nat → Int32) × (Nat → Int32) × (Nat → Nat) × (Nat → Nat → Int32) => [maW h ai (xa 0) sh vh coh wh kh mh (la 0) (ea 0) (ua 0) c1h c2h c3h c4h ph qh, woW g wh wa u.1 u.2.1 u.2.2.1 ph c4h (la 0), wkW kh u.2.2.2.1 wh, mcW g mh ma u.2.2.2.2.1 u.2.2.2.2.2.1 u.2.2.2.2.2.2.1 wh (da 0) (da 2), cdW g da dr df, pgW g ph pa pr pf, rcW g c3h c3a c3i_11 c3r_12 c3f_13, rcW g c4h c4a u.2.2.2.2.2.2.2.1 u.2.2.2.2.2.2.2.2.1 u.2.2.2.2.2.2.2.2.2, plW g la lr lf 30]) (br := [rcW g c3h c3a c3i_11 c3r_12 c3f_13]) (As := [.int 1, .ref c4h, .ref (la 0), .int n1, .int n2, .int n3, .int 400]) (rest := []) hx hb hml hown hts hK hA hP hD hS (a_X_perform l D g H.size h ai xa sh vh coh wh kh mh la ea ua c1h c2h c3h c4h ph qh wa wi_4 wr_5 wf_6 ph c3h (la 0) ki_7 ma mi_8 mr_9 mf_10 da dr df pa pr pf c4h c4a c4i c4r c4f la lr lf 30 1 n1 n2 n3 400 hw_14 hw_15 hw_d hw_p hw_c4 hw_l (by decide)) kv_X9_170 ⟨Nat.le_of_ble_eq_true rfl, Nat.le_of_ble_eq_true rfl⟩ (q0 := 0) (ci := 9) rfl rfl rfl [0, 1, 2, 3, 4, 5, 7, 8] [6] rfl (by decide) rfl (fun _ => rfl) (fun _ => rfl) hl.1 (Nat.le_of_ble_eq_true rfl) dX9_same_46 ⟨Nat.le_refl _, Nat.le_refl _⟩ rfl (fun v31 ⟨wi_18, wr_19, wf_20, ki_21, mi_22, mr_23, mf_24, c4i_25, c4r_26, c4f_27⟩ H locs ⟨hw_28, hw_29, hw_30⟩ _ hP hD hS => ?_)
    try dsimp only at hw_28 hw_29 hw_30
    replace hP : va_P D vwCl (vz_w [maW h ai (xa 0) sh vh coh wh kh mh (la 0) (ea 0) (ua 0) c1h c2h c3h c4h ph qh, woW g wh wa wi_18 wr_19 wf_20 ph c4h (la 0), wkW kh ki_21 wh, mcW g mh ma mi_22 mr_23 mf_24 wh (da 0) (da 2), cdW g da dr df, pgW g ph pa pr pf, rcW g c3h c3a c3i_11 c3r_12 c3f_13, rcW g c4h c4a c4i_25 c4r_26 c4f_27, plW g la lr lf 30]) H := hP
    replace hD : va_D A (vz_w [maW h ai (xa 0) sh vh coh wh kh mh (la 0) (ea 0) (ua 0) c1h c2h c3h c4h ph qh, woW g wh wa wi_18 wr_19 wf_20 ph c4h (la 0), wkW kh ki_21 wh, mcW g mh ma mi_22 mr_23 mf_24 wh (da 0) (da 2), cdW g da dr df, pgW g ph pa pr pf, rcW g c3h c3a c3i_11 c3r_12 c3f_13, rcW g c4h c4a c4i_25 c4r_26 c4f_27, plW g la lr lf 30]) := hD
    refine lv_pop hx hb dX9_same_49 rfl ?_
    refine lv_aload_n hx hb dX9_same_50 rfl (lv_at hl 0 rfl) ?_
    refine va_get (D := D) (ci := 9) (v := .ref c3h) (C := RX9) (T := TX9) (N := 17) hx hb hts inlX9 hown hK hP 0 rfl rfl 12 (by decide) (hts _ q43) (fun _ h => h) rfl dX9_same_51 ?_
    refine lv_aload_n hx hb dX9_same_54 rfl (lv_at hl 0 rfl) ?_
    refine va_get (D := D) (ci := 9) (v := .ref c4h) (C := RX9) (T := TX9) (N := 17) hx hb hts inlX9 hown hK hP 0 rfl rfl 13 (by decide) (hts _ q44) (fun _ h => h) rfl dX9_same_55 ?_
    refine vz_Vi4 (n9 := 9) (bs2 := fun u : Unit => [maW h ai (xa 0) sh vh coh wh kh mh (la 0) (ea 0) (ua 0) c1h c2h c3h c4h ph qh, woW g wh wa wi_18 wr_19 wf_20 ph c4h (la 0), wkW kh ki_21 wh, mcW g mh ma mi_22 mr_23 mf_24 wh (da 0) (da 2), cdW g da dr df, pgW g ph pa pr pf, rcW g c3h c3a c3i_11 c3r_12 c3f_13, rcW g c4h c4a c4i_25 c4r_26 c4f_27, plW g la lr lf 30]) (br := [maW h ai (xa 0) sh vh coh wh kh mh (la 0) (ea 0) (ua 0) c1h c2h c3h c4h ph qh, woW g wh wa wi_18 wr_19 wf_20 ph c4h (la 0), wkW kh ki_21 wh, mcW g mh ma mi_22 mr_23 mf_24 wh (da 0) (da 2), cdW g da dr df, pgW g ph pa pr pf, plW g la lr lf 30]) (As := [.ref c4h]) (rest := []) hx hb hml hown hts hK hA hP hD hS (a_R_agrees l D g H.size c3h c3a c3i_11 c3r_12 c3f_13 c4h c4a c4i_25 c4r_26 c4f_27 hw_16 hw_30) kv_X9_218 ⟨Nat.le_of_ble_eq_true rfl, Nat.le_of_ble_eq_true rfl⟩ (q0 := 31) (ci := 4) rfl rfl rfl [6, 7] [0, 1, 2, 3, 4, 5, 8] rfl (by decide) rfl (fun _ => rfl) (fun _ => rfl) hl.1 (Nat.le_of_ble_eq_true rfl) dX9_same_58 ⟨Nat.le_refl _, Nat.le_refl _⟩ rfl (fun v32 _ H locs hz33 _ hP hD hS => ?_)
    refine lv_if_eq (tgt := 68) hx hb dX9_same_61 (by decide) (fun kc34 => ?_) (fun kc34 => ?_)
    · refine lv_iconst (v := 0) hx hb dX9_same_68 (by decide) ?_
      exact J69 0 wi_18 wr_19 wf_20 ki_21 mi_22 mr_23 mf_24 c3i_11 c3r_12 c3f_13 c4i_25 c4r_26 c4f_27 (Or.inl rfl) hw_28 hw_29 hw_16 hw_30 H locs ls hP hD hS (lv_sub hl [0, 1, 2, 3] rfl)
    · refine lv_iconst (v := 1) hx hb dX9_same_64 (by decide) ?_
      refine lv_goto (tgt := 69) hx hb dX9_same_65 (by decide) ?_
      exact J69 1 wi_18 wr_19 wf_20 ki_21 mi_22 mr_23 mf_24 c3i_11 c3r_12 c3f_13 c4i_25 c4r_26 c4f_27 (Or.inr rfl) hw_28 hw_29 hw_16 hw_30 H locs ls hP hD hS (lv_sub hl [0, 1, 2, 3] rfl)
  · refine lv_iconst (v := (-1)) hx hb dX9_same_8 (by decide) ?_
    rw [hQ]
    exact vz_iret3 hx hb hr hlk hK hP hD hS (wi, wr, wf, wph, wrh, wpl, ki, mi, mr, mf, c3i, c3r, c3f, c4i, c4r, c4f) (⟨hw_w, hw_m, hw_c3, hw_c4⟩) rfl (Nat.le_refl 0) (Nat.le_refl 0) dX9_same_9
