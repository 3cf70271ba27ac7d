theorem dX5_isDigit_0 : decode cX5_isDigit 0 = .ok (.iload_n 0, 1) := by decide +kernel
theorem dX5_isDigit_1 : decode cX5_isDigit 1 = .ok (.bipush 48, 2) := by decide +kernel
theorem dX5_isDigit_3 : decode cX5_isDigit 3 = .ok (.if_icmp .lt 13, 3) := by decide +kernel
theorem dX5_isDigit_6 : decode cX5_isDigit 6 = .ok (.iload_n 0, 1) := by decide +kernel
theorem dX5_isDigit_7 : decode cX5_isDigit 7 = .ok (.bipush 57, 2) := by decide +kernel
theorem dX5_isDigit_9 : decode cX5_isDigit 9 = .ok (.if_icmp .gt 7, 3) := by decide +kernel
theorem dX5_isDigit_12 : decode cX5_isDigit 12 = .ok (.iconst 1, 1) := by decide +kernel
theorem dX5_isDigit_13 : decode cX5_isDigit 13 = .ok (.goto 4, 3) := by decide +kernel
theorem dX5_isDigit_16 : decode cX5_isDigit 16 = .ok (.iconst 0, 1) := by decide +kernel
theorem dX5_isDigit_17 : decode cX5_isDigit 17 = .ok (.ireturn, 1) := by decide +kernel
set_option maxHeartbeats 8000000 in
set_option maxRecDepth 100000 in
theorem a_S_isDigit (l : Launch) (D : va_G) (g : Nat → ClassId)   (sz : Nat) (n1 : Int32) : vz_Mi l D (tyG g) yX5_isDigit cX5_isDigit 1 0 0 0 0 .boolean [.int n1] sz (vz_w []) (fun r (u : Unit) => (r = 0 ∨ r = 1)) (fun u => vz_w []) := by
  refine vz_siQ (by decide) (Nat.le_of_ble_eq_true rfl) (fun p e s m args below meth c hx hb hr hml hts hown hlk hin hK hsz A hA H locs hP hD hS ls hl Q hQ => ?_)
  have hl : lv_has ls 1 [(0, .int n1)] := hl
  have J17 : ∀ (y0_17 : Int32), (y0_17 = 0 ∨ y0_17 = 1) → ∀ (H : Heap) (locs : List Loc) (ls : Array Slot), va_P D vwCl (vz_w []) H → va_D A (vz_w []) → va_S A s.heap H locs → lv_has ls 1 [(0, .int n1)] → W p l e { frames := 0, cells := 0, slots := 0, locals := 0 } s m args below meth c H locs 0 0 Q (F0 m 17 ls [.int y0_17]) := by
    intro y0_17 hz_y0_17 H locs ls hP hD hS hl
    rw [hQ]
    exact vz_zret3 hx hb hr hlk hK hP hD hS () hz_y0_17 rfl (Nat.le_refl 0) (Nat.le_refl 0) (vz_nb hz_y0_17) dX5_isDigit_17
  have J16 : ∀ (H : Heap) (locs : List Loc) (ls : Array Slot), va_P D vwCl (vz_w []) H → va_D A (vz_w []) → va_S A s.heap H locs → lv_has ls 1 [(0, .int n1)] → W p l e { frames := 0, cells := 0, slots := 0, locals := 0 } s m args below meth c H locs 0 0 Q (F0 m 16 ls []) := by
    intro H locs ls hP hD hS hl
    refine lv_iconst (v := 0) hx hb dX5_isDigit_16 (by decide) ?_
    exact J17 0 (Or.inl rfl) H locs ls hP hD hS (lv_sub hl [0] rfl)
  refine lv_iload_n hx hb dX5_isDigit_0 rfl (lv_at hl 0 rfl) ?_
  refine lv_bipush (v := 48) hx hb dX5_isDigit_1 (by decide) ?_
  refine lv_icmp_lt (tgt := 16) hx hb dX5_isDigit_3 (by decide) (fun kc1 => ?_) (fun kc1 => ?_)
  · exact J16 H locs ls hP hD hS (lv_sub hl [0] rfl)
  · refine lv_iload_n hx hb dX5_isDigit_6 rfl (lv_at hl 0 rfl) ?_
    refine lv_bipush (v := 57) hx hb dX5_isDigit_7 (by decide) ?_
    refine lv_icmp_gt (tgt := 16) hx hb dX5_isDigit_9 (by decide) (fun kc2 => ?_) (fun kc2 => ?_)
    · exact J16 H locs ls hP hD hS (lv_sub hl [0] rfl)
    · refine lv_iconst (v := 1) hx hb dX5_isDigit_12 (by decide) ?_
      refine lv_goto (tgt := 17) hx hb dX5_isDigit_13 (by decide) ?_
      exact J17 1 (Or.inr rfl) H locs ls hP hD hS (lv_sub hl [0] rfl)
theorem dX5_isLetter_0 : decode cX5_isLetter 0 = .ok (.iload_n 0, 1) := by decide +kernel
theorem dX5_isLetter_1 : decode cX5_isLetter 1 = .ok (.bipush 97, 2) := by decide +kernel
theorem dX5_isLetter_3 : decode cX5_isLetter 3 = .ok (.if_icmp .lt 13, 3) := by decide +kernel
theorem dX5_isLetter_6 : decode cX5_isLetter 6 = .ok (.iload_n 0, 1) := by decide +kernel
theorem dX5_isLetter_7 : decode cX5_isLetter 7 = .ok (.bipush 122, 2) := by decide +kernel
theorem dX5_isLetter_9 : decode cX5_isLetter 9 = .ok (.if_icmp .gt 7, 3) := by decide +kernel
theorem dX5_isLetter_12 : decode cX5_isLetter 12 = .ok (.iconst 1, 1) := by decide +kernel
theorem dX5_isLetter_13 : decode cX5_isLetter 13 = .ok (.goto 4, 3) := by decide +kernel
theorem dX5_isLetter_16 : decode cX5_isLetter 16 = .ok (.iconst 0, 1) := by decide +kernel
theorem dX5_isLetter_17 : decode cX5_isLetter 17 = .ok (.ireturn, 1) := by decide +kernel
set_option maxHeartbeats 8000000 in
set_option maxRecDepth 100000 in
theorem a_S_isLetter (l : Launch) (D : va_G) (g : Nat → ClassId)   (sz : Nat) (n1 : Int32) : vz_Mi l D (tyG g) yX5_isLetter cX5_isLetter 1 0 0 0 0 .boolean [.int n1] sz (vz_w []) (fun r (u : Unit) => (r = 0 ∨ r = 1)) (fun u => vz_w []) := by
  refine vz_siQ (by decide) (Nat.le_of_ble_eq_true rfl) (fun p e s m args below meth c hx hb hr hml hts hown hlk hin hK hsz A hA H locs hP hD hS ls hl Q hQ => ?_)
  have hl : lv_has ls 1 [(0, .int n1)] := hl
  have J17 : ∀ (y0_17 : Int32), (y0_17 = 0 ∨ y0_17 = 1) → ∀ (H : Heap) (locs : List Loc) (ls : Array Slot), va_P D vwCl (vz_w []) H → va_D A (vz_w []) → va_S A s.heap H locs → lv_has ls 1 [(0, .int n1)] → W p l e { frames := 0, cells := 0, slots := 0, locals := 0 } s m args below meth c H locs 0 0 Q (F0 m 17 ls [.int y0_17]) := by
    intro y0_17 hz_y0_17 H locs ls hP hD hS hl
    rw [hQ]
    exact vz_zret3 hx hb hr hlk hK hP hD hS () hz_y0_17 rfl (Nat.le_refl 0) (Nat.le_refl 0) (vz_nb hz_y0_17) dX5_isLetter_17
  have J16 : ∀ (H : Heap) (locs : List Loc) (ls : Array Slot), va_P D vwCl (vz_w []) H → va_D A (vz_w []) → va_S A s.heap H locs → lv_has ls 1 [(0, .int n1)] → W p l e { frames := 0, cells := 0, slots := 0, locals := 0 } s m args below meth c H locs 0 0 Q (F0 m 16 ls []) := by
    intro H locs ls hP hD hS hl
    refine lv_iconst (v := 0) hx hb dX5_isLetter_16 (by decide) ?_
    exact J17 0 (Or.inl rfl) H locs ls hP hD hS (lv_sub hl [0] rfl)
  refine lv_iload_n hx hb dX5_isLetter_0 rfl (lv_at hl 0 rfl) ?_
  refine lv_bipush (v := 97) hx hb dX5_isLetter_1 (by decide) ?_
  refine lv_icmp_lt (tgt := 16) hx hb dX5_isLetter_3 (by decide) (fun kc1 => ?_) (fun kc1 => ?_)
  · exact J16 H locs ls hP hD hS (lv_sub hl [0] rfl)
  · refine lv_iload_n hx hb dX5_isLetter_6 rfl (lv_at hl 0 rfl) ?_
    refine lv_bipush (v := 122) hx hb dX5_isLetter_7 (by decide) ?_
    refine lv_icmp_gt (tgt := 16) hx hb dX5_isLetter_9 (by decide) (fun kc2 => ?_) (fun kc2 => ?_)
    · exact J16 H locs ls hP hD hS (lv_sub hl [0] rfl)
    · refine lv_iconst (v := 1) hx hb dX5_isLetter_12 (by decide) ?_
      refine lv_goto (tgt := 17) hx hb dX5_isLetter_13 (by decide) ?_
      exact J17 1 (Or.inr rfl) H locs ls hP hD hS (lv_sub hl [0] rfl)
theorem q288 : Cond.fieldLink RX5 27 "WaysAtlas$Table" "rows" "I" ∈ wsL_law := mT_1 (List.mem_of_getElem? (i := 40) rfl) rfl
theorem q293 : Cond.methodLink RX5 30 yX6_get ∈ wsL_law := mT_2 (List.mem_of_getElem? (i := 214) rfl) rfl
theorem kv_X5_30 : vz_cv RX5 30 yX6_get cX6_get 4 (some .int) 2 := ⟨q293, q294, q295, q15, q296, by decide +kernel⟩
theorem q297 : Cond.methodLink RX5 34 yX5_isDigit ∈ wsL_law := mT_2 (List.mem_of_getElem? (i := 218) rfl) rfl
theorem q298 : Cond.static yX5_isDigit ∈ wsL_law := mT_2 (List.mem_of_getElem? (i := 219) rfl) rfl
theorem q19 : Cond.initialized RX5 ∈ wsL_law := mT_1 (List.mem_of_getElem? (i := 4) rfl) rfl
theorem q299 : Cond.code yX5_isDigit cX5_isDigit 1 (some .boolean) ∈ wsL_law := mT_2 (List.mem_of_getElem? (i := 220) rfl) rfl
theorem ks_X5_34 : vz_cs RX5 34 yX5_isDigit cX5_isDigit 1 (some .boolean) 1 := ⟨q297, q298, q19, q299, by decide +kernel⟩
theorem dX5_endOfDigits_0 : decode cX5_endOfDigits 0 = .ok (.iload_n 1, 1) := by decide +kernel
theorem dX5_endOfDigits_1 : decode cX5_endOfDigits 1 = .ok (.istore_n 2, 1) := by decide +kernel
theorem dX5_endOfDigits_2 : decode cX5_endOfDigits 2 = .ok (.iload_n 2, 1) := by decide +kernel
theorem dX5_endOfDigits_3 : decode cX5_endOfDigits 3 = .ok (.aload_n 0, 1) := by decide +kernel
theorem dX5_endOfDigits_4 : decode cX5_endOfDigits 4 = .ok (.getfield 27, 3) := by decide +kernel
theorem dX5_endOfDigits_7 : decode cX5_endOfDigits 7 = .ok (.if_icmp .ge 21, 3) := by decide +kernel
theorem dX5_endOfDigits_10 : decode cX5_endOfDigits 10 = .ok (.aload_n 0, 1) := by decide +kernel
theorem dX5_endOfDigits_11 : decode cX5_endOfDigits 11 = .ok (.iload_n 2, 1) := by decide +kernel
theorem dX5_endOfDigits_12 : decode cX5_endOfDigits 12 = .ok (.iconst 0, 1) := by decide +kernel
theorem dX5_endOfDigits_13 : decode cX5_endOfDigits 13 = .ok (.invokevirtual 30, 3) := by decide +kernel
theorem dX5_endOfDigits_16 : decode cX5_endOfDigits 16 = .ok (.invokestatic 34, 3) := by decide +kernel
theorem dX5_endOfDigits_19 : decode cX5_endOfDigits 19 = .ok (.ifCond .eq 9, 3) := by decide +kernel
theorem dX5_endOfDigits_22 : decode cX5_endOfDigits 22 = .ok (.iinc 2 1, 3) := by decide +kernel
theorem dX5_endOfDigits_25 : decode cX5_endOfDigits 25 = .ok (.goto (-23), 3) := by decide +kernel
theorem dX5_endOfDigits_28 : decode cX5_endOfDigits 28 = .ok (.iload_n 2, 1) := by decide +kernel
theorem dX5_endOfDigits_29 : decode cX5_endOfDigits 29 = .ok (.ireturn, 1) := by decide +kernel
set_option maxHeartbeats 8000000 in
set_option maxRecDepth 100000 in
theorem a_S_endOfDigits (l : Launch) (D : va_G) (g : Nat → ClassId)   (sz : Nat) (xa : Nat → Nat) (xr : Nat → Nat) (xf : Nat → Nat → Int32) (n1 : Int32) (hw_x : ∀ k, xr k ≤ txW_lim k) : vz_Mi l D (tyG g) yX5_endOfDigits cX5_endOfDigits 3 1 23 0 0 .int [.ref (xa 0), .int n1] sz (vz_w [txW g xa xr xf]) (fun r (u : Unit) => True) (fun u => vz_w [txW g xa xr xf]) := by
  refine vz_siQ (by decide) (Nat.le_of_ble_eq_true rfl) (fun p e s m args below meth c hx hb hr hml hts hown hlk hin hK hsz A hA H locs hP hD hS ls hl Q hQ => ?_)
  have hl : lv_has ls 3 [(0, .ref (xa 0)), (1, .int n1)] := hl
  have J28 : ∀ (x2_28 : Int32), ∀ (H : Heap) (locs : List Loc) (ls : Array Slot), va_P D vwCl (vz_w [txW g xa xr xf]) H → va_D A (vz_w [txW g xa xr xf]) → va_S A s.heap H locs → lv_has ls 3 [(0, .ref (xa 0)), (1, .int n1), (2, .int x2_28)] → W p l e { frames := 1, cells := 0, slots := 0, locals := 23 } s m args below meth c H locs 0 0 Q (F0 m 28 ls []) := by
    intro x2_28 H locs ls hP hD hS hl
    refine lv_iload_n hx hb dX5_endOfDigits_28 rfl (lv_at hl 2 rfl) ?_
    rw [hQ]
    exact vz_iret3 hx hb hr hlk hK hP hD hS () trivial rfl (Nat.le_refl 0) (Nat.le_refl 0) dX5_endOfDigits_29
  have J2 : ∀ fu2 : Nat, ∀ (x2_2 : Int32), ((nI (xr 0)).toInt - x2_2.toInt).toNat < fu2 → ∀ (H : Heap) (locs : List Loc) (ls : Array Slot), va_P D vwCl (vz_w [txW g xa xr xf]) H → va_D A (vz_w [txW g xa xr xf]) → va_S A s.heap H locs → lv_has ls 3 [(0, .ref (xa 0)), (1, .int n1), (2, .int x2_2)] → W p l e { frames := 1, cells := 0, slots := 0, locals := 23 } s m args below meth c H locs 0 0 Q (F0 m 2 ls []) := by
    intro fu2
    induction fu2 with
    | zero => intro x2_2 hf2 H locs ls hP hD hS hl; exact absurd hf2 (Nat.not_lt_zero _)
    | succ fu2 ih2 =>
      intro x2_2 hf2 H locs ls hP hD hS hl
      refine lv_iload_n hx hb dX5_endOfDigits_2 rfl (lv_at hl 2 rfl) ?_
      refine lv_aload_n hx hb dX5_endOfDigits_3 rfl (lv_at hl 0 rfl) ?_
      refine va_get (D := D) (ci := 6) (v := .int (nI (xr 0))) (C := RX6) (T := TX6) (N := 4) hx hb hts inlX6 hown hK hP 0 rfl rfl 3 (by decide) (hts _ q288) (fun _ h => h) rfl dX5_endOfDigits_4 ?_
      refine lv_icmp_ge (tgt := 28) hx hb dX5_endOfDigits_7 (by decide) (fun kc1 => ?_) (fun kc1 => ?_)
      · exact J28 x2_2 H locs ls hP hD hS (lv_sub hl [0, 1, 2] rfl)
      · have hn2 : ((nI (xr 0)).toInt - (x2_2 + 1).toInt).toNat < fu2 := by have hq := vz_up kc1; omega
        refine lv_aload_n hx hb dX5_endOfDigits_10 rfl (lv_at hl 0 rfl) ?_
        refine lv_iload_n hx hb dX5_endOfDigits_11 rfl (lv_at hl 2 rfl) ?_
        refine lv_iconst (v := 0) hx hb dX5_endOfDigits_12 (by decide) ?_
        refine vz_Vi3 (As := [.int x2_2, .int 0]) (rest := []) hx hb hml hown hts hK hA hP hD hS (c_T_get l D g (xa 0) (xa 1) H.size 1 1000 (xr 0) 1000 (xf 0) x2_2 0 ⟨rfl, by decide, by decide, by decide, by decide, hw_x 0⟩) kv_X5_30 ⟨Nat.le_of_ble_eq_true rfl, Nat.le_of_ble_eq_true rfl⟩ (q0 := 0) (ci := 6) rfl rfl rfl  hl.1 (Nat.le_of_ble_eq_true rfl) dX5_endOfDigits_13 ⟨Nat.le_refl _, Nat.le_refl _⟩ rfl (fun v2 _ H locs he3 _ hP hD hS => ?_)
        replace hP : va_P D vwCl (vz_w [txW g xa xr xf]) H := hP
        replace hD : va_D A (vz_w [txW g xa xr xf]) := hD
        refine vz_Si4 (n9 := 1) (bs2 := fun u : Unit => [txW g xa xr xf]) (br := [txW g xa xr xf]) (As := [.int v2]) (rest := []) hx hb hml hown hts hK hA hP hD hS (a_S_isDigit l D g H.size v2) ks_X5_34 ⟨Nat.le_of_ble_eq_true rfl, Nat.le_of_ble_eq_true rfl⟩ [] [0] rfl (by decide) rfl (fun _ => rfl) (fun _ => rfl) hl.1 (Nat.le_of_ble_eq_true rfl) dX5_endOfDigits_16 ⟨Nat.le_refl _, Nat.le_refl _⟩ rfl (fun v4 _ H locs hz5 _ hP hD hS => ?_)
        refine lv_if_eq (tgt := 28) hx hb dX5_endOfDigits_19 (by decide) (fun kc6 => ?_) (fun kc6 => ?_)
        · exact J28 x2_2 H locs ls hP hD hS (lv_sub hl [0, 1, 2] rfl)
        · refine lv_iinc (v := (x2_2 + 1)) (lv' := [(2, .int (x2_2 + 1)), (0, .ref (xa 0)), (1, .int n1)]) hx hb dX5_endOfDigits_22 hl (k := 2) rfl (rfl) (by decide) rfl (fun ls hl => ?_)
          refine lv_goto (tgt := 2) hx hb dX5_endOfDigits_25 (by decide) ?_
          exact ih2 (x2_2 + 1) hn2 H locs ls hP hD hS (lv_sub hl [1, 2, 0] rfl)
  refine lv_iload_n hx hb dX5_endOfDigits_0 rfl (lv_at hl 1 rfl) ?_
  refine lv_istore_n (lv' := [(2, .int n1), (0, .ref (xa 0)), (1, .int n1)]) hx hb dX5_endOfDigits_1 rfl hl (by decide) rfl (fun ls hl => ?_)
  exact J2 (2 ^ 34) n1 (vz_mb _ _) H locs ls hP hD hS (lv_sub hl [1, 2, 0] rfl)
theorem dX5_valueOf_0 : decode cX5_valueOf 0 = .ok (.iconst 0, 1) := by decide +kernel
theorem dX5_valueOf_1 : decode cX5_valueOf 1 = .ok (.istore_n 3, 1) := by decide +kernel
theorem dX5_valueOf_2 : decode cX5_valueOf 2 = .ok (.iload_n 1, 1) := by decide +kernel
theorem dX5_valueOf_3 : decode cX5_valueOf 3 = .ok (.istore 4, 2) := by decide +kernel
theorem dX5_valueOf_5 : decode cX5_valueOf 5 = .ok (.iload 4, 2) := by decide +kernel
theorem dX5_valueOf_7 : decode cX5_valueOf 7 = .ok (.iload_n 2, 1) := by decide +kernel
theorem dX5_valueOf_8 : decode cX5_valueOf 8 = .ok (.if_icmp .ge 25, 3) := by decide +kernel
theorem dX5_valueOf_11 : decode cX5_valueOf 11 = .ok (.bipush 10, 2) := by decide +kernel
theorem dX5_valueOf_13 : decode cX5_valueOf 13 = .ok (.iload_n 3, 1) := by decide +kernel
theorem dX5_valueOf_14 : decode cX5_valueOf 14 = .ok (.imul, 1) := by decide +kernel
theorem dX5_valueOf_15 : decode cX5_valueOf 15 = .ok (.aload_n 0, 1) := by decide +kernel
theorem dX5_valueOf_16 : decode cX5_valueOf 16 = .ok (.iload 4, 2) := by decide +kernel
theorem dX5_valueOf_18 : decode cX5_valueOf 18 = .ok (.iconst 0, 1) := by decide +kernel
theorem dX5_valueOf_19 : decode cX5_valueOf 19 = .ok (.invokevirtual 30, 3) := by decide +kernel
theorem dX5_valueOf_22 : decode cX5_valueOf 22 = .ok (.iadd, 1) := by decide +kernel
theorem dX5_valueOf_23 : decode cX5_valueOf 23 = .ok (.bipush 48, 2) := by decide +kernel
theorem dX5_valueOf_25 : decode cX5_valueOf 25 = .ok (.isub, 1) := by decide +kernel
theorem dX5_valueOf_26 : decode cX5_valueOf 26 = .ok (.istore_n 3, 1) := by decide +kernel
theorem dX5_valueOf_27 : decode cX5_valueOf 27 = .ok (.iinc 4 1, 3) := by decide +kernel
theorem dX5_valueOf_30 : decode cX5_valueOf 30 = .ok (.goto (-25), 3) := by decide +kernel
theorem dX5_valueOf_33 : decode cX5_valueOf 33 = .ok (.iload_n 3, 1) := by decide +kernel
theorem dX5_valueOf_34 : decode cX5_valueOf 34 = .ok (.ireturn, 1) := by decide +kernel
set_option maxHeartbeats 8000000 in
set_option maxRecDepth 100000 in
theorem a_S_valueOf (l : Launch) (D : va_G) (g : Nat → ClassId)   (sz : Nat) (xa : Nat → Nat) (xr : Nat → Nat) (xf : Nat → Nat → Int32) (n1 : Int32) (n2 : Int32) (hw_x : ∀ k, xr k ≤ txW_lim k) : vz_Mi l D (tyG g) yX5_valueOf cX5_valueOf 5 1 23 0 0 .int [.ref (xa 0), .int n1, .int n2] sz (vz_w [txW g xa xr xf]) (fun r (u : Unit) => True) (fun u => vz_w [txW g xa xr xf]) := by
  refine vz_siQ (by decide) (Nat.le_of_ble_eq_true rfl) (fun p e s m args below meth c hx hb hr hml hts hown hlk hin hK hsz A hA H locs hP hD hS ls hl Q hQ => ?_)
  have hl : lv_has ls 5 [(0, .ref (xa 0)), (1, .int n1), (2, .int n2)] := hl
  have J5 : ∀ fu5 : Nat, ∀ (x3_5 : Int32), ∀ (x4_5 : Int32), (n2.toInt - x4_5.toInt).toNat < fu5 → ∀ (H : Heap) (locs : List Loc) (ls : Array Slot), va_P D vwCl (vz_w [txW g xa xr xf]) H → va_D A (vz_w [txW g xa xr xf]) → va_S A s.heap H locs → lv_has ls 5 [(0, .ref (xa 0)), (1, .int n1), (2, .int n2), (3, .int x3_5), (4, .int x4_5)] → W p l e { frames := 1, cells := 0, slots := 0, locals := 23 } s m args below meth c H locs 0 0 Q (F0 m 5 ls []) := by
    intro fu5
    induction fu5 with
    | zero => intro x3_5 x4_5 hf5 H locs ls hP hD hS hl; exact absurd hf5 (Nat.not_lt_zero _)
    | succ fu5 ih5 =>
      intro x3_5 x4_5 hf5 H locs ls hP hD hS hl
      refine lv_iload hx hb dX5_valueOf_5 (lv_at hl 4 rfl) ?_
      refine lv_iload_n hx hb dX5_valueOf_7 rfl (lv_at hl 2 rfl) ?_
      refine lv_icmp_ge (tgt := 33) hx hb dX5_valueOf_8 (by decide) (fun kc1 => ?_) (fun kc1 => ?_)
      · refine lv_iload_n hx hb dX5_valueOf_33 rfl (lv_at hl 3 rfl) ?_
        rw [hQ]
        exact vz_iret3 hx hb hr hlk hK hP hD hS () trivial rfl (Nat.le_refl 0) (Nat.le_refl 0) dX5_valueOf_34
      · have hn5 : (n2.toInt - (x4_5 + 1).toInt).toNat < fu5 := by have hq := vz_up kc1; omega
        refine lv_bipush (v := 10) hx hb dX5_valueOf_11 (by decide) ?_
        refine lv_iload_n hx hb dX5_valueOf_13 rfl (lv_at hl 3 rfl) ?_
        refine lv_imul hx hb dX5_valueOf_14 ?_
        refine lv_aload_n hx hb dX5_valueOf_15 rfl (lv_at hl 0 rfl) ?_
        refine lv_iload hx hb dX5_valueOf_16 (lv_at hl 4 rfl) ?_
        refine lv_iconst (v := 0) hx hb dX5_valueOf_18 (by decide) ?_
        refine vz_Vi3 (As := [.int x4_5, .int 0]) (rest := [.int (10 * x3_5)]) hx hb hml hown hts hK hA hP hD hS (c_T_get l D g (xa 0) (xa 1) H.size 1 1000 (xr 0) 1000 (xf 0) x4_5 0 ⟨rfl, by decide, by decide, by decide, by decide, hw_x 0⟩) kv_X5_30 ⟨Nat.le_of_ble_eq_true rfl, Nat.le_of_ble_eq_true rfl⟩ (q0 := 0) (ci := 6) rfl rfl rfl  hl.1 (Nat.le_of_ble_eq_true rfl) dX5_valueOf_19 ⟨Nat.le_refl _, Nat.le_refl _⟩ rfl (fun v2 _ H locs he3 _ hP hD hS => ?_)
        replace hP : va_P D vwCl (vz_w [txW g xa xr xf]) H := hP
        replace hD : va_D A (vz_w [txW g xa xr xf]) := hD
        refine lv_iadd hx hb dX5_valueOf_22 ?_
        refine lv_bipush (v := 48) hx hb dX5_valueOf_23 (by decide) ?_
        refine lv_isub hx hb dX5_valueOf_25 ?_
        refine lv_istore_n (lv' := [(3, .int (((10 * x3_5) + v2) - 48)), (0, .ref (xa 0)), (1, .int n1), (2, .int n2), (4, .int x4_5)]) hx hb dX5_valueOf_26 rfl hl (by decide) rfl (fun ls hl => ?_)
        refine lv_iinc (v := (x4_5 + 1)) (lv' := [(4, .int (x4_5 + 1)), (3, .int (((10 * x3_5) + v2) - 48)), (0, .ref (xa 0)), (1, .int n1), (2, .int n2)]) hx hb dX5_valueOf_27 hl (k := 4) rfl (rfl) (by decide) rfl (fun ls hl => ?_)
        refine lv_goto (tgt := 5) hx hb dX5_valueOf_30 (by decide) ?_
        exact ih5 (((10 * x3_5) + v2) - 48) (x4_5 + 1) hn5 H locs ls hP hD hS (lv_sub hl [2, 3, 4, 1, 0] rfl)
  refine lv_iconst (v := 0) hx hb dX5_valueOf_0 (by decide) ?_
  refine lv_istore_n (lv' := [(3, .int 0), (0, .ref (xa 0)), (1, .int n1), (2, .int n2)]) hx hb dX5_valueOf_1 rfl hl (by decide) rfl (fun ls hl => ?_)
  refine lv_iload_n hx hb dX5_valueOf_2 rfl (lv_at hl 2 rfl) ?_
  refine lv_istore (lv' := [(4, .int n1), (3, .int 0), (0, .ref (xa 0)), (1, .int n1), (2, .int n2)]) hx hb dX5_valueOf_3 hl (by decide) rfl (fun ls hl => ?_)
  exact J5 (2 ^ 34) 0 n1 (vz_mb _ _) H locs ls hP hD hS (lv_sub hl [2, 3, 4, 1, 0] rfl)
theorem q79 : Cond.fieldLink RX5 20 "WaysAtlas$Scanner" "at" "I" ∈ wsL_law := mT_1 (List.mem_of_getElem? (i := 66) rfl) rfl
theorem q304 : Cond.methodLink RX5 67 yX5_endOfDigits ∈ wsL_law := mT_2 (List.mem_of_getElem? (i := 225) rfl) rfl
theorem q305 : Cond.static yX5_endOfDigits ∈ wsL_law := mT_2 (List.mem_of_getElem? (i := 226) rfl) rfl
theorem q306 : Cond.code yX5_endOfDigits cX5_endOfDigits 3 (some .int) ∈ wsL_law := mT_2 (List.mem_of_getElem? (i := 227) rfl) rfl
theorem ks_X5_67 : vz_cs RX5 67 yX5_endOfDigits cX5_endOfDigits 3 (some .int) 2 := ⟨q304, q305, q19, q306, by decide +kernel⟩
theorem q307 : Cond.methodLink RX5 71 yX5_valueOf ∈ wsL_law := mT_2 (List.mem_of_getElem? (i := 228) rfl) rfl
theorem q308 : Cond.static yX5_valueOf ∈ wsL_law := mT_2 (List.mem_of_getElem? (i := 229) rfl) rfl
theorem q309 : Cond.code yX5_valueOf cX5_valueOf 5 (some .int) ∈ wsL_law := mT_2 (List.mem_of_getElem? (i := 230) rfl) rfl
theorem ks_X5_71 : vz_cs RX5 71 yX5_valueOf cX5_valueOf 5 (some .int) 3 := ⟨q307, q308, q19, q309, by decide +kernel⟩
theorem q310 : Cond.methodLink RX5 56 yX5_note ∈ wsL_law := mT_2 (List.mem_of_getElem? (i := 231) rfl) rfl
theorem q311 : Cond.instanceMethod yX5_note ∈ wsL_law := mT_2 (List.mem_of_getElem? (i := 233) rfl) rfl
theorem q312 : Cond.selects RX5 yX5_note yX5_note ∈ wsL_law := mS_1 (q := (yX5_note, 2)) (List.mem_of_getElem? (i := 1) rfl) rfl
theorem q313 : Cond.code yX5_note cX5_note 5 none ∈ wsL_law := mT_2 (List.mem_of_getElem? (i := 234) rfl) rfl
theorem kv_X5_56 : vz_cv RX5 56 yX5_note cX5_note 5 none 3 := ⟨q310, q311, q312, q19, q313, by decide +kernel⟩
theorem dX5_number_0 : decode cX5_number 0 = .ok (.aload_n 1, 1) := by decide +kernel
theorem dX5_number_1 : decode cX5_number 1 = .ok (.aload_n 0, 1) := by decide +kernel
theorem dX5_number_2 : decode cX5_number 2 = .ok (.getfield 20, 3) := by decide +kernel
theorem dX5_number_5 : decode cX5_number 5 = .ok (.invokestatic 67, 3) := by decide +kernel
theorem dX5_number_8 : decode cX5_number 8 = .ok (.istore_n 2, 1) := by decide +kernel
theorem dX5_number_9 : decode cX5_number 9 = .ok (.iload_n 2, 1) := by decide +kernel
theorem dX5_number_10 : decode cX5_number 10 = .ok (.aload_n 0, 1) := by decide +kernel
theorem dX5_number_11 : decode cX5_number 11 = .ok (.getfield 20, 3) := by decide +kernel
theorem dX5_number_14 : decode cX5_number 14 = .ok (.isub, 1) := by decide +kernel
theorem dX5_number_15 : decode cX5_number 15 = .ok (.iconst 4, 1) := by decide +kernel
theorem dX5_number_16 : decode cX5_number 16 = .ok (.if_icmp .gt 7, 3) := by decide +kernel
theorem dX5_number_19 : decode cX5_number 19 = .ok (.iconst 1, 1) := by decide +kernel
theorem dX5_number_20 : decode cX5_number 20 = .ok (.goto 4, 3) := by decide +kernel
theorem dX5_number_23 : decode cX5_number 23 = .ok (.iconst 0, 1) := by decide +kernel
theorem dX5_number_24 : decode cX5_number 24 = .ok (.istore_n 3, 1) := by decide +kernel
theorem dX5_number_25 : decode cX5_number 25 = .ok (.aload_n 0, 1) := by decide +kernel
theorem dX5_number_26 : decode cX5_number 26 = .ok (.iload_n 3, 1) := by decide +kernel
theorem dX5_number_27 : decode cX5_number 27 = .ok (.ifCond .eq 7, 3) := by decide +kernel
theorem dX5_number_30 : decode cX5_number 30 = .ok (.iconst 2, 1) := by decide +kernel
theorem dX5_number_31 : decode cX5_number 31 = .ok (.goto 4, 3) := by decide +kernel
theorem dX5_number_34 : decode cX5_number 34 = .ok (.iconst 1, 1) := by decide +kernel
theorem dX5_number_35 : decode cX5_number 35 = .ok (.iload_n 3, 1) := by decide +kernel
theorem dX5_number_36 : decode cX5_number 36 = .ok (.ifCond .eq 15, 3) := by decide +kernel
theorem dX5_number_39 : decode cX5_number 39 = .ok (.aload_n 1, 1) := by decide +kernel
theorem dX5_number_40 : decode cX5_number 40 = .ok (.aload_n 0, 1) := by decide +kernel
theorem dX5_number_41 : decode cX5_number 41 = .ok (.getfield 20, 3) := by decide +kernel
theorem dX5_number_44 : decode cX5_number 44 = .ok (.iload_n 2, 1) := by decide +kernel
theorem dX5_number_45 : decode cX5_number 45 = .ok (.invokestatic 71, 3) := by decide +kernel
theorem dX5_number_48 : decode cX5_number 48 = .ok (.goto 4, 3) := by decide +kernel
theorem dX5_number_51 : decode cX5_number 51 = .ok (.iconst 0, 1) := by decide +kernel
theorem dX5_number_52 : decode cX5_number 52 = .ok (.aload_n 0, 1) := by decide +kernel
theorem dX5_number_53 : decode cX5_number 53 = .ok (.getfield 20, 3) := by decide +kernel
theorem dX5_number_56 : decode cX5_number 56 = .ok (.invokevirtual 56, 3) := by decide +kernel
theorem dX5_number_59 : decode cX5_number 59 = .ok (.aload_n 0, 1) := by decide +kernel
theorem dX5_number_60 : decode cX5_number 60 = .ok (.iload_n 2, 1) := by decide +kernel
theorem dX5_number_61 : decode cX5_number 61 = .ok (.putfield 20, 3) := by decide +kernel
theorem dX5_number_64 : decode cX5_number 64 = .ok (.return_, 1) := by decide +kernel
set_option maxHeartbeats 8000000 in
set_option maxRecDepth 100000 in
theorem a_S_number (l : Launch) (D : va_G) (g : Nat → ClassId)   (sz : Nat) (h : Nat) (si : Nat → Int32) (ta : Nat → Nat) (tr : Nat → Nat) (tf_ : Nat → Nat → Int32) (xa : Nat → Nat) (xr : Nat → Nat) (xf : Nat → Nat → Int32) (hw_t : ∀ k, tr k ≤ tkW_lim k) (hw_x : ∀ k, xr k ≤ txW_lim k) : vz_Mv l D (tyG g) yX5_number cX5_number 4 2 48 0 0 [.ref h, .ref (xa 0)] sz (vz_w [scW h si (ta 0), tkW g ta tr tf_, txW g xa xr xf]) (fun u : (Nat → Int32) × (Nat → Nat) × (Nat → Nat → Int32) => (∀ k, u.2.1 k ≤ tkW_lim k)) (fun u => vz_w [scW h u.1 (ta 0), tkW g ta u.2.1 u.2.2, txW g xa xr xf]) := by
  refine vz_svQ (by decide) (Nat.le_of_ble_eq_true rfl) (fun p e s m args below meth c hx hb hr hml hts hown hlk hin hK hsz A hA H locs hP hD hS ls hl Q hQ => ?_)
  have hl : lv_has ls 4 [(0, .ref h), (1, .ref (xa 0))] := hl
  have J52 : ∀ (x2_52 : Int32), ∀ (x3_52 : Int32), ∀ (y0_52 : Int32), ∀ (y1_52 : Int32), ∀ (si_52 : Nat → Int32), ∀ (tr_52 : Nat → Nat), ∀ (tf_52 : Nat → Nat → Int32), (x3_52 = 0 ∨ x3_52 = 1) → (∀ k, tr_52 k ≤ tkW_lim k) → ∀ (H : Heap) (locs : List Loc) (ls : Array Slot), va_P D vwCl (vz_w [scW h si_52 (ta 0), tkW g ta tr_52 tf_52, txW g xa xr xf]) H → va_D A (vz_w [scW h si_52 (ta 0), tkW g ta tr_52 tf_52, txW g xa xr xf]) → va_S A s.heap H locs → lv_has ls 4 [(0, .ref h), (1, .ref (xa 0)), (2, .int x2_52), (3, .int x3_52)] → W p l e { frames := 2, cells := 0, slots := 0, locals := 48 } s m args below meth c H locs 0 0 Q (F0 m 52 ls [.int y0_52, .int y1_52, .ref h]) := by
    intro x2_52 x3_52 y0_52 y1_52 si_52 tr_52 tf_52 hz_x3_52 hw_t_52 H locs ls hP hD hS hl
    refine lv_aload_n hx hb dX5_number_52 rfl (lv_at hl 0 rfl) ?_
    refine va_get (D := D) (ci := 5) (v := .int (si_52 0)) (C := RX5) (T := TX5) (N := 2) hx hb hts inlX5 hown hK hP 0 rfl rfl 1 (by decide) (hts _ q79) (fun _ h => h) rfl dX5_number_53 ?_
    refine vz_Vv4 (n9 := 3) (bs2 := fun u : (Nat → Nat) × (Nat → Nat → Int32) => [scW h si_52 (ta 0), tkW g ta u.1 u.2, txW g xa xr xf]) (br := [txW g xa xr xf]) (As := [.int y1_52, .int y0_52, .int (si_52 0)]) (rest := []) hx hb hml hown hts hK hA hP hD hS (a_S_note l D g H.size h si_52 ta tr_52 tf_52 y1_52 y0_52 (si_52 0) hw_t_52) kv_X5_56 ⟨Nat.le_of_ble_eq_true rfl, Nat.le_of_ble_eq_true rfl⟩ (q0 := 0) (ci := 5) rfl rfl rfl [0, 1] [2] rfl (by decide) rfl (fun _ => rfl) (fun _ => rfl) hl.1 (Nat.le_of_ble_eq_true rfl) dX5_number_56 ⟨Nat.le_refl _, Nat.le_refl _⟩ rfl (fun ⟨tr_1, tf_2⟩ H locs hw_3 _ hP hD hS => ?_)
    try dsimp only at hw_3
    replace hP : va_P D vwCl (vz_w [scW h si_52 (ta 0), tkW g ta tr_1 tf_2, txW g xa xr xf]) H := hP
    replace hD : va_D A (vz_w [scW h si_52 (ta 0), tkW g ta tr_1 tf_2, txW g xa xr xf]) := hD
    refine lv_aload_n hx hb dX5_number_59 rfl (lv_at hl 0 rfl) ?_
    refine lv_iload_n hx hb dX5_number_60 rfl (lv_at hl 2 rfl) ?_
    refine va_put (D := D) (ci := 5) (v := .int x2_52) (ty := .int) (C := RX5) (T := TX5) (N := 2) hx hb hts inlX5 tyX5 tyX5_ok nmX5 hown hK hP hD hS 0 rfl rfl 1 (by decide) (hts _ q79) (fun _ h => h) rfl (by decide +kernel) rfl rfl (Nat.le_of_ble_eq_true rfl) dX5_number_61 (fun H locs hP hD hS => ?_)
    obtain ⟨si_4, hsi_4, hP, hD⟩ : ∃ si_4 : Nat → Int32, (si_4 = (upd si_52 0 x2_52)) ∧ va_P D vwCl (vz_w [scW h si_4 (ta 0), tkW g ta tr_1 tf_2, txW g xa xr xf]) H ∧ va_D A (vz_w [scW h si_4 (ta 0), tkW g ta tr_1 tf_2, txW g xa xr xf]) := ⟨(upd si_52 0 x2_52), rfl, hP, hD⟩
    rw [hQ]
    exact vz_vret3 hx hb hr hlk hK hP hD hS (si_4, tr_1, tf_2) hw_3 rfl (Nat.le_refl 0) (Nat.le_refl 0) dX5_number_64
  have J35 : ∀ (x2_35 : Int32), ∀ (x3_35 : Int32), ∀ (y0_35 : Int32), ∀ (si_35 : Nat → Int32), ∀ (tr_35 : Nat → Nat), ∀ (tf_35 : Nat → Nat → Int32), (x3_35 = 0 ∨ x3_35 = 1) → (∀ k, tr_35 k ≤ tkW_lim k) → ∀ (H : Heap) (locs : List Loc) (ls : Array Slot), va_P D vwCl (vz_w [scW h si_35 (ta 0), tkW g ta tr_35 tf_35, txW g xa xr xf]) H → va_D A (vz_w [scW h si_35 (ta 0), tkW g ta tr_35 tf_35, txW g xa xr xf]) → va_S A s.heap H locs → lv_has ls 4 [(0, .ref h), (1, .ref (xa 0)), (2, .int x2_35), (3, .int x3_35)] → W p l e { frames := 2, cells := 0, slots := 0, locals := 48 } s m args below meth c H locs 0 0 Q (F0 m 35 ls [.int y0_35, .ref h]) := by
    intro x2_35 x3_35 y0_35 si_35 tr_35 tf_35 hz_x3_35 hw_t_35 H locs ls hP hD hS hl
    refine lv_iload_n hx hb dX5_number_35 rfl (lv_at hl 3 rfl) ?_
    refine lv_if_eq (tgt := 51) hx hb dX5_number_36 (by decide) (fun kc1 => ?_) (fun kc1 => ?_)
    · refine lv_iconst (v := 0) hx hb dX5_number_51 (by decide) ?_
      exact J52 x2_35 x3_35 0 y0_35 si_35 tr_35 tf_35 hz_x3_35 hw_t_35 H locs ls hP hD hS (lv_sub hl [0, 1, 2, 3] rfl)
    · refine lv_aload_n hx hb dX5_number_39 rfl (lv_at hl 1 rfl) ?_
      refine lv_aload_n hx hb dX5_number_40 rfl (lv_at hl 0 rfl) ?_
      refine va_get (D := D) (ci := 5) (v := .int (si_35 0)) (C := RX5) (T := TX5) (N := 2) hx hb hts inlX5 hown hK hP 0 rfl rfl 1 (by decide) (hts _ q79) (fun _ h => h) rfl dX5_number_41 ?_
      refine lv_iload_n hx hb dX5_number_44 rfl (lv_at hl 2 rfl) ?_
      refine vz_Si4 (n9 := 3) (bs2 := fun u : Unit => [scW h si_35 (ta 0), tkW g ta tr_35 tf_35, txW g xa xr xf]) (br := [scW h si_35 (ta 0), tkW g ta tr_35 tf_35]) (As := [.ref (xa 0), .int (si_35 0), .int x2_35]) (rest := [.int y0_35, .ref h]) hx hb hml hown hts hK hA hP hD hS (a_S_valueOf l D g H.size xa xr xf (si_35 0) x2_35 hw_x) ks_X5_71 ⟨Nat.le_of_ble_eq_true rfl, Nat.le_of_ble_eq_true rfl⟩ [2] [0, 1] rfl (by decide) rfl (fun _ => rfl) (fun _ => rfl) hl.1 (Nat.le_of_ble_eq_true rfl) dX5_number_45 ⟨Nat.le_refl _, Nat.le_refl _⟩ rfl (fun v2 _ H locs _ _ hP hD hS => ?_)
      refine lv_goto (tgt := 52) hx hb dX5_number_48 (by decide) ?_
      exact J52 x2_35 x3_35 v2 y0_35 si_35 tr_35 tf_35 hz_x3_35 hw_t_35 H locs ls hP hD hS (lv_sub hl [0, 1, 2, 3] rfl)
  have J24 : ∀ (x2_24 : Int32), ∀ (y0_24 : Int32), ∀ (si_24 : Nat → Int32), ∀ (tr_24 : Nat → Nat), ∀ (tf_24 : Nat → Nat → Int32), (y0_24 = 0 ∨ y0_24 = 1) → (∀ k, tr_24 k ≤ tkW_lim k) → ∀ (H : Heap) (locs : List Loc) (ls : Array Slot), va_P D vwCl (vz_w [scW h si_24 (ta 0), tkW g ta tr_24 tf_24, txW g xa xr xf]) H → va_D A (vz_w [scW h si_24 (ta 0), tkW g ta tr_24 tf_24, txW g xa xr xf]) → va_S A s.heap H locs → lv_has ls 4 [(0, .ref h), (1, .ref (xa 0)), (2, .int x2_24)] → W p l e { frames := 2, cells := 0, slots := 0, locals := 48 } s m args below meth c H locs 0 0 Q (F0 m 24 ls [.int y0_24]) := by
    intro x2_24 y0_24 si_24 tr_24 tf_24 hz_y0_24 hw_t_24 H locs ls hP hD hS hl
    refine lv_istore_n (lv' := [(3, .int y0_24), (0, .ref h), (1, .ref (xa 0)), (2, .int x2_24)]) hx hb dX5_number_24 rfl hl (by decide) rfl (fun ls hl => ?_)
    refine lv_aload_n hx hb dX5_number_25 rfl (lv_at hl 1 rfl) ?_
    refine lv_iload_n hx hb dX5_number_26 rfl (lv_at hl 0 rfl) ?_
    refine lv_if_eq (tgt := 34) hx hb dX5_number_27 (by decide) (fun kc1 => ?_) (fun kc1 => ?_)
    · refine lv_iconst (v := 1) hx hb dX5_number_34 (by decide) ?_
      exact J35 x2_24 y0_24 1 si_24 tr_24 tf_24 hz_y0_24 hw_t_24 H locs ls hP hD hS (lv_sub hl [1, 2, 3, 0] rfl)
    · refine lv_iconst (v := 2) hx hb dX5_number_30 (by decide) ?_
      refine lv_goto (tgt := 35) hx hb dX5_number_31 (by decide) ?_
      exact J35 x2_24 y0_24 2 si_24 tr_24 tf_24 hz_y0_24 hw_t_24 H locs ls hP hD hS (lv_sub hl [1, 2, 3, 0] rfl)
  refine lv_aload_n hx hb dX5_number_0 rfl (lv_at hl 1 rfl) ?_
  refine lv_aload_n hx hb dX5_number_1 rfl (lv_at hl 0 rfl) ?_
  refine va_get (D := D) (ci := 5) (v := .int (si 0)) (C := RX5) (T := TX5) (N := 2) hx hb hts inlX5 hown hK hP 0 rfl rfl 1 (by decide) (hts _ q79) (fun _ h => h) rfl dX5_number_2 ?_
  refine vz_Si4 (n9 := 3) (bs2 := fun u : Unit => [scW h si (ta 0), tkW g ta tr tf_, txW g xa xr xf]) (br := [scW h si (ta 0), tkW g ta tr tf_]) (As := [.ref (xa 0), .int (si 0)]) (rest := []) hx hb hml hown hts hK hA hP hD hS (a_S_endOfDigits l D g H.size xa xr xf (si 0) hw_x) ks_X5_67 ⟨Nat.le_of_ble_eq_true rfl, Nat.le_of_ble_eq_true rfl⟩ [2] [0, 1] rfl (by decide) rfl (fun _ => rfl) (fun _ => rfl) hl.1 (Nat.le_of_ble_eq_true rfl) dX5_number_5 ⟨Nat.le_refl _, Nat.le_refl _⟩ rfl (fun v1 _ H locs _ _ hP hD hS => ?_)
  refine lv_istore_n (lv' := [(2, .int v1), (0, .ref h), (1, .ref (xa 0))]) hx hb dX5_number_8 rfl hl (by decide) rfl (fun ls hl => ?_)
  refine lv_iload_n hx hb dX5_number_9 rfl (lv_at hl 0 rfl) ?_
  refine lv_aload_n hx hb dX5_number_10 rfl (lv_at hl 1 rfl) ?_
  refine va_get (D := D) (ci := 5) (v := .int (si 0)) (C := RX5) (T := TX5) (N := 2) hx hb hts inlX5 hown hK hP 0 rfl rfl 1 (by decide) (hts _ q79) (fun _ h => h) rfl dX5_number_11 ?_
  refine lv_isub hx hb dX5_number_14 ?_
  refine lv_iconst (v := 4) hx hb dX5_number_15 (by decide) ?_
  refine lv_icmp_gt (tgt := 23) hx hb dX5_number_16 (by decide) (fun kc2 => ?_) (fun kc2 => ?_)
  · refine lv_iconst (v := 0) hx hb dX5_number_23 (by decide) ?_
    exact J24 v1 0 si tr tf_ (Or.inl rfl) hw_t H locs ls hP hD hS (lv_sub hl [1, 2, 0] rfl)
  · refine lv_iconst (v := 1) hx hb dX5_number_19 (by decide) ?_
    refine lv_goto (tgt := 24) hx hb dX5_number_20 (by decide) ?_
    exact J24 v1 1 si tr tf_ (Or.inr rfl) hw_t H locs ls hP hD hS (lv_sub hl [1, 2, 0] rfl)
