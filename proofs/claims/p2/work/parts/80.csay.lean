/-- say's answer, and the length of the text behind it -/
def sayR (R : Nat) (n : Int32) : Int32 := if n < 1 ∨ 8 < n then -1 else if 1000 < nI R + n then -2 else nI R + n
def sayN (R : Nat) (n : Int32) : Nat := if n < 1 ∨ 8 < n then R else if 1000 < nI R + n then R else R + n.toNatClampNeg
theorem say_a {R : Nat} {n : Int32} (h : n < 1 ∨ 8 < n) : -1 = sayR R n ∧ R = sayN R n := by
  unfold sayR sayN; rw [if_pos h, if_pos h]; exact ⟨rfl, rfl⟩
theorem say_b {R : Nat} {n : Int32} (h : ¬ (n < 1 ∨ 8 < n)) (h2 : ¬ nI R + n ≤ 1000) : -2 = sayR R n ∧ R = sayN R n := by
  unfold sayR sayN; rw [if_neg h, if_neg h, if_pos (Int32.not_le.mp h2), if_pos (Int32.not_le.mp h2)]; exact ⟨rfl, rfl⟩
theorem say_c {R N : Nat} (h1 : 1 ≤ N) (h8 : N ≤ 8) (h : ¬ (nI N < 1 ∨ 8 < nI N)) (h2 : nI (R + N) ≤ 1000) : nI (R + N) = sayR R (nI N) ∧ R + N = sayN R (nI N) := by
  unfold sayR sayN; rw [if_neg h, if_neg h, nI_add, if_neg (fun z => absurd h2 (Int32.not_le.mpr z)), if_neg (fun z => absurd h2 (Int32.not_le.mpr z)), nI_clamp (by omega)]; exact ⟨rfl, rfl⟩
theorem say_n {n : Int32} (h : ¬ (n < 1 ∨ 8 < n)) : ∃ N : Nat, 1 ≤ N ∧ N ≤ 8 ∧ n = nI N := by
  have h1 : ¬ n < 1 := fun z => h (Or.inl z)
  have h2 : ¬ (8 : Int32) < n := fun z => h (Or.inr z)
  have h0 : ¬ n < 0 := fun z => h1 (Int32.lt_trans z (by decide))
  obtain ⟨k, hk, rfl⟩ := nI_of h0
  refine ⟨k, ?_, ?_, rfl⟩
  · rcases Nat.lt_or_ge k 1 with z | z
    · exact absurd (nI_lt (b := 1) z (by decide)) h1
    · exact z
  · rcases Nat.lt_or_ge 8 k with z | z
    · exact absurd (nI_lt (a := 8) z hk) h2
    · exact z
theorem say_l {T : Nat} (hT : T < 2 ^ 31) (h : nI T ≤ 1000) : T ≤ 1000 := (nI_leI (b := 1000) hT (by decide)).mp h
theorem vz_m1_ (x : Int32) : x + Int32.ofInt (-1) = x - 1 := by
  rw [Int32.sub_eq_add_neg]; rfl
theorem dX9_say_36 : decode cX9_say 36 = .ok (.iload 4, 2) := by decide +kernel
theorem dX9_say_38 : decode cX9_say 38 = .ok (.ifCond .lt 36, 3) := by decide +kernel
theorem dX9_say_41 : decode cX9_say 41 = .ok (.aload_n 0, 1) := by decide +kernel
theorem dX9_say_42 : decode cX9_say 42 = .ok (.getfield 14, 3) := by decide +kernel
theorem dX9_say_45 : decode cX9_say 45 = .ok (.aload_n 0, 1) := by decide +kernel
theorem dX9_say_46 : decode cX9_say 46 = .ok (.getfield 14, 3) := by decide +kernel
theorem dX9_say_49 : decode cX9_say 49 = .ok (.invokevirtual 121, 3) := by decide +kernel
theorem dX9_say_52 : decode cX9_say 52 = .ok (.iconst 0, 1) := by decide +kernel
theorem dX9_say_53 : decode cX9_say 53 = .ok (.lload_n 1, 1) := by decide +kernel
theorem dX9_say_54 : decode cX9_say 54 = .ok (.bipush 8, 2) := by decide +kernel
theorem dX9_say_56 : decode cX9_say 56 = .ok (.iload 4, 2) := by decide +kernel
theorem dX9_say_58 : decode cX9_say 58 = .ok (.imul, 1) := by decide +kernel
theorem dX9_say_59 : decode cX9_say 59 = .ok (.lushr, 1) := by decide +kernel
theorem dX9_say_60 : decode cX9_say 60 = .ok (.l2i, 1) := by decide +kernel
theorem dX9_say_61 : decode cX9_say 61 = .ok (.sipush 255, 3) := by decide +kernel
theorem dX9_say_64 : decode cX9_say 64 = .ok (.iand, 1) := by decide +kernel
theorem dX9_say_65 : decode cX9_say 65 = .ok (.invokevirtual 125, 3) := by decide +kernel
theorem dX9_say_68 : decode cX9_say 68 = .ok (.iinc 4 (-1), 3) := by decide +kernel
theorem dX9_say_71 : decode cX9_say 71 = .ok (.goto (-35), 3) := by decide +kernel
set_option maxHeartbeats 4000000 in
set_option maxRecDepth 100000 in
theorem lp_A_say {p : Program} {l : Launch} {e : Env} {Rm : Room} {s : State} {m : MethodId} {args : Array Value} {below : List Frame} {meth : Method} {c : Code} {Q : State → Prop} {A : Nat → Prop} {D : va_G} {g : Nat → ClassId} {H0 : Heap} {cells slots : Nat} (hx : p.tables.exec = Jvm.exec) (hb : c.code = cX9_say) (hml : c.maxLocals = 5) (hown : s.vm.findClass RX9 = some m.cls) (hts : ∀ w ∈ wsL_law, w.before args s = true) (hK : va_K D vwCl (tyG g) s) (hA : ∀ q : Nat, H0.size ≤ q → A q) (hRf : 1 ≤ Rm.frames) (hRl : 24 ≤ Rm.locals) (hcc : cells ≤ Rm.cells) (hss : slots ≤ Rm.slots) {h tt xsc xrd xco xwo xwk xmc xpl xal xou xcr xtr xt1 xt2 xpr xsp : Nat} {xa : Nat → Nat} {ai : Nat → Int32} {b : Int64} (ht : tt ≤ 1000)
    (kk : ∀ (f : Nat → Int32) (H : Heap) (locs : List Loc) (ls : Array Slot), va_P D vwCl [(h, .inr (9, [.ref (xa 0), .ref xsc, .ref xrd, .ref xco, .ref xwo, .ref xwk, .ref xmc, .ref xpl, .ref xal, .ref xou, .ref xcr, .ref xtr, .ref xt1, .ref xt2, .ref xpr, .ref xsp, .int (ai 0)])), tT (xa 0) (xa 1) (nI 1) (nI 1000) (nI tt), tA g (xa 1) 1000 f] H → va_D A [(h, .inr (9, [.ref (xa 0), .ref xsc, .ref xrd, .ref xco, .ref xwo, .ref xwk, .ref xmc, .ref xpl, .ref xal, .ref xou, .ref xcr, .ref xtr, .ref xt1, .ref xt2, .ref xpr, .ref xsp, .int (ai 0)])), tT (xa 0) (xa 1) (nI 1) (nI 1000) (nI tt), tA g (xa 1) 1000 f] → va_S A H0 H locs → lv_has ls 5 [(0, .ref h), (1, .long b), (4, .int (nI 0 - 1))] → W p l e Rm s m args below meth c H locs cells slots Q (F0 m 74 ls [])) :
    ∀ (k rr : Nat), rr + k = tt → ∀ (f : Nat → Int32) (H : Heap) (locs : List Loc) (ls : Array Slot), va_P D vwCl [(h, .inr (9, [.ref (xa 0), .ref xsc, .ref xrd, .ref xco, .ref xwo, .ref xwk, .ref xmc, .ref xpl, .ref xal, .ref xou, .ref xcr, .ref xtr, .ref xt1, .ref xt2, .ref xpr, .ref xsp, .int (ai 0)])), tT (xa 0) (xa 1) (nI 1) (nI 1000) (nI rr), tA g (xa 1) 1000 f] H → va_D A [(h, .inr (9, [.ref (xa 0), .ref xsc, .ref xrd, .ref xco, .ref xwo, .ref xwk, .ref xmc, .ref xpl, .ref xal, .ref xou, .ref xcr, .ref xtr, .ref xt1, .ref xt2, .ref xpr, .ref xsp, .int (ai 0)])), tT (xa 0) (xa 1) (nI 1) (nI 1000) (nI rr), tA g (xa 1) 1000 f] → va_S A H0 H locs → lv_has ls 5 [(0, .ref h), (1, .long b), (4, .int (nI k - 1))] → W p l e Rm s m args below meth c H locs cells slots Q (F0 m 36 ls []) := by
  intro k
  induction k with
  | zero =>
    intro rr hrr f H locs ls hP hD hS hl
    obtain rfl : rr = tt := by omega
    refine lv_iload hx hb dX9_say_36 (lv_at hl 2 rfl) ?_
    refine lv_if_lt (tgt := 74) hx hb dX9_say_38 (by decide) (fun _ => ?_) (fun h9 => absurd (by decide) h9)
    exact kk f H locs ls hP hD hS hl
  | succ k ih =>
    intro rr hrr f H locs ls hP hD hS hl
    rw [nI_pred] at hl
    refine lv_iload hx hb dX9_say_36 (lv_at hl 2 rfl) ?_
    refine lv_if_lt (tgt := 74) hx hb dX9_say_38 (by decide) (fun h9 => absurd h9 (nI_pos (by omega))) (fun _ => ?_)
    refine lv_aload_n hx hb dX9_say_41 rfl (lv_at hl 0 rfl) ?_
    refine va_get (D := D) (ci := 9) (v := .ref (xa 0)) (C := RX9) (T := TX9) (N := 17) hx hb hts inlX9 hown hK hP 0 rfl rfl 0 (by decide) (hts _ q16) (fun _ h => h) rfl dX9_say_42 ?_
    refine lv_aload_n hx hb dX9_say_45 rfl (lv_at hl 0 rfl) ?_
    refine va_get (D := D) (ci := 9) (v := .ref (xa 0)) (C := RX9) (T := TX9) (N := 17) hx hb hts inlX9 hown hK hP 0 rfl rfl 0 (by decide) (hts _ q16) (fun _ h => h) rfl dX9_say_46 ?_
    refine vz_Vi (wr := [(h, .inr (9, [.ref (xa 0), .ref xsc, .ref xrd, .ref xco, .ref xwo, .ref xwk, .ref xmc, .ref xpl, .ref xal, .ref xou, .ref xcr, .ref xtr, .ref xt1, .ref xt2, .ref xpr, .ref xsp, .int (ai 0)]))]) (As := []) (rest := [.ref (xa 0)]) hx hb hml hown hts hK hA hP hD hS (c_T_add l D g (xa 0) (xa 1) H.size 1 1000 rr 1000 f ⟨rfl, by decide, by decide, by decide, by decide, by omega⟩) kv_X9_121 (⟨by omega, by omega⟩) (q0 := 1) (ci := 6) rfl rfl rfl [1, 2] [0] rfl rfl (by decide) hl.1 (Nat.le_of_ble_eq_true rfl) dX9_say_49 (⟨by omega, by omega⟩) rfl (fun r ⟨uR, uf⟩ H locs ea _ hP hD hS => ?_)
    obtain ⟨-, ea1, ea2, ea3⟩ | ⟨h9, -⟩ := ea
    case inr => exact absurd h9 (by omega)
    dsimp only at ea2 ea3 hP hD
    subst ea1 ea2 ea3
    have hP : va_P D vwCl [(h, .inr (9, [.ref (xa 0), .ref xsc, .ref xrd, .ref xco, .ref xwo, .ref xwk, .ref xmc, .ref xpl, .ref xal, .ref xou, .ref xcr, .ref xtr, .ref xt1, .ref xt2, .ref xpr, .ref xsp, .int (ai 0)])), tT (xa 0) (xa 1) (nI 1) (nI 1000) (nI (rr + 1)), tA g (xa 1) 1000 (tf f (rr * 1) ((rr + 1) * 1) (-9))] H := hP
    have hD : va_D A [(h, .inr (9, [.ref (xa 0), .ref xsc, .ref xrd, .ref xco, .ref xwo, .ref xwk, .ref xmc, .ref xpl, .ref xal, .ref xou, .ref xcr, .ref xtr, .ref xt1, .ref xt2, .ref xpr, .ref xsp, .int (ai 0)])), tT (xa 0) (xa 1) (nI 1) (nI 1000) (nI (rr + 1)), tA g (xa 1) 1000 (tf f (rr * 1) ((rr + 1) * 1) (-9))] := hD
    refine lv_iconst (v := 0) hx hb dX9_say_52 (by decide) ?_
    refine lv_lload_n hx hb dX9_say_53 rfl (lv_at hl 1 rfl) ?_
    refine lv_bipush (v := 8) hx hb dX9_say_54 (by decide) ?_
    refine lv_iload hx hb dX9_say_56 (lv_at hl 2 rfl) ?_
    refine lv_imul hx hb dX9_say_58 ?_
    refine lv_lushr (v := ((Int64.toUInt64 b >>> (Int64.toUInt64 (Int32.toInt64 (8 * (nI k))) &&& Int64.toUInt64 63)).toInt64)) hx hb dX9_say_59 (rfl) ?_
    refine lv_l2i (v := (Int64.toInt32 ((Int64.toUInt64 b >>> (Int64.toUInt64 (Int32.toInt64 (8 * (nI k))) &&& Int64.toUInt64 63)).toInt64))) hx hb dX9_say_60 (rfl) ?_
    refine lv_sipush (v := 255) hx hb dX9_say_61 (by decide) ?_
    refine lv_iand hx hb dX9_say_64 ?_
    refine vz_Vv (wr := [(h, .inr (9, [.ref (xa 0), .ref xsc, .ref xrd, .ref xco, .ref xwo, .ref xwk, .ref xmc, .ref xpl, .ref xal, .ref xou, .ref xcr, .ref xtr, .ref xt1, .ref xt2, .ref xpr, .ref xsp, .int (ai 0)]))]) (As := [.int (nI rr), .int 0, .int ((Int64.toInt32 ((Int64.toUInt64 b >>> (Int64.toUInt64 (Int32.toInt64 (8 * (nI k))) &&& Int64.toUInt64 63)).toInt64)) &&& 255)]) (rest := []) hx hb hml hown hts hK hA hP hD hS (c_T_set l D g (xa 0) (xa 1) H.size 1 1000 (rr + 1) 1000 (tf f (rr * 1) ((rr + 1) * 1) (-9)) (nI rr) 0 ((Int64.toInt32 ((Int64.toUInt64 b >>> (Int64.toUInt64 (Int32.toInt64 (8 * (nI k))) &&& Int64.toUInt64 63)).toInt64)) &&& 255) ⟨rfl, by decide, by decide, by decide, by decide, by omega⟩) kv_X9_125 (⟨by omega, by omega⟩) (q0 := 1) (ci := 6) rfl rfl rfl [1, 2] [0] rfl rfl (by decide) hl.1 (Nat.le_of_ble_eq_true rfl) dX9_say_65 (⟨by omega, by omega⟩) rfl (fun f2 H locs _ _ hP hD hS => ?_)
    have hP : va_P D vwCl [(h, .inr (9, [.ref (xa 0), .ref xsc, .ref xrd, .ref xco, .ref xwo, .ref xwk, .ref xmc, .ref xpl, .ref xal, .ref xou, .ref xcr, .ref xtr, .ref xt1, .ref xt2, .ref xpr, .ref xsp, .int (ai 0)])), tT (xa 0) (xa 1) (nI 1) (nI 1000) (nI (rr + 1)), tA g (xa 1) 1000 f2] H := hP
    have hD : va_D A [(h, .inr (9, [.ref (xa 0), .ref xsc, .ref xrd, .ref xco, .ref xwo, .ref xwk, .ref xmc, .ref xpl, .ref xal, .ref xou, .ref xcr, .ref xtr, .ref xt1, .ref xt2, .ref xpr, .ref xsp, .int (ai 0)])), tT (xa 0) (xa 1) (nI 1) (nI 1000) (nI (rr + 1)), tA g (xa 1) 1000 f2] := hD
    refine lv_iinc (v := (nI k - 1)) (lv' := [(4, .int (nI k - 1)), (0, .ref h), (1, .long b)]) hx hb dX9_say_68 hl (k := 2) rfl (vz_m1_ _) (by decide) rfl (fun ls hl => ?_)
    refine lv_goto (tgt := 36) hx hb dX9_say_71 (by decide) ?_
    exact ih (rr + 1) (by omega) _ H locs ls hP hD hS (lv_sub hl [1, 2, 0] rfl)
theorem dX9_say_0 : decode cX9_say 0 = .ok (.iload_n 3, 1) := by decide +kernel
theorem dX9_say_1 : decode cX9_say 1 = .ok (.iconst 1, 1) := by decide +kernel
theorem dX9_say_2 : decode cX9_say 2 = .ok (.if_icmp .lt 9, 3) := by decide +kernel
theorem dX9_say_5 : decode cX9_say 5 = .ok (.iload_n 3, 1) := by decide +kernel
theorem dX9_say_6 : decode cX9_say 6 = .ok (.bipush 8, 2) := by decide +kernel
theorem dX9_say_8 : decode cX9_say 8 = .ok (.if_icmp .le 5, 3) := by decide +kernel
theorem dX9_say_11 : decode cX9_say 11 = .ok (.iconst (-1), 1) := by decide +kernel
theorem dX9_say_12 : decode cX9_say 12 = .ok (.ireturn, 1) := by decide +kernel
theorem dX9_say_13 : decode cX9_say 13 = .ok (.aload_n 0, 1) := by decide +kernel
theorem dX9_say_14 : decode cX9_say 14 = .ok (.getfield 14, 3) := by decide +kernel
theorem dX9_say_17 : decode cX9_say 17 = .ok (.getfield 118, 3) := by decide +kernel
theorem dX9_say_20 : decode cX9_say 20 = .ok (.iload_n 3, 1) := by decide +kernel
theorem dX9_say_21 : decode cX9_say 21 = .ok (.iadd, 1) := by decide +kernel
theorem dX9_say_22 : decode cX9_say 22 = .ok (.sipush 1000, 3) := by decide +kernel
theorem dX9_say_25 : decode cX9_say 25 = .ok (.if_icmp .le 6, 3) := by decide +kernel
theorem dX9_say_28 : decode cX9_say 28 = .ok (.bipush (-2), 2) := by decide +kernel
theorem dX9_say_30 : decode cX9_say 30 = .ok (.ireturn, 1) := by decide +kernel
theorem dX9_say_31 : decode cX9_say 31 = .ok (.iload_n 3, 1) := by decide +kernel
theorem dX9_say_32 : decode cX9_say 32 = .ok (.iconst 1, 1) := by decide +kernel
theorem dX9_say_33 : decode cX9_say 33 = .ok (.isub, 1) := by decide +kernel
theorem dX9_say_34 : decode cX9_say 34 = .ok (.istore 4, 2) := by decide +kernel
theorem dX9_say_74 : decode cX9_say 74 = .ok (.aload_n 0, 1) := by decide +kernel
theorem dX9_say_75 : decode cX9_say 75 = .ok (.getfield 14, 3) := by decide +kernel
theorem dX9_say_78 : decode cX9_say 78 = .ok (.getfield 118, 3) := by decide +kernel
theorem dX9_say_81 : decode cX9_say 81 = .ok (.ireturn, 1) := by decide +kernel
set_option maxHeartbeats 4000000 in
set_option maxRecDepth 100000 in
theorem c_A_say (l : Launch) (D : va_G) (g : Nat → ClassId) (h sz R xsc xrd xco xwo xwk xmc xpl xal xou xcr xtr xt1 xt2 xpr xsp : Nat) (xa : Nat → Nat) (ai : Nat → Int32) (b : Int64) (n : Int32) (f : Nat → Int32) (hR : R ≤ 1000) : vz_Mi l D (tyG g) yX9_say cX9_say 5 1 24 0 0 .int [.ref h, .long b, .int n] sz [(h, .inr (9, [.ref (xa 0), .ref xsc, .ref xrd, .ref xco, .ref xwo, .ref xwk, .ref xmc, .ref xpl, .ref xal, .ref xou, .ref xcr, .ref xtr, .ref xt1, .ref xt2, .ref xpr, .ref xsp, .int (ai 0)])), tT (xa 0) (xa 1) (nI 1) (nI 1000) (nI R), tA g (xa 1) 1000 f] (fun r (u : Nat × (Nat → Int32)) => r = sayR R n ∧ u.1 = sayN R n) (fun u => [(h, .inr (9, [.ref (xa 0), .ref xsc, .ref xrd, .ref xco, .ref xwo, .ref xwk, .ref xmc, .ref xpl, .ref xal, .ref xou, .ref xcr, .ref xtr, .ref xt1, .ref xt2, .ref xpr, .ref xsp, .int (ai 0)])), tT (xa 0) (xa 1) (nI 1) (nI 1000) (nI u.1), tA g (xa 1) 1000 u.2]) := by
  refine vz_si (by decide) (Nat.le_of_ble_eq_true rfl) (fun p e s m args below meth c hx hb hr hml hts hown hlk hin hK hsz A hA H locs hP hD hS ls hl => ?_)
  have hl : lv_has ls 5 [(0, .ref h), (1, .long b), (3, .int n)] := hl
  by_cases ka : n < 1 ∨ 8 < n
  · refine lv_iload_n hx hb dX9_say_0 rfl (lv_at hl 2 rfl) ?_
    refine lv_iconst (v := 1) hx hb dX9_say_1 (by decide) ?_
    refine lv_icmp_lt (tgt := 11) hx hb dX9_say_2 (by decide) (fun k1 => ?_) (fun k1 => ?_)
    · refine lv_iconst (v := (-1)) hx hb dX9_say_11 (by decide) ?_
      exact vz_iret hx hb hr hlk hK hP hD hS ((R, f)) (say_a ka) [0, 1, 2] rfl (by decide) (Nat.le_refl 0) (Nat.le_refl 0) dX9_say_12
    · refine lv_iload_n hx hb dX9_say_5 rfl (lv_at hl 2 rfl) ?_
      refine lv_bipush (v := 8) hx hb dX9_say_6 (by decide) ?_
      refine lv_icmp_le (tgt := 13) hx hb dX9_say_8 (by decide) (fun h9 => absurd h9 (fun z => absurd ka (fun y => y.elim k1 (fun y2 => absurd z (Int32.not_le.mpr y2))))) (fun _ => ?_)
      refine lv_iconst (v := (-1)) hx hb dX9_say_11 (by decide) ?_
      exact vz_iret hx hb hr hlk hK hP hD hS ((R, f)) (say_a ka) [0, 1, 2] rfl (by decide) (Nat.le_refl 0) (Nat.le_refl 0) dX9_say_12
  · obtain ⟨N, hN1, hN8, rfl⟩ := say_n ka
    refine lv_iload_n hx hb dX9_say_0 rfl (lv_at hl 2 rfl) ?_
    refine lv_iconst (v := 1) hx hb dX9_say_1 (by decide) ?_
    refine lv_icmp_lt (tgt := 11) hx hb dX9_say_2 (by decide) (fun h9 => absurd h9 (fun z => ka (Or.inl z))) (fun _ => ?_)
    refine lv_iload_n hx hb dX9_say_5 rfl (lv_at hl 2 rfl) ?_
    refine lv_bipush (v := 8) hx hb dX9_say_6 (by decide) ?_
    refine lv_icmp_le (tgt := 13) hx hb dX9_say_8 (by decide) (fun _ => ?_) (fun h9 => absurd (Int32.not_lt.mp (fun z => ka (Or.inr z))) h9)
    refine lv_aload_n hx hb dX9_say_13 rfl (lv_at hl 0 rfl) ?_
    refine va_get (D := D) (ci := 9) (v := .ref (xa 0)) (C := RX9) (T := TX9) (N := 17) hx hb hts inlX9 hown hK hP 0 rfl rfl 0 (by decide) (hts _ q16) (fun _ h => h) rfl dX9_say_14 ?_
    refine va_get (D := D) (ci := 6) (v := .int (nI R)) (C := RX6) (T := TX6) (N := 4) hx hb hts inlX6 hown hK hP 1 rfl rfl 3 (by decide) (hts _ q259) (fun _ h => h) rfl dX9_say_17 ?_
    refine lv_iload_n hx hb dX9_say_20 rfl (lv_at hl 2 rfl) ?_
    refine lv_iadd hx hb dX9_say_21 ?_
    refine lv_topi (nm_r (e' := nI (R + N)) (nI_add R N) ?_)
    refine lv_sipush (v := 1000) hx hb dX9_say_22 (by decide) ?_
    refine lv_icmp_le (tgt := 31) hx hb dX9_say_25 (by decide) (fun k3 => ?_) (fun k3 => ?_)
    · have hT := say_l (by omega) k3
      refine lv_iload_n hx hb dX9_say_31 rfl (lv_at hl 2 rfl) ?_
      refine lv_iconst (v := 1) hx hb dX9_say_32 (by decide) ?_
      refine lv_isub hx hb dX9_say_33 ?_
      refine lv_istore (lv' := [(4, .int ((nI N) - 1)), (0, .ref h), (1, .long b), (3, .int (nI N))]) hx hb dX9_say_34 hl (by decide) rfl (fun ls hl => ?_)
      refine lp_A_say hx hb hml hown hts hK hA (Nat.le_of_ble_eq_true rfl) (Nat.le_of_ble_eq_true rfl) (Nat.le_refl 0) (Nat.le_refl 0) hT ?_ N R rfl f H locs ls hP hD hS (lv_sub hl [1, 2, 0] rfl)
      intro f2 H locs ls hP hD hS hl
      refine lv_aload_n hx hb dX9_say_74 rfl (lv_at hl 0 rfl) ?_
      refine va_get (D := D) (ci := 9) (v := .ref (xa 0)) (C := RX9) (T := TX9) (N := 17) hx hb hts inlX9 hown hK hP 0 rfl rfl 0 (by decide) (hts _ q16) (fun _ h => h) rfl dX9_say_75 ?_
      refine va_get (D := D) (ci := 6) (v := .int (nI (R + N))) (C := RX6) (T := TX6) (N := 4) hx hb hts inlX6 hown hK hP 1 rfl rfl 3 (by decide) (hts _ q259) (fun _ h => h) rfl dX9_say_78 ?_
      exact vz_iret hx hb hr hlk hK hP hD hS ((R + N, f2)) (say_c hN1 hN8 ka k3) [0, 1, 2] rfl (by decide) (Nat.le_refl 0) (Nat.le_refl 0) dX9_say_81
    · refine lv_bipush (v := (-2)) hx hb dX9_say_28 (by decide) ?_
      exact vz_iret hx hb hr hlk hK hP hD hS ((R, f)) (say_b ka (by rw [nI_add]; exact k3)) [0, 1, 2] rfl (by decide) (Nat.le_refl 0) (Nat.le_refl 0) dX9_say_30
theorem a_X_say (l : Launch) (D : va_G) (g : Nat → ClassId) (sz h : Nat) (ai : Nat → Int32) (xsc xrd xco xwo xwk xmc xpl xal xou xcr xtr xt1 xt2 xpr xsp : Nat) (xa : Nat → Nat) (xr : Nat → Nat) (xf : Nat → Nat → Int32) (b : Int64) (n : Int32) (hR : xr 0 ≤ 1000) : vz_Mi l D (tyG g) yX9_say cX9_say 5 1 24 0 0 .int [.ref h, .long b, .int n] sz (vz_w [maW h ai (xa 0) xsc xrd xco xwo xwk xmc xpl xal xou xcr xtr xt1 xt2 xpr xsp, txW g xa xr xf]) (fun r (u : Nat × (Nat → Int32)) => r = sayR (xr 0) n ∧ u.1 = sayN (xr 0) n) (fun u => vz_w [maW h ai (xa 0) xsc xrd xco xwo xwk xmc xpl xal xou xcr xtr xt1 xt2 xpr xsp, txW g xa (fun _ => u.1) (fun _ => u.2)]) := c_A_say l D g h sz (xr 0) xsc xrd xco xwo xwk xmc xpl xal xou xcr xtr xt1 xt2 xpr xsp xa ai b n (xf 0) hR
