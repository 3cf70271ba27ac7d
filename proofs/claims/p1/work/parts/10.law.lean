-- end of PART A; then your names; then what follows =====
/-! THE CLAIM OUT OF ONE WALK OF THE LAW'S BODY. Your part is whole_start (and what it stands on); all else here is the same for every law, but numbers. -/
def R_law : String := "WaysAtlasLaw"
def lw_P (b : Addr) (xs : List Int32) (args : Array Value) (s : State) : Prop := args = #[.ref b] ∧ s.IntsAt b xs ∧ xs.length ≤ 6 ∧ (Jvm.Cond.and given_1 narrow_1).before args s = true
def lw_Q (_ : Array Value) (s : State) (o : Outcome) (t : State) : Prop := o = .returned (some (.int 1)) ∧ Framed s o t [] 600000 7302250
def lw_Z (below : List Frame) (a : Array Value) (s : State) : State → Prop := fun t => ∃ o, t.status = .running ∧ Ended t below o ∧ lw_Q a s o t
/-- the law's own end, with 1 on the stack, nothing written that was there before, its room as the claim has it -/
theorem lw_ret {p : Program} {l : Launch} {e : Env} {s : State} {m : MethodId} {below : List Frame} {meth : Method} {c : Code} {b : Nat} (hx : p.tables.exec = Jvm.exec) (hb : c.code = code) (hr : meth.sig.returnType = ret) (hlocks : meth.locks = false) {pc : Nat} {H : Heap} {ls : Array Slot} (hdg : decode code pc = .ok (.ireturn, 1)) : W p l e room_1 s m #[Value.ref b] below meth c H [] 600000 7302250 (lw_Z below #[Value.ref b] s) (F0 m pc ls [.int 1]) := by
  intro T hT X
  obtain ⟨fs, hret, hrun, hended, hW, hframe⟩ := X.leave (v := some (.int 1)) (hlocks := hlocks) (fun h => by rw [hr] at h; cases h)
  have hmeth' : T.vm.method? m = some meth := X.method'
  refine ⟨T.setFrames fs, ?_, .returned (some (.int 1)), hrun, hended, rfl, ⟨_, rfl⟩, hW, hframe⟩
  jvm_step X.here [X.here.top, hx, hb, hdg, hmeth', hr, ret, narrow_b1]
  (try refine ⟨rfl, ?_⟩); (try refine ⟨rfl, ?_⟩)
  first | (intro acts; rw [hret _ acts rfl rfl rfl]) | rw [hret _ _ rfl rfl rfl]
  exact Steps.refl _
/-- what holds at the law's entry: the machine, the code, the tables' words (any of lw_tbl by 'hts w (by decide +kernel)'), the script of L ints xs at the cell b, what the Statement gives of the start (any of its parts by flat_of_before) -/
def lw_At (p : Program) (s : State) (m : MethodId) (meth : Method) (c : Code) (b L : Nat) (xs : Nat → Int32) : Prop :=
  p.tables.exec = Jvm.exec ∧ c.code = code ∧ meth.sig.returnType = ret ∧ c.maxLocals = 4 ∧ s.vm.findClass R_law = some m.cls ∧ (∀ w ∈ lw_tbl, w.before #[Value.ref b] s = true) ∧ va_X b L xs s s.heap ∧ b < s.heap.size ∧ meth.locks = false ∧ (Jvm.Cond.and given_1 narrow_1).before #[Value.ref b] s = true
theorem q6 : Cond.constantLong RL 13 (4294967295) ∈ wsL_law := mT_9 (List.mem_of_getElem? (i := 95) rfl) rfl
theorem q255 : Cond.methodLink RL 15 yX9_say ∈ wsL_law := mT_2 (List.mem_of_getElem? (i := 190) rfl) rfl
theorem q256 : Cond.instanceMethod yX9_say ∈ wsL_law := mT_2 (List.mem_of_getElem? (i := 191) rfl) rfl
theorem q257 : Cond.selects RX9 yX9_say yX9_say ∈ wsL_law := mT_2 (List.mem_of_getElem? (i := 192) rfl) rfl
theorem q258 : Cond.code yX9_say cX9_say 5 (some .int) ∈ wsL_law := mT_2 (List.mem_of_getElem? (i := 193) rfl) rfl
theorem kv_L_15 : vz_cv RL 15 yX9_say cX9_say 5 (some .int) 2 := ⟨q255, q256, q257, q2, q258, by decide +kernel⟩
theorem q268 : Cond.methodLink RL 19 yX10_say ∈ wsL_law := mT_7 (List.mem_of_getElem? (i := 162) rfl) rfl
theorem q269 : Cond.instanceMethod yX10_say ∈ wsL_law := mT_7 (List.mem_of_getElem? (i := 163) rfl) rfl
theorem q270 : Cond.selects RX10 yX10_say yX10_say ∈ wsL_law := mT_7 (List.mem_of_getElem? (i := 164) rfl) rfl
theorem q271 : Cond.code yX10_say cX10_say 5 (some .int) ∈ wsL_law := mT_7 (List.mem_of_getElem? (i := 165) rfl) rfl
theorem kv_L_19 : vz_cv RL 19 yX10_say cX10_say 5 (some .int) 2 := ⟨q268, q269, q270, q5, q271, by decide +kernel⟩
theorem dL_law_18 : decode cL_law 18 = .ok (.iload_n 3, 1) := by decide +kernel
theorem dL_law_19 : decode cL_law 19 = .ok (.aload_n 0, 1) := by decide +kernel
theorem dL_law_20 : decode cL_law 20 = .ok (.arraylength, 1) := by decide +kernel
theorem dL_law_21 : decode cL_law 21 = .ok (.bipush 6, 2) := by decide +kernel
theorem dL_law_23 : decode cL_law 23 = .ok (.isub, 1) := by decide +kernel
theorem dL_law_24 : decode cL_law 24 = .ok (.if_icmp .gt 714, 3) := by decide +kernel
theorem dL_law_112 : decode cL_law 112 = .ok (.aload_n 1, 1) := by decide +kernel
theorem dL_law_113 : decode cL_law 113 = .ok (.aload_n 0, 1) := by decide +kernel
theorem dL_law_114 : decode cL_law 114 = .ok (.iload_n 3, 1) := by decide +kernel
theorem dL_law_115 : decode cL_law 115 = .ok (.iconst 1, 1) := by decide +kernel
theorem dL_law_116 : decode cL_law 116 = .ok (.iadd, 1) := by decide +kernel
theorem dL_law_117 : decode cL_law 117 = .ok (.iaload, 1) := by decide +kernel
theorem dL_law_118 : decode cL_law 118 = .ok (.i2l, 1) := by decide +kernel
theorem dL_law_119 : decode cL_law 119 = .ok (.bipush 32, 2) := by decide +kernel
theorem dL_law_121 : decode cL_law 121 = .ok (.lshl, 1) := by decide +kernel
theorem dL_law_122 : decode cL_law 122 = .ok (.aload_n 0, 1) := by decide +kernel
theorem dL_law_123 : decode cL_law 123 = .ok (.iload_n 3, 1) := by decide +kernel
theorem dL_law_124 : decode cL_law 124 = .ok (.iconst 2, 1) := by decide +kernel
theorem dL_law_125 : decode cL_law 125 = .ok (.iadd, 1) := by decide +kernel
theorem dL_law_126 : decode cL_law 126 = .ok (.iaload, 1) := by decide +kernel
theorem dL_law_127 : decode cL_law 127 = .ok (.i2l, 1) := by decide +kernel
theorem dL_law_128 : decode cL_law 128 = .ok (.ldc2_w 13, 3) := by decide +kernel
theorem dL_law_131 : decode cL_law 131 = .ok (.land, 1) := by decide +kernel
theorem dL_law_132 : decode cL_law 132 = .ok (.lor, 1) := by decide +kernel
theorem dL_law_133 : decode cL_law 133 = .ok (.aload_n 0, 1) := by decide +kernel
theorem dL_law_134 : decode cL_law 134 = .ok (.iload_n 3, 1) := by decide +kernel
theorem dL_law_135 : decode cL_law 135 = .ok (.iconst 3, 1) := by decide +kernel
theorem dL_law_136 : decode cL_law 136 = .ok (.iadd, 1) := by decide +kernel
theorem dL_law_137 : decode cL_law 137 = .ok (.iaload, 1) := by decide +kernel
theorem dL_law_138 : decode cL_law 138 = .ok (.invokevirtual 15, 3) := by decide +kernel
theorem dL_law_141 : decode cL_law 141 = .ok (.aload_n 2, 1) := by decide +kernel
theorem dL_law_142 : decode cL_law 142 = .ok (.aload_n 0, 1) := by decide +kernel
theorem dL_law_143 : decode cL_law 143 = .ok (.iload_n 3, 1) := by decide +kernel
theorem dL_law_144 : decode cL_law 144 = .ok (.iconst 1, 1) := by decide +kernel
theorem dL_law_145 : decode cL_law 145 = .ok (.iadd, 1) := by decide +kernel
theorem dL_law_146 : decode cL_law 146 = .ok (.iaload, 1) := by decide +kernel
theorem dL_law_147 : decode cL_law 147 = .ok (.i2l, 1) := by decide +kernel
theorem dL_law_148 : decode cL_law 148 = .ok (.bipush 32, 2) := by decide +kernel
theorem dL_law_150 : decode cL_law 150 = .ok (.lshl, 1) := by decide +kernel
theorem dL_law_151 : decode cL_law 151 = .ok (.aload_n 0, 1) := by decide +kernel
theorem dL_law_152 : decode cL_law 152 = .ok (.iload_n 3, 1) := by decide +kernel
theorem dL_law_153 : decode cL_law 153 = .ok (.iconst 2, 1) := by decide +kernel
theorem dL_law_154 : decode cL_law 154 = .ok (.iadd, 1) := by decide +kernel
theorem dL_law_155 : decode cL_law 155 = .ok (.iaload, 1) := by decide +kernel
theorem dL_law_156 : decode cL_law 156 = .ok (.i2l, 1) := by decide +kernel
theorem dL_law_157 : decode cL_law 157 = .ok (.ldc2_w 13, 3) := by decide +kernel
theorem dL_law_160 : decode cL_law 160 = .ok (.land, 1) := by decide +kernel
theorem dL_law_161 : decode cL_law 161 = .ok (.lor, 1) := by decide +kernel
theorem dL_law_162 : decode cL_law 162 = .ok (.aload_n 0, 1) := by decide +kernel
theorem dL_law_163 : decode cL_law 163 = .ok (.iload_n 3, 1) := by decide +kernel
theorem dL_law_164 : decode cL_law 164 = .ok (.iconst 3, 1) := by decide +kernel
theorem dL_law_165 : decode cL_law 165 = .ok (.iadd, 1) := by decide +kernel
theorem dL_law_166 : decode cL_law 166 = .ok (.iaload, 1) := by decide +kernel
theorem dL_law_167 : decode cL_law 167 = .ok (.invokevirtual 19, 3) := by decide +kernel
theorem dL_law_170 : decode cL_law 170 = .ok (.if_icmp .eq 562, 3) := by decide +kernel
theorem dL_law_732 : decode cL_law 732 = .ok (.iinc 3 6, 3) := by decide +kernel
theorem dL_law_735 : decode cL_law 735 = .ok (.goto (-717), 3) := by decide +kernel
theorem dL_law_738 : decode cL_law 738 = .ok (.iconst 1, 1) := by decide +kernel
theorem dL_law_739 : decode cL_law 739 = .ok (.ireturn, 1) := by decide +kernel
set_option maxHeartbeats 4000000 in
set_option maxRecDepth 100000 in
theorem law_op0 {p : Program} {e : Env} {s : State} {m : MethodId} {below : List Frame} {meth : Method} {c : Code} {l : Launch} {b : Nat} {xs : Nat → Int32} (C0 : lw_At p s m meth c b 6 xs) {D : va_G} {g : Nat → ClassId} {A : Nat → Prop} (hAe : ∀ q, A q → s.heap.size ≤ q) (hA : ∀ q : Nat, s.heap.size ≤ q → A q) (hK : va_K D vwCl (tyG g) s) {h1 h2 : Nat} {a1 a2 : Nat → Nat} {H : Heap} {locs : List Loc} {ls : Array Slot} (hP : va_P D vwCl [(h1, .inr (9, [.ref (a1 0), .ref (a1 2), .ref (a1 5), .ref (a1 27), .ref (a1 28), .ref (a1 29), .ref (a1 30), .ref (a1 24), .ref (a1 31), .ref (a1 32), .ref (a1 25), .ref (a1 26), .ref (a1 33), .ref (a1 34), .ref (a1 18), .ref (a1 10), .int 0])), tT (a1 0) (a1 1) (nI 1) (nI 1000) 0, tA g (a1 1) 1000 (fun _ => 0), ((a1 2), .inr (5, [.ref (a1 3), .int 0])), tT (a1 3) (a1 4) (nI 3) (nI 1001) 0, tA g (a1 4) 3003 (fun _ => 0), ((a1 5), .inr (3, [.ref (a1 3), .ref (a1 6), .ref (a1 7), .ref (a1 8), .ref (a1 10), .int 0, .int 0, .int 0, .int 0, .int (-9), .int 0, .int 0])), tT (a1 6) (a1 35) (nI 1) (nI 6) 0, tT (a1 7) (a1 36) (nI 1) (nI 6) 0, tT (a1 8) (a1 9) (nI 1) (nI 80) 0, tA g (a1 9) 80 (fun _ => 0), ((a1 10), .inr (2, [.ref (a1 11), .ref (a1 12), .ref (a1 13), .ref (a1 14), .ref (a1 16)])), tT (a1 11) (a1 37) (nI 12) (nI 80) 0, tT (a1 12) (a1 38) (nI 5) (nI 1000) 0, tT (a1 13) (a1 39) (nI 5) (nI 112) 0, tT (a1 14) (a1 15) (nI 1) (nI 16) 0, tA g (a1 15) 16 (fun _ => 0), tT (a1 16) (a1 17) (nI 2) (nI 8) 0, tA g (a1 17) 16 (fun _ => 0), ((a1 18), .inr (2, [.ref (a1 19), .ref (a1 22), .ref (a1 20), .ref (a1 23), .ref (a1 21)])), tT (a1 19) (a1 40) (nI 12) (nI 80) 0, tT (a1 20) (a1 41) (nI 5) (nI 112) 0, tT (a1 21) (a1 42) (nI 2) (nI 8) 0, tT (a1 24) (a1 43) (nI 4) (nI 30) 0, ((a1 25), .inr (4, [.ref (a1 44), .ref (a1 45), .ref (a1 46), .ref (a1 47), .ref (a1 48), .int (-9), .int 0, .int 0, .int 0, .int 0, .int 0, .int 0])), ((a1 26), .inr (4, [.ref (a1 49), .ref (a1 50), .ref (a1 51), .ref (a1 52), .ref (a1 53), .int (-9), .int 0, .int 0, .int 0, .int 0, .int 0, .int 0])), (h2, .inr (10, mF a2 (fun _ => 0))), ((a2 1), .inl (g 1, 1000, .inl (fun _ => 0))), tA g (a2 3) 2 (fun _ => 0), tA g (a2 10) 2 (fun _ => 0), tA g (a2 12) 2 (fun _ => 0), tA g (a2 14) 2 (fun _ => 0), tA g (a2 13) 32 (fun _ => 0), ((a2 28), .inl (g 3, 2, .inl (fun _ => 0)))] H) (hD : va_D A [(h1, .inr (9, [.ref (a1 0), .ref (a1 2), .ref (a1 5), .ref (a1 27), .ref (a1 28), .ref (a1 29), .ref (a1 30), .ref (a1 24), .ref (a1 31), .ref (a1 32), .ref (a1 25), .ref (a1 26), .ref (a1 33), .ref (a1 34), .ref (a1 18), .ref (a1 10), .int 0])), tT (a1 0) (a1 1) (nI 1) (nI 1000) 0, tA g (a1 1) 1000 (fun _ => 0), ((a1 2), .inr (5, [.ref (a1 3), .int 0])), tT (a1 3) (a1 4) (nI 3) (nI 1001) 0, tA g (a1 4) 3003 (fun _ => 0), ((a1 5), .inr (3, [.ref (a1 3), .ref (a1 6), .ref (a1 7), .ref (a1 8), .ref (a1 10), .int 0, .int 0, .int 0, .int 0, .int (-9), .int 0, .int 0])), tT (a1 6) (a1 35) (nI 1) (nI 6) 0, tT (a1 7) (a1 36) (nI 1) (nI 6) 0, tT (a1 8) (a1 9) (nI 1) (nI 80) 0, tA g (a1 9) 80 (fun _ => 0), ((a1 10), .inr (2, [.ref (a1 11), .ref (a1 12), .ref (a1 13), .ref (a1 14), .ref (a1 16)])), tT (a1 11) (a1 37) (nI 12) (nI 80) 0, tT (a1 12) (a1 38) (nI 5) (nI 1000) 0, tT (a1 13) (a1 39) (nI 5) (nI 112) 0, tT (a1 14) (a1 15) (nI 1) (nI 16) 0, tA g (a1 15) 16 (fun _ => 0), tT (a1 16) (a1 17) (nI 2) (nI 8) 0, tA g (a1 17) 16 (fun _ => 0), ((a1 18), .inr (2, [.ref (a1 19), .ref (a1 22), .ref (a1 20), .ref (a1 23), .ref (a1 21)])), tT (a1 19) (a1 40) (nI 12) (nI 80) 0, tT (a1 20) (a1 41) (nI 5) (nI 112) 0, tT (a1 21) (a1 42) (nI 2) (nI 8) 0, tT (a1 24) (a1 43) (nI 4) (nI 30) 0, ((a1 25), .inr (4, [.ref (a1 44), .ref (a1 45), .ref (a1 46), .ref (a1 47), .ref (a1 48), .int (-9), .int 0, .int 0, .int 0, .int 0, .int 0, .int 0])), ((a1 26), .inr (4, [.ref (a1 49), .ref (a1 50), .ref (a1 51), .ref (a1 52), .ref (a1 53), .int (-9), .int 0, .int 0, .int 0, .int 0, .int 0, .int 0])), (h2, .inr (10, mF a2 (fun _ => 0))), ((a2 1), .inl (g 1, 1000, .inl (fun _ => 0))), tA g (a2 3) 2 (fun _ => 0), tA g (a2 10) 2 (fun _ => 0), tA g (a2 12) 2 (fun _ => 0), tA g (a2 14) 2 (fun _ => 0), tA g (a2 13) 32 (fun _ => 0), ((a2 28), .inl (g 3, 2, .inl (fun _ => 0)))]) (hS : va_S A s.heap H locs) (hl : lv_has ls 4 [(3, .int 0), (2, .ref h2), (1, .ref h1), (0, .ref b)]) : W p l e room_1 s m #[Value.ref b] below meth c H locs 168 110802 (lw_Z below #[Value.ref b] s) (F0 m 112 ls []) := by
  obtain ⟨hx, hb, hr, hml, hown, hts0, hX, hbl, hlocks, -⟩ := id C0
  have hts : ∀ w ∈ wsL_law, w.before #[Value.ref b] s = true := fun w h => hts0 w (wsL_law_in w h)
  have hbA : ¬ A b := fun z => absurd (hAe _ z) (Nat.not_le.mpr hbl)
  have hP : va_P D vwCl [(h1, .inr (9, [.ref (a1 0), .ref (a1 2), .ref (a1 5), .ref (a1 27), .ref (a1 28), .ref (a1 29), .ref (a1 30), .ref (a1 24), .ref (a1 31), .ref (a1 32), .ref (a1 25), .ref (a1 26), .ref (a1 33), .ref (a1 34), .ref (a1 18), .ref (a1 10), .int 0])), tT (a1 0) (a1 1) (nI 1) (nI 1000) 0, tA g (a1 1) 1000 (fun _ => 0), (h2, .inr (10, mF a2 (fun _ => 0))), ((a2 1), .inl (g 1, 1000, .inl (fun _ => 0)))] H := vz_pickP hP [0, 1, 2, 26, 27] rfl
  have hD : va_D A [(h1, .inr (9, [.ref (a1 0), .ref (a1 2), .ref (a1 5), .ref (a1 27), .ref (a1 28), .ref (a1 29), .ref (a1 30), .ref (a1 24), .ref (a1 31), .ref (a1 32), .ref (a1 25), .ref (a1 26), .ref (a1 33), .ref (a1 34), .ref (a1 18), .ref (a1 10), .int 0])), tT (a1 0) (a1 1) (nI 1) (nI 1000) 0, tA g (a1 1) 1000 (fun _ => 0), (h2, .inr (10, mF a2 (fun _ => 0))), ((a2 1), .inl (g 1, 1000, .inl (fun _ => 0)))] := hD.sub [0, 1, 2, 26, 27] (by decide) rfl
  refine lv_aload_n hx hb dL_law_112 rfl (lv_at hl 2 rfl) ?_
  refine lv_aload_n hx hb dL_law_113 rfl (lv_at hl 3 rfl) ?_
  refine lv_iload_n hx hb dL_law_114 rfl (lv_at hl 0 rfl) ?_
  refine lv_iconst (v := 1) hx hb dL_law_115 (by decide) ?_
  refine lv_iadd hx hb dL_law_116 ?_
  refine lv_topi (nm_r (e' := 1) (by decide) ?_)
  refine va_sld hx hb hX hbl hbA hS (vp_in_c (by decide)) dL_law_117 ?_
  refine lv_i2l (v := (Int32.toInt64 (xs 1))) hx hb dL_law_118 (rfl) ?_
  refine lv_bipush (v := 32) hx hb dL_law_119 (by decide) ?_
  refine lv_lshl (v := ((Int32.toInt64 (xs 1)) <<< (Int32.toInt64 32 &&& 63))) hx hb dL_law_121 (rfl) ?_
  refine lv_aload_n hx hb dL_law_122 rfl (lv_at hl 3 rfl) ?_
  refine lv_iload_n hx hb dL_law_123 rfl (lv_at hl 0 rfl) ?_
  refine lv_iconst (v := 2) hx hb dL_law_124 (by decide) ?_
  refine lv_iadd hx hb dL_law_125 ?_
  refine lv_topi (nm_r (e' := 2) (by decide) ?_)
  refine va_sld hx hb hX hbl hbA hS (vp_in_c (by decide)) dL_law_126 ?_
  refine lv_i2l (v := (Int32.toInt64 (xs 2))) hx hb dL_law_127 (rfl) ?_
  refine lv_ldc2 hx hb hown (hts _ q6) dL_law_128 ?_
  refine lv_land hx hb dL_law_131 ?_
  refine lv_lor hx hb dL_law_132 ?_
  refine lv_aload_n hx hb dL_law_133 rfl (lv_at hl 3 rfl) ?_
  refine lv_iload_n hx hb dL_law_134 rfl (lv_at hl 0 rfl) ?_
  refine lv_iconst (v := 3) hx hb dL_law_135 (by decide) ?_
  refine lv_iadd hx hb dL_law_136 ?_
  refine lv_topi (nm_r (e' := 3) (by decide) ?_)
  refine va_sld hx hb hX hbl hbA hS (vp_in_c (by decide)) dL_law_137 ?_
  refine vz_Vi (wr := [(h2, .inr (10, mF a2 (fun _ => 0))), ((a2 1), .inl (g 1, 1000, .inl (fun _ => 0)))]) (As := [.long (((Int32.toInt64 (xs 1)) <<< (Int32.toInt64 32 &&& 63)) ||| ((Int32.toInt64 (xs 2)) &&& 4294967295)), .int (xs 3)]) (rest := []) hx hb hml hown hts hK hA hP hD hS (c_A_say l D g h1 H.size 0 a1 (((Int32.toInt64 (xs 1)) <<< (Int32.toInt64 32 &&& 63)) ||| ((Int32.toInt64 (xs 2)) &&& 4294967295)) (xs 3) (fun _ => 0) (Nat.zero_le _)) kv_L_15 (⟨Nat.le_of_ble_eq_true rfl, Nat.le_of_ble_eq_true rfl⟩) (q0 := 0) (ci := 9) rfl rfl rfl [0, 1, 2] [3, 4] rfl rfl (by decide) hl.1 (Nat.le_of_ble_eq_true rfl) dL_law_138 (⟨Nat.le_of_ble_eq_true rfl, Nat.le_of_ble_eq_true rfl⟩) rfl (fun r1 ur1 H locs ⟨e2, _⟩ _ hP hD hS => ?_)
  subst e2
  have hP : va_P D vwCl [(h2, .inr (10, mF a2 (fun _ => 0))), ((a2 1), .inl (g 1, 1000, .inl (fun _ => 0))), (h1, .inr (9, [.ref (a1 0), .ref (a1 2), .ref (a1 5), .ref (a1 27), .ref (a1 28), .ref (a1 29), .ref (a1 30), .ref (a1 24), .ref (a1 31), .ref (a1 32), .ref (a1 25), .ref (a1 26), .ref (a1 33), .ref (a1 34), .ref (a1 18), .ref (a1 10), .int 0])), tT (a1 0) (a1 1) (nI 1) (nI 1000) (nI ur1.1), tA g (a1 1) 1000 ur1.2] H := hP
  have hD : va_D A [(h2, .inr (10, mF a2 (fun _ => 0))), ((a2 1), .inl (g 1, 1000, .inl (fun _ => 0))), (h1, .inr (9, [.ref (a1 0), .ref (a1 2), .ref (a1 5), .ref (a1 27), .ref (a1 28), .ref (a1 29), .ref (a1 30), .ref (a1 24), .ref (a1 31), .ref (a1 32), .ref (a1 25), .ref (a1 26), .ref (a1 33), .ref (a1 34), .ref (a1 18), .ref (a1 10), .int 0])), tT (a1 0) (a1 1) (nI 1) (nI 1000) (nI ur1.1), tA g (a1 1) 1000 ur1.2] := hD
  refine lv_aload_n hx hb dL_law_141 rfl (lv_at hl 1 rfl) ?_
  refine lv_aload_n hx hb dL_law_142 rfl (lv_at hl 3 rfl) ?_
  refine lv_iload_n hx hb dL_law_143 rfl (lv_at hl 0 rfl) ?_
  refine lv_iconst (v := 1) hx hb dL_law_144 (by decide) ?_
  refine lv_iadd hx hb dL_law_145 ?_
  refine lv_topi (nm_r (e' := 1) (by decide) ?_)
  refine va_sld hx hb hX hbl hbA hS (vp_in_c (by decide)) dL_law_146 ?_
  refine lv_i2l (v := (Int32.toInt64 (xs 1))) hx hb dL_law_147 (rfl) ?_
  refine lv_bipush (v := 32) hx hb dL_law_148 (by decide) ?_
  refine lv_lshl (v := ((Int32.toInt64 (xs 1)) <<< (Int32.toInt64 32 &&& 63))) hx hb dL_law_150 (rfl) ?_
  refine lv_aload_n hx hb dL_law_151 rfl (lv_at hl 3 rfl) ?_
  refine lv_iload_n hx hb dL_law_152 rfl (lv_at hl 0 rfl) ?_
  refine lv_iconst (v := 2) hx hb dL_law_153 (by decide) ?_
  refine lv_iadd hx hb dL_law_154 ?_
  refine lv_topi (nm_r (e' := 2) (by decide) ?_)
  refine va_sld hx hb hX hbl hbA hS (vp_in_c (by decide)) dL_law_155 ?_
  refine lv_i2l (v := (Int32.toInt64 (xs 2))) hx hb dL_law_156 (rfl) ?_
  refine lv_ldc2 hx hb hown (hts _ q6) dL_law_157 ?_
  refine lv_land hx hb dL_law_160 ?_
  refine lv_lor hx hb dL_law_161 ?_
  refine lv_aload_n hx hb dL_law_162 rfl (lv_at hl 3 rfl) ?_
  refine lv_iload_n hx hb dL_law_163 rfl (lv_at hl 0 rfl) ?_
  refine lv_iconst (v := 3) hx hb dL_law_164 (by decide) ?_
  refine lv_iadd hx hb dL_law_165 ?_
  refine lv_topi (nm_r (e' := 3) (by decide) ?_)
  refine va_sld hx hb hX hbl hbA hS (vp_in_c (by decide)) dL_law_166 ?_
  refine vz_Vi (wr := [(h1, .inr (9, [.ref (a1 0), .ref (a1 2), .ref (a1 5), .ref (a1 27), .ref (a1 28), .ref (a1 29), .ref (a1 30), .ref (a1 24), .ref (a1 31), .ref (a1 32), .ref (a1 25), .ref (a1 26), .ref (a1 33), .ref (a1 34), .ref (a1 18), .ref (a1 10), .int 0])), tT (a1 0) (a1 1) (nI 1) (nI 1000) (nI ur1.1), tA g (a1 1) 1000 ur1.2]) (As := [.long (((Int32.toInt64 (xs 1)) <<< (Int32.toInt64 32 &&& 63)) ||| ((Int32.toInt64 (xs 2)) &&& 4294967295)), .int (xs 3)]) (rest := [.int (sayR 0 (xs 3))]) hx hb hml hown hts hK hA hP hD hS (c_m_say l D g h2 H.size 0 a2 (fun _ => 0) (((Int32.toInt64 (xs 1)) <<< (Int32.toInt64 32 &&& 63)) ||| ((Int32.toInt64 (xs 2)) &&& 4294967295)) (xs 3) (fun _ => 0) (Nat.zero_le _)) kv_L_19 (⟨Nat.le_of_ble_eq_true rfl, Nat.le_of_ble_eq_true rfl⟩) (q0 := 0) (ci := 10) rfl rfl rfl [0, 1] [2, 3, 4] rfl rfl (by decide) hl.1 (Nat.le_of_ble_eq_true rfl) dL_law_167 (⟨Nat.le_of_ble_eq_true rfl, Nat.le_of_ble_eq_true rfl⟩) rfl (fun r3 ur3 H locs ⟨e4, _⟩ _ hP hD hS => ?_)
  subst e4
  have hP : va_P D vwCl [(h1, .inr (9, [.ref (a1 0), .ref (a1 2), .ref (a1 5), .ref (a1 27), .ref (a1 28), .ref (a1 29), .ref (a1 30), .ref (a1 24), .ref (a1 31), .ref (a1 32), .ref (a1 25), .ref (a1 26), .ref (a1 33), .ref (a1 34), .ref (a1 18), .ref (a1 10), .int 0])), tT (a1 0) (a1 1) (nI 1) (nI 1000) (nI ur1.1), tA g (a1 1) 1000 ur1.2, (h2, .inr (10, mF a2 (upd (fun _ => 0) 0 (nI ur3.1)))), ((a2 1), .inl (g 1, 1000, .inl ur3.2))] H := hP
  have hD : va_D A [(h1, .inr (9, [.ref (a1 0), .ref (a1 2), .ref (a1 5), .ref (a1 27), .ref (a1 28), .ref (a1 29), .ref (a1 30), .ref (a1 24), .ref (a1 31), .ref (a1 32), .ref (a1 25), .ref (a1 26), .ref (a1 33), .ref (a1 34), .ref (a1 18), .ref (a1 10), .int 0])), tT (a1 0) (a1 1) (nI 1) (nI 1000) (nI ur1.1), tA g (a1 1) 1000 ur1.2, (h2, .inr (10, mF a2 (upd (fun _ => 0) 0 (nI ur3.1)))), ((a2 1), .inl (g 1, 1000, .inl ur3.2))] := hD
  refine lv_icmp_eq (tgt := 732) hx hb dL_law_170 (by decide) (fun _ => ?_) (fun h9 => absurd (rfl) h9)
  refine lv_iinc (v := 6) (lv' := [(3, .int 6), (2, .ref h2), (1, .ref h1), (0, .ref b)]) hx hb dL_law_732 hl (k := 0) rfl (by decide) (by decide) rfl (fun ls hl => ?_)
  refine lv_goto (tgt := 18) hx hb dL_law_735 (by decide) ?_
  refine lv_iload_n hx hb dL_law_18 rfl (lv_at hl 0 rfl) ?_
  refine lv_aload_n hx hb dL_law_19 rfl (lv_at hl 3 rfl) ?_
  refine va_slen hx hb hX hbl hbA hS dL_law_20 ?_
  refine lv_topi (nm_r (e' := 6) (by decide) ?_)
  refine lv_bipush (v := 6) hx hb dL_law_21 (by decide) ?_
  refine lv_isub hx hb dL_law_23 ?_
  refine lv_topi (nm_r (e' := 0) (by decide) ?_)
  refine lv_icmp_gt (tgt := 738) hx hb dL_law_24 (by decide) (fun _ => ?_) (fun h9 => absurd (by decide) h9)
  refine lv_iconst (v := 1) hx hb dL_law_738 (by decide) ?_
  refine va_forget (fun q hq => hAe _ (hS.2.2 q hq)) ?_
  refine W.widen (k := 600000) (n := 7302250) (Nat.le_of_ble_eq_true rfl) (Nat.le_of_ble_eq_true rfl) ?_
  exact lw_ret hx hb hr hlocks dL_law_739
theorem q276 : Cond.methodLink RL 20 yX9_compile ∈ wsL_law := mT_2 (List.mem_of_getElem? (i := 202) rfl) rfl
theorem q277 : Cond.instanceMethod yX9_compile ∈ wsL_law := mT_2 (List.mem_of_getElem? (i := 203) rfl) rfl
theorem q278 : Cond.selects RX9 yX9_compile yX9_compile ∈ wsL_law := mT_2 (List.mem_of_getElem? (i := 204) rfl) rfl
theorem q279 : Cond.code yX9_compile cX9_compile 3 (some .int) ∈ wsL_law := mT_2 (List.mem_of_getElem? (i := 205) rfl) rfl
theorem kv_L_20 : vz_cv RL 20 yX9_compile cX9_compile 3 (some .int) 1 := ⟨q276, q277, q278, q2, q279, by decide +kernel⟩
theorem q740 : Cond.methodLink RL 24 yX10_compile ∈ wsL_law := mT_7 (List.mem_of_getElem? (i := 169) rfl) rfl
theorem q741 : Cond.instanceMethod yX10_compile ∈ wsL_law := mT_7 (List.mem_of_getElem? (i := 170) rfl) rfl
theorem q742 : Cond.selects RX10 yX10_compile yX10_compile ∈ wsL_law := mT_7 (List.mem_of_getElem? (i := 171) rfl) rfl
theorem q743 : Cond.code yX10_compile cX10_compile 2 (some .int) ∈ wsL_law := mT_7 (List.mem_of_getElem? (i := 172) rfl) rfl
theorem kv_L_24 : vz_cv RL 24 yX10_compile cX10_compile 2 (some .int) 1 := ⟨q740, q741, q742, q5, q743, by decide +kernel⟩
theorem dL_law_175 : decode cL_law 175 = .ok (.aload_n 1, 1) := by decide +kernel
theorem dL_law_176 : decode cL_law 176 = .ok (.aload_n 0, 1) := by decide +kernel
theorem dL_law_177 : decode cL_law 177 = .ok (.iload_n 3, 1) := by decide +kernel
theorem dL_law_178 : decode cL_law 178 = .ok (.iconst 1, 1) := by decide +kernel
theorem dL_law_179 : decode cL_law 179 = .ok (.iadd, 1) := by decide +kernel
theorem dL_law_180 : decode cL_law 180 = .ok (.iaload, 1) := by decide +kernel
theorem dL_law_181 : decode cL_law 181 = .ok (.ifCond .eq 7, 3) := by decide +kernel
theorem dL_law_184 : decode cL_law 184 = .ok (.iconst 1, 1) := by decide +kernel
theorem dL_law_185 : decode cL_law 185 = .ok (.goto 4, 3) := by decide +kernel
theorem dL_law_188 : decode cL_law 188 = .ok (.iconst 0, 1) := by decide +kernel
theorem dL_law_189 : decode cL_law 189 = .ok (.invokevirtual 20, 3) := by decide +kernel
theorem dL_law_192 : decode cL_law 192 = .ok (.aload_n 2, 1) := by decide +kernel
theorem dL_law_193 : decode cL_law 193 = .ok (.aload_n 0, 1) := by decide +kernel
theorem dL_law_194 : decode cL_law 194 = .ok (.iload_n 3, 1) := by decide +kernel
theorem dL_law_195 : decode cL_law 195 = .ok (.iconst 1, 1) := by decide +kernel
theorem dL_law_196 : decode cL_law 196 = .ok (.iadd, 1) := by decide +kernel
theorem dL_law_197 : decode cL_law 197 = .ok (.iaload, 1) := by decide +kernel
theorem dL_law_198 : decode cL_law 198 = .ok (.ifCond .eq 7, 3) := by decide +kernel
theorem dL_law_201 : decode cL_law 201 = .ok (.iconst 1, 1) := by decide +kernel
theorem dL_law_202 : decode cL_law 202 = .ok (.goto 4, 3) := by decide +kernel
theorem dL_law_205 : decode cL_law 205 = .ok (.iconst 0, 1) := by decide +kernel
theorem dL_law_206 : decode cL_law 206 = .ok (.invokevirtual 24, 3) := by decide +kernel
theorem dL_law_209 : decode cL_law 209 = .ok (.if_icmp .eq 523, 3) := by decide +kernel
set_option maxHeartbeats 4000000 in
set_option maxRecDepth 100000 in
theorem law_op1 {p : Program} {e : Env} {s : State} {m : MethodId} {below : List Frame} {meth : Method} {c : Code} {l : Launch} {b : Nat} {xs : Nat → Int32} (C0 : lw_At p s m meth c b 6 xs) {D : va_G} {g : Nat → ClassId} {A : Nat → Prop} (hAe : ∀ q, A q → s.heap.size ≤ q) (hA : ∀ q : Nat, s.heap.size ≤ q → A q) (hK : va_K D vwCl (tyG g) s) {h1 h2 : Nat} {a1 a2 : Nat → Nat} {H : Heap} {locs : List Loc} {ls : Array Slot} (hP : va_P D vwCl [(h1, .inr (9, [.ref (a1 0), .ref (a1 2), .ref (a1 5), .ref (a1 27), .ref (a1 28), .ref (a1 29), .ref (a1 30), .ref (a1 24), .ref (a1 31), .ref (a1 32), .ref (a1 25), .ref (a1 26), .ref (a1 33), .ref (a1 34), .ref (a1 18), .ref (a1 10), .int 0])), tT (a1 0) (a1 1) (nI 1) (nI 1000) 0, tA g (a1 1) 1000 (fun _ => 0), ((a1 2), .inr (5, [.ref (a1 3), .int 0])), tT (a1 3) (a1 4) (nI 3) (nI 1001) 0, tA g (a1 4) 3003 (fun _ => 0), ((a1 5), .inr (3, [.ref (a1 3), .ref (a1 6), .ref (a1 7), .ref (a1 8), .ref (a1 10), .int 0, .int 0, .int 0, .int 0, .int (-9), .int 0, .int 0])), tT (a1 6) (a1 35) (nI 1) (nI 6) 0, tT (a1 7) (a1 36) (nI 1) (nI 6) 0, tT (a1 8) (a1 9) (nI 1) (nI 80) 0, tA g (a1 9) 80 (fun _ => 0), ((a1 10), .inr (2, [.ref (a1 11), .ref (a1 12), .ref (a1 13), .ref (a1 14), .ref (a1 16)])), tT (a1 11) (a1 37) (nI 12) (nI 80) 0, tT (a1 12) (a1 38) (nI 5) (nI 1000) 0, tT (a1 13) (a1 39) (nI 5) (nI 112) 0, tT (a1 14) (a1 15) (nI 1) (nI 16) 0, tA g (a1 15) 16 (fun _ => 0), tT (a1 16) (a1 17) (nI 2) (nI 8) 0, tA g (a1 17) 16 (fun _ => 0), ((a1 18), .inr (2, [.ref (a1 19), .ref (a1 22), .ref (a1 20), .ref (a1 23), .ref (a1 21)])), tT (a1 19) (a1 40) (nI 12) (nI 80) 0, tT (a1 20) (a1 41) (nI 5) (nI 112) 0, tT (a1 21) (a1 42) (nI 2) (nI 8) 0, tT (a1 24) (a1 43) (nI 4) (nI 30) 0, ((a1 25), .inr (4, [.ref (a1 44), .ref (a1 45), .ref (a1 46), .ref (a1 47), .ref (a1 48), .int (-9), .int 0, .int 0, .int 0, .int 0, .int 0, .int 0])), ((a1 26), .inr (4, [.ref (a1 49), .ref (a1 50), .ref (a1 51), .ref (a1 52), .ref (a1 53), .int (-9), .int 0, .int 0, .int 0, .int 0, .int 0, .int 0])), (h2, .inr (10, mF a2 (fun _ => 0))), ((a2 1), .inl (g 1, 1000, .inl (fun _ => 0))), tA g (a2 3) 2 (fun _ => 0), tA g (a2 10) 2 (fun _ => 0), tA g (a2 12) 2 (fun _ => 0), tA g (a2 14) 2 (fun _ => 0), tA g (a2 13) 32 (fun _ => 0), ((a2 28), .inl (g 3, 2, .inl (fun _ => 0)))] H) (hD : va_D A [(h1, .inr (9, [.ref (a1 0), .ref (a1 2), .ref (a1 5), .ref (a1 27), .ref (a1 28), .ref (a1 29), .ref (a1 30), .ref (a1 24), .ref (a1 31), .ref (a1 32), .ref (a1 25), .ref (a1 26), .ref (a1 33), .ref (a1 34), .ref (a1 18), .ref (a1 10), .int 0])), tT (a1 0) (a1 1) (nI 1) (nI 1000) 0, tA g (a1 1) 1000 (fun _ => 0), ((a1 2), .inr (5, [.ref (a1 3), .int 0])), tT (a1 3) (a1 4) (nI 3) (nI 1001) 0, tA g (a1 4) 3003 (fun _ => 0), ((a1 5), .inr (3, [.ref (a1 3), .ref (a1 6), .ref (a1 7), .ref (a1 8), .ref (a1 10), .int 0, .int 0, .int 0, .int 0, .int (-9), .int 0, .int 0])), tT (a1 6) (a1 35) (nI 1) (nI 6) 0, tT (a1 7) (a1 36) (nI 1) (nI 6) 0, tT (a1 8) (a1 9) (nI 1) (nI 80) 0, tA g (a1 9) 80 (fun _ => 0), ((a1 10), .inr (2, [.ref (a1 11), .ref (a1 12), .ref (a1 13), .ref (a1 14), .ref (a1 16)])), tT (a1 11) (a1 37) (nI 12) (nI 80) 0, tT (a1 12) (a1 38) (nI 5) (nI 1000) 0, tT (a1 13) (a1 39) (nI 5) (nI 112) 0, tT (a1 14) (a1 15) (nI 1) (nI 16) 0, tA g (a1 15) 16 (fun _ => 0), tT (a1 16) (a1 17) (nI 2) (nI 8) 0, tA g (a1 17) 16 (fun _ => 0), ((a1 18), .inr (2, [.ref (a1 19), .ref (a1 22), .ref (a1 20), .ref (a1 23), .ref (a1 21)])), tT (a1 19) (a1 40) (nI 12) (nI 80) 0, tT (a1 20) (a1 41) (nI 5) (nI 112) 0, tT (a1 21) (a1 42) (nI 2) (nI 8) 0, tT (a1 24) (a1 43) (nI 4) (nI 30) 0, ((a1 25), .inr (4, [.ref (a1 44), .ref (a1 45), .ref (a1 46), .ref (a1 47), .ref (a1 48), .int (-9), .int 0, .int 0, .int 0, .int 0, .int 0, .int 0])), ((a1 26), .inr (4, [.ref (a1 49), .ref (a1 50), .ref (a1 51), .ref (a1 52), .ref (a1 53), .int (-9), .int 0, .int 0, .int 0, .int 0, .int 0, .int 0])), (h2, .inr (10, mF a2 (fun _ => 0))), ((a2 1), .inl (g 1, 1000, .inl (fun _ => 0))), tA g (a2 3) 2 (fun _ => 0), tA g (a2 10) 2 (fun _ => 0), tA g (a2 12) 2 (fun _ => 0), tA g (a2 14) 2 (fun _ => 0), tA g (a2 13) 32 (fun _ => 0), ((a2 28), .inl (g 3, 2, .inl (fun _ => 0)))]) (hS : va_S A s.heap H locs) (hl : lv_has ls 4 [(3, .int 0), (2, .ref h2), (1, .ref h1), (0, .ref b)]) : W p l e room_1 s m #[Value.ref b] below meth c H locs 168 110802 (lw_Z below #[Value.ref b] s) (F0 m 175 ls []) := by
  obtain ⟨hx, hb, hr, hml, hown, hts0, hX, hbl, hlocks, -⟩ := id C0
  have hts : ∀ w ∈ wsL_law, w.before #[Value.ref b] s = true := fun w h => hts0 w (wsL_law_in w h)
  have hbA : ¬ A b := fun z => absurd (hAe _ z) (Nat.not_le.mpr hbl)
  have hP : va_P D vwCl [(h1, .inr (9, [.ref (a1 0), .ref (a1 2), .ref (a1 5), .ref (a1 27), .ref (a1 28), .ref (a1 29), .ref (a1 30), .ref (a1 24), .ref (a1 31), .ref (a1 32), .ref (a1 25), .ref (a1 26), .ref (a1 33), .ref (a1 34), .ref (a1 18), .ref (a1 10), .int 0])), ((a1 2), .inr (5, [.ref (a1 3), .int 0])), tT (a1 3) (a1 4) (nI 3) (nI 1001) 0, tA g (a1 4) 3003 (fun _ => 0), tT (a1 0) (a1 1) (nI 1) (nI 1000) 0, ((a1 5), .inr (3, [.ref (a1 3), .ref (a1 6), .ref (a1 7), .ref (a1 8), .ref (a1 10), .int 0, .int 0, .int 0, .int 0, .int (-9), .int 0, .int 0])), tT (a1 6) (a1 35) (nI 1) (nI 6) 0, tT (a1 7) (a1 36) (nI 1) (nI 6) 0, tT (a1 8) (a1 9) (nI 1) (nI 80) 0, tA g (a1 9) 80 (fun _ => 0), ((a1 10), .inr (2, [.ref (a1 11), .ref (a1 12), .ref (a1 13), .ref (a1 14), .ref (a1 16)])), tT (a1 11) (a1 37) (nI 12) (nI 80) 0, tT (a1 12) (a1 38) (nI 5) (nI 1000) 0, tT (a1 13) (a1 39) (nI 5) (nI 112) 0, tT (a1 14) (a1 15) (nI 1) (nI 16) 0, tT (a1 16) (a1 17) (nI 2) (nI 8) 0, tA g (a1 15) 16 (fun _ => 0), tA g (a1 17) 16 (fun _ => 0), (h2, .inr (10, mF a2 (fun _ => 0))), tA g (a2 3) 2 (fun _ => 0), tA g (a2 10) 2 (fun _ => 0), tA g (a2 12) 2 (fun _ => 0), tA g (a2 14) 2 (fun _ => 0), tA g (a2 13) 32 (fun _ => 0)] H := vz_pickP hP [0, 3, 4, 5, 1, 6, 7, 8, 9, 10, 11, 12, 13, 14, 15, 17, 16, 18, 26, 28, 29, 30, 31, 32] rfl
  have hD : va_D A [(h1, .inr (9, [.ref (a1 0), .ref (a1 2), .ref (a1 5), .ref (a1 27), .ref (a1 28), .ref (a1 29), .ref (a1 30), .ref (a1 24), .ref (a1 31), .ref (a1 32), .ref (a1 25), .ref (a1 26), .ref (a1 33), .ref (a1 34), .ref (a1 18), .ref (a1 10), .int 0])), ((a1 2), .inr (5, [.ref (a1 3), .int 0])), tT (a1 3) (a1 4) (nI 3) (nI 1001) 0, tA g (a1 4) 3003 (fun _ => 0), tT (a1 0) (a1 1) (nI 1) (nI 1000) 0, ((a1 5), .inr (3, [.ref (a1 3), .ref (a1 6), .ref (a1 7), .ref (a1 8), .ref (a1 10), .int 0, .int 0, .int 0, .int 0, .int (-9), .int 0, .int 0])), tT (a1 6) (a1 35) (nI 1) (nI 6) 0, tT (a1 7) (a1 36) (nI 1) (nI 6) 0, tT (a1 8) (a1 9) (nI 1) (nI 80) 0, tA g (a1 9) 80 (fun _ => 0), ((a1 10), .inr (2, [.ref (a1 11), .ref (a1 12), .ref (a1 13), .ref (a1 14), .ref (a1 16)])), tT (a1 11) (a1 37) (nI 12) (nI 80) 0, tT (a1 12) (a1 38) (nI 5) (nI 1000) 0, tT (a1 13) (a1 39) (nI 5) (nI 112) 0, tT (a1 14) (a1 15) (nI 1) (nI 16) 0, tT (a1 16) (a1 17) (nI 2) (nI 8) 0, tA g (a1 15) 16 (fun _ => 0), tA g (a1 17) 16 (fun _ => 0), (h2, .inr (10, mF a2 (fun _ => 0))), tA g (a2 3) 2 (fun _ => 0), tA g (a2 10) 2 (fun _ => 0), tA g (a2 12) 2 (fun _ => 0), tA g (a2 14) 2 (fun _ => 0), tA g (a2 13) 32 (fun _ => 0)] := hD.sub [0, 3, 4, 5, 1, 6, 7, 8, 9, 10, 11, 12, 13, 14, 15, 17, 16, 18, 26, 28, 29, 30, 31, 32] (by decide) rfl
  refine lv_aload_n hx hb dL_law_175 rfl (lv_at hl 2 rfl) ?_
  refine lv_aload_n hx hb dL_law_176 rfl (lv_at hl 3 rfl) ?_
  refine lv_iload_n hx hb dL_law_177 rfl (lv_at hl 0 rfl) ?_
  refine lv_iconst (v := 1) hx hb dL_law_178 (by decide) ?_
  refine lv_iadd hx hb dL_law_179 ?_
  refine lv_topi (nm_r (e' := 1) (by decide) ?_)
  refine va_sld hx hb hX hbl hbA hS (vp_in_c (by decide)) dL_law_180 ?_
  refine lv_if_eq (tgt := 188) hx hb dL_law_181 (by decide) (fun k181 => ?_) (fun k181 => ?_)
  · refine lv_iconst (v := 0) hx hb dL_law_188 (by decide) ?_
    refine vz_Vi (wr := [(h2, .inr (10, mF a2 (fun _ => 0))), tA g (a2 3) 2 (fun _ => 0), tA g (a2 10) 2 (fun _ => 0), tA g (a2 12) 2 (fun _ => 0), tA g (a2 14) 2 (fun _ => 0), tA g (a2 13) 32 (fun _ => 0)]) (As := [.int 0]) (rest := []) hx hb hml hown hts hK hA hP hD hS (c_A_compile0 l D g h1 H.size a1 0) kv_L_20 (⟨Nat.le_of_ble_eq_true rfl, Nat.le_of_ble_eq_true rfl⟩) (q0 := 0) (ci := 9) rfl rfl rfl [0, 1, 2, 3, 4, 5, 6, 7, 8, 9, 10, 11, 12, 13, 14, 15, 16, 17] [18, 19, 20, 21, 22, 23] rfl rfl (by decide) hl.1 (Nat.le_of_ble_eq_true rfl) dL_law_189 (⟨Nat.le_of_ble_eq_true rfl, Nat.le_of_ble_eq_true rfl⟩) rfl (fun r1 _ H locs e2 _ hP hD hS => ?_)
    subst e2
    have hP : va_P D vwCl [(h2, .inr (10, mF a2 (fun _ => 0))), tA g (a2 3) 2 (fun _ => 0), tA g (a2 10) 2 (fun _ => 0), tA g (a2 12) 2 (fun _ => 0), tA g (a2 14) 2 (fun _ => 0), tA g (a2 13) 32 (fun _ => 0), (h1, .inr (9, [.ref (a1 0), .ref (a1 2), .ref (a1 5), .ref (a1 27), .ref (a1 28), .ref (a1 29), .ref (a1 30), .ref (a1 24), .ref (a1 31), .ref (a1 32), .ref (a1 25), .ref (a1 26), .ref (a1 33), .ref (a1 34), .ref (a1 18), .ref (a1 10), .int 1]))] H := hP
    have hD : va_D A [(h2, .inr (10, mF a2 (fun _ => 0))), tA g (a2 3) 2 (fun _ => 0), tA g (a2 10) 2 (fun _ => 0), tA g (a2 12) 2 (fun _ => 0), tA g (a2 14) 2 (fun _ => 0), tA g (a2 13) 32 (fun _ => 0), (h1, .inr (9, [.ref (a1 0), .ref (a1 2), .ref (a1 5), .ref (a1 27), .ref (a1 28), .ref (a1 29), .ref (a1 30), .ref (a1 24), .ref (a1 31), .ref (a1 32), .ref (a1 25), .ref (a1 26), .ref (a1 33), .ref (a1 34), .ref (a1 18), .ref (a1 10), .int 1]))] := hD
    refine lv_aload_n hx hb dL_law_192 rfl (lv_at hl 1 rfl) ?_
    refine lv_aload_n hx hb dL_law_193 rfl (lv_at hl 3 rfl) ?_
    refine lv_iload_n hx hb dL_law_194 rfl (lv_at hl 0 rfl) ?_
    refine lv_iconst (v := 1) hx hb dL_law_195 (by decide) ?_
    refine lv_iadd hx hb dL_law_196 ?_
    refine lv_topi (nm_r (e' := 1) (by decide) ?_)
    refine va_sld hx hb hX hbl hbA hS (vp_in_c (by decide)) dL_law_197 ?_
    refine lv_if_eq (tgt := 205) hx hb dL_law_198 (by decide) (fun k198 => ?_) (fun k198 => ?_)
    · refine lv_iconst (v := 0) hx hb dL_law_205 (by decide) ?_
      refine vz_Vi (wr := [(h1, .inr (9, [.ref (a1 0), .ref (a1 2), .ref (a1 5), .ref (a1 27), .ref (a1 28), .ref (a1 29), .ref (a1 30), .ref (a1 24), .ref (a1 31), .ref (a1 32), .ref (a1 25), .ref (a1 26), .ref (a1 33), .ref (a1 34), .ref (a1 18), .ref (a1 10), .int 1]))]) (As := [.int 0]) (rest := [.int (-100)]) hx hb hml hown hts hK hA hP hD hS (c_m_compile0 l D g h2 H.size a2 0) kv_L_24 (⟨Nat.le_of_ble_eq_true rfl, Nat.le_of_ble_eq_true rfl⟩) (q0 := 0) (ci := 10) rfl rfl rfl [0, 1, 2, 3, 4, 5] [6] rfl rfl (by decide) hl.1 (Nat.le_of_ble_eq_true rfl) dL_law_206 (⟨Nat.le_of_ble_eq_true rfl, Nat.le_of_ble_eq_true rfl⟩) rfl (fun r3 _ H locs e4 _ hP hD hS => ?_)
      subst e4
      have hP : va_P D vwCl [(h1, .inr (9, [.ref (a1 0), .ref (a1 2), .ref (a1 5), .ref (a1 27), .ref (a1 28), .ref (a1 29), .ref (a1 30), .ref (a1 24), .ref (a1 31), .ref (a1 32), .ref (a1 25), .ref (a1 26), .ref (a1 33), .ref (a1 34), .ref (a1 18), .ref (a1 10), .int 1])), (h2, .inr (10, mF a2 (upd (upd (upd (fun _ => 0) 7 1) 11 1) 13 1)))] H := hP
      have hD : va_D A [(h1, .inr (9, [.ref (a1 0), .ref (a1 2), .ref (a1 5), .ref (a1 27), .ref (a1 28), .ref (a1 29), .ref (a1 30), .ref (a1 24), .ref (a1 31), .ref (a1 32), .ref (a1 25), .ref (a1 26), .ref (a1 33), .ref (a1 34), .ref (a1 18), .ref (a1 10), .int 1])), (h2, .inr (10, mF a2 (upd (upd (upd (fun _ => 0) 7 1) 11 1) 13 1)))] := hD
      refine lv_icmp_eq (tgt := 732) hx hb dL_law_209 (by decide) (fun _ => ?_) (fun h9 => absurd (by decide) h9)
      refine lv_iinc (v := 6) (lv' := [(3, .int 6), (2, .ref h2), (1, .ref h1), (0, .ref b)]) hx hb dL_law_732 hl (k := 0) rfl (by decide) (by decide) rfl (fun ls hl => ?_)
      refine lv_goto (tgt := 18) hx hb dL_law_735 (by decide) ?_
      refine lv_iload_n hx hb dL_law_18 rfl (lv_at hl 0 rfl) ?_
      refine lv_aload_n hx hb dL_law_19 rfl (lv_at hl 3 rfl) ?_
      refine va_slen hx hb hX hbl hbA hS dL_law_20 ?_
      refine lv_topi (nm_r (e' := 6) (by decide) ?_)
      refine lv_bipush (v := 6) hx hb dL_law_21 (by decide) ?_
      refine lv_isub hx hb dL_law_23 ?_
      refine lv_topi (nm_r (e' := 0) (by decide) ?_)
      refine lv_icmp_gt (tgt := 738) hx hb dL_law_24 (by decide) (fun _ => ?_) (fun h9 => absurd (by decide) h9)
      refine lv_iconst (v := 1) hx hb dL_law_738 (by decide) ?_
      refine va_forget (fun q hq => hAe _ (hS.2.2 q hq)) ?_
      refine W.widen (k := 600000) (n := 7302250) (Nat.le_of_ble_eq_true rfl) (Nat.le_of_ble_eq_true rfl) ?_
      exact lw_ret hx hb hr hlocks dL_law_739
    · refine lv_iconst (v := 1) hx hb dL_law_201 (by decide) ?_
      refine lv_goto (tgt := 206) hx hb dL_law_202 (by decide) ?_
      refine vz_Vi (wr := [(h1, .inr (9, [.ref (a1 0), .ref (a1 2), .ref (a1 5), .ref (a1 27), .ref (a1 28), .ref (a1 29), .ref (a1 30), .ref (a1 24), .ref (a1 31), .ref (a1 32), .ref (a1 25), .ref (a1 26), .ref (a1 33), .ref (a1 34), .ref (a1 18), .ref (a1 10), .int 1]))]) (As := [.int 1]) (rest := [.int (-100)]) hx hb hml hown hts hK hA hP hD hS (c_m_compile0 l D g h2 H.size a2 1) kv_L_24 (⟨Nat.le_of_ble_eq_true rfl, Nat.le_of_ble_eq_true rfl⟩) (q0 := 0) (ci := 10) rfl rfl rfl [0, 1, 2, 3, 4, 5] [6] rfl rfl (by decide) hl.1 (Nat.le_of_ble_eq_true rfl) dL_law_206 (⟨Nat.le_of_ble_eq_true rfl, Nat.le_of_ble_eq_true rfl⟩) rfl (fun r5 _ H locs e6 _ hP hD hS => ?_)
      subst e6
      have hP : va_P D vwCl [(h1, .inr (9, [.ref (a1 0), .ref (a1 2), .ref (a1 5), .ref (a1 27), .ref (a1 28), .ref (a1 29), .ref (a1 30), .ref (a1 24), .ref (a1 31), .ref (a1 32), .ref (a1 25), .ref (a1 26), .ref (a1 33), .ref (a1 34), .ref (a1 18), .ref (a1 10), .int 1])), (h2, .inr (10, mF a2 (upd (upd (upd (fun _ => 0) 7 1) 11 1) 13 1)))] H := hP
      have hD : va_D A [(h1, .inr (9, [.ref (a1 0), .ref (a1 2), .ref (a1 5), .ref (a1 27), .ref (a1 28), .ref (a1 29), .ref (a1 30), .ref (a1 24), .ref (a1 31), .ref (a1 32), .ref (a1 25), .ref (a1 26), .ref (a1 33), .ref (a1 34), .ref (a1 18), .ref (a1 10), .int 1])), (h2, .inr (10, mF a2 (upd (upd (upd (fun _ => 0) 7 1) 11 1) 13 1)))] := hD
      refine lv_icmp_eq (tgt := 732) hx hb dL_law_209 (by decide) (fun _ => ?_) (fun h9 => absurd (by decide) h9)
      refine lv_iinc (v := 6) (lv' := [(3, .int 6), (2, .ref h2), (1, .ref h1), (0, .ref b)]) hx hb dL_law_732 hl (k := 0) rfl (by decide) (by decide) rfl (fun ls hl => ?_)
      refine lv_goto (tgt := 18) hx hb dL_law_735 (by decide) ?_
      refine lv_iload_n hx hb dL_law_18 rfl (lv_at hl 0 rfl) ?_
      refine lv_aload_n hx hb dL_law_19 rfl (lv_at hl 3 rfl) ?_
      refine va_slen hx hb hX hbl hbA hS dL_law_20 ?_
      refine lv_topi (nm_r (e' := 6) (by decide) ?_)
      refine lv_bipush (v := 6) hx hb dL_law_21 (by decide) ?_
      refine lv_isub hx hb dL_law_23 ?_
      refine lv_topi (nm_r (e' := 0) (by decide) ?_)
      refine lv_icmp_gt (tgt := 738) hx hb dL_law_24 (by decide) (fun _ => ?_) (fun h9 => absurd (by decide) h9)
      refine lv_iconst (v := 1) hx hb dL_law_738 (by decide) ?_
      refine va_forget (fun q hq => hAe _ (hS.2.2 q hq)) ?_
      refine W.widen (k := 600000) (n := 7302250) (Nat.le_of_ble_eq_true rfl) (Nat.le_of_ble_eq_true rfl) ?_
      exact lw_ret hx hb hr hlocks dL_law_739
  · refine lv_iconst (v := 1) hx hb dL_law_184 (by decide) ?_
    refine lv_goto (tgt := 189) hx hb dL_law_185 (by decide) ?_
    refine vz_Vi (wr := [(h2, .inr (10, mF a2 (fun _ => 0))), tA g (a2 3) 2 (fun _ => 0), tA g (a2 10) 2 (fun _ => 0), tA g (a2 12) 2 (fun _ => 0), tA g (a2 14) 2 (fun _ => 0), tA g (a2 13) 32 (fun _ => 0)]) (As := [.int 1]) (rest := []) hx hb hml hown hts hK hA hP hD hS (c_A_compile0 l D g h1 H.size a1 1) kv_L_20 (⟨Nat.le_of_ble_eq_true rfl, Nat.le_of_ble_eq_true rfl⟩) (q0 := 0) (ci := 9) rfl rfl rfl [0, 1, 2, 3, 4, 5, 6, 7, 8, 9, 10, 11, 12, 13, 14, 15, 16, 17] [18, 19, 20, 21, 22, 23] rfl rfl (by decide) hl.1 (Nat.le_of_ble_eq_true rfl) dL_law_189 (⟨Nat.le_of_ble_eq_true rfl, Nat.le_of_ble_eq_true rfl⟩) rfl (fun r7 _ H locs e8 _ hP hD hS => ?_)
    subst e8
    have hP : va_P D vwCl [(h2, .inr (10, mF a2 (fun _ => 0))), tA g (a2 3) 2 (fun _ => 0), tA g (a2 10) 2 (fun _ => 0), tA g (a2 12) 2 (fun _ => 0), tA g (a2 14) 2 (fun _ => 0), tA g (a2 13) 32 (fun _ => 0), (h1, .inr (9, [.ref (a1 0), .ref (a1 2), .ref (a1 5), .ref (a1 27), .ref (a1 28), .ref (a1 29), .ref (a1 30), .ref (a1 24), .ref (a1 31), .ref (a1 32), .ref (a1 25), .ref (a1 26), .ref (a1 33), .ref (a1 34), .ref (a1 18), .ref (a1 10), .int 1]))] H := hP
    have hD : va_D A [(h2, .inr (10, mF a2 (fun _ => 0))), tA g (a2 3) 2 (fun _ => 0), tA g (a2 10) 2 (fun _ => 0), tA g (a2 12) 2 (fun _ => 0), tA g (a2 14) 2 (fun _ => 0), tA g (a2 13) 32 (fun _ => 0), (h1, .inr (9, [.ref (a1 0), .ref (a1 2), .ref (a1 5), .ref (a1 27), .ref (a1 28), .ref (a1 29), .ref (a1 30), .ref (a1 24), .ref (a1 31), .ref (a1 32), .ref (a1 25), .ref (a1 26), .ref (a1 33), .ref (a1 34), .ref (a1 18), .ref (a1 10), .int 1]))] := hD
    refine lv_aload_n hx hb dL_law_192 rfl (lv_at hl 1 rfl) ?_
    refine lv_aload_n hx hb dL_law_193 rfl (lv_at hl 3 rfl) ?_
    refine lv_iload_n hx hb dL_law_194 rfl (lv_at hl 0 rfl) ?_
    refine lv_iconst (v := 1) hx hb dL_law_195 (by decide) ?_
    refine lv_iadd hx hb dL_law_196 ?_
    refine lv_topi (nm_r (e' := 1) (by decide) ?_)
    refine va_sld hx hb hX hbl hbA hS (vp_in_c (by decide)) dL_law_197 ?_
    refine lv_if_eq (tgt := 205) hx hb dL_law_198 (by decide) (fun k198 => ?_) (fun k198 => ?_)
    · refine lv_iconst (v := 0) hx hb dL_law_205 (by decide) ?_
      refine vz_Vi (wr := [(h1, .inr (9, [.ref (a1 0), .ref (a1 2), .ref (a1 5), .ref (a1 27), .ref (a1 28), .ref (a1 29), .ref (a1 30), .ref (a1 24), .ref (a1 31), .ref (a1 32), .ref (a1 25), .ref (a1 26), .ref (a1 33), .ref (a1 34), .ref (a1 18), .ref (a1 10), .int 1]))]) (As := [.int 0]) (rest := [.int (-100)]) hx hb hml hown hts hK hA hP hD hS (c_m_compile0 l D g h2 H.size a2 0) kv_L_24 (⟨Nat.le_of_ble_eq_true rfl, Nat.le_of_ble_eq_true rfl⟩) (q0 := 0) (ci := 10) rfl rfl rfl [0, 1, 2, 3, 4, 5] [6] rfl rfl (by decide) hl.1 (Nat.le_of_ble_eq_true rfl) dL_law_206 (⟨Nat.le_of_ble_eq_true rfl, Nat.le_of_ble_eq_true rfl⟩) rfl (fun r9 _ H locs e10 _ hP hD hS => ?_)
      subst e10
      have hP : va_P D vwCl [(h1, .inr (9, [.ref (a1 0), .ref (a1 2), .ref (a1 5), .ref (a1 27), .ref (a1 28), .ref (a1 29), .ref (a1 30), .ref (a1 24), .ref (a1 31), .ref (a1 32), .ref (a1 25), .ref (a1 26), .ref (a1 33), .ref (a1 34), .ref (a1 18), .ref (a1 10), .int 1])), (h2, .inr (10, mF a2 (upd (upd (upd (fun _ => 0) 7 1) 11 1) 13 1)))] H := hP
      have hD : va_D A [(h1, .inr (9, [.ref (a1 0), .ref (a1 2), .ref (a1 5), .ref (a1 27), .ref (a1 28), .ref (a1 29), .ref (a1 30), .ref (a1 24), .ref (a1 31), .ref (a1 32), .ref (a1 25), .ref (a1 26), .ref (a1 33), .ref (a1 34), .ref (a1 18), .ref (a1 10), .int 1])), (h2, .inr (10, mF a2 (upd (upd (upd (fun _ => 0) 7 1) 11 1) 13 1)))] := hD
      refine lv_icmp_eq (tgt := 732) hx hb dL_law_209 (by decide) (fun _ => ?_) (fun h9 => absurd (by decide) h9)
      refine lv_iinc (v := 6) (lv' := [(3, .int 6), (2, .ref h2), (1, .ref h1), (0, .ref b)]) hx hb dL_law_732 hl (k := 0) rfl (by decide) (by decide) rfl (fun ls hl => ?_)
      refine lv_goto (tgt := 18) hx hb dL_law_735 (by decide) ?_
      refine lv_iload_n hx hb dL_law_18 rfl (lv_at hl 0 rfl) ?_
      refine lv_aload_n hx hb dL_law_19 rfl (lv_at hl 3 rfl) ?_
      refine va_slen hx hb hX hbl hbA hS dL_law_20 ?_
      refine lv_topi (nm_r (e' := 6) (by decide) ?_)
      refine lv_bipush (v := 6) hx hb dL_law_21 (by decide) ?_
      refine lv_isub hx hb dL_law_23 ?_
      refine lv_topi (nm_r (e' := 0) (by decide) ?_)
      refine lv_icmp_gt (tgt := 738) hx hb dL_law_24 (by decide) (fun _ => ?_) (fun h9 => absurd (by decide) h9)
      refine lv_iconst (v := 1) hx hb dL_law_738 (by decide) ?_
      refine va_forget (fun q hq => hAe _ (hS.2.2 q hq)) ?_
      refine W.widen (k := 600000) (n := 7302250) (Nat.le_of_ble_eq_true rfl) (Nat.le_of_ble_eq_true rfl) ?_
      exact lw_ret hx hb hr hlocks dL_law_739
    · refine lv_iconst (v := 1) hx hb dL_law_201 (by decide) ?_
      refine lv_goto (tgt := 206) hx hb dL_law_202 (by decide) ?_
      refine vz_Vi (wr := [(h1, .inr (9, [.ref (a1 0), .ref (a1 2), .ref (a1 5), .ref (a1 27), .ref (a1 28), .ref (a1 29), .ref (a1 30), .ref (a1 24), .ref (a1 31), .ref (a1 32), .ref (a1 25), .ref (a1 26), .ref (a1 33), .ref (a1 34), .ref (a1 18), .ref (a1 10), .int 1]))]) (As := [.int 1]) (rest := [.int (-100)]) hx hb hml hown hts hK hA hP hD hS (c_m_compile0 l D g h2 H.size a2 1) kv_L_24 (⟨Nat.le_of_ble_eq_true rfl, Nat.le_of_ble_eq_true rfl⟩) (q0 := 0) (ci := 10) rfl rfl rfl [0, 1, 2, 3, 4, 5] [6] rfl rfl (by decide) hl.1 (Nat.le_of_ble_eq_true rfl) dL_law_206 (⟨Nat.le_of_ble_eq_true rfl, Nat.le_of_ble_eq_true rfl⟩) rfl (fun r11 _ H locs e12 _ hP hD hS => ?_)
      subst e12
      have hP : va_P D vwCl [(h1, .inr (9, [.ref (a1 0), .ref (a1 2), .ref (a1 5), .ref (a1 27), .ref (a1 28), .ref (a1 29), .ref (a1 30), .ref (a1 24), .ref (a1 31), .ref (a1 32), .ref (a1 25), .ref (a1 26), .ref (a1 33), .ref (a1 34), .ref (a1 18), .ref (a1 10), .int 1])), (h2, .inr (10, mF a2 (upd (upd (upd (fun _ => 0) 7 1) 11 1) 13 1)))] H := hP
      have hD : va_D A [(h1, .inr (9, [.ref (a1 0), .ref (a1 2), .ref (a1 5), .ref (a1 27), .ref (a1 28), .ref (a1 29), .ref (a1 30), .ref (a1 24), .ref (a1 31), .ref (a1 32), .ref (a1 25), .ref (a1 26), .ref (a1 33), .ref (a1 34), .ref (a1 18), .ref (a1 10), .int 1])), (h2, .inr (10, mF a2 (upd (upd (upd (fun _ => 0) 7 1) 11 1) 13 1)))] := hD
      refine lv_icmp_eq (tgt := 732) hx hb dL_law_209 (by decide) (fun _ => ?_) (fun h9 => absurd (by decide) h9)
      refine lv_iinc (v := 6) (lv' := [(3, .int 6), (2, .ref h2), (1, .ref h1), (0, .ref b)]) hx hb dL_law_732 hl (k := 0) rfl (by decide) (by decide) rfl (fun ls hl => ?_)
      refine lv_goto (tgt := 18) hx hb dL_law_735 (by decide) ?_
      refine lv_iload_n hx hb dL_law_18 rfl (lv_at hl 0 rfl) ?_
      refine lv_aload_n hx hb dL_law_19 rfl (lv_at hl 3 rfl) ?_
      refine va_slen hx hb hX hbl hbA hS dL_law_20 ?_
      refine lv_topi (nm_r (e' := 6) (by decide) ?_)
      refine lv_bipush (v := 6) hx hb dL_law_21 (by decide) ?_
      refine lv_isub hx hb dL_law_23 ?_
      refine lv_topi (nm_r (e' := 0) (by decide) ?_)
      refine lv_icmp_gt (tgt := 738) hx hb dL_law_24 (by decide) (fun _ => ?_) (fun h9 => absurd (by decide) h9)
      refine lv_iconst (v := 1) hx hb dL_law_738 (by decide) ?_
      refine va_forget (fun q hq => hAe _ (hS.2.2 q hq)) ?_
      refine W.widen (k := 600000) (n := 7302250) (Nat.le_of_ble_eq_true rfl) (Nat.le_of_ble_eq_true rfl) ?_
      exact lw_ret hx hb hr hlocks dL_law_739
theorem q952 : Cond.methodLink RL 25 yX9_fault ∈ wsL_law := mT_4 (List.mem_of_getElem? (i := 162) rfl) rfl
theorem q953 : Cond.instanceMethod yX9_fault ∈ wsL_law := mT_4 (List.mem_of_getElem? (i := 163) rfl) rfl
theorem q954 : Cond.selects RX9 yX9_fault yX9_fault ∈ wsL_law := mT_4 (List.mem_of_getElem? (i := 164) rfl) rfl
theorem q955 : Cond.code yX9_fault cX9_fault 1 (some .int) ∈ wsL_law := mT_4 (List.mem_of_getElem? (i := 165) rfl) rfl
theorem kv_L_25 : vz_cv RL 25 yX9_fault cX9_fault 1 (some .int) 0 := ⟨q952, q953, q954, q2, q955, by decide +kernel⟩
theorem q956 : Cond.methodLink RL 29 yX10_fault ∈ wsL_law := mT_8 (List.mem_of_getElem? (i := 123) rfl) rfl
theorem q957 : Cond.instanceMethod yX10_fault ∈ wsL_law := mT_8 (List.mem_of_getElem? (i := 124) rfl) rfl
theorem q958 : Cond.selects RX10 yX10_fault yX10_fault ∈ wsL_law := mT_8 (List.mem_of_getElem? (i := 125) rfl) rfl
theorem q959 : Cond.code yX10_fault cX10_fault 1 (some .int) ∈ wsL_law := mT_8 (List.mem_of_getElem? (i := 126) rfl) rfl
theorem kv_L_29 : vz_cv RL 29 yX10_fault cX10_fault 1 (some .int) 0 := ⟨q956, q957, q958, q5, q959, by decide +kernel⟩
theorem dL_law_214 : decode cL_law 214 = .ok (.aload_n 1, 1) := by decide +kernel
theorem dL_law_215 : decode cL_law 215 = .ok (.invokevirtual 25, 3) := by decide +kernel
theorem dL_law_218 : decode cL_law 218 = .ok (.aload_n 2, 1) := by decide +kernel
theorem dL_law_219 : decode cL_law 219 = .ok (.invokevirtual 29, 3) := by decide +kernel
theorem dL_law_222 : decode cL_law 222 = .ok (.if_icmp .eq 510, 3) := by decide +kernel
set_option maxHeartbeats 4000000 in
set_option maxRecDepth 100000 in
theorem law_op2 {p : Program} {e : Env} {s : State} {m : MethodId} {below : List Frame} {meth : Method} {c : Code} {l : Launch} {b : Nat} {xs : Nat → Int32} (C0 : lw_At p s m meth c b 6 xs) {D : va_G} {g : Nat → ClassId} {A : Nat → Prop} (hAe : ∀ q, A q → s.heap.size ≤ q) (hA : ∀ q : Nat, s.heap.size ≤ q → A q) (hK : va_K D vwCl (tyG g) s) {h1 h2 : Nat} {a1 a2 : Nat → Nat} {H : Heap} {locs : List Loc} {ls : Array Slot} (hP : va_P D vwCl [(h1, .inr (9, [.ref (a1 0), .ref (a1 2), .ref (a1 5), .ref (a1 27), .ref (a1 28), .ref (a1 29), .ref (a1 30), .ref (a1 24), .ref (a1 31), .ref (a1 32), .ref (a1 25), .ref (a1 26), .ref (a1 33), .ref (a1 34), .ref (a1 18), .ref (a1 10), .int 0])), tT (a1 0) (a1 1) (nI 1) (nI 1000) 0, tA g (a1 1) 1000 (fun _ => 0), ((a1 2), .inr (5, [.ref (a1 3), .int 0])), tT (a1 3) (a1 4) (nI 3) (nI 1001) 0, tA g (a1 4) 3003 (fun _ => 0), ((a1 5), .inr (3, [.ref (a1 3), .ref (a1 6), .ref (a1 7), .ref (a1 8), .ref (a1 10), .int 0, .int 0, .int 0, .int 0, .int (-9), .int 0, .int 0])), tT (a1 6) (a1 35) (nI 1) (nI 6) 0, tT (a1 7) (a1 36) (nI 1) (nI 6) 0, tT (a1 8) (a1 9) (nI 1) (nI 80) 0, tA g (a1 9) 80 (fun _ => 0), ((a1 10), .inr (2, [.ref (a1 11), .ref (a1 12), .ref (a1 13), .ref (a1 14), .ref (a1 16)])), tT (a1 11) (a1 37) (nI 12) (nI 80) 0, tT (a1 12) (a1 38) (nI 5) (nI 1000) 0, tT (a1 13) (a1 39) (nI 5) (nI 112) 0, tT (a1 14) (a1 15) (nI 1) (nI 16) 0, tA g (a1 15) 16 (fun _ => 0), tT (a1 16) (a1 17) (nI 2) (nI 8) 0, tA g (a1 17) 16 (fun _ => 0), ((a1 18), .inr (2, [.ref (a1 19), .ref (a1 22), .ref (a1 20), .ref (a1 23), .ref (a1 21)])), tT (a1 19) (a1 40) (nI 12) (nI 80) 0, tT (a1 20) (a1 41) (nI 5) (nI 112) 0, tT (a1 21) (a1 42) (nI 2) (nI 8) 0, tT (a1 24) (a1 43) (nI 4) (nI 30) 0, ((a1 25), .inr (4, [.ref (a1 44), .ref (a1 45), .ref (a1 46), .ref (a1 47), .ref (a1 48), .int (-9), .int 0, .int 0, .int 0, .int 0, .int 0, .int 0])), ((a1 26), .inr (4, [.ref (a1 49), .ref (a1 50), .ref (a1 51), .ref (a1 52), .ref (a1 53), .int (-9), .int 0, .int 0, .int 0, .int 0, .int 0, .int 0])), (h2, .inr (10, mF a2 (fun _ => 0))), ((a2 1), .inl (g 1, 1000, .inl (fun _ => 0))), tA g (a2 3) 2 (fun _ => 0), tA g (a2 10) 2 (fun _ => 0), tA g (a2 12) 2 (fun _ => 0), tA g (a2 14) 2 (fun _ => 0), tA g (a2 13) 32 (fun _ => 0), ((a2 28), .inl (g 3, 2, .inl (fun _ => 0)))] H) (hD : va_D A [(h1, .inr (9, [.ref (a1 0), .ref (a1 2), .ref (a1 5), .ref (a1 27), .ref (a1 28), .ref (a1 29), .ref (a1 30), .ref (a1 24), .ref (a1 31), .ref (a1 32), .ref (a1 25), .ref (a1 26), .ref (a1 33), .ref (a1 34), .ref (a1 18), .ref (a1 10), .int 0])), tT (a1 0) (a1 1) (nI 1) (nI 1000) 0, tA g (a1 1) 1000 (fun _ => 0), ((a1 2), .inr (5, [.ref (a1 3), .int 0])), tT (a1 3) (a1 4) (nI 3) (nI 1001) 0, tA g (a1 4) 3003 (fun _ => 0), ((a1 5), .inr (3, [.ref (a1 3), .ref (a1 6), .ref (a1 7), .ref (a1 8), .ref (a1 10), .int 0, .int 0, .int 0, .int 0, .int (-9), .int 0, .int 0])), tT (a1 6) (a1 35) (nI 1) (nI 6) 0, tT (a1 7) (a1 36) (nI 1) (nI 6) 0, tT (a1 8) (a1 9) (nI 1) (nI 80) 0, tA g (a1 9) 80 (fun _ => 0), ((a1 10), .inr (2, [.ref (a1 11), .ref (a1 12), .ref (a1 13), .ref (a1 14), .ref (a1 16)])), tT (a1 11) (a1 37) (nI 12) (nI 80) 0, tT (a1 12) (a1 38) (nI 5) (nI 1000) 0, tT (a1 13) (a1 39) (nI 5) (nI 112) 0, tT (a1 14) (a1 15) (nI 1) (nI 16) 0, tA g (a1 15) 16 (fun _ => 0), tT (a1 16) (a1 17) (nI 2) (nI 8) 0, tA g (a1 17) 16 (fun _ => 0), ((a1 18), .inr (2, [.ref (a1 19), .ref (a1 22), .ref (a1 20), .ref (a1 23), .ref (a1 21)])), tT (a1 19) (a1 40) (nI 12) (nI 80) 0, tT (a1 20) (a1 41) (nI 5) (nI 112) 0, tT (a1 21) (a1 42) (nI 2) (nI 8) 0, tT (a1 24) (a1 43) (nI 4) (nI 30) 0, ((a1 25), .inr (4, [.ref (a1 44), .ref (a1 45), .ref (a1 46), .ref (a1 47), .ref (a1 48), .int (-9), .int 0, .int 0, .int 0, .int 0, .int 0, .int 0])), ((a1 26), .inr (4, [.ref (a1 49), .ref (a1 50), .ref (a1 51), .ref (a1 52), .ref (a1 53), .int (-9), .int 0, .int 0, .int 0, .int 0, .int 0, .int 0])), (h2, .inr (10, mF a2 (fun _ => 0))), ((a2 1), .inl (g 1, 1000, .inl (fun _ => 0))), tA g (a2 3) 2 (fun _ => 0), tA g (a2 10) 2 (fun _ => 0), tA g (a2 12) 2 (fun _ => 0), tA g (a2 14) 2 (fun _ => 0), tA g (a2 13) 32 (fun _ => 0), ((a2 28), .inl (g 3, 2, .inl (fun _ => 0)))]) (hS : va_S A s.heap H locs) (hl : lv_has ls 4 [(3, .int 0), (2, .ref h2), (1, .ref h1), (0, .ref b)]) : W p l e room_1 s m #[Value.ref b] below meth c H locs 168 110802 (lw_Z below #[Value.ref b] s) (F0 m 214 ls []) := by
  obtain ⟨hx, hb, hr, hml, hown, hts0, hX, hbl, hlocks, -⟩ := id C0
  have hts : ∀ w ∈ wsL_law, w.before #[Value.ref b] s = true := fun w h => hts0 w (wsL_law_in w h)
  have hbA : ¬ A b := fun z => absurd (hAe _ z) (Nat.not_le.mpr hbl)
  have hP : va_P D vwCl [(h1, .inr (9, [.ref (a1 0), .ref (a1 2), .ref (a1 5), .ref (a1 27), .ref (a1 28), .ref (a1 29), .ref (a1 30), .ref (a1 24), .ref (a1 31), .ref (a1 32), .ref (a1 25), .ref (a1 26), .ref (a1 33), .ref (a1 34), .ref (a1 18), .ref (a1 10), .int 0])), (h2, .inr (10, mF a2 (fun _ => 0)))] H := vz_pickP hP [0, 26] rfl
  have hD : va_D A [(h1, .inr (9, [.ref (a1 0), .ref (a1 2), .ref (a1 5), .ref (a1 27), .ref (a1 28), .ref (a1 29), .ref (a1 30), .ref (a1 24), .ref (a1 31), .ref (a1 32), .ref (a1 25), .ref (a1 26), .ref (a1 33), .ref (a1 34), .ref (a1 18), .ref (a1 10), .int 0])), (h2, .inr (10, mF a2 (fun _ => 0)))] := hD.sub [0, 26] (by decide) rfl
  refine lv_aload_n hx hb dL_law_214 rfl (lv_at hl 2 rfl) ?_
  refine vz_Vi (wr := [(h2, .inr (10, mF a2 (fun _ => 0)))]) (As := []) (rest := []) hx hb hml hown hts hK hA hP hD hS (c_A_fault0 l D g h1 H.size a1 ) kv_L_25 (⟨Nat.le_of_ble_eq_true rfl, Nat.le_of_ble_eq_true rfl⟩) (q0 := 0) (ci := 9) rfl rfl rfl [0] [1] rfl rfl (by decide) hl.1 (Nat.le_of_ble_eq_true rfl) dL_law_215 (⟨Nat.le_of_ble_eq_true rfl, Nat.le_of_ble_eq_true rfl⟩) rfl (fun r1 _ H locs e2 _ hP hD hS => ?_)
  subst e2
  have hP : va_P D vwCl [(h2, .inr (10, mF a2 (fun _ => 0))), (h1, .inr (9, [.ref (a1 0), .ref (a1 2), .ref (a1 5), .ref (a1 27), .ref (a1 28), .ref (a1 29), .ref (a1 30), .ref (a1 24), .ref (a1 31), .ref (a1 32), .ref (a1 25), .ref (a1 26), .ref (a1 33), .ref (a1 34), .ref (a1 18), .ref (a1 10), .int 0]))] H := hP
  have hD : va_D A [(h2, .inr (10, mF a2 (fun _ => 0))), (h1, .inr (9, [.ref (a1 0), .ref (a1 2), .ref (a1 5), .ref (a1 27), .ref (a1 28), .ref (a1 29), .ref (a1 30), .ref (a1 24), .ref (a1 31), .ref (a1 32), .ref (a1 25), .ref (a1 26), .ref (a1 33), .ref (a1 34), .ref (a1 18), .ref (a1 10), .int 0]))] := hD
  refine lv_aload_n hx hb dL_law_218 rfl (lv_at hl 1 rfl) ?_
  refine vz_Vi (wr := [(h1, .inr (9, [.ref (a1 0), .ref (a1 2), .ref (a1 5), .ref (a1 27), .ref (a1 28), .ref (a1 29), .ref (a1 30), .ref (a1 24), .ref (a1 31), .ref (a1 32), .ref (a1 25), .ref (a1 26), .ref (a1 33), .ref (a1 34), .ref (a1 18), .ref (a1 10), .int 0]))]) (As := []) (rest := [.int 0]) hx hb hml hown hts hK hA hP hD hS (c_m_fault0 l D g h2 H.size a2 ) kv_L_29 (⟨Nat.le_of_ble_eq_true rfl, Nat.le_of_ble_eq_true rfl⟩) (q0 := 0) (ci := 10) rfl rfl rfl [0] [1] rfl rfl (by decide) hl.1 (Nat.le_of_ble_eq_true rfl) dL_law_219 (⟨Nat.le_of_ble_eq_true rfl, Nat.le_of_ble_eq_true rfl⟩) rfl (fun r3 _ H locs e4 _ hP hD hS => ?_)
  subst e4
  have hP : va_P D vwCl [(h1, .inr (9, [.ref (a1 0), .ref (a1 2), .ref (a1 5), .ref (a1 27), .ref (a1 28), .ref (a1 29), .ref (a1 30), .ref (a1 24), .ref (a1 31), .ref (a1 32), .ref (a1 25), .ref (a1 26), .ref (a1 33), .ref (a1 34), .ref (a1 18), .ref (a1 10), .int 0])), (h2, .inr (10, mF a2 (fun _ => 0)))] H := hP
  have hD : va_D A [(h1, .inr (9, [.ref (a1 0), .ref (a1 2), .ref (a1 5), .ref (a1 27), .ref (a1 28), .ref (a1 29), .ref (a1 30), .ref (a1 24), .ref (a1 31), .ref (a1 32), .ref (a1 25), .ref (a1 26), .ref (a1 33), .ref (a1 34), .ref (a1 18), .ref (a1 10), .int 0])), (h2, .inr (10, mF a2 (fun _ => 0)))] := hD
  refine lv_icmp_eq (tgt := 732) hx hb dL_law_222 (by decide) (fun _ => ?_) (fun h9 => absurd (by decide) h9)
  refine lv_iinc (v := 6) (lv' := [(3, .int 6), (2, .ref h2), (1, .ref h1), (0, .ref b)]) hx hb dL_law_732 hl (k := 0) rfl (by decide) (by decide) rfl (fun ls hl => ?_)
  refine lv_goto (tgt := 18) hx hb dL_law_735 (by decide) ?_
  refine lv_iload_n hx hb dL_law_18 rfl (lv_at hl 0 rfl) ?_
  refine lv_aload_n hx hb dL_law_19 rfl (lv_at hl 3 rfl) ?_
  refine va_slen hx hb hX hbl hbA hS dL_law_20 ?_
  refine lv_topi (nm_r (e' := 6) (by decide) ?_)
  refine lv_bipush (v := 6) hx hb dL_law_21 (by decide) ?_
  refine lv_isub hx hb dL_law_23 ?_
  refine lv_topi (nm_r (e' := 0) (by decide) ?_)
  refine lv_icmp_gt (tgt := 738) hx hb dL_law_24 (by decide) (fun _ => ?_) (fun h9 => absurd (by decide) h9)
  refine lv_iconst (v := 1) hx hb dL_law_738 (by decide) ?_
  refine va_forget (fun q hq => hAe _ (hS.2.2 q hq)) ?_
  refine W.widen (k := 600000) (n := 7302250) (Nat.le_of_ble_eq_true rfl) (Nat.le_of_ble_eq_true rfl) ?_
  exact lw_ret hx hb hr hlocks dL_law_739
theorem q960 : Cond.methodLink RL 30 yX9_count ∈ wsL_law := mT_4 (List.mem_of_getElem? (i := 166) rfl) rfl
theorem q961 : Cond.instanceMethod yX9_count ∈ wsL_law := mT_4 (List.mem_of_getElem? (i := 167) rfl) rfl
theorem q962 : Cond.selects RX9 yX9_count yX9_count ∈ wsL_law := mT_4 (List.mem_of_getElem? (i := 168) rfl) rfl
theorem q963 : Cond.code yX9_count cX9_count 2 (some .int) ∈ wsL_law := mT_4 (List.mem_of_getElem? (i := 169) rfl) rfl
theorem kv_L_30 : vz_cv RL 30 yX9_count cX9_count 2 (some .int) 1 := ⟨q960, q961, q962, q2, q963, by decide +kernel⟩
theorem q967 : Cond.methodLink RL 34 yX10_count ∈ wsL_law := mT_8 (List.mem_of_getElem? (i := 127) rfl) rfl
theorem q968 : Cond.instanceMethod yX10_count ∈ wsL_law := mT_8 (List.mem_of_getElem? (i := 128) rfl) rfl
theorem q969 : Cond.selects RX10 yX10_count yX10_count ∈ wsL_law := mT_8 (List.mem_of_getElem? (i := 129) rfl) rfl
theorem q970 : Cond.code yX10_count cX10_count 2 (some .int) ∈ wsL_law := mT_8 (List.mem_of_getElem? (i := 130) rfl) rfl
theorem kv_L_34 : vz_cv RL 34 yX10_count cX10_count 2 (some .int) 1 := ⟨q967, q968, q969, q5, q970, by decide +kernel⟩
theorem dL_law_227 : decode cL_law 227 = .ok (.aload_n 1, 1) := by decide +kernel
theorem dL_law_228 : decode cL_law 228 = .ok (.aload_n 0, 1) := by decide +kernel
theorem dL_law_229 : decode cL_law 229 = .ok (.iload_n 3, 1) := by decide +kernel
theorem dL_law_230 : decode cL_law 230 = .ok (.iconst 1, 1) := by decide +kernel
theorem dL_law_231 : decode cL_law 231 = .ok (.iadd, 1) := by decide +kernel
theorem dL_law_232 : decode cL_law 232 = .ok (.iaload, 1) := by decide +kernel
theorem dL_law_233 : decode cL_law 233 = .ok (.invokevirtual 30, 3) := by decide +kernel
theorem dL_law_236 : decode cL_law 236 = .ok (.aload_n 2, 1) := by decide +kernel
theorem dL_law_237 : decode cL_law 237 = .ok (.aload_n 0, 1) := by decide +kernel
theorem dL_law_238 : decode cL_law 238 = .ok (.iload_n 3, 1) := by decide +kernel
theorem dL_law_239 : decode cL_law 239 = .ok (.iconst 1, 1) := by decide +kernel
theorem dL_law_240 : decode cL_law 240 = .ok (.iadd, 1) := by decide +kernel
theorem dL_law_241 : decode cL_law 241 = .ok (.iaload, 1) := by decide +kernel
theorem dL_law_242 : decode cL_law 242 = .ok (.invokevirtual 34, 3) := by decide +kernel
theorem dL_law_245 : decode cL_law 245 = .ok (.if_icmp .eq 487, 3) := by decide +kernel
set_option maxHeartbeats 4000000 in
set_option maxRecDepth 100000 in
theorem law_op3 {p : Program} {e : Env} {s : State} {m : MethodId} {below : List Frame} {meth : Method} {c : Code} {l : Launch} {b : Nat} {xs : Nat → Int32} (C0 : lw_At p s m meth c b 6 xs) {D : va_G} {g : Nat → ClassId} {A : Nat → Prop} (hAe : ∀ q, A q → s.heap.size ≤ q) (hA : ∀ q : Nat, s.heap.size ≤ q → A q) (hK : va_K D vwCl (tyG g) s) {h1 h2 : Nat} {a1 a2 : Nat → Nat} {H : Heap} {locs : List Loc} {ls : Array Slot} (hP : va_P D vwCl [(h1, .inr (9, [.ref (a1 0), .ref (a1 2), .ref (a1 5), .ref (a1 27), .ref (a1 28), .ref (a1 29), .ref (a1 30), .ref (a1 24), .ref (a1 31), .ref (a1 32), .ref (a1 25), .ref (a1 26), .ref (a1 33), .ref (a1 34), .ref (a1 18), .ref (a1 10), .int 0])), tT (a1 0) (a1 1) (nI 1) (nI 1000) 0, tA g (a1 1) 1000 (fun _ => 0), ((a1 2), .inr (5, [.ref (a1 3), .int 0])), tT (a1 3) (a1 4) (nI 3) (nI 1001) 0, tA g (a1 4) 3003 (fun _ => 0), ((a1 5), .inr (3, [.ref (a1 3), .ref (a1 6), .ref (a1 7), .ref (a1 8), .ref (a1 10), .int 0, .int 0, .int 0, .int 0, .int (-9), .int 0, .int 0])), tT (a1 6) (a1 35) (nI 1) (nI 6) 0, tT (a1 7) (a1 36) (nI 1) (nI 6) 0, tT (a1 8) (a1 9) (nI 1) (nI 80) 0, tA g (a1 9) 80 (fun _ => 0), ((a1 10), .inr (2, [.ref (a1 11), .ref (a1 12), .ref (a1 13), .ref (a1 14), .ref (a1 16)])), tT (a1 11) (a1 37) (nI 12) (nI 80) 0, tT (a1 12) (a1 38) (nI 5) (nI 1000) 0, tT (a1 13) (a1 39) (nI 5) (nI 112) 0, tT (a1 14) (a1 15) (nI 1) (nI 16) 0, tA g (a1 15) 16 (fun _ => 0), tT (a1 16) (a1 17) (nI 2) (nI 8) 0, tA g (a1 17) 16 (fun _ => 0), ((a1 18), .inr (2, [.ref (a1 19), .ref (a1 22), .ref (a1 20), .ref (a1 23), .ref (a1 21)])), tT (a1 19) (a1 40) (nI 12) (nI 80) 0, tT (a1 20) (a1 41) (nI 5) (nI 112) 0, tT (a1 21) (a1 42) (nI 2) (nI 8) 0, tT (a1 24) (a1 43) (nI 4) (nI 30) 0, ((a1 25), .inr (4, [.ref (a1 44), .ref (a1 45), .ref (a1 46), .ref (a1 47), .ref (a1 48), .int (-9), .int 0, .int 0, .int 0, .int 0, .int 0, .int 0])), ((a1 26), .inr (4, [.ref (a1 49), .ref (a1 50), .ref (a1 51), .ref (a1 52), .ref (a1 53), .int (-9), .int 0, .int 0, .int 0, .int 0, .int 0, .int 0])), (h2, .inr (10, mF a2 (fun _ => 0))), ((a2 1), .inl (g 1, 1000, .inl (fun _ => 0))), tA g (a2 3) 2 (fun _ => 0), tA g (a2 10) 2 (fun _ => 0), tA g (a2 12) 2 (fun _ => 0), tA g (a2 14) 2 (fun _ => 0), tA g (a2 13) 32 (fun _ => 0), ((a2 28), .inl (g 3, 2, .inl (fun _ => 0)))] H) (hD : va_D A [(h1, .inr (9, [.ref (a1 0), .ref (a1 2), .ref (a1 5), .ref (a1 27), .ref (a1 28), .ref (a1 29), .ref (a1 30), .ref (a1 24), .ref (a1 31), .ref (a1 32), .ref (a1 25), .ref (a1 26), .ref (a1 33), .ref (a1 34), .ref (a1 18), .ref (a1 10), .int 0])), tT (a1 0) (a1 1) (nI 1) (nI 1000) 0, tA g (a1 1) 1000 (fun _ => 0), ((a1 2), .inr (5, [.ref (a1 3), .int 0])), tT (a1 3) (a1 4) (nI 3) (nI 1001) 0, tA g (a1 4) 3003 (fun _ => 0), ((a1 5), .inr (3, [.ref (a1 3), .ref (a1 6), .ref (a1 7), .ref (a1 8), .ref (a1 10), .int 0, .int 0, .int 0, .int 0, .int (-9), .int 0, .int 0])), tT (a1 6) (a1 35) (nI 1) (nI 6) 0, tT (a1 7) (a1 36) (nI 1) (nI 6) 0, tT (a1 8) (a1 9) (nI 1) (nI 80) 0, tA g (a1 9) 80 (fun _ => 0), ((a1 10), .inr (2, [.ref (a1 11), .ref (a1 12), .ref (a1 13), .ref (a1 14), .ref (a1 16)])), tT (a1 11) (a1 37) (nI 12) (nI 80) 0, tT (a1 12) (a1 38) (nI 5) (nI 1000) 0, tT (a1 13) (a1 39) (nI 5) (nI 112) 0, tT (a1 14) (a1 15) (nI 1) (nI 16) 0, tA g (a1 15) 16 (fun _ => 0), tT (a1 16) (a1 17) (nI 2) (nI 8) 0, tA g (a1 17) 16 (fun _ => 0), ((a1 18), .inr (2, [.ref (a1 19), .ref (a1 22), .ref (a1 20), .ref (a1 23), .ref (a1 21)])), tT (a1 19) (a1 40) (nI 12) (nI 80) 0, tT (a1 20) (a1 41) (nI 5) (nI 112) 0, tT (a1 21) (a1 42) (nI 2) (nI 8) 0, tT (a1 24) (a1 43) (nI 4) (nI 30) 0, ((a1 25), .inr (4, [.ref (a1 44), .ref (a1 45), .ref (a1 46), .ref (a1 47), .ref (a1 48), .int (-9), .int 0, .int 0, .int 0, .int 0, .int 0, .int 0])), ((a1 26), .inr (4, [.ref (a1 49), .ref (a1 50), .ref (a1 51), .ref (a1 52), .ref (a1 53), .int (-9), .int 0, .int 0, .int 0, .int 0, .int 0, .int 0])), (h2, .inr (10, mF a2 (fun _ => 0))), ((a2 1), .inl (g 1, 1000, .inl (fun _ => 0))), tA g (a2 3) 2 (fun _ => 0), tA g (a2 10) 2 (fun _ => 0), tA g (a2 12) 2 (fun _ => 0), tA g (a2 14) 2 (fun _ => 0), tA g (a2 13) 32 (fun _ => 0), ((a2 28), .inl (g 3, 2, .inl (fun _ => 0)))]) (hS : va_S A s.heap H locs) (hl : lv_has ls 4 [(3, .int 0), (2, .ref h2), (1, .ref h1), (0, .ref b)]) : W p l e room_1 s m #[Value.ref b] below meth c H locs 168 110802 (lw_Z below #[Value.ref b] s) (F0 m 227 ls []) := by
  obtain ⟨hx, hb, hr, hml, hown, hts0, hX, hbl, hlocks, -⟩ := id C0
  have hts : ∀ w ∈ wsL_law, w.before #[Value.ref b] s = true := fun w h => hts0 w (wsL_law_in w h)
  have hbA : ¬ A b := fun z => absurd (hAe _ z) (Nat.not_le.mpr hbl)
  have hP : va_P D vwCl [(h1, .inr (9, [.ref (a1 0), .ref (a1 2), .ref (a1 5), .ref (a1 27), .ref (a1 28), .ref (a1 29), .ref (a1 30), .ref (a1 24), .ref (a1 31), .ref (a1 32), .ref (a1 25), .ref (a1 26), .ref (a1 33), .ref (a1 34), .ref (a1 18), .ref (a1 10), .int 0])), tT (a1 24) (a1 43) (nI 4) (nI 30) 0, ((a1 18), .inr (2, [.ref (a1 19), .ref (a1 22), .ref (a1 20), .ref (a1 23), .ref (a1 21)])), tT (a1 21) (a1 42) (nI 2) (nI 8) 0, (h2, .inr (10, mF a2 (fun _ => 0)))] H := vz_pickP hP [0, 23, 19, 22, 26] rfl
  have hD : va_D A [(h1, .inr (9, [.ref (a1 0), .ref (a1 2), .ref (a1 5), .ref (a1 27), .ref (a1 28), .ref (a1 29), .ref (a1 30), .ref (a1 24), .ref (a1 31), .ref (a1 32), .ref (a1 25), .ref (a1 26), .ref (a1 33), .ref (a1 34), .ref (a1 18), .ref (a1 10), .int 0])), tT (a1 24) (a1 43) (nI 4) (nI 30) 0, ((a1 18), .inr (2, [.ref (a1 19), .ref (a1 22), .ref (a1 20), .ref (a1 23), .ref (a1 21)])), tT (a1 21) (a1 42) (nI 2) (nI 8) 0, (h2, .inr (10, mF a2 (fun _ => 0)))] := hD.sub [0, 23, 19, 22, 26] (by decide) rfl
  refine lv_aload_n hx hb dL_law_227 rfl (lv_at hl 2 rfl) ?_
  refine lv_aload_n hx hb dL_law_228 rfl (lv_at hl 3 rfl) ?_
  refine lv_iload_n hx hb dL_law_229 rfl (lv_at hl 0 rfl) ?_
  refine lv_iconst (v := 1) hx hb dL_law_230 (by decide) ?_
  refine lv_iadd hx hb dL_law_231 ?_
  refine lv_topi (nm_r (e' := 1) (by decide) ?_)
  refine va_sld hx hb hX hbl hbA hS (vp_in_c (by decide)) dL_law_232 ?_
  refine vz_Vi (wr := [(h2, .inr (10, mF a2 (fun _ => 0)))]) (As := [.int (xs 1)]) (rest := []) hx hb hml hown hts hK hA hP hD hS (c_A_count0 l D g h1 H.size a1 (xs 1)) kv_L_30 (⟨Nat.le_of_ble_eq_true rfl, Nat.le_of_ble_eq_true rfl⟩) (q0 := 0) (ci := 9) rfl rfl rfl [0, 1, 2, 3] [4] rfl rfl (by decide) hl.1 (Nat.le_of_ble_eq_true rfl) dL_law_233 (⟨Nat.le_of_ble_eq_true rfl, Nat.le_of_ble_eq_true rfl⟩) rfl (fun r1 _ H locs e2 _ hP hD hS => ?_)
  subst e2
  have hP : va_P D vwCl [(h2, .inr (10, mF a2 (fun _ => 0))), (h1, .inr (9, [.ref (a1 0), .ref (a1 2), .ref (a1 5), .ref (a1 27), .ref (a1 28), .ref (a1 29), .ref (a1 30), .ref (a1 24), .ref (a1 31), .ref (a1 32), .ref (a1 25), .ref (a1 26), .ref (a1 33), .ref (a1 34), .ref (a1 18), .ref (a1 10), .int 0])), tT (a1 24) (a1 43) (nI 4) (nI 30) 0, ((a1 18), .inr (2, [.ref (a1 19), .ref (a1 22), .ref (a1 20), .ref (a1 23), .ref (a1 21)])), tT (a1 21) (a1 42) (nI 2) (nI 8) 0] H := hP
  have hD : va_D A [(h2, .inr (10, mF a2 (fun _ => 0))), (h1, .inr (9, [.ref (a1 0), .ref (a1 2), .ref (a1 5), .ref (a1 27), .ref (a1 28), .ref (a1 29), .ref (a1 30), .ref (a1 24), .ref (a1 31), .ref (a1 32), .ref (a1 25), .ref (a1 26), .ref (a1 33), .ref (a1 34), .ref (a1 18), .ref (a1 10), .int 0])), tT (a1 24) (a1 43) (nI 4) (nI 30) 0, ((a1 18), .inr (2, [.ref (a1 19), .ref (a1 22), .ref (a1 20), .ref (a1 23), .ref (a1 21)])), tT (a1 21) (a1 42) (nI 2) (nI 8) 0] := hD
  refine lv_aload_n hx hb dL_law_236 rfl (lv_at hl 1 rfl) ?_
  refine lv_aload_n hx hb dL_law_237 rfl (lv_at hl 3 rfl) ?_
  refine lv_iload_n hx hb dL_law_238 rfl (lv_at hl 0 rfl) ?_
  refine lv_iconst (v := 1) hx hb dL_law_239 (by decide) ?_
  refine lv_iadd hx hb dL_law_240 ?_
  refine lv_topi (nm_r (e' := 1) (by decide) ?_)
  refine va_sld hx hb hX hbl hbA hS (vp_in_c (by decide)) dL_law_241 ?_
  refine vz_Vi (wr := [(h1, .inr (9, [.ref (a1 0), .ref (a1 2), .ref (a1 5), .ref (a1 27), .ref (a1 28), .ref (a1 29), .ref (a1 30), .ref (a1 24), .ref (a1 31), .ref (a1 32), .ref (a1 25), .ref (a1 26), .ref (a1 33), .ref (a1 34), .ref (a1 18), .ref (a1 10), .int 0])), tT (a1 24) (a1 43) (nI 4) (nI 30) 0, ((a1 18), .inr (2, [.ref (a1 19), .ref (a1 22), .ref (a1 20), .ref (a1 23), .ref (a1 21)])), tT (a1 21) (a1 42) (nI 2) (nI 8) 0]) (As := [.int (xs 1)]) (rest := [.int (if (xs 1) = 4 then 0 else -1)]) hx hb hml hown hts hK hA hP hD hS (c_m_count0 l D g h2 H.size a2 (xs 1)) kv_L_34 (⟨Nat.le_of_ble_eq_true rfl, Nat.le_of_ble_eq_true rfl⟩) (q0 := 0) (ci := 10) rfl rfl rfl [0] [1, 2, 3, 4] rfl rfl (by decide) hl.1 (Nat.le_of_ble_eq_true rfl) dL_law_242 (⟨Nat.le_of_ble_eq_true rfl, Nat.le_of_ble_eq_true rfl⟩) rfl (fun r3 _ H locs e4 _ hP hD hS => ?_)
  subst e4
  have hP : va_P D vwCl [(h1, .inr (9, [.ref (a1 0), .ref (a1 2), .ref (a1 5), .ref (a1 27), .ref (a1 28), .ref (a1 29), .ref (a1 30), .ref (a1 24), .ref (a1 31), .ref (a1 32), .ref (a1 25), .ref (a1 26), .ref (a1 33), .ref (a1 34), .ref (a1 18), .ref (a1 10), .int 0])), tT (a1 24) (a1 43) (nI 4) (nI 30) 0, ((a1 18), .inr (2, [.ref (a1 19), .ref (a1 22), .ref (a1 20), .ref (a1 23), .ref (a1 21)])), tT (a1 21) (a1 42) (nI 2) (nI 8) 0, (h2, .inr (10, mF a2 (fun _ => 0)))] H := hP
  have hD : va_D A [(h1, .inr (9, [.ref (a1 0), .ref (a1 2), .ref (a1 5), .ref (a1 27), .ref (a1 28), .ref (a1 29), .ref (a1 30), .ref (a1 24), .ref (a1 31), .ref (a1 32), .ref (a1 25), .ref (a1 26), .ref (a1 33), .ref (a1 34), .ref (a1 18), .ref (a1 10), .int 0])), tT (a1 24) (a1 43) (nI 4) (nI 30) 0, ((a1 18), .inr (2, [.ref (a1 19), .ref (a1 22), .ref (a1 20), .ref (a1 23), .ref (a1 21)])), tT (a1 21) (a1 42) (nI 2) (nI 8) 0, (h2, .inr (10, mF a2 (fun _ => 0)))] := hD
  refine lv_icmp_eq (tgt := 732) hx hb dL_law_245 (by decide) (fun _ => ?_) (fun h9 => absurd (rfl) h9)
  refine lv_iinc (v := 6) (lv' := [(3, .int 6), (2, .ref h2), (1, .ref h1), (0, .ref b)]) hx hb dL_law_732 hl (k := 0) rfl (by decide) (by decide) rfl (fun ls hl => ?_)
  refine lv_goto (tgt := 18) hx hb dL_law_735 (by decide) ?_
  refine lv_iload_n hx hb dL_law_18 rfl (lv_at hl 0 rfl) ?_
  refine lv_aload_n hx hb dL_law_19 rfl (lv_at hl 3 rfl) ?_
  refine va_slen hx hb hX hbl hbA hS dL_law_20 ?_
  refine lv_topi (nm_r (e' := 6) (by decide) ?_)
  refine lv_bipush (v := 6) hx hb dL_law_21 (by decide) ?_
  refine lv_isub hx hb dL_law_23 ?_
  refine lv_topi (nm_r (e' := 0) (by decide) ?_)
  refine lv_icmp_gt (tgt := 738) hx hb dL_law_24 (by decide) (fun _ => ?_) (fun h9 => absurd (by decide) h9)
  refine lv_iconst (v := 1) hx hb dL_law_738 (by decide) ?_
  refine va_forget (fun q hq => hAe _ (hS.2.2 q hq)) ?_
  refine W.widen (k := 600000) (n := 7302250) (Nat.le_of_ble_eq_true rfl) (Nat.le_of_ble_eq_true rfl) ?_
  exact lw_ret hx hb hr hlocks dL_law_739
theorem q971 : Cond.methodLink RL 35 yX9_plan ∈ wsL_law := mT_4 (List.mem_of_getElem? (i := 170) rfl) rfl
theorem q972 : Cond.instanceMethod yX9_plan ∈ wsL_law := mT_4 (List.mem_of_getElem? (i := 171) rfl) rfl
theorem q973 : Cond.selects RX9 yX9_plan yX9_plan ∈ wsL_law := mT_4 (List.mem_of_getElem? (i := 172) rfl) rfl
theorem q974 : Cond.code yX9_plan cX9_plan 6 (some .int) ∈ wsL_law := mT_4 (List.mem_of_getElem? (i := 173) rfl) rfl
theorem kv_L_35 : vz_cv RL 35 yX9_plan cX9_plan 6 (some .int) 4 := ⟨q971, q972, q973, q2, q974, by decide +kernel⟩
theorem q979 : Cond.methodLink RL 39 yX10_plan ∈ wsL_law := mT_8 (List.mem_of_getElem? (i := 131) rfl) rfl
theorem q980 : Cond.instanceMethod yX10_plan ∈ wsL_law := mT_8 (List.mem_of_getElem? (i := 132) rfl) rfl
theorem q981 : Cond.selects RX10 yX10_plan yX10_plan ∈ wsL_law := mT_8 (List.mem_of_getElem? (i := 133) rfl) rfl
theorem q982 : Cond.code yX10_plan cX10_plan 5 (some .int) ∈ wsL_law := mT_8 (List.mem_of_getElem? (i := 134) rfl) rfl
theorem kv_L_39 : vz_cv RL 39 yX10_plan cX10_plan 5 (some .int) 4 := ⟨q979, q980, q981, q5, q982, by decide +kernel⟩
theorem dL_law_250 : decode cL_law 250 = .ok (.aload_n 1, 1) := by decide +kernel
theorem dL_law_251 : decode cL_law 251 = .ok (.aload_n 0, 1) := by decide +kernel
theorem dL_law_252 : decode cL_law 252 = .ok (.iload_n 3, 1) := by decide +kernel
theorem dL_law_253 : decode cL_law 253 = .ok (.iconst 1, 1) := by decide +kernel
theorem dL_law_254 : decode cL_law 254 = .ok (.iadd, 1) := by decide +kernel
theorem dL_law_255 : decode cL_law 255 = .ok (.iaload, 1) := by decide +kernel
theorem dL_law_256 : decode cL_law 256 = .ok (.aload_n 0, 1) := by decide +kernel
theorem dL_law_257 : decode cL_law 257 = .ok (.iload_n 3, 1) := by decide +kernel
theorem dL_law_258 : decode cL_law 258 = .ok (.iconst 2, 1) := by decide +kernel
theorem dL_law_259 : decode cL_law 259 = .ok (.iadd, 1) := by decide +kernel
theorem dL_law_260 : decode cL_law 260 = .ok (.iaload, 1) := by decide +kernel
theorem dL_law_261 : decode cL_law 261 = .ok (.aload_n 0, 1) := by decide +kernel
theorem dL_law_262 : decode cL_law 262 = .ok (.iload_n 3, 1) := by decide +kernel
theorem dL_law_263 : decode cL_law 263 = .ok (.iconst 3, 1) := by decide +kernel
theorem dL_law_264 : decode cL_law 264 = .ok (.iadd, 1) := by decide +kernel
theorem dL_law_265 : decode cL_law 265 = .ok (.iaload, 1) := by decide +kernel
theorem dL_law_266 : decode cL_law 266 = .ok (.aload_n 0, 1) := by decide +kernel
theorem dL_law_267 : decode cL_law 267 = .ok (.iload_n 3, 1) := by decide +kernel
theorem dL_law_268 : decode cL_law 268 = .ok (.iconst 4, 1) := by decide +kernel
theorem dL_law_269 : decode cL_law 269 = .ok (.iadd, 1) := by decide +kernel
theorem dL_law_270 : decode cL_law 270 = .ok (.iaload, 1) := by decide +kernel
theorem dL_law_271 : decode cL_law 271 = .ok (.invokevirtual 35, 3) := by decide +kernel
theorem dL_law_274 : decode cL_law 274 = .ok (.aload_n 2, 1) := by decide +kernel
theorem dL_law_275 : decode cL_law 275 = .ok (.aload_n 0, 1) := by decide +kernel
theorem dL_law_276 : decode cL_law 276 = .ok (.iload_n 3, 1) := by decide +kernel
theorem dL_law_277 : decode cL_law 277 = .ok (.iconst 1, 1) := by decide +kernel
theorem dL_law_278 : decode cL_law 278 = .ok (.iadd, 1) := by decide +kernel
theorem dL_law_279 : decode cL_law 279 = .ok (.iaload, 1) := by decide +kernel
theorem dL_law_280 : decode cL_law 280 = .ok (.aload_n 0, 1) := by decide +kernel
theorem dL_law_281 : decode cL_law 281 = .ok (.iload_n 3, 1) := by decide +kernel
theorem dL_law_282 : decode cL_law 282 = .ok (.iconst 2, 1) := by decide +kernel
theorem dL_law_283 : decode cL_law 283 = .ok (.iadd, 1) := by decide +kernel
theorem dL_law_284 : decode cL_law 284 = .ok (.iaload, 1) := by decide +kernel
theorem dL_law_285 : decode cL_law 285 = .ok (.aload_n 0, 1) := by decide +kernel
theorem dL_law_286 : decode cL_law 286 = .ok (.iload_n 3, 1) := by decide +kernel
theorem dL_law_287 : decode cL_law 287 = .ok (.iconst 3, 1) := by decide +kernel
theorem dL_law_288 : decode cL_law 288 = .ok (.iadd, 1) := by decide +kernel
theorem dL_law_289 : decode cL_law 289 = .ok (.iaload, 1) := by decide +kernel
theorem dL_law_290 : decode cL_law 290 = .ok (.aload_n 0, 1) := by decide +kernel
theorem dL_law_291 : decode cL_law 291 = .ok (.iload_n 3, 1) := by decide +kernel
theorem dL_law_292 : decode cL_law 292 = .ok (.iconst 4, 1) := by decide +kernel
theorem dL_law_293 : decode cL_law 293 = .ok (.iadd, 1) := by decide +kernel
theorem dL_law_294 : decode cL_law 294 = .ok (.iaload, 1) := by decide +kernel
theorem dL_law_295 : decode cL_law 295 = .ok (.invokevirtual 39, 3) := by decide +kernel
theorem dL_law_298 : decode cL_law 298 = .ok (.if_icmp .eq 434, 3) := by decide +kernel
set_option maxHeartbeats 4000000 in
set_option maxRecDepth 100000 in
theorem law_op4 {p : Program} {e : Env} {s : State} {m : MethodId} {below : List Frame} {meth : Method} {c : Code} {l : Launch} {b : Nat} {xs : Nat → Int32} (C0 : lw_At p s m meth c b 6 xs) {D : va_G} {g : Nat → ClassId} {A : Nat → Prop} (hAe : ∀ q, A q → s.heap.size ≤ q) (hA : ∀ q : Nat, s.heap.size ≤ q → A q) (hK : va_K D vwCl (tyG g) s) {h1 h2 : Nat} {a1 a2 : Nat → Nat} {H : Heap} {locs : List Loc} {ls : Array Slot} (hP : va_P D vwCl [(h1, .inr (9, [.ref (a1 0), .ref (a1 2), .ref (a1 5), .ref (a1 27), .ref (a1 28), .ref (a1 29), .ref (a1 30), .ref (a1 24), .ref (a1 31), .ref (a1 32), .ref (a1 25), .ref (a1 26), .ref (a1 33), .ref (a1 34), .ref (a1 18), .ref (a1 10), .int 0])), tT (a1 0) (a1 1) (nI 1) (nI 1000) 0, tA g (a1 1) 1000 (fun _ => 0), ((a1 2), .inr (5, [.ref (a1 3), .int 0])), tT (a1 3) (a1 4) (nI 3) (nI 1001) 0, tA g (a1 4) 3003 (fun _ => 0), ((a1 5), .inr (3, [.ref (a1 3), .ref (a1 6), .ref (a1 7), .ref (a1 8), .ref (a1 10), .int 0, .int 0, .int 0, .int 0, .int (-9), .int 0, .int 0])), tT (a1 6) (a1 35) (nI 1) (nI 6) 0, tT (a1 7) (a1 36) (nI 1) (nI 6) 0, tT (a1 8) (a1 9) (nI 1) (nI 80) 0, tA g (a1 9) 80 (fun _ => 0), ((a1 10), .inr (2, [.ref (a1 11), .ref (a1 12), .ref (a1 13), .ref (a1 14), .ref (a1 16)])), tT (a1 11) (a1 37) (nI 12) (nI 80) 0, tT (a1 12) (a1 38) (nI 5) (nI 1000) 0, tT (a1 13) (a1 39) (nI 5) (nI 112) 0, tT (a1 14) (a1 15) (nI 1) (nI 16) 0, tA g (a1 15) 16 (fun _ => 0), tT (a1 16) (a1 17) (nI 2) (nI 8) 0, tA g (a1 17) 16 (fun _ => 0), ((a1 18), .inr (2, [.ref (a1 19), .ref (a1 22), .ref (a1 20), .ref (a1 23), .ref (a1 21)])), tT (a1 19) (a1 40) (nI 12) (nI 80) 0, tT (a1 20) (a1 41) (nI 5) (nI 112) 0, tT (a1 21) (a1 42) (nI 2) (nI 8) 0, tT (a1 24) (a1 43) (nI 4) (nI 30) 0, ((a1 25), .inr (4, [.ref (a1 44), .ref (a1 45), .ref (a1 46), .ref (a1 47), .ref (a1 48), .int (-9), .int 0, .int 0, .int 0, .int 0, .int 0, .int 0])), ((a1 26), .inr (4, [.ref (a1 49), .ref (a1 50), .ref (a1 51), .ref (a1 52), .ref (a1 53), .int (-9), .int 0, .int 0, .int 0, .int 0, .int 0, .int 0])), (h2, .inr (10, mF a2 (fun _ => 0))), ((a2 1), .inl (g 1, 1000, .inl (fun _ => 0))), tA g (a2 3) 2 (fun _ => 0), tA g (a2 10) 2 (fun _ => 0), tA g (a2 12) 2 (fun _ => 0), tA g (a2 14) 2 (fun _ => 0), tA g (a2 13) 32 (fun _ => 0), ((a2 28), .inl (g 3, 2, .inl (fun _ => 0)))] H) (hD : va_D A [(h1, .inr (9, [.ref (a1 0), .ref (a1 2), .ref (a1 5), .ref (a1 27), .ref (a1 28), .ref (a1 29), .ref (a1 30), .ref (a1 24), .ref (a1 31), .ref (a1 32), .ref (a1 25), .ref (a1 26), .ref (a1 33), .ref (a1 34), .ref (a1 18), .ref (a1 10), .int 0])), tT (a1 0) (a1 1) (nI 1) (nI 1000) 0, tA g (a1 1) 1000 (fun _ => 0), ((a1 2), .inr (5, [.ref (a1 3), .int 0])), tT (a1 3) (a1 4) (nI 3) (nI 1001) 0, tA g (a1 4) 3003 (fun _ => 0), ((a1 5), .inr (3, [.ref (a1 3), .ref (a1 6), .ref (a1 7), .ref (a1 8), .ref (a1 10), .int 0, .int 0, .int 0, .int 0, .int (-9), .int 0, .int 0])), tT (a1 6) (a1 35) (nI 1) (nI 6) 0, tT (a1 7) (a1 36) (nI 1) (nI 6) 0, tT (a1 8) (a1 9) (nI 1) (nI 80) 0, tA g (a1 9) 80 (fun _ => 0), ((a1 10), .inr (2, [.ref (a1 11), .ref (a1 12), .ref (a1 13), .ref (a1 14), .ref (a1 16)])), tT (a1 11) (a1 37) (nI 12) (nI 80) 0, tT (a1 12) (a1 38) (nI 5) (nI 1000) 0, tT (a1 13) (a1 39) (nI 5) (nI 112) 0, tT (a1 14) (a1 15) (nI 1) (nI 16) 0, tA g (a1 15) 16 (fun _ => 0), tT (a1 16) (a1 17) (nI 2) (nI 8) 0, tA g (a1 17) 16 (fun _ => 0), ((a1 18), .inr (2, [.ref (a1 19), .ref (a1 22), .ref (a1 20), .ref (a1 23), .ref (a1 21)])), tT (a1 19) (a1 40) (nI 12) (nI 80) 0, tT (a1 20) (a1 41) (nI 5) (nI 112) 0, tT (a1 21) (a1 42) (nI 2) (nI 8) 0, tT (a1 24) (a1 43) (nI 4) (nI 30) 0, ((a1 25), .inr (4, [.ref (a1 44), .ref (a1 45), .ref (a1 46), .ref (a1 47), .ref (a1 48), .int (-9), .int 0, .int 0, .int 0, .int 0, .int 0, .int 0])), ((a1 26), .inr (4, [.ref (a1 49), .ref (a1 50), .ref (a1 51), .ref (a1 52), .ref (a1 53), .int (-9), .int 0, .int 0, .int 0, .int 0, .int 0, .int 0])), (h2, .inr (10, mF a2 (fun _ => 0))), ((a2 1), .inl (g 1, 1000, .inl (fun _ => 0))), tA g (a2 3) 2 (fun _ => 0), tA g (a2 10) 2 (fun _ => 0), tA g (a2 12) 2 (fun _ => 0), tA g (a2 14) 2 (fun _ => 0), tA g (a2 13) 32 (fun _ => 0), ((a2 28), .inl (g 3, 2, .inl (fun _ => 0)))]) (hS : va_S A s.heap H locs) (hl : lv_has ls 4 [(3, .int 0), (2, .ref h2), (1, .ref h1), (0, .ref b)]) : W p l e room_1 s m #[Value.ref b] below meth c H locs 168 110802 (lw_Z below #[Value.ref b] s) (F0 m 250 ls []) := by
  obtain ⟨hx, hb, hr, hml, hown, hts0, hX, hbl, hlocks, -⟩ := id C0
  have hts : ∀ w ∈ wsL_law, w.before #[Value.ref b] s = true := fun w h => hts0 w (wsL_law_in w h)
  have hbA : ¬ A b := fun z => absurd (hAe _ z) (Nat.not_le.mpr hbl)
  have hP : va_P D vwCl [(h1, .inr (9, [.ref (a1 0), .ref (a1 2), .ref (a1 5), .ref (a1 27), .ref (a1 28), .ref (a1 29), .ref (a1 30), .ref (a1 24), .ref (a1 31), .ref (a1 32), .ref (a1 25), .ref (a1 26), .ref (a1 33), .ref (a1 34), .ref (a1 18), .ref (a1 10), .int 0])), ((a1 18), .inr (2, [.ref (a1 19), .ref (a1 22), .ref (a1 20), .ref (a1 23), .ref (a1 21)])), tT (a1 19) (a1 40) (nI 12) (nI 80) 0, (h2, .inr (10, mF a2 (fun _ => 0)))] H := vz_pickP hP [0, 19, 20, 26] rfl
  have hD : va_D A [(h1, .inr (9, [.ref (a1 0), .ref (a1 2), .ref (a1 5), .ref (a1 27), .ref (a1 28), .ref (a1 29), .ref (a1 30), .ref (a1 24), .ref (a1 31), .ref (a1 32), .ref (a1 25), .ref (a1 26), .ref (a1 33), .ref (a1 34), .ref (a1 18), .ref (a1 10), .int 0])), ((a1 18), .inr (2, [.ref (a1 19), .ref (a1 22), .ref (a1 20), .ref (a1 23), .ref (a1 21)])), tT (a1 19) (a1 40) (nI 12) (nI 80) 0, (h2, .inr (10, mF a2 (fun _ => 0)))] := hD.sub [0, 19, 20, 26] (by decide) rfl
  refine lv_aload_n hx hb dL_law_250 rfl (lv_at hl 2 rfl) ?_
  refine lv_aload_n hx hb dL_law_251 rfl (lv_at hl 3 rfl) ?_
  refine lv_iload_n hx hb dL_law_252 rfl (lv_at hl 0 rfl) ?_
  refine lv_iconst (v := 1) hx hb dL_law_253 (by decide) ?_
  refine lv_iadd hx hb dL_law_254 ?_
  refine lv_topi (nm_r (e' := 1) (by decide) ?_)
  refine va_sld hx hb hX hbl hbA hS (vp_in_c (by decide)) dL_law_255 ?_
  refine lv_aload_n hx hb dL_law_256 rfl (lv_at hl 3 rfl) ?_
  refine lv_iload_n hx hb dL_law_257 rfl (lv_at hl 0 rfl) ?_
  refine lv_iconst (v := 2) hx hb dL_law_258 (by decide) ?_
  refine lv_iadd hx hb dL_law_259 ?_
  refine lv_topi (nm_r (e' := 2) (by decide) ?_)
  refine va_sld hx hb hX hbl hbA hS (vp_in_c (by decide)) dL_law_260 ?_
  refine lv_aload_n hx hb dL_law_261 rfl (lv_at hl 3 rfl) ?_
  refine lv_iload_n hx hb dL_law_262 rfl (lv_at hl 0 rfl) ?_
  refine lv_iconst (v := 3) hx hb dL_law_263 (by decide) ?_
  refine lv_iadd hx hb dL_law_264 ?_
  refine lv_topi (nm_r (e' := 3) (by decide) ?_)
  refine va_sld hx hb hX hbl hbA hS (vp_in_c (by decide)) dL_law_265 ?_
  refine lv_aload_n hx hb dL_law_266 rfl (lv_at hl 3 rfl) ?_
  refine lv_iload_n hx hb dL_law_267 rfl (lv_at hl 0 rfl) ?_
  refine lv_iconst (v := 4) hx hb dL_law_268 (by decide) ?_
  refine lv_iadd hx hb dL_law_269 ?_
  refine lv_topi (nm_r (e' := 4) (by decide) ?_)
  refine va_sld hx hb hX hbl hbA hS (vp_in_c (by decide)) dL_law_270 ?_
  refine vz_Vi (wr := [(h2, .inr (10, mF a2 (fun _ => 0)))]) (As := [.int (xs 1), .int (xs 2), .int (xs 3), .int (xs 4)]) (rest := []) hx hb hml hown hts hK hA hP hD hS (c_A_plan0 l D g h1 H.size a1 (xs 1) (xs 2) (xs 3) (xs 4)) kv_L_35 (⟨Nat.le_of_ble_eq_true rfl, Nat.le_of_ble_eq_true rfl⟩) (q0 := 0) (ci := 9) rfl rfl rfl [0, 1, 2] [3] rfl rfl (by decide) hl.1 (Nat.le_of_ble_eq_true rfl) dL_law_271 (⟨Nat.le_of_ble_eq_true rfl, Nat.le_of_ble_eq_true rfl⟩) rfl (fun r1 _ H locs e2 _ hP hD hS => ?_)
  subst e2
  have hP : va_P D vwCl [(h2, .inr (10, mF a2 (fun _ => 0))), (h1, .inr (9, [.ref (a1 0), .ref (a1 2), .ref (a1 5), .ref (a1 27), .ref (a1 28), .ref (a1 29), .ref (a1 30), .ref (a1 24), .ref (a1 31), .ref (a1 32), .ref (a1 25), .ref (a1 26), .ref (a1 33), .ref (a1 34), .ref (a1 18), .ref (a1 10), .int 0])), ((a1 18), .inr (2, [.ref (a1 19), .ref (a1 22), .ref (a1 20), .ref (a1 23), .ref (a1 21)])), tT (a1 19) (a1 40) (nI 12) (nI 80) 0] H := hP
  have hD : va_D A [(h2, .inr (10, mF a2 (fun _ => 0))), (h1, .inr (9, [.ref (a1 0), .ref (a1 2), .ref (a1 5), .ref (a1 27), .ref (a1 28), .ref (a1 29), .ref (a1 30), .ref (a1 24), .ref (a1 31), .ref (a1 32), .ref (a1 25), .ref (a1 26), .ref (a1 33), .ref (a1 34), .ref (a1 18), .ref (a1 10), .int 0])), ((a1 18), .inr (2, [.ref (a1 19), .ref (a1 22), .ref (a1 20), .ref (a1 23), .ref (a1 21)])), tT (a1 19) (a1 40) (nI 12) (nI 80) 0] := hD
  refine lv_aload_n hx hb dL_law_274 rfl (lv_at hl 1 rfl) ?_
  refine lv_aload_n hx hb dL_law_275 rfl (lv_at hl 3 rfl) ?_
  refine lv_iload_n hx hb dL_law_276 rfl (lv_at hl 0 rfl) ?_
  refine lv_iconst (v := 1) hx hb dL_law_277 (by decide) ?_
  refine lv_iadd hx hb dL_law_278 ?_
  refine lv_topi (nm_r (e' := 1) (by decide) ?_)
  refine va_sld hx hb hX hbl hbA hS (vp_in_c (by decide)) dL_law_279 ?_
  refine lv_aload_n hx hb dL_law_280 rfl (lv_at hl 3 rfl) ?_
  refine lv_iload_n hx hb dL_law_281 rfl (lv_at hl 0 rfl) ?_
  refine lv_iconst (v := 2) hx hb dL_law_282 (by decide) ?_
  refine lv_iadd hx hb dL_law_283 ?_
  refine lv_topi (nm_r (e' := 2) (by decide) ?_)
  refine va_sld hx hb hX hbl hbA hS (vp_in_c (by decide)) dL_law_284 ?_
  refine lv_aload_n hx hb dL_law_285 rfl (lv_at hl 3 rfl) ?_
  refine lv_iload_n hx hb dL_law_286 rfl (lv_at hl 0 rfl) ?_
  refine lv_iconst (v := 3) hx hb dL_law_287 (by decide) ?_
  refine lv_iadd hx hb dL_law_288 ?_
  refine lv_topi (nm_r (e' := 3) (by decide) ?_)
  refine va_sld hx hb hX hbl hbA hS (vp_in_c (by decide)) dL_law_289 ?_
  refine lv_aload_n hx hb dL_law_290 rfl (lv_at hl 3 rfl) ?_
  refine lv_iload_n hx hb dL_law_291 rfl (lv_at hl 0 rfl) ?_
  refine lv_iconst (v := 4) hx hb dL_law_292 (by decide) ?_
  refine lv_iadd hx hb dL_law_293 ?_
  refine lv_topi (nm_r (e' := 4) (by decide) ?_)
  refine va_sld hx hb hX hbl hbA hS (vp_in_c (by decide)) dL_law_294 ?_
  refine vz_Vi (wr := [(h1, .inr (9, [.ref (a1 0), .ref (a1 2), .ref (a1 5), .ref (a1 27), .ref (a1 28), .ref (a1 29), .ref (a1 30), .ref (a1 24), .ref (a1 31), .ref (a1 32), .ref (a1 25), .ref (a1 26), .ref (a1 33), .ref (a1 34), .ref (a1 18), .ref (a1 10), .int 0])), ((a1 18), .inr (2, [.ref (a1 19), .ref (a1 22), .ref (a1 20), .ref (a1 23), .ref (a1 21)])), tT (a1 19) (a1 40) (nI 12) (nI 80) 0]) (As := [.int (xs 1), .int (xs 2), .int (xs 3), .int (xs 4)]) (rest := [.int (-1)]) hx hb hml hown hts hK hA hP hD hS (c_m_plan0 l D g h2 H.size a2 (xs 1) (xs 2) (xs 3) (xs 4)) kv_L_39 (⟨Nat.le_of_ble_eq_true rfl, Nat.le_of_ble_eq_true rfl⟩) (q0 := 0) (ci := 10) rfl rfl rfl [0] [1, 2, 3] rfl rfl (by decide) hl.1 (Nat.le_of_ble_eq_true rfl) dL_law_295 (⟨Nat.le_of_ble_eq_true rfl, Nat.le_of_ble_eq_true rfl⟩) rfl (fun r3 _ H locs e4 _ hP hD hS => ?_)
  subst e4
  have hP : va_P D vwCl [(h1, .inr (9, [.ref (a1 0), .ref (a1 2), .ref (a1 5), .ref (a1 27), .ref (a1 28), .ref (a1 29), .ref (a1 30), .ref (a1 24), .ref (a1 31), .ref (a1 32), .ref (a1 25), .ref (a1 26), .ref (a1 33), .ref (a1 34), .ref (a1 18), .ref (a1 10), .int 0])), ((a1 18), .inr (2, [.ref (a1 19), .ref (a1 22), .ref (a1 20), .ref (a1 23), .ref (a1 21)])), tT (a1 19) (a1 40) (nI 12) (nI 80) 0, (h2, .inr (10, mF a2 (fun _ => 0)))] H := hP
  have hD : va_D A [(h1, .inr (9, [.ref (a1 0), .ref (a1 2), .ref (a1 5), .ref (a1 27), .ref (a1 28), .ref (a1 29), .ref (a1 30), .ref (a1 24), .ref (a1 31), .ref (a1 32), .ref (a1 25), .ref (a1 26), .ref (a1 33), .ref (a1 34), .ref (a1 18), .ref (a1 10), .int 0])), ((a1 18), .inr (2, [.ref (a1 19), .ref (a1 22), .ref (a1 20), .ref (a1 23), .ref (a1 21)])), tT (a1 19) (a1 40) (nI 12) (nI 80) 0, (h2, .inr (10, mF a2 (fun _ => 0)))] := hD
  refine lv_icmp_eq (tgt := 732) hx hb dL_law_298 (by decide) (fun _ => ?_) (fun h9 => absurd (by decide) h9)
  refine lv_iinc (v := 6) (lv' := [(3, .int 6), (2, .ref h2), (1, .ref h1), (0, .ref b)]) hx hb dL_law_732 hl (k := 0) rfl (by decide) (by decide) rfl (fun ls hl => ?_)
  refine lv_goto (tgt := 18) hx hb dL_law_735 (by decide) ?_
  refine lv_iload_n hx hb dL_law_18 rfl (lv_at hl 0 rfl) ?_
  refine lv_aload_n hx hb dL_law_19 rfl (lv_at hl 3 rfl) ?_
  refine va_slen hx hb hX hbl hbA hS dL_law_20 ?_
  refine lv_topi (nm_r (e' := 6) (by decide) ?_)
  refine lv_bipush (v := 6) hx hb dL_law_21 (by decide) ?_
  refine lv_isub hx hb dL_law_23 ?_
  refine lv_topi (nm_r (e' := 0) (by decide) ?_)
  refine lv_icmp_gt (tgt := 738) hx hb dL_law_24 (by decide) (fun _ => ?_) (fun h9 => absurd (by decide) h9)
  refine lv_iconst (v := 1) hx hb dL_law_738 (by decide) ?_
  refine va_forget (fun q hq => hAe _ (hS.2.2 q hq)) ?_
  refine W.widen (k := 600000) (n := 7302250) (Nat.le_of_ble_eq_true rfl) (Nat.le_of_ble_eq_true rfl) ?_
  exact lw_ret hx hb hr hlocks dL_law_739
theorem q995 : Cond.methodLink RL 40 yX9_clear ∈ wsL_law := mT_4 (List.mem_of_getElem? (i := 178) rfl) rfl
theorem q996 : Cond.instanceMethod yX9_clear ∈ wsL_law := mT_4 (List.mem_of_getElem? (i := 179) rfl) rfl
theorem q997 : Cond.selects RX9 yX9_clear yX9_clear ∈ wsL_law := mT_4 (List.mem_of_getElem? (i := 180) rfl) rfl
theorem q998 : Cond.code yX9_clear cX9_clear 2 (some .int) ∈ wsL_law := mT_4 (List.mem_of_getElem? (i := 181) rfl) rfl
theorem kv_L_40 : vz_cv RL 40 yX9_clear cX9_clear 2 (some .int) 0 := ⟨q995, q996, q997, q2, q998, by decide +kernel⟩
theorem q999 : Cond.methodLink RL 43 yX10_clear ∈ wsL_law := mT_8 (List.mem_of_getElem? (i := 147) rfl) rfl
theorem q1000 : Cond.instanceMethod yX10_clear ∈ wsL_law := mT_8 (List.mem_of_getElem? (i := 148) rfl) rfl
theorem q1001 : Cond.selects RX10 yX10_clear yX10_clear ∈ wsL_law := mT_8 (List.mem_of_getElem? (i := 149) rfl) rfl
theorem q1002 : Cond.code yX10_clear cX10_clear 2 (some .int) ∈ wsL_law := mT_8 (List.mem_of_getElem? (i := 150) rfl) rfl
theorem kv_L_43 : vz_cv RL 43 yX10_clear cX10_clear 2 (some .int) 0 := ⟨q999, q1000, q1001, q5, q1002, by decide +kernel⟩
theorem dL_law_303 : decode cL_law 303 = .ok (.aload_n 1, 1) := by decide +kernel
theorem dL_law_304 : decode cL_law 304 = .ok (.invokevirtual 40, 3) := by decide +kernel
theorem dL_law_307 : decode cL_law 307 = .ok (.aload_n 2, 1) := by decide +kernel
theorem dL_law_308 : decode cL_law 308 = .ok (.invokevirtual 43, 3) := by decide +kernel
theorem dL_law_311 : decode cL_law 311 = .ok (.if_icmp .eq 421, 3) := by decide +kernel
set_option maxHeartbeats 4000000 in
set_option maxRecDepth 100000 in
theorem law_op5 {p : Program} {e : Env} {s : State} {m : MethodId} {below : List Frame} {meth : Method} {c : Code} {l : Launch} {b : Nat} {xs : Nat → Int32} (C0 : lw_At p s m meth c b 6 xs) {D : va_G} {g : Nat → ClassId} {A : Nat → Prop} (hAe : ∀ q, A q → s.heap.size ≤ q) (hA : ∀ q : Nat, s.heap.size ≤ q → A q) (hK : va_K D vwCl (tyG g) s) {h1 h2 : Nat} {a1 a2 : Nat → Nat} {H : Heap} {locs : List Loc} {ls : Array Slot} (hP : va_P D vwCl [(h1, .inr (9, [.ref (a1 0), .ref (a1 2), .ref (a1 5), .ref (a1 27), .ref (a1 28), .ref (a1 29), .ref (a1 30), .ref (a1 24), .ref (a1 31), .ref (a1 32), .ref (a1 25), .ref (a1 26), .ref (a1 33), .ref (a1 34), .ref (a1 18), .ref (a1 10), .int 0])), tT (a1 0) (a1 1) (nI 1) (nI 1000) 0, tA g (a1 1) 1000 (fun _ => 0), ((a1 2), .inr (5, [.ref (a1 3), .int 0])), tT (a1 3) (a1 4) (nI 3) (nI 1001) 0, tA g (a1 4) 3003 (fun _ => 0), ((a1 5), .inr (3, [.ref (a1 3), .ref (a1 6), .ref (a1 7), .ref (a1 8), .ref (a1 10), .int 0, .int 0, .int 0, .int 0, .int (-9), .int 0, .int 0])), tT (a1 6) (a1 35) (nI 1) (nI 6) 0, tT (a1 7) (a1 36) (nI 1) (nI 6) 0, tT (a1 8) (a1 9) (nI 1) (nI 80) 0, tA g (a1 9) 80 (fun _ => 0), ((a1 10), .inr (2, [.ref (a1 11), .ref (a1 12), .ref (a1 13), .ref (a1 14), .ref (a1 16)])), tT (a1 11) (a1 37) (nI 12) (nI 80) 0, tT (a1 12) (a1 38) (nI 5) (nI 1000) 0, tT (a1 13) (a1 39) (nI 5) (nI 112) 0, tT (a1 14) (a1 15) (nI 1) (nI 16) 0, tA g (a1 15) 16 (fun _ => 0), tT (a1 16) (a1 17) (nI 2) (nI 8) 0, tA g (a1 17) 16 (fun _ => 0), ((a1 18), .inr (2, [.ref (a1 19), .ref (a1 22), .ref (a1 20), .ref (a1 23), .ref (a1 21)])), tT (a1 19) (a1 40) (nI 12) (nI 80) 0, tT (a1 20) (a1 41) (nI 5) (nI 112) 0, tT (a1 21) (a1 42) (nI 2) (nI 8) 0, tT (a1 24) (a1 43) (nI 4) (nI 30) 0, ((a1 25), .inr (4, [.ref (a1 44), .ref (a1 45), .ref (a1 46), .ref (a1 47), .ref (a1 48), .int (-9), .int 0, .int 0, .int 0, .int 0, .int 0, .int 0])), ((a1 26), .inr (4, [.ref (a1 49), .ref (a1 50), .ref (a1 51), .ref (a1 52), .ref (a1 53), .int (-9), .int 0, .int 0, .int 0, .int 0, .int 0, .int 0])), (h2, .inr (10, mF a2 (fun _ => 0))), ((a2 1), .inl (g 1, 1000, .inl (fun _ => 0))), tA g (a2 3) 2 (fun _ => 0), tA g (a2 10) 2 (fun _ => 0), tA g (a2 12) 2 (fun _ => 0), tA g (a2 14) 2 (fun _ => 0), tA g (a2 13) 32 (fun _ => 0), ((a2 28), .inl (g 3, 2, .inl (fun _ => 0)))] H) (hD : va_D A [(h1, .inr (9, [.ref (a1 0), .ref (a1 2), .ref (a1 5), .ref (a1 27), .ref (a1 28), .ref (a1 29), .ref (a1 30), .ref (a1 24), .ref (a1 31), .ref (a1 32), .ref (a1 25), .ref (a1 26), .ref (a1 33), .ref (a1 34), .ref (a1 18), .ref (a1 10), .int 0])), tT (a1 0) (a1 1) (nI 1) (nI 1000) 0, tA g (a1 1) 1000 (fun _ => 0), ((a1 2), .inr (5, [.ref (a1 3), .int 0])), tT (a1 3) (a1 4) (nI 3) (nI 1001) 0, tA g (a1 4) 3003 (fun _ => 0), ((a1 5), .inr (3, [.ref (a1 3), .ref (a1 6), .ref (a1 7), .ref (a1 8), .ref (a1 10), .int 0, .int 0, .int 0, .int 0, .int (-9), .int 0, .int 0])), tT (a1 6) (a1 35) (nI 1) (nI 6) 0, tT (a1 7) (a1 36) (nI 1) (nI 6) 0, tT (a1 8) (a1 9) (nI 1) (nI 80) 0, tA g (a1 9) 80 (fun _ => 0), ((a1 10), .inr (2, [.ref (a1 11), .ref (a1 12), .ref (a1 13), .ref (a1 14), .ref (a1 16)])), tT (a1 11) (a1 37) (nI 12) (nI 80) 0, tT (a1 12) (a1 38) (nI 5) (nI 1000) 0, tT (a1 13) (a1 39) (nI 5) (nI 112) 0, tT (a1 14) (a1 15) (nI 1) (nI 16) 0, tA g (a1 15) 16 (fun _ => 0), tT (a1 16) (a1 17) (nI 2) (nI 8) 0, tA g (a1 17) 16 (fun _ => 0), ((a1 18), .inr (2, [.ref (a1 19), .ref (a1 22), .ref (a1 20), .ref (a1 23), .ref (a1 21)])), tT (a1 19) (a1 40) (nI 12) (nI 80) 0, tT (a1 20) (a1 41) (nI 5) (nI 112) 0, tT (a1 21) (a1 42) (nI 2) (nI 8) 0, tT (a1 24) (a1 43) (nI 4) (nI 30) 0, ((a1 25), .inr (4, [.ref (a1 44), .ref (a1 45), .ref (a1 46), .ref (a1 47), .ref (a1 48), .int (-9), .int 0, .int 0, .int 0, .int 0, .int 0, .int 0])), ((a1 26), .inr (4, [.ref (a1 49), .ref (a1 50), .ref (a1 51), .ref (a1 52), .ref (a1 53), .int (-9), .int 0, .int 0, .int 0, .int 0, .int 0, .int 0])), (h2, .inr (10, mF a2 (fun _ => 0))), ((a2 1), .inl (g 1, 1000, .inl (fun _ => 0))), tA g (a2 3) 2 (fun _ => 0), tA g (a2 10) 2 (fun _ => 0), tA g (a2 12) 2 (fun _ => 0), tA g (a2 14) 2 (fun _ => 0), tA g (a2 13) 32 (fun _ => 0), ((a2 28), .inl (g 3, 2, .inl (fun _ => 0)))]) (hS : va_S A s.heap H locs) (hl : lv_has ls 4 [(3, .int 0), (2, .ref h2), (1, .ref h1), (0, .ref b)]) : W p l e room_1 s m #[Value.ref b] below meth c H locs 168 110802 (lw_Z below #[Value.ref b] s) (F0 m 303 ls []) := by
  obtain ⟨hx, hb, hr, hml, hown, hts0, hX, hbl, hlocks, -⟩ := id C0
  have hts : ∀ w ∈ wsL_law, w.before #[Value.ref b] s = true := fun w h => hts0 w (wsL_law_in w h)
  have hbA : ¬ A b := fun z => absurd (hAe _ z) (Nat.not_le.mpr hbl)
  have hP : va_P D vwCl [(h1, .inr (9, [.ref (a1 0), .ref (a1 2), .ref (a1 5), .ref (a1 27), .ref (a1 28), .ref (a1 29), .ref (a1 30), .ref (a1 24), .ref (a1 31), .ref (a1 32), .ref (a1 25), .ref (a1 26), .ref (a1 33), .ref (a1 34), .ref (a1 18), .ref (a1 10), .int 0])), tT (a1 24) (a1 43) (nI 4) (nI 30) 0, (h2, .inr (10, mF a2 (fun _ => 0)))] H := vz_pickP hP [0, 23, 26] rfl
  have hD : va_D A [(h1, .inr (9, [.ref (a1 0), .ref (a1 2), .ref (a1 5), .ref (a1 27), .ref (a1 28), .ref (a1 29), .ref (a1 30), .ref (a1 24), .ref (a1 31), .ref (a1 32), .ref (a1 25), .ref (a1 26), .ref (a1 33), .ref (a1 34), .ref (a1 18), .ref (a1 10), .int 0])), tT (a1 24) (a1 43) (nI 4) (nI 30) 0, (h2, .inr (10, mF a2 (fun _ => 0)))] := hD.sub [0, 23, 26] (by decide) rfl
  refine lv_aload_n hx hb dL_law_303 rfl (lv_at hl 2 rfl) ?_
  refine vz_Vi (wr := [(h2, .inr (10, mF a2 (fun _ => 0)))]) (As := []) (rest := []) hx hb hml hown hts hK hA hP hD hS (c_A_clear0 l D g h1 H.size a1 ) kv_L_40 (⟨Nat.le_of_ble_eq_true rfl, Nat.le_of_ble_eq_true rfl⟩) (q0 := 0) (ci := 9) rfl rfl rfl [0, 1] [2] rfl rfl (by decide) hl.1 (Nat.le_of_ble_eq_true rfl) dL_law_304 (⟨Nat.le_of_ble_eq_true rfl, Nat.le_of_ble_eq_true rfl⟩) rfl (fun r1 _ H locs e2 _ hP hD hS => ?_)
  subst e2
  have hP : va_P D vwCl [(h2, .inr (10, mF a2 (fun _ => 0))), (h1, .inr (9, [.ref (a1 0), .ref (a1 2), .ref (a1 5), .ref (a1 27), .ref (a1 28), .ref (a1 29), .ref (a1 30), .ref (a1 24), .ref (a1 31), .ref (a1 32), .ref (a1 25), .ref (a1 26), .ref (a1 33), .ref (a1 34), .ref (a1 18), .ref (a1 10), .int 0])), tT (a1 24) (a1 43) (nI 4) (nI 30) 0] H := hP
  have hD : va_D A [(h2, .inr (10, mF a2 (fun _ => 0))), (h1, .inr (9, [.ref (a1 0), .ref (a1 2), .ref (a1 5), .ref (a1 27), .ref (a1 28), .ref (a1 29), .ref (a1 30), .ref (a1 24), .ref (a1 31), .ref (a1 32), .ref (a1 25), .ref (a1 26), .ref (a1 33), .ref (a1 34), .ref (a1 18), .ref (a1 10), .int 0])), tT (a1 24) (a1 43) (nI 4) (nI 30) 0] := hD
  refine lv_aload_n hx hb dL_law_307 rfl (lv_at hl 1 rfl) ?_
  refine vz_Vi (wr := [(h1, .inr (9, [.ref (a1 0), .ref (a1 2), .ref (a1 5), .ref (a1 27), .ref (a1 28), .ref (a1 29), .ref (a1 30), .ref (a1 24), .ref (a1 31), .ref (a1 32), .ref (a1 25), .ref (a1 26), .ref (a1 33), .ref (a1 34), .ref (a1 18), .ref (a1 10), .int 0])), tT (a1 24) (a1 43) (nI 4) (nI 30) 0]) (As := []) (rest := [.int 0]) hx hb hml hown hts hK hA hP hD hS (c_m_clear0 l D g h2 H.size a2 ) kv_L_43 (⟨Nat.le_of_ble_eq_true rfl, Nat.le_of_ble_eq_true rfl⟩) (q0 := 0) (ci := 10) rfl rfl rfl [0] [1, 2] rfl rfl (by decide) hl.1 (Nat.le_of_ble_eq_true rfl) dL_law_308 (⟨Nat.le_of_ble_eq_true rfl, Nat.le_of_ble_eq_true rfl⟩) rfl (fun r3 _ H locs e4 _ hP hD hS => ?_)
  subst e4
  have hP : va_P D vwCl [(h1, .inr (9, [.ref (a1 0), .ref (a1 2), .ref (a1 5), .ref (a1 27), .ref (a1 28), .ref (a1 29), .ref (a1 30), .ref (a1 24), .ref (a1 31), .ref (a1 32), .ref (a1 25), .ref (a1 26), .ref (a1 33), .ref (a1 34), .ref (a1 18), .ref (a1 10), .int 0])), tT (a1 24) (a1 43) (nI 4) (nI 30) 0, (h2, .inr (10, mF a2 (fun _ => 0)))] H := hP
  have hD : va_D A [(h1, .inr (9, [.ref (a1 0), .ref (a1 2), .ref (a1 5), .ref (a1 27), .ref (a1 28), .ref (a1 29), .ref (a1 30), .ref (a1 24), .ref (a1 31), .ref (a1 32), .ref (a1 25), .ref (a1 26), .ref (a1 33), .ref (a1 34), .ref (a1 18), .ref (a1 10), .int 0])), tT (a1 24) (a1 43) (nI 4) (nI 30) 0, (h2, .inr (10, mF a2 (fun _ => 0)))] := hD
  refine lv_icmp_eq (tgt := 732) hx hb dL_law_311 (by decide) (fun _ => ?_) (fun h9 => absurd (by decide) h9)
  refine lv_iinc (v := 6) (lv' := [(3, .int 6), (2, .ref h2), (1, .ref h1), (0, .ref b)]) hx hb dL_law_732 hl (k := 0) rfl (by decide) (by decide) rfl (fun ls hl => ?_)
  refine lv_goto (tgt := 18) hx hb dL_law_735 (by decide) ?_
  refine lv_iload_n hx hb dL_law_18 rfl (lv_at hl 0 rfl) ?_
  refine lv_aload_n hx hb dL_law_19 rfl (lv_at hl 3 rfl) ?_
  refine va_slen hx hb hX hbl hbA hS dL_law_20 ?_
  refine lv_topi (nm_r (e' := 6) (by decide) ?_)
  refine lv_bipush (v := 6) hx hb dL_law_21 (by decide) ?_
  refine lv_isub hx hb dL_law_23 ?_
  refine lv_topi (nm_r (e' := 0) (by decide) ?_)
  refine lv_icmp_gt (tgt := 738) hx hb dL_law_24 (by decide) (fun _ => ?_) (fun h9 => absurd (by decide) h9)
  refine lv_iconst (v := 1) hx hb dL_law_738 (by decide) ?_
  refine va_forget (fun q hq => hAe _ (hS.2.2 q hq)) ?_
  refine W.widen (k := 600000) (n := 7302250) (Nat.le_of_ble_eq_true rfl) (Nat.le_of_ble_eq_true rfl) ?_
  exact lw_ret hx hb hr hlocks dL_law_739
theorem q1003 : Cond.methodLink RL 44 yX9_run ∈ wsL_law := mT_4 (List.mem_of_getElem? (i := 182) rfl) rfl
theorem q1004 : Cond.instanceMethod yX9_run ∈ wsL_law := mT_4 (List.mem_of_getElem? (i := 183) rfl) rfl
theorem q1005 : Cond.selects RX9 yX9_run yX9_run ∈ wsL_law := mT_4 (List.mem_of_getElem? (i := 184) rfl) rfl
theorem q1006 : Cond.code yX9_run cX9_run 6 (some .int) ∈ wsL_law := mT_4 (List.mem_of_getElem? (i := 185) rfl) rfl
theorem kv_L_44 : vz_cv RL 44 yX9_run cX9_run 6 (some .int) 5 := ⟨q1003, q1004, q1005, q2, q1006, by decide +kernel⟩
theorem q1355 : Cond.methodLink RL 48 yX10_run ∈ wsL_law := mT_8 (List.mem_of_getElem? (i := 159) rfl) rfl
theorem q1356 : Cond.instanceMethod yX10_run ∈ wsL_law := mT_8 (List.mem_of_getElem? (i := 160) rfl) rfl
theorem q1357 : Cond.selects RX10 yX10_run yX10_run ∈ wsL_law := mT_8 (List.mem_of_getElem? (i := 161) rfl) rfl
theorem q1358 : Cond.code yX10_run cX10_run 6 (some .int) ∈ wsL_law := mT_8 (List.mem_of_getElem? (i := 162) rfl) rfl
theorem kv_L_48 : vz_cv RL 48 yX10_run cX10_run 6 (some .int) 5 := ⟨q1355, q1356, q1357, q5, q1358, by decide +kernel⟩
theorem dL_law_316 : decode cL_law 316 = .ok (.aload_n 1, 1) := by decide +kernel
theorem dL_law_317 : decode cL_law 317 = .ok (.aload_n 0, 1) := by decide +kernel
theorem dL_law_318 : decode cL_law 318 = .ok (.iload_n 3, 1) := by decide +kernel
theorem dL_law_319 : decode cL_law 319 = .ok (.iconst 1, 1) := by decide +kernel
theorem dL_law_320 : decode cL_law 320 = .ok (.iadd, 1) := by decide +kernel
theorem dL_law_321 : decode cL_law 321 = .ok (.iaload, 1) := by decide +kernel
theorem dL_law_322 : decode cL_law 322 = .ok (.ifCond .eq 7, 3) := by decide +kernel
theorem dL_law_325 : decode cL_law 325 = .ok (.iconst 1, 1) := by decide +kernel
theorem dL_law_326 : decode cL_law 326 = .ok (.goto 4, 3) := by decide +kernel
theorem dL_law_329 : decode cL_law 329 = .ok (.iconst 0, 1) := by decide +kernel
theorem dL_law_330 : decode cL_law 330 = .ok (.aload_n 0, 1) := by decide +kernel
theorem dL_law_331 : decode cL_law 331 = .ok (.iload_n 3, 1) := by decide +kernel
theorem dL_law_332 : decode cL_law 332 = .ok (.iconst 2, 1) := by decide +kernel
theorem dL_law_333 : decode cL_law 333 = .ok (.iadd, 1) := by decide +kernel
theorem dL_law_334 : decode cL_law 334 = .ok (.iaload, 1) := by decide +kernel
theorem dL_law_335 : decode cL_law 335 = .ok (.aload_n 0, 1) := by decide +kernel
theorem dL_law_336 : decode cL_law 336 = .ok (.iload_n 3, 1) := by decide +kernel
theorem dL_law_337 : decode cL_law 337 = .ok (.iconst 3, 1) := by decide +kernel
theorem dL_law_338 : decode cL_law 338 = .ok (.iadd, 1) := by decide +kernel
theorem dL_law_339 : decode cL_law 339 = .ok (.iaload, 1) := by decide +kernel
theorem dL_law_340 : decode cL_law 340 = .ok (.aload_n 0, 1) := by decide +kernel
theorem dL_law_341 : decode cL_law 341 = .ok (.iload_n 3, 1) := by decide +kernel
theorem dL_law_342 : decode cL_law 342 = .ok (.iconst 4, 1) := by decide +kernel
theorem dL_law_343 : decode cL_law 343 = .ok (.iadd, 1) := by decide +kernel
theorem dL_law_344 : decode cL_law 344 = .ok (.iaload, 1) := by decide +kernel
theorem dL_law_345 : decode cL_law 345 = .ok (.aload_n 0, 1) := by decide +kernel
theorem dL_law_346 : decode cL_law 346 = .ok (.iload_n 3, 1) := by decide +kernel
theorem dL_law_347 : decode cL_law 347 = .ok (.iconst 5, 1) := by decide +kernel
theorem dL_law_348 : decode cL_law 348 = .ok (.iadd, 1) := by decide +kernel
theorem dL_law_349 : decode cL_law 349 = .ok (.iaload, 1) := by decide +kernel
theorem dL_law_350 : decode cL_law 350 = .ok (.invokevirtual 44, 3) := by decide +kernel
theorem dL_law_353 : decode cL_law 353 = .ok (.aload_n 2, 1) := by decide +kernel
theorem dL_law_354 : decode cL_law 354 = .ok (.aload_n 0, 1) := by decide +kernel
theorem dL_law_355 : decode cL_law 355 = .ok (.iload_n 3, 1) := by decide +kernel
theorem dL_law_356 : decode cL_law 356 = .ok (.iconst 1, 1) := by decide +kernel
theorem dL_law_357 : decode cL_law 357 = .ok (.iadd, 1) := by decide +kernel
theorem dL_law_358 : decode cL_law 358 = .ok (.iaload, 1) := by decide +kernel
theorem dL_law_359 : decode cL_law 359 = .ok (.ifCond .eq 7, 3) := by decide +kernel
theorem dL_law_362 : decode cL_law 362 = .ok (.iconst 1, 1) := by decide +kernel
theorem dL_law_363 : decode cL_law 363 = .ok (.goto 4, 3) := by decide +kernel
theorem dL_law_366 : decode cL_law 366 = .ok (.iconst 0, 1) := by decide +kernel
theorem dL_law_367 : decode cL_law 367 = .ok (.aload_n 0, 1) := by decide +kernel
theorem dL_law_368 : decode cL_law 368 = .ok (.iload_n 3, 1) := by decide +kernel
theorem dL_law_369 : decode cL_law 369 = .ok (.iconst 2, 1) := by decide +kernel
theorem dL_law_370 : decode cL_law 370 = .ok (.iadd, 1) := by decide +kernel
theorem dL_law_371 : decode cL_law 371 = .ok (.iaload, 1) := by decide +kernel
theorem dL_law_372 : decode cL_law 372 = .ok (.aload_n 0, 1) := by decide +kernel
theorem dL_law_373 : decode cL_law 373 = .ok (.iload_n 3, 1) := by decide +kernel
theorem dL_law_374 : decode cL_law 374 = .ok (.iconst 3, 1) := by decide +kernel
theorem dL_law_375 : decode cL_law 375 = .ok (.iadd, 1) := by decide +kernel
theorem dL_law_376 : decode cL_law 376 = .ok (.iaload, 1) := by decide +kernel
theorem dL_law_377 : decode cL_law 377 = .ok (.aload_n 0, 1) := by decide +kernel
theorem dL_law_378 : decode cL_law 378 = .ok (.iload_n 3, 1) := by decide +kernel
theorem dL_law_379 : decode cL_law 379 = .ok (.iconst 4, 1) := by decide +kernel
theorem dL_law_380 : decode cL_law 380 = .ok (.iadd, 1) := by decide +kernel
theorem dL_law_381 : decode cL_law 381 = .ok (.iaload, 1) := by decide +kernel
theorem dL_law_382 : decode cL_law 382 = .ok (.aload_n 0, 1) := by decide +kernel
theorem dL_law_383 : decode cL_law 383 = .ok (.iload_n 3, 1) := by decide +kernel
theorem dL_law_384 : decode cL_law 384 = .ok (.iconst 5, 1) := by decide +kernel
theorem dL_law_385 : decode cL_law 385 = .ok (.iadd, 1) := by decide +kernel
theorem dL_law_386 : decode cL_law 386 = .ok (.iaload, 1) := by decide +kernel
theorem dL_law_387 : decode cL_law 387 = .ok (.invokevirtual 48, 3) := by decide +kernel
theorem dL_law_390 : decode cL_law 390 = .ok (.if_icmp .eq 342, 3) := by decide +kernel
set_option maxHeartbeats 4000000 in
set_option maxRecDepth 100000 in
theorem law_op6 {p : Program} {e : Env} {s : State} {m : MethodId} {below : List Frame} {meth : Method} {c : Code} {l : Launch} {b : Nat} {xs : Nat → Int32} (C0 : lw_At p s m meth c b 6 xs) {D : va_G} {g : Nat → ClassId} {A : Nat → Prop} (hAe : ∀ q, A q → s.heap.size ≤ q) (hA : ∀ q : Nat, s.heap.size ≤ q → A q) (hK : va_K D vwCl (tyG g) s) {h1 h2 : Nat} {a1 a2 : Nat → Nat} {H : Heap} {locs : List Loc} {ls : Array Slot} (hP : va_P D vwCl [(h1, .inr (9, [.ref (a1 0), .ref (a1 2), .ref (a1 5), .ref (a1 27), .ref (a1 28), .ref (a1 29), .ref (a1 30), .ref (a1 24), .ref (a1 31), .ref (a1 32), .ref (a1 25), .ref (a1 26), .ref (a1 33), .ref (a1 34), .ref (a1 18), .ref (a1 10), .int 0])), tT (a1 0) (a1 1) (nI 1) (nI 1000) 0, tA g (a1 1) 1000 (fun _ => 0), ((a1 2), .inr (5, [.ref (a1 3), .int 0])), tT (a1 3) (a1 4) (nI 3) (nI 1001) 0, tA g (a1 4) 3003 (fun _ => 0), ((a1 5), .inr (3, [.ref (a1 3), .ref (a1 6), .ref (a1 7), .ref (a1 8), .ref (a1 10), .int 0, .int 0, .int 0, .int 0, .int (-9), .int 0, .int 0])), tT (a1 6) (a1 35) (nI 1) (nI 6) 0, tT (a1 7) (a1 36) (nI 1) (nI 6) 0, tT (a1 8) (a1 9) (nI 1) (nI 80) 0, tA g (a1 9) 80 (fun _ => 0), ((a1 10), .inr (2, [.ref (a1 11), .ref (a1 12), .ref (a1 13), .ref (a1 14), .ref (a1 16)])), tT (a1 11) (a1 37) (nI 12) (nI 80) 0, tT (a1 12) (a1 38) (nI 5) (nI 1000) 0, tT (a1 13) (a1 39) (nI 5) (nI 112) 0, tT (a1 14) (a1 15) (nI 1) (nI 16) 0, tA g (a1 15) 16 (fun _ => 0), tT (a1 16) (a1 17) (nI 2) (nI 8) 0, tA g (a1 17) 16 (fun _ => 0), ((a1 18), .inr (2, [.ref (a1 19), .ref (a1 22), .ref (a1 20), .ref (a1 23), .ref (a1 21)])), tT (a1 19) (a1 40) (nI 12) (nI 80) 0, tT (a1 20) (a1 41) (nI 5) (nI 112) 0, tT (a1 21) (a1 42) (nI 2) (nI 8) 0, tT (a1 24) (a1 43) (nI 4) (nI 30) 0, ((a1 25), .inr (4, [.ref (a1 44), .ref (a1 45), .ref (a1 46), .ref (a1 47), .ref (a1 48), .int (-9), .int 0, .int 0, .int 0, .int 0, .int 0, .int 0])), ((a1 26), .inr (4, [.ref (a1 49), .ref (a1 50), .ref (a1 51), .ref (a1 52), .ref (a1 53), .int (-9), .int 0, .int 0, .int 0, .int 0, .int 0, .int 0])), (h2, .inr (10, mF a2 (fun _ => 0))), ((a2 1), .inl (g 1, 1000, .inl (fun _ => 0))), tA g (a2 3) 2 (fun _ => 0), tA g (a2 10) 2 (fun _ => 0), tA g (a2 12) 2 (fun _ => 0), tA g (a2 14) 2 (fun _ => 0), tA g (a2 13) 32 (fun _ => 0), ((a2 28), .inl (g 3, 2, .inl (fun _ => 0)))] H) (hD : va_D A [(h1, .inr (9, [.ref (a1 0), .ref (a1 2), .ref (a1 5), .ref (a1 27), .ref (a1 28), .ref (a1 29), .ref (a1 30), .ref (a1 24), .ref (a1 31), .ref (a1 32), .ref (a1 25), .ref (a1 26), .ref (a1 33), .ref (a1 34), .ref (a1 18), .ref (a1 10), .int 0])), tT (a1 0) (a1 1) (nI 1) (nI 1000) 0, tA g (a1 1) 1000 (fun _ => 0), ((a1 2), .inr (5, [.ref (a1 3), .int 0])), tT (a1 3) (a1 4) (nI 3) (nI 1001) 0, tA g (a1 4) 3003 (fun _ => 0), ((a1 5), .inr (3, [.ref (a1 3), .ref (a1 6), .ref (a1 7), .ref (a1 8), .ref (a1 10), .int 0, .int 0, .int 0, .int 0, .int (-9), .int 0, .int 0])), tT (a1 6) (a1 35) (nI 1) (nI 6) 0, tT (a1 7) (a1 36) (nI 1) (nI 6) 0, tT (a1 8) (a1 9) (nI 1) (nI 80) 0, tA g (a1 9) 80 (fun _ => 0), ((a1 10), .inr (2, [.ref (a1 11), .ref (a1 12), .ref (a1 13), .ref (a1 14), .ref (a1 16)])), tT (a1 11) (a1 37) (nI 12) (nI 80) 0, tT (a1 12) (a1 38) (nI 5) (nI 1000) 0, tT (a1 13) (a1 39) (nI 5) (nI 112) 0, tT (a1 14) (a1 15) (nI 1) (nI 16) 0, tA g (a1 15) 16 (fun _ => 0), tT (a1 16) (a1 17) (nI 2) (nI 8) 0, tA g (a1 17) 16 (fun _ => 0), ((a1 18), .inr (2, [.ref (a1 19), .ref (a1 22), .ref (a1 20), .ref (a1 23), .ref (a1 21)])), tT (a1 19) (a1 40) (nI 12) (nI 80) 0, tT (a1 20) (a1 41) (nI 5) (nI 112) 0, tT (a1 21) (a1 42) (nI 2) (nI 8) 0, tT (a1 24) (a1 43) (nI 4) (nI 30) 0, ((a1 25), .inr (4, [.ref (a1 44), .ref (a1 45), .ref (a1 46), .ref (a1 47), .ref (a1 48), .int (-9), .int 0, .int 0, .int 0, .int 0, .int 0, .int 0])), ((a1 26), .inr (4, [.ref (a1 49), .ref (a1 50), .ref (a1 51), .ref (a1 52), .ref (a1 53), .int (-9), .int 0, .int 0, .int 0, .int 0, .int 0, .int 0])), (h2, .inr (10, mF a2 (fun _ => 0))), ((a2 1), .inl (g 1, 1000, .inl (fun _ => 0))), tA g (a2 3) 2 (fun _ => 0), tA g (a2 10) 2 (fun _ => 0), tA g (a2 12) 2 (fun _ => 0), tA g (a2 14) 2 (fun _ => 0), tA g (a2 13) 32 (fun _ => 0), ((a2 28), .inl (g 3, 2, .inl (fun _ => 0)))]) (hS : va_S A s.heap H locs) (hl : lv_has ls 4 [(3, .int 0), (2, .ref h2), (1, .ref h1), (0, .ref b)]) : W p l e room_1 s m #[Value.ref b] below meth c H locs 168 110802 (lw_Z below #[Value.ref b] s) (F0 m 316 ls []) := by
  obtain ⟨hx, hb, hr, hml, hown, hts0, hX, hbl, hlocks, -⟩ := id C0
  have hts : ∀ w ∈ wsL_law, w.before #[Value.ref b] s = true := fun w h => hts0 w (wsL_law_in w h)
  have hbA : ¬ A b := fun z => absurd (hAe _ z) (Nat.not_le.mpr hbl)
  have hP : va_P D vwCl [(h1, .inr (9, [.ref (a1 0), .ref (a1 2), .ref (a1 5), .ref (a1 27), .ref (a1 28), .ref (a1 29), .ref (a1 30), .ref (a1 24), .ref (a1 31), .ref (a1 32), .ref (a1 25), .ref (a1 26), .ref (a1 33), .ref (a1 34), .ref (a1 18), .ref (a1 10), .int 0])), ((a1 18), .inr (2, [.ref (a1 19), .ref (a1 22), .ref (a1 20), .ref (a1 23), .ref (a1 21)])), tT (a1 21) (a1 42) (nI 2) (nI 8) 0, (h2, .inr (10, mF a2 (fun _ => 0)))] H := vz_pickP hP [0, 19, 22, 26] rfl
  have hD : va_D A [(h1, .inr (9, [.ref (a1 0), .ref (a1 2), .ref (a1 5), .ref (a1 27), .ref (a1 28), .ref (a1 29), .ref (a1 30), .ref (a1 24), .ref (a1 31), .ref (a1 32), .ref (a1 25), .ref (a1 26), .ref (a1 33), .ref (a1 34), .ref (a1 18), .ref (a1 10), .int 0])), ((a1 18), .inr (2, [.ref (a1 19), .ref (a1 22), .ref (a1 20), .ref (a1 23), .ref (a1 21)])), tT (a1 21) (a1 42) (nI 2) (nI 8) 0, (h2, .inr (10, mF a2 (fun _ => 0)))] := hD.sub [0, 19, 22, 26] (by decide) rfl
  refine lv_aload_n hx hb dL_law_316 rfl (lv_at hl 2 rfl) ?_
  refine lv_aload_n hx hb dL_law_317 rfl (lv_at hl 3 rfl) ?_
  refine lv_iload_n hx hb dL_law_318 rfl (lv_at hl 0 rfl) ?_
  refine lv_iconst (v := 1) hx hb dL_law_319 (by decide) ?_
  refine lv_iadd hx hb dL_law_320 ?_
  refine lv_topi (nm_r (e' := 1) (by decide) ?_)
  refine va_sld hx hb hX hbl hbA hS (vp_in_c (by decide)) dL_law_321 ?_
  refine lv_if_eq (tgt := 329) hx hb dL_law_322 (by decide) (fun k322 => ?_) (fun k322 => ?_)
  · refine lv_iconst (v := 0) hx hb dL_law_329 (by decide) ?_
    refine lv_aload_n hx hb dL_law_330 rfl (lv_at hl 3 rfl) ?_
    refine lv_iload_n hx hb dL_law_331 rfl (lv_at hl 0 rfl) ?_
    refine lv_iconst (v := 2) hx hb dL_law_332 (by decide) ?_
    refine lv_iadd hx hb dL_law_333 ?_
    refine lv_topi (nm_r (e' := 2) (by decide) ?_)
    refine va_sld hx hb hX hbl hbA hS (vp_in_c (by decide)) dL_law_334 ?_
    refine lv_aload_n hx hb dL_law_335 rfl (lv_at hl 3 rfl) ?_
    refine lv_iload_n hx hb dL_law_336 rfl (lv_at hl 0 rfl) ?_
    refine lv_iconst (v := 3) hx hb dL_law_337 (by decide) ?_
    refine lv_iadd hx hb dL_law_338 ?_
    refine lv_topi (nm_r (e' := 3) (by decide) ?_)
    refine va_sld hx hb hX hbl hbA hS (vp_in_c (by decide)) dL_law_339 ?_
    refine lv_aload_n hx hb dL_law_340 rfl (lv_at hl 3 rfl) ?_
    refine lv_iload_n hx hb dL_law_341 rfl (lv_at hl 0 rfl) ?_
    refine lv_iconst (v := 4) hx hb dL_law_342 (by decide) ?_
    refine lv_iadd hx hb dL_law_343 ?_
    refine lv_topi (nm_r (e' := 4) (by decide) ?_)
    refine va_sld hx hb hX hbl hbA hS (vp_in_c (by decide)) dL_law_344 ?_
    refine lv_aload_n hx hb dL_law_345 rfl (lv_at hl 3 rfl) ?_
    refine lv_iload_n hx hb dL_law_346 rfl (lv_at hl 0 rfl) ?_
    refine lv_iconst (v := 5) hx hb dL_law_347 (by decide) ?_
    refine lv_iadd hx hb dL_law_348 ?_
    refine lv_topi (nm_r (e' := 5) (by decide) ?_)
    refine va_sld hx hb hX hbl hbA hS (vp_in_c (by decide)) dL_law_349 ?_
    refine vz_Vi (wr := [(h2, .inr (10, mF a2 (fun _ => 0)))]) (As := [.int 0, .int (xs 2), .int (xs 3), .int (xs 4), .int (xs 5)]) (rest := []) hx hb hml hown hts hK hA hP hD hS (c_A_run0 l D g h1 H.size a1 0 (xs 2) (xs 3) (xs 4) (xs 5)) kv_L_44 (⟨Nat.le_of_ble_eq_true rfl, Nat.le_of_ble_eq_true rfl⟩) (q0 := 0) (ci := 9) rfl rfl rfl [0, 1, 2] [3] rfl rfl (by decide) hl.1 (Nat.le_of_ble_eq_true rfl) dL_law_350 (⟨Nat.le_of_ble_eq_true rfl, Nat.le_of_ble_eq_true rfl⟩) rfl (fun r1 _ H locs e2 _ hP hD hS => ?_)
    subst e2
    have hP : va_P D vwCl [(h2, .inr (10, mF a2 (fun _ => 0))), (h1, .inr (9, [.ref (a1 0), .ref (a1 2), .ref (a1 5), .ref (a1 27), .ref (a1 28), .ref (a1 29), .ref (a1 30), .ref (a1 24), .ref (a1 31), .ref (a1 32), .ref (a1 25), .ref (a1 26), .ref (a1 33), .ref (a1 34), .ref (a1 18), .ref (a1 10), .int 0])), ((a1 18), .inr (2, [.ref (a1 19), .ref (a1 22), .ref (a1 20), .ref (a1 23), .ref (a1 21)])), tT (a1 21) (a1 42) (nI 2) (nI 8) 0] H := hP
    have hD : va_D A [(h2, .inr (10, mF a2 (fun _ => 0))), (h1, .inr (9, [.ref (a1 0), .ref (a1 2), .ref (a1 5), .ref (a1 27), .ref (a1 28), .ref (a1 29), .ref (a1 30), .ref (a1 24), .ref (a1 31), .ref (a1 32), .ref (a1 25), .ref (a1 26), .ref (a1 33), .ref (a1 34), .ref (a1 18), .ref (a1 10), .int 0])), ((a1 18), .inr (2, [.ref (a1 19), .ref (a1 22), .ref (a1 20), .ref (a1 23), .ref (a1 21)])), tT (a1 21) (a1 42) (nI 2) (nI 8) 0] := hD
    refine lv_aload_n hx hb dL_law_353 rfl (lv_at hl 1 rfl) ?_
    refine lv_aload_n hx hb dL_law_354 rfl (lv_at hl 3 rfl) ?_
    refine lv_iload_n hx hb dL_law_355 rfl (lv_at hl 0 rfl) ?_
    refine lv_iconst (v := 1) hx hb dL_law_356 (by decide) ?_
    refine lv_iadd hx hb dL_law_357 ?_
    refine lv_topi (nm_r (e' := 1) (by decide) ?_)
    refine va_sld hx hb hX hbl hbA hS (vp_in_c (by decide)) dL_law_358 ?_
    refine lv_if_eq (tgt := 366) hx hb dL_law_359 (by decide) (fun k359 => ?_) (fun k359 => ?_)
    · refine lv_iconst (v := 0) hx hb dL_law_366 (by decide) ?_
      refine lv_aload_n hx hb dL_law_367 rfl (lv_at hl 3 rfl) ?_
      refine lv_iload_n hx hb dL_law_368 rfl (lv_at hl 0 rfl) ?_
      refine lv_iconst (v := 2) hx hb dL_law_369 (by decide) ?_
      refine lv_iadd hx hb dL_law_370 ?_
      refine lv_topi (nm_r (e' := 2) (by decide) ?_)
      refine va_sld hx hb hX hbl hbA hS (vp_in_c (by decide)) dL_law_371 ?_
      refine lv_aload_n hx hb dL_law_372 rfl (lv_at hl 3 rfl) ?_
      refine lv_iload_n hx hb dL_law_373 rfl (lv_at hl 0 rfl) ?_
      refine lv_iconst (v := 3) hx hb dL_law_374 (by decide) ?_
      refine lv_iadd hx hb dL_law_375 ?_
      refine lv_topi (nm_r (e' := 3) (by decide) ?_)
      refine va_sld hx hb hX hbl hbA hS (vp_in_c (by decide)) dL_law_376 ?_
      refine lv_aload_n hx hb dL_law_377 rfl (lv_at hl 3 rfl) ?_
      refine lv_iload_n hx hb dL_law_378 rfl (lv_at hl 0 rfl) ?_
      refine lv_iconst (v := 4) hx hb dL_law_379 (by decide) ?_
      refine lv_iadd hx hb dL_law_380 ?_
      refine lv_topi (nm_r (e' := 4) (by decide) ?_)
      refine va_sld hx hb hX hbl hbA hS (vp_in_c (by decide)) dL_law_381 ?_
      refine lv_aload_n hx hb dL_law_382 rfl (lv_at hl 3 rfl) ?_
      refine lv_iload_n hx hb dL_law_383 rfl (lv_at hl 0 rfl) ?_
      refine lv_iconst (v := 5) hx hb dL_law_384 (by decide) ?_
      refine lv_iadd hx hb dL_law_385 ?_
      refine lv_topi (nm_r (e' := 5) (by decide) ?_)
      refine va_sld hx hb hX hbl hbA hS (vp_in_c (by decide)) dL_law_386 ?_
      refine vz_Vi (wr := [(h1, .inr (9, [.ref (a1 0), .ref (a1 2), .ref (a1 5), .ref (a1 27), .ref (a1 28), .ref (a1 29), .ref (a1 30), .ref (a1 24), .ref (a1 31), .ref (a1 32), .ref (a1 25), .ref (a1 26), .ref (a1 33), .ref (a1 34), .ref (a1 18), .ref (a1 10), .int 0])), ((a1 18), .inr (2, [.ref (a1 19), .ref (a1 22), .ref (a1 20), .ref (a1 23), .ref (a1 21)])), tT (a1 21) (a1 42) (nI 2) (nI 8) 0]) (As := [.int 0, .int (xs 2), .int (xs 3), .int (xs 4), .int (xs 5)]) (rest := [.int (-1)]) hx hb hml hown hts hK hA hP hD hS (c_m_run0 l D g h2 H.size a2 0 (xs 2) (xs 3) (xs 4) (xs 5)) kv_L_48 (⟨Nat.le_of_ble_eq_true rfl, Nat.le_of_ble_eq_true rfl⟩) (q0 := 0) (ci := 10) rfl rfl rfl [0] [1, 2, 3] rfl rfl (by decide) hl.1 (Nat.le_of_ble_eq_true rfl) dL_law_387 (⟨Nat.le_of_ble_eq_true rfl, Nat.le_of_ble_eq_true rfl⟩) rfl (fun r3 _ H locs e4 _ hP hD hS => ?_)
      subst e4
      have hP : va_P D vwCl [(h1, .inr (9, [.ref (a1 0), .ref (a1 2), .ref (a1 5), .ref (a1 27), .ref (a1 28), .ref (a1 29), .ref (a1 30), .ref (a1 24), .ref (a1 31), .ref (a1 32), .ref (a1 25), .ref (a1 26), .ref (a1 33), .ref (a1 34), .ref (a1 18), .ref (a1 10), .int 0])), ((a1 18), .inr (2, [.ref (a1 19), .ref (a1 22), .ref (a1 20), .ref (a1 23), .ref (a1 21)])), tT (a1 21) (a1 42) (nI 2) (nI 8) 0, (h2, .inr (10, mF a2 (fun _ => 0)))] H := hP
      have hD : va_D A [(h1, .inr (9, [.ref (a1 0), .ref (a1 2), .ref (a1 5), .ref (a1 27), .ref (a1 28), .ref (a1 29), .ref (a1 30), .ref (a1 24), .ref (a1 31), .ref (a1 32), .ref (a1 25), .ref (a1 26), .ref (a1 33), .ref (a1 34), .ref (a1 18), .ref (a1 10), .int 0])), ((a1 18), .inr (2, [.ref (a1 19), .ref (a1 22), .ref (a1 20), .ref (a1 23), .ref (a1 21)])), tT (a1 21) (a1 42) (nI 2) (nI 8) 0, (h2, .inr (10, mF a2 (fun _ => 0)))] := hD
      refine lv_icmp_eq (tgt := 732) hx hb dL_law_390 (by decide) (fun _ => ?_) (fun h9 => absurd (by decide) h9)
      refine lv_iinc (v := 6) (lv' := [(3, .int 6), (2, .ref h2), (1, .ref h1), (0, .ref b)]) hx hb dL_law_732 hl (k := 0) rfl (by decide) (by decide) rfl (fun ls hl => ?_)
      refine lv_goto (tgt := 18) hx hb dL_law_735 (by decide) ?_
      refine lv_iload_n hx hb dL_law_18 rfl (lv_at hl 0 rfl) ?_
      refine lv_aload_n hx hb dL_law_19 rfl (lv_at hl 3 rfl) ?_
      refine va_slen hx hb hX hbl hbA hS dL_law_20 ?_
      refine lv_topi (nm_r (e' := 6) (by decide) ?_)
      refine lv_bipush (v := 6) hx hb dL_law_21 (by decide) ?_
      refine lv_isub hx hb dL_law_23 ?_
      refine lv_topi (nm_r (e' := 0) (by decide) ?_)
      refine lv_icmp_gt (tgt := 738) hx hb dL_law_24 (by decide) (fun _ => ?_) (fun h9 => absurd (by decide) h9)
      refine lv_iconst (v := 1) hx hb dL_law_738 (by decide) ?_
      refine va_forget (fun q hq => hAe _ (hS.2.2 q hq)) ?_
      refine W.widen (k := 600000) (n := 7302250) (Nat.le_of_ble_eq_true rfl) (Nat.le_of_ble_eq_true rfl) ?_
      exact lw_ret hx hb hr hlocks dL_law_739
    · refine lv_iconst (v := 1) hx hb dL_law_362 (by decide) ?_
      refine lv_goto (tgt := 367) hx hb dL_law_363 (by decide) ?_
      refine lv_aload_n hx hb dL_law_367 rfl (lv_at hl 3 rfl) ?_
      refine lv_iload_n hx hb dL_law_368 rfl (lv_at hl 0 rfl) ?_
      refine lv_iconst (v := 2) hx hb dL_law_369 (by decide) ?_
      refine lv_iadd hx hb dL_law_370 ?_
      refine lv_topi (nm_r (e' := 2) (by decide) ?_)
      refine va_sld hx hb hX hbl hbA hS (vp_in_c (by decide)) dL_law_371 ?_
      refine lv_aload_n hx hb dL_law_372 rfl (lv_at hl 3 rfl) ?_
      refine lv_iload_n hx hb dL_law_373 rfl (lv_at hl 0 rfl) ?_
      refine lv_iconst (v := 3) hx hb dL_law_374 (by decide) ?_
      refine lv_iadd hx hb dL_law_375 ?_
      refine lv_topi (nm_r (e' := 3) (by decide) ?_)
      refine va_sld hx hb hX hbl hbA hS (vp_in_c (by decide)) dL_law_376 ?_
      refine lv_aload_n hx hb dL_law_377 rfl (lv_at hl 3 rfl) ?_
      refine lv_iload_n hx hb dL_law_378 rfl (lv_at hl 0 rfl) ?_
      refine lv_iconst (v := 4) hx hb dL_law_379 (by decide) ?_
      refine lv_iadd hx hb dL_law_380 ?_
      refine lv_topi (nm_r (e' := 4) (by decide) ?_)
      refine va_sld hx hb hX hbl hbA hS (vp_in_c (by decide)) dL_law_381 ?_
      refine lv_aload_n hx hb dL_law_382 rfl (lv_at hl 3 rfl) ?_
      refine lv_iload_n hx hb dL_law_383 rfl (lv_at hl 0 rfl) ?_
      refine lv_iconst (v := 5) hx hb dL_law_384 (by decide) ?_
      refine lv_iadd hx hb dL_law_385 ?_
      refine lv_topi (nm_r (e' := 5) (by decide) ?_)
      refine va_sld hx hb hX hbl hbA hS (vp_in_c (by decide)) dL_law_386 ?_
      refine vz_Vi (wr := [(h1, .inr (9, [.ref (a1 0), .ref (a1 2), .ref (a1 5), .ref (a1 27), .ref (a1 28), .ref (a1 29), .ref (a1 30), .ref (a1 24), .ref (a1 31), .ref (a1 32), .ref (a1 25), .ref (a1 26), .ref (a1 33), .ref (a1 34), .ref (a1 18), .ref (a1 10), .int 0])), ((a1 18), .inr (2, [.ref (a1 19), .ref (a1 22), .ref (a1 20), .ref (a1 23), .ref (a1 21)])), tT (a1 21) (a1 42) (nI 2) (nI 8) 0]) (As := [.int 1, .int (xs 2), .int (xs 3), .int (xs 4), .int (xs 5)]) (rest := [.int (-1)]) hx hb hml hown hts hK hA hP hD hS (c_m_run0 l D g h2 H.size a2 1 (xs 2) (xs 3) (xs 4) (xs 5)) kv_L_48 (⟨Nat.le_of_ble_eq_true rfl, Nat.le_of_ble_eq_true rfl⟩) (q0 := 0) (ci := 10) rfl rfl rfl [0] [1, 2, 3] rfl rfl (by decide) hl.1 (Nat.le_of_ble_eq_true rfl) dL_law_387 (⟨Nat.le_of_ble_eq_true rfl, Nat.le_of_ble_eq_true rfl⟩) rfl (fun r5 _ H locs e6 _ hP hD hS => ?_)
      subst e6
      have hP : va_P D vwCl [(h1, .inr (9, [.ref (a1 0), .ref (a1 2), .ref (a1 5), .ref (a1 27), .ref (a1 28), .ref (a1 29), .ref (a1 30), .ref (a1 24), .ref (a1 31), .ref (a1 32), .ref (a1 25), .ref (a1 26), .ref (a1 33), .ref (a1 34), .ref (a1 18), .ref (a1 10), .int 0])), ((a1 18), .inr (2, [.ref (a1 19), .ref (a1 22), .ref (a1 20), .ref (a1 23), .ref (a1 21)])), tT (a1 21) (a1 42) (nI 2) (nI 8) 0, (h2, .inr (10, mF a2 (fun _ => 0)))] H := hP
      have hD : va_D A [(h1, .inr (9, [.ref (a1 0), .ref (a1 2), .ref (a1 5), .ref (a1 27), .ref (a1 28), .ref (a1 29), .ref (a1 30), .ref (a1 24), .ref (a1 31), .ref (a1 32), .ref (a1 25), .ref (a1 26), .ref (a1 33), .ref (a1 34), .ref (a1 18), .ref (a1 10), .int 0])), ((a1 18), .inr (2, [.ref (a1 19), .ref (a1 22), .ref (a1 20), .ref (a1 23), .ref (a1 21)])), tT (a1 21) (a1 42) (nI 2) (nI 8) 0, (h2, .inr (10, mF a2 (fun _ => 0)))] := hD
      refine lv_icmp_eq (tgt := 732) hx hb dL_law_390 (by decide) (fun _ => ?_) (fun h9 => absurd (by decide) h9)
      refine lv_iinc (v := 6) (lv' := [(3, .int 6), (2, .ref h2), (1, .ref h1), (0, .ref b)]) hx hb dL_law_732 hl (k := 0) rfl (by decide) (by decide) rfl (fun ls hl => ?_)
      refine lv_goto (tgt := 18) hx hb dL_law_735 (by decide) ?_
      refine lv_iload_n hx hb dL_law_18 rfl (lv_at hl 0 rfl) ?_
      refine lv_aload_n hx hb dL_law_19 rfl (lv_at hl 3 rfl) ?_
      refine va_slen hx hb hX hbl hbA hS dL_law_20 ?_
      refine lv_topi (nm_r (e' := 6) (by decide) ?_)
      refine lv_bipush (v := 6) hx hb dL_law_21 (by decide) ?_
      refine lv_isub hx hb dL_law_23 ?_
      refine lv_topi (nm_r (e' := 0) (by decide) ?_)
      refine lv_icmp_gt (tgt := 738) hx hb dL_law_24 (by decide) (fun _ => ?_) (fun h9 => absurd (by decide) h9)
      refine lv_iconst (v := 1) hx hb dL_law_738 (by decide) ?_
      refine va_forget (fun q hq => hAe _ (hS.2.2 q hq)) ?_
      refine W.widen (k := 600000) (n := 7302250) (Nat.le_of_ble_eq_true rfl) (Nat.le_of_ble_eq_true rfl) ?_
      exact lw_ret hx hb hr hlocks dL_law_739
  · refine lv_iconst (v := 1) hx hb dL_law_325 (by decide) ?_
    refine lv_goto (tgt := 330) hx hb dL_law_326 (by decide) ?_
    refine lv_aload_n hx hb dL_law_330 rfl (lv_at hl 3 rfl) ?_
    refine lv_iload_n hx hb dL_law_331 rfl (lv_at hl 0 rfl) ?_
    refine lv_iconst (v := 2) hx hb dL_law_332 (by decide) ?_
    refine lv_iadd hx hb dL_law_333 ?_
    refine lv_topi (nm_r (e' := 2) (by decide) ?_)
    refine va_sld hx hb hX hbl hbA hS (vp_in_c (by decide)) dL_law_334 ?_
    refine lv_aload_n hx hb dL_law_335 rfl (lv_at hl 3 rfl) ?_
    refine lv_iload_n hx hb dL_law_336 rfl (lv_at hl 0 rfl) ?_
    refine lv_iconst (v := 3) hx hb dL_law_337 (by decide) ?_
    refine lv_iadd hx hb dL_law_338 ?_
    refine lv_topi (nm_r (e' := 3) (by decide) ?_)
    refine va_sld hx hb hX hbl hbA hS (vp_in_c (by decide)) dL_law_339 ?_
    refine lv_aload_n hx hb dL_law_340 rfl (lv_at hl 3 rfl) ?_
    refine lv_iload_n hx hb dL_law_341 rfl (lv_at hl 0 rfl) ?_
    refine lv_iconst (v := 4) hx hb dL_law_342 (by decide) ?_
    refine lv_iadd hx hb dL_law_343 ?_
    refine lv_topi (nm_r (e' := 4) (by decide) ?_)
    refine va_sld hx hb hX hbl hbA hS (vp_in_c (by decide)) dL_law_344 ?_
    refine lv_aload_n hx hb dL_law_345 rfl (lv_at hl 3 rfl) ?_
    refine lv_iload_n hx hb dL_law_346 rfl (lv_at hl 0 rfl) ?_
    refine lv_iconst (v := 5) hx hb dL_law_347 (by decide) ?_
    refine lv_iadd hx hb dL_law_348 ?_
    refine lv_topi (nm_r (e' := 5) (by decide) ?_)
    refine va_sld hx hb hX hbl hbA hS (vp_in_c (by decide)) dL_law_349 ?_
    refine vz_Vi (wr := [(h2, .inr (10, mF a2 (fun _ => 0)))]) (As := [.int 1, .int (xs 2), .int (xs 3), .int (xs 4), .int (xs 5)]) (rest := []) hx hb hml hown hts hK hA hP hD hS (c_A_run0 l D g h1 H.size a1 1 (xs 2) (xs 3) (xs 4) (xs 5)) kv_L_44 (⟨Nat.le_of_ble_eq_true rfl, Nat.le_of_ble_eq_true rfl⟩) (q0 := 0) (ci := 9) rfl rfl rfl [0, 1, 2] [3] rfl rfl (by decide) hl.1 (Nat.le_of_ble_eq_true rfl) dL_law_350 (⟨Nat.le_of_ble_eq_true rfl, Nat.le_of_ble_eq_true rfl⟩) rfl (fun r7 _ H locs e8 _ hP hD hS => ?_)
    subst e8
    have hP : va_P D vwCl [(h2, .inr (10, mF a2 (fun _ => 0))), (h1, .inr (9, [.ref (a1 0), .ref (a1 2), .ref (a1 5), .ref (a1 27), .ref (a1 28), .ref (a1 29), .ref (a1 30), .ref (a1 24), .ref (a1 31), .ref (a1 32), .ref (a1 25), .ref (a1 26), .ref (a1 33), .ref (a1 34), .ref (a1 18), .ref (a1 10), .int 0])), ((a1 18), .inr (2, [.ref (a1 19), .ref (a1 22), .ref (a1 20), .ref (a1 23), .ref (a1 21)])), tT (a1 21) (a1 42) (nI 2) (nI 8) 0] H := hP
    have hD : va_D A [(h2, .inr (10, mF a2 (fun _ => 0))), (h1, .inr (9, [.ref (a1 0), .ref (a1 2), .ref (a1 5), .ref (a1 27), .ref (a1 28), .ref (a1 29), .ref (a1 30), .ref (a1 24), .ref (a1 31), .ref (a1 32), .ref (a1 25), .ref (a1 26), .ref (a1 33), .ref (a1 34), .ref (a1 18), .ref (a1 10), .int 0])), ((a1 18), .inr (2, [.ref (a1 19), .ref (a1 22), .ref (a1 20), .ref (a1 23), .ref (a1 21)])), tT (a1 21) (a1 42) (nI 2) (nI 8) 0] := hD
    refine lv_aload_n hx hb dL_law_353 rfl (lv_at hl 1 rfl) ?_
    refine lv_aload_n hx hb dL_law_354 rfl (lv_at hl 3 rfl) ?_
    refine lv_iload_n hx hb dL_law_355 rfl (lv_at hl 0 rfl) ?_
    refine lv_iconst (v := 1) hx hb dL_law_356 (by decide) ?_
    refine lv_iadd hx hb dL_law_357 ?_
    refine lv_topi (nm_r (e' := 1) (by decide) ?_)
    refine va_sld hx hb hX hbl hbA hS (vp_in_c (by decide)) dL_law_358 ?_
    refine lv_if_eq (tgt := 366) hx hb dL_law_359 (by decide) (fun k359 => ?_) (fun k359 => ?_)
    · refine lv_iconst (v := 0) hx hb dL_law_366 (by decide) ?_
      refine lv_aload_n hx hb dL_law_367 rfl (lv_at hl 3 rfl) ?_
      refine lv_iload_n hx hb dL_law_368 rfl (lv_at hl 0 rfl) ?_
      refine lv_iconst (v := 2) hx hb dL_law_369 (by decide) ?_
      refine lv_iadd hx hb dL_law_370 ?_
      refine lv_topi (nm_r (e' := 2) (by decide) ?_)
      refine va_sld hx hb hX hbl hbA hS (vp_in_c (by decide)) dL_law_371 ?_
      refine lv_aload_n hx hb dL_law_372 rfl (lv_at hl 3 rfl) ?_
      refine lv_iload_n hx hb dL_law_373 rfl (lv_at hl 0 rfl) ?_
      refine lv_iconst (v := 3) hx hb dL_law_374 (by decide) ?_
      refine lv_iadd hx hb dL_law_375 ?_
      refine lv_topi (nm_r (e' := 3) (by decide) ?_)
      refine va_sld hx hb hX hbl hbA hS (vp_in_c (by decide)) dL_law_376 ?_
      refine lv_aload_n hx hb dL_law_377 rfl (lv_at hl 3 rfl) ?_
      refine lv_iload_n hx hb dL_law_378 rfl (lv_at hl 0 rfl) ?_
      refine lv_iconst (v := 4) hx hb dL_law_379 (by decide) ?_
      refine lv_iadd hx hb dL_law_380 ?_
      refine lv_topi (nm_r (e' := 4) (by decide) ?_)
      refine va_sld hx hb hX hbl hbA hS (vp_in_c (by decide)) dL_law_381 ?_
      refine lv_aload_n hx hb dL_law_382 rfl (lv_at hl 3 rfl) ?_
      refine lv_iload_n hx hb dL_law_383 rfl (lv_at hl 0 rfl) ?_
      refine lv_iconst (v := 5) hx hb dL_law_384 (by decide) ?_
      refine lv_iadd hx hb dL_law_385 ?_
      refine lv_topi (nm_r (e' := 5) (by decide) ?_)
      refine va_sld hx hb hX hbl hbA hS (vp_in_c (by decide)) dL_law_386 ?_
      refine vz_Vi (wr := [(h1, .inr (9, [.ref (a1 0), .ref (a1 2), .ref (a1 5), .ref (a1 27), .ref (a1 28), .ref (a1 29), .ref (a1 30), .ref (a1 24), .ref (a1 31), .ref (a1 32), .ref (a1 25), .ref (a1 26), .ref (a1 33), .ref (a1 34), .ref (a1 18), .ref (a1 10), .int 0])), ((a1 18), .inr (2, [.ref (a1 19), .ref (a1 22), .ref (a1 20), .ref (a1 23), .ref (a1 21)])), tT (a1 21) (a1 42) (nI 2) (nI 8) 0]) (As := [.int 0, .int (xs 2), .int (xs 3), .int (xs 4), .int (xs 5)]) (rest := [.int (-1)]) hx hb hml hown hts hK hA hP hD hS (c_m_run0 l D g h2 H.size a2 0 (xs 2) (xs 3) (xs 4) (xs 5)) kv_L_48 (⟨Nat.le_of_ble_eq_true rfl, Nat.le_of_ble_eq_true rfl⟩) (q0 := 0) (ci := 10) rfl rfl rfl [0] [1, 2, 3] rfl rfl (by decide) hl.1 (Nat.le_of_ble_eq_true rfl) dL_law_387 (⟨Nat.le_of_ble_eq_true rfl, Nat.le_of_ble_eq_true rfl⟩) rfl (fun r9 _ H locs e10 _ hP hD hS => ?_)
      subst e10
      have hP : va_P D vwCl [(h1, .inr (9, [.ref (a1 0), .ref (a1 2), .ref (a1 5), .ref (a1 27), .ref (a1 28), .ref (a1 29), .ref (a1 30), .ref (a1 24), .ref (a1 31), .ref (a1 32), .ref (a1 25), .ref (a1 26), .ref (a1 33), .ref (a1 34), .ref (a1 18), .ref (a1 10), .int 0])), ((a1 18), .inr (2, [.ref (a1 19), .ref (a1 22), .ref (a1 20), .ref (a1 23), .ref (a1 21)])), tT (a1 21) (a1 42) (nI 2) (nI 8) 0, (h2, .inr (10, mF a2 (fun _ => 0)))] H := hP
      have hD : va_D A [(h1, .inr (9, [.ref (a1 0), .ref (a1 2), .ref (a1 5), .ref (a1 27), .ref (a1 28), .ref (a1 29), .ref (a1 30), .ref (a1 24), .ref (a1 31), .ref (a1 32), .ref (a1 25), .ref (a1 26), .ref (a1 33), .ref (a1 34), .ref (a1 18), .ref (a1 10), .int 0])), ((a1 18), .inr (2, [.ref (a1 19), .ref (a1 22), .ref (a1 20), .ref (a1 23), .ref (a1 21)])), tT (a1 21) (a1 42) (nI 2) (nI 8) 0, (h2, .inr (10, mF a2 (fun _ => 0)))] := hD
      refine lv_icmp_eq (tgt := 732) hx hb dL_law_390 (by decide) (fun _ => ?_) (fun h9 => absurd (by decide) h9)
      refine lv_iinc (v := 6) (lv' := [(3, .int 6), (2, .ref h2), (1, .ref h1), (0, .ref b)]) hx hb dL_law_732 hl (k := 0) rfl (by decide) (by decide) rfl (fun ls hl => ?_)
      refine lv_goto (tgt := 18) hx hb dL_law_735 (by decide) ?_
      refine lv_iload_n hx hb dL_law_18 rfl (lv_at hl 0 rfl) ?_
      refine lv_aload_n hx hb dL_law_19 rfl (lv_at hl 3 rfl) ?_
      refine va_slen hx hb hX hbl hbA hS dL_law_20 ?_
      refine lv_topi (nm_r (e' := 6) (by decide) ?_)
      refine lv_bipush (v := 6) hx hb dL_law_21 (by decide) ?_
      refine lv_isub hx hb dL_law_23 ?_
      refine lv_topi (nm_r (e' := 0) (by decide) ?_)
      refine lv_icmp_gt (tgt := 738) hx hb dL_law_24 (by decide) (fun _ => ?_) (fun h9 => absurd (by decide) h9)
      refine lv_iconst (v := 1) hx hb dL_law_738 (by decide) ?_
      refine va_forget (fun q hq => hAe _ (hS.2.2 q hq)) ?_
      refine W.widen (k := 600000) (n := 7302250) (Nat.le_of_ble_eq_true rfl) (Nat.le_of_ble_eq_true rfl) ?_
      exact lw_ret hx hb hr hlocks dL_law_739
    · refine lv_iconst (v := 1) hx hb dL_law_362 (by decide) ?_
      refine lv_goto (tgt := 367) hx hb dL_law_363 (by decide) ?_
      refine lv_aload_n hx hb dL_law_367 rfl (lv_at hl 3 rfl) ?_
      refine lv_iload_n hx hb dL_law_368 rfl (lv_at hl 0 rfl) ?_
      refine lv_iconst (v := 2) hx hb dL_law_369 (by decide) ?_
      refine lv_iadd hx hb dL_law_370 ?_
      refine lv_topi (nm_r (e' := 2) (by decide) ?_)
      refine va_sld hx hb hX hbl hbA hS (vp_in_c (by decide)) dL_law_371 ?_
      refine lv_aload_n hx hb dL_law_372 rfl (lv_at hl 3 rfl) ?_
      refine lv_iload_n hx hb dL_law_373 rfl (lv_at hl 0 rfl) ?_
      refine lv_iconst (v := 3) hx hb dL_law_374 (by decide) ?_
      refine lv_iadd hx hb dL_law_375 ?_
      refine lv_topi (nm_r (e' := 3) (by decide) ?_)
      refine va_sld hx hb hX hbl hbA hS (vp_in_c (by decide)) dL_law_376 ?_
      refine lv_aload_n hx hb dL_law_377 rfl (lv_at hl 3 rfl) ?_
      refine lv_iload_n hx hb dL_law_378 rfl (lv_at hl 0 rfl) ?_
      refine lv_iconst (v := 4) hx hb dL_law_379 (by decide) ?_
      refine lv_iadd hx hb dL_law_380 ?_
      refine lv_topi (nm_r (e' := 4) (by decide) ?_)
      refine va_sld hx hb hX hbl hbA hS (vp_in_c (by decide)) dL_law_381 ?_
      refine lv_aload_n hx hb dL_law_382 rfl (lv_at hl 3 rfl) ?_
      refine lv_iload_n hx hb dL_law_383 rfl (lv_at hl 0 rfl) ?_
      refine lv_iconst (v := 5) hx hb dL_law_384 (by decide) ?_
      refine lv_iadd hx hb dL_law_385 ?_
      refine lv_topi (nm_r (e' := 5) (by decide) ?_)
      refine va_sld hx hb hX hbl hbA hS (vp_in_c (by decide)) dL_law_386 ?_
      refine vz_Vi (wr := [(h1, .inr (9, [.ref (a1 0), .ref (a1 2), .ref (a1 5), .ref (a1 27), .ref (a1 28), .ref (a1 29), .ref (a1 30), .ref (a1 24), .ref (a1 31), .ref (a1 32), .ref (a1 25), .ref (a1 26), .ref (a1 33), .ref (a1 34), .ref (a1 18), .ref (a1 10), .int 0])), ((a1 18), .inr (2, [.ref (a1 19), .ref (a1 22), .ref (a1 20), .ref (a1 23), .ref (a1 21)])), tT (a1 21) (a1 42) (nI 2) (nI 8) 0]) (As := [.int 1, .int (xs 2), .int (xs 3), .int (xs 4), .int (xs 5)]) (rest := [.int (-1)]) hx hb hml hown hts hK hA hP hD hS (c_m_run0 l D g h2 H.size a2 1 (xs 2) (xs 3) (xs 4) (xs 5)) kv_L_48 (⟨Nat.le_of_ble_eq_true rfl, Nat.le_of_ble_eq_true rfl⟩) (q0 := 0) (ci := 10) rfl rfl rfl [0] [1, 2, 3] rfl rfl (by decide) hl.1 (Nat.le_of_ble_eq_true rfl) dL_law_387 (⟨Nat.le_of_ble_eq_true rfl, Nat.le_of_ble_eq_true rfl⟩) rfl (fun r11 _ H locs e12 _ hP hD hS => ?_)
      subst e12
      have hP : va_P D vwCl [(h1, .inr (9, [.ref (a1 0), .ref (a1 2), .ref (a1 5), .ref (a1 27), .ref (a1 28), .ref (a1 29), .ref (a1 30), .ref (a1 24), .ref (a1 31), .ref (a1 32), .ref (a1 25), .ref (a1 26), .ref (a1 33), .ref (a1 34), .ref (a1 18), .ref (a1 10), .int 0])), ((a1 18), .inr (2, [.ref (a1 19), .ref (a1 22), .ref (a1 20), .ref (a1 23), .ref (a1 21)])), tT (a1 21) (a1 42) (nI 2) (nI 8) 0, (h2, .inr (10, mF a2 (fun _ => 0)))] H := hP
      have hD : va_D A [(h1, .inr (9, [.ref (a1 0), .ref (a1 2), .ref (a1 5), .ref (a1 27), .ref (a1 28), .ref (a1 29), .ref (a1 30), .ref (a1 24), .ref (a1 31), .ref (a1 32), .ref (a1 25), .ref (a1 26), .ref (a1 33), .ref (a1 34), .ref (a1 18), .ref (a1 10), .int 0])), ((a1 18), .inr (2, [.ref (a1 19), .ref (a1 22), .ref (a1 20), .ref (a1 23), .ref (a1 21)])), tT (a1 21) (a1 42) (nI 2) (nI 8) 0, (h2, .inr (10, mF a2 (fun _ => 0)))] := hD
      refine lv_icmp_eq (tgt := 732) hx hb dL_law_390 (by decide) (fun _ => ?_) (fun h9 => absurd (by decide) h9)
      refine lv_iinc (v := 6) (lv' := [(3, .int 6), (2, .ref h2), (1, .ref h1), (0, .ref b)]) hx hb dL_law_732 hl (k := 0) rfl (by decide) (by decide) rfl (fun ls hl => ?_)
      refine lv_goto (tgt := 18) hx hb dL_law_735 (by decide) ?_
      refine lv_iload_n hx hb dL_law_18 rfl (lv_at hl 0 rfl) ?_
      refine lv_aload_n hx hb dL_law_19 rfl (lv_at hl 3 rfl) ?_
      refine va_slen hx hb hX hbl hbA hS dL_law_20 ?_
      refine lv_topi (nm_r (e' := 6) (by decide) ?_)
      refine lv_bipush (v := 6) hx hb dL_law_21 (by decide) ?_
      refine lv_isub hx hb dL_law_23 ?_
      refine lv_topi (nm_r (e' := 0) (by decide) ?_)
      refine lv_icmp_gt (tgt := 738) hx hb dL_law_24 (by decide) (fun _ => ?_) (fun h9 => absurd (by decide) h9)
      refine lv_iconst (v := 1) hx hb dL_law_738 (by decide) ?_
      refine va_forget (fun q hq => hAe _ (hS.2.2 q hq)) ?_
      refine W.widen (k := 600000) (n := 7302250) (Nat.le_of_ble_eq_true rfl) (Nat.le_of_ble_eq_true rfl) ?_
      exact lw_ret hx hb hr hlocks dL_law_739
theorem q1510 : Cond.methodLink RL 49 yX9_ran ∈ wsL_law := mT_6 (List.mem_of_getElem? (i := 12) rfl) rfl
theorem q1511 : Cond.instanceMethod yX9_ran ∈ wsL_law := mT_6 (List.mem_of_getElem? (i := 13) rfl) rfl
theorem q1512 : Cond.selects RX9 yX9_ran yX9_ran ∈ wsL_law := mT_6 (List.mem_of_getElem? (i := 14) rfl) rfl
theorem q1513 : Cond.code yX9_ran cX9_ran 3 (some .int) ∈ wsL_law := mT_6 (List.mem_of_getElem? (i := 15) rfl) rfl
theorem kv_L_49 : vz_cv RL 49 yX9_ran cX9_ran 3 (some .int) 2 := ⟨q1510, q1511, q1512, q2, q1513, by decide +kernel⟩
theorem q1527 : Cond.methodLink RL 53 yX10_ran ∈ wsL_law := mT_9 (List.mem_of_getElem? (i := 55) rfl) rfl
theorem q1528 : Cond.instanceMethod yX10_ran ∈ wsL_law := mT_9 (List.mem_of_getElem? (i := 56) rfl) rfl
theorem q1529 : Cond.selects RX10 yX10_ran yX10_ran ∈ wsL_law := mT_9 (List.mem_of_getElem? (i := 57) rfl) rfl
theorem q1530 : Cond.code yX10_ran cX10_ran 3 (some .int) ∈ wsL_law := mT_9 (List.mem_of_getElem? (i := 58) rfl) rfl
theorem kv_L_53 : vz_cv RL 53 yX10_ran cX10_ran 3 (some .int) 2 := ⟨q1527, q1528, q1529, q5, q1530, by decide +kernel⟩
theorem dL_law_395 : decode cL_law 395 = .ok (.aload_n 1, 1) := by decide +kernel
theorem dL_law_396 : decode cL_law 396 = .ok (.aload_n 0, 1) := by decide +kernel
theorem dL_law_397 : decode cL_law 397 = .ok (.iload_n 3, 1) := by decide +kernel
theorem dL_law_398 : decode cL_law 398 = .ok (.iconst 1, 1) := by decide +kernel
theorem dL_law_399 : decode cL_law 399 = .ok (.iadd, 1) := by decide +kernel
theorem dL_law_400 : decode cL_law 400 = .ok (.iaload, 1) := by decide +kernel
theorem dL_law_401 : decode cL_law 401 = .ok (.aload_n 0, 1) := by decide +kernel
theorem dL_law_402 : decode cL_law 402 = .ok (.iload_n 3, 1) := by decide +kernel
theorem dL_law_403 : decode cL_law 403 = .ok (.iconst 2, 1) := by decide +kernel
theorem dL_law_404 : decode cL_law 404 = .ok (.iadd, 1) := by decide +kernel
theorem dL_law_405 : decode cL_law 405 = .ok (.iaload, 1) := by decide +kernel
theorem dL_law_406 : decode cL_law 406 = .ok (.invokevirtual 49, 3) := by decide +kernel
theorem dL_law_409 : decode cL_law 409 = .ok (.aload_n 2, 1) := by decide +kernel
theorem dL_law_410 : decode cL_law 410 = .ok (.aload_n 0, 1) := by decide +kernel
theorem dL_law_411 : decode cL_law 411 = .ok (.iload_n 3, 1) := by decide +kernel
theorem dL_law_412 : decode cL_law 412 = .ok (.iconst 1, 1) := by decide +kernel
theorem dL_law_413 : decode cL_law 413 = .ok (.iadd, 1) := by decide +kernel
theorem dL_law_414 : decode cL_law 414 = .ok (.iaload, 1) := by decide +kernel
theorem dL_law_415 : decode cL_law 415 = .ok (.aload_n 0, 1) := by decide +kernel
theorem dL_law_416 : decode cL_law 416 = .ok (.iload_n 3, 1) := by decide +kernel
theorem dL_law_417 : decode cL_law 417 = .ok (.iconst 2, 1) := by decide +kernel
theorem dL_law_418 : decode cL_law 418 = .ok (.iadd, 1) := by decide +kernel
theorem dL_law_419 : decode cL_law 419 = .ok (.iaload, 1) := by decide +kernel
theorem dL_law_420 : decode cL_law 420 = .ok (.invokevirtual 53, 3) := by decide +kernel
theorem dL_law_423 : decode cL_law 423 = .ok (.if_icmp .eq 309, 3) := by decide +kernel
set_option maxHeartbeats 4000000 in
set_option maxRecDepth 100000 in
theorem law_op7 {p : Program} {e : Env} {s : State} {m : MethodId} {below : List Frame} {meth : Method} {c : Code} {l : Launch} {b : Nat} {xs : Nat → Int32} (C0 : lw_At p s m meth c b 6 xs) {D : va_G} {g : Nat → ClassId} {A : Nat → Prop} (hAe : ∀ q, A q → s.heap.size ≤ q) (hA : ∀ q : Nat, s.heap.size ≤ q → A q) (hK : va_K D vwCl (tyG g) s) {h1 h2 : Nat} {a1 a2 : Nat → Nat} {H : Heap} {locs : List Loc} {ls : Array Slot} (hP : va_P D vwCl [(h1, .inr (9, [.ref (a1 0), .ref (a1 2), .ref (a1 5), .ref (a1 27), .ref (a1 28), .ref (a1 29), .ref (a1 30), .ref (a1 24), .ref (a1 31), .ref (a1 32), .ref (a1 25), .ref (a1 26), .ref (a1 33), .ref (a1 34), .ref (a1 18), .ref (a1 10), .int 0])), tT (a1 0) (a1 1) (nI 1) (nI 1000) 0, tA g (a1 1) 1000 (fun _ => 0), ((a1 2), .inr (5, [.ref (a1 3), .int 0])), tT (a1 3) (a1 4) (nI 3) (nI 1001) 0, tA g (a1 4) 3003 (fun _ => 0), ((a1 5), .inr (3, [.ref (a1 3), .ref (a1 6), .ref (a1 7), .ref (a1 8), .ref (a1 10), .int 0, .int 0, .int 0, .int 0, .int (-9), .int 0, .int 0])), tT (a1 6) (a1 35) (nI 1) (nI 6) 0, tT (a1 7) (a1 36) (nI 1) (nI 6) 0, tT (a1 8) (a1 9) (nI 1) (nI 80) 0, tA g (a1 9) 80 (fun _ => 0), ((a1 10), .inr (2, [.ref (a1 11), .ref (a1 12), .ref (a1 13), .ref (a1 14), .ref (a1 16)])), tT (a1 11) (a1 37) (nI 12) (nI 80) 0, tT (a1 12) (a1 38) (nI 5) (nI 1000) 0, tT (a1 13) (a1 39) (nI 5) (nI 112) 0, tT (a1 14) (a1 15) (nI 1) (nI 16) 0, tA g (a1 15) 16 (fun _ => 0), tT (a1 16) (a1 17) (nI 2) (nI 8) 0, tA g (a1 17) 16 (fun _ => 0), ((a1 18), .inr (2, [.ref (a1 19), .ref (a1 22), .ref (a1 20), .ref (a1 23), .ref (a1 21)])), tT (a1 19) (a1 40) (nI 12) (nI 80) 0, tT (a1 20) (a1 41) (nI 5) (nI 112) 0, tT (a1 21) (a1 42) (nI 2) (nI 8) 0, tT (a1 24) (a1 43) (nI 4) (nI 30) 0, ((a1 25), .inr (4, [.ref (a1 44), .ref (a1 45), .ref (a1 46), .ref (a1 47), .ref (a1 48), .int (-9), .int 0, .int 0, .int 0, .int 0, .int 0, .int 0])), ((a1 26), .inr (4, [.ref (a1 49), .ref (a1 50), .ref (a1 51), .ref (a1 52), .ref (a1 53), .int (-9), .int 0, .int 0, .int 0, .int 0, .int 0, .int 0])), (h2, .inr (10, mF a2 (fun _ => 0))), ((a2 1), .inl (g 1, 1000, .inl (fun _ => 0))), tA g (a2 3) 2 (fun _ => 0), tA g (a2 10) 2 (fun _ => 0), tA g (a2 12) 2 (fun _ => 0), tA g (a2 14) 2 (fun _ => 0), tA g (a2 13) 32 (fun _ => 0), ((a2 28), .inl (g 3, 2, .inl (fun _ => 0)))] H) (hD : va_D A [(h1, .inr (9, [.ref (a1 0), .ref (a1 2), .ref (a1 5), .ref (a1 27), .ref (a1 28), .ref (a1 29), .ref (a1 30), .ref (a1 24), .ref (a1 31), .ref (a1 32), .ref (a1 25), .ref (a1 26), .ref (a1 33), .ref (a1 34), .ref (a1 18), .ref (a1 10), .int 0])), tT (a1 0) (a1 1) (nI 1) (nI 1000) 0, tA g (a1 1) 1000 (fun _ => 0), ((a1 2), .inr (5, [.ref (a1 3), .int 0])), tT (a1 3) (a1 4) (nI 3) (nI 1001) 0, tA g (a1 4) 3003 (fun _ => 0), ((a1 5), .inr (3, [.ref (a1 3), .ref (a1 6), .ref (a1 7), .ref (a1 8), .ref (a1 10), .int 0, .int 0, .int 0, .int 0, .int (-9), .int 0, .int 0])), tT (a1 6) (a1 35) (nI 1) (nI 6) 0, tT (a1 7) (a1 36) (nI 1) (nI 6) 0, tT (a1 8) (a1 9) (nI 1) (nI 80) 0, tA g (a1 9) 80 (fun _ => 0), ((a1 10), .inr (2, [.ref (a1 11), .ref (a1 12), .ref (a1 13), .ref (a1 14), .ref (a1 16)])), tT (a1 11) (a1 37) (nI 12) (nI 80) 0, tT (a1 12) (a1 38) (nI 5) (nI 1000) 0, tT (a1 13) (a1 39) (nI 5) (nI 112) 0, tT (a1 14) (a1 15) (nI 1) (nI 16) 0, tA g (a1 15) 16 (fun _ => 0), tT (a1 16) (a1 17) (nI 2) (nI 8) 0, tA g (a1 17) 16 (fun _ => 0), ((a1 18), .inr (2, [.ref (a1 19), .ref (a1 22), .ref (a1 20), .ref (a1 23), .ref (a1 21)])), tT (a1 19) (a1 40) (nI 12) (nI 80) 0, tT (a1 20) (a1 41) (nI 5) (nI 112) 0, tT (a1 21) (a1 42) (nI 2) (nI 8) 0, tT (a1 24) (a1 43) (nI 4) (nI 30) 0, ((a1 25), .inr (4, [.ref (a1 44), .ref (a1 45), .ref (a1 46), .ref (a1 47), .ref (a1 48), .int (-9), .int 0, .int 0, .int 0, .int 0, .int 0, .int 0])), ((a1 26), .inr (4, [.ref (a1 49), .ref (a1 50), .ref (a1 51), .ref (a1 52), .ref (a1 53), .int (-9), .int 0, .int 0, .int 0, .int 0, .int 0, .int 0])), (h2, .inr (10, mF a2 (fun _ => 0))), ((a2 1), .inl (g 1, 1000, .inl (fun _ => 0))), tA g (a2 3) 2 (fun _ => 0), tA g (a2 10) 2 (fun _ => 0), tA g (a2 12) 2 (fun _ => 0), tA g (a2 14) 2 (fun _ => 0), tA g (a2 13) 32 (fun _ => 0), ((a2 28), .inl (g 3, 2, .inl (fun _ => 0)))]) (hS : va_S A s.heap H locs) (hl : lv_has ls 4 [(3, .int 0), (2, .ref h2), (1, .ref h1), (0, .ref b)]) : W p l e room_1 s m #[Value.ref b] below meth c H locs 168 110802 (lw_Z below #[Value.ref b] s) (F0 m 395 ls []) := by
  obtain ⟨hx, hb, hr, hml, hown, hts0, hX, hbl, hlocks, -⟩ := id C0
  have hts : ∀ w ∈ wsL_law, w.before #[Value.ref b] s = true := fun w h => hts0 w (wsL_law_in w h)
  have hbA : ¬ A b := fun z => absurd (hAe _ z) (Nat.not_le.mpr hbl)
  have hP : va_P D vwCl [(h1, .inr (9, [.ref (a1 0), .ref (a1 2), .ref (a1 5), .ref (a1 27), .ref (a1 28), .ref (a1 29), .ref (a1 30), .ref (a1 24), .ref (a1 31), .ref (a1 32), .ref (a1 25), .ref (a1 26), .ref (a1 33), .ref (a1 34), .ref (a1 18), .ref (a1 10), .int 0])), ((a1 25), .inr (4, [.ref (a1 44), .ref (a1 45), .ref (a1 46), .ref (a1 47), .ref (a1 48), .int (-9), .int 0, .int 0, .int 0, .int 0, .int 0, .int 0])), ((a1 26), .inr (4, [.ref (a1 49), .ref (a1 50), .ref (a1 51), .ref (a1 52), .ref (a1 53), .int (-9), .int 0, .int 0, .int 0, .int 0, .int 0, .int 0])), (h2, .inr (10, mF a2 (fun _ => 0))), ((a2 28), .inl (g 3, 2, .inl (fun _ => 0)))] H := vz_pickP hP [0, 24, 25, 26, 33] rfl
  have hD : va_D A [(h1, .inr (9, [.ref (a1 0), .ref (a1 2), .ref (a1 5), .ref (a1 27), .ref (a1 28), .ref (a1 29), .ref (a1 30), .ref (a1 24), .ref (a1 31), .ref (a1 32), .ref (a1 25), .ref (a1 26), .ref (a1 33), .ref (a1 34), .ref (a1 18), .ref (a1 10), .int 0])), ((a1 25), .inr (4, [.ref (a1 44), .ref (a1 45), .ref (a1 46), .ref (a1 47), .ref (a1 48), .int (-9), .int 0, .int 0, .int 0, .int 0, .int 0, .int 0])), ((a1 26), .inr (4, [.ref (a1 49), .ref (a1 50), .ref (a1 51), .ref (a1 52), .ref (a1 53), .int (-9), .int 0, .int 0, .int 0, .int 0, .int 0, .int 0])), (h2, .inr (10, mF a2 (fun _ => 0))), ((a2 28), .inl (g 3, 2, .inl (fun _ => 0)))] := hD.sub [0, 24, 25, 26, 33] (by decide) rfl
  refine lv_aload_n hx hb dL_law_395 rfl (lv_at hl 2 rfl) ?_
  refine lv_aload_n hx hb dL_law_396 rfl (lv_at hl 3 rfl) ?_
  refine lv_iload_n hx hb dL_law_397 rfl (lv_at hl 0 rfl) ?_
  refine lv_iconst (v := 1) hx hb dL_law_398 (by decide) ?_
  refine lv_iadd hx hb dL_law_399 ?_
  refine lv_topi (nm_r (e' := 1) (by decide) ?_)
  refine va_sld hx hb hX hbl hbA hS (vp_in_c (by decide)) dL_law_400 ?_
  refine lv_aload_n hx hb dL_law_401 rfl (lv_at hl 3 rfl) ?_
  refine lv_iload_n hx hb dL_law_402 rfl (lv_at hl 0 rfl) ?_
  refine lv_iconst (v := 2) hx hb dL_law_403 (by decide) ?_
  refine lv_iadd hx hb dL_law_404 ?_
  refine lv_topi (nm_r (e' := 2) (by decide) ?_)
  refine va_sld hx hb hX hbl hbA hS (vp_in_c (by decide)) dL_law_405 ?_
  refine vz_Vi (wr := [(h2, .inr (10, mF a2 (fun _ => 0))), ((a2 28), .inl (g 3, 2, .inl (fun _ => 0)))]) (As := [.int (xs 1), .int (xs 2)]) (rest := []) hx hb hml hown hts hK hA hP hD hS (c_A_ran0 l D g h1 H.size a1 (xs 1) (xs 2)) kv_L_49 (⟨Nat.le_of_ble_eq_true rfl, Nat.le_of_ble_eq_true rfl⟩) (q0 := 0) (ci := 9) rfl rfl rfl [0, 1, 2] [3, 4] rfl rfl (by decide) hl.1 (Nat.le_of_ble_eq_true rfl) dL_law_406 (⟨Nat.le_of_ble_eq_true rfl, Nat.le_of_ble_eq_true rfl⟩) rfl (fun r1 _ H locs e2 _ hP hD hS => ?_)
  subst e2
  have hP : va_P D vwCl [(h2, .inr (10, mF a2 (fun _ => 0))), ((a2 28), .inl (g 3, 2, .inl (fun _ => 0))), (h1, .inr (9, [.ref (a1 0), .ref (a1 2), .ref (a1 5), .ref (a1 27), .ref (a1 28), .ref (a1 29), .ref (a1 30), .ref (a1 24), .ref (a1 31), .ref (a1 32), .ref (a1 25), .ref (a1 26), .ref (a1 33), .ref (a1 34), .ref (a1 18), .ref (a1 10), .int 0])), ((a1 25), .inr (4, [.ref (a1 44), .ref (a1 45), .ref (a1 46), .ref (a1 47), .ref (a1 48), .int (-9), .int 0, .int 0, .int 0, .int 0, .int 0, .int 0])), ((a1 26), .inr (4, [.ref (a1 49), .ref (a1 50), .ref (a1 51), .ref (a1 52), .ref (a1 53), .int (-9), .int 0, .int 0, .int 0, .int 0, .int 0, .int 0]))] H := hP
  have hD : va_D A [(h2, .inr (10, mF a2 (fun _ => 0))), ((a2 28), .inl (g 3, 2, .inl (fun _ => 0))), (h1, .inr (9, [.ref (a1 0), .ref (a1 2), .ref (a1 5), .ref (a1 27), .ref (a1 28), .ref (a1 29), .ref (a1 30), .ref (a1 24), .ref (a1 31), .ref (a1 32), .ref (a1 25), .ref (a1 26), .ref (a1 33), .ref (a1 34), .ref (a1 18), .ref (a1 10), .int 0])), ((a1 25), .inr (4, [.ref (a1 44), .ref (a1 45), .ref (a1 46), .ref (a1 47), .ref (a1 48), .int (-9), .int 0, .int 0, .int 0, .int 0, .int 0, .int 0])), ((a1 26), .inr (4, [.ref (a1 49), .ref (a1 50), .ref (a1 51), .ref (a1 52), .ref (a1 53), .int (-9), .int 0, .int 0, .int 0, .int 0, .int 0, .int 0]))] := hD
  refine lv_aload_n hx hb dL_law_409 rfl (lv_at hl 1 rfl) ?_
  refine lv_aload_n hx hb dL_law_410 rfl (lv_at hl 3 rfl) ?_
  refine lv_iload_n hx hb dL_law_411 rfl (lv_at hl 0 rfl) ?_
  refine lv_iconst (v := 1) hx hb dL_law_412 (by decide) ?_
  refine lv_iadd hx hb dL_law_413 ?_
  refine lv_topi (nm_r (e' := 1) (by decide) ?_)
  refine va_sld hx hb hX hbl hbA hS (vp_in_c (by decide)) dL_law_414 ?_
  refine lv_aload_n hx hb dL_law_415 rfl (lv_at hl 3 rfl) ?_
  refine lv_iload_n hx hb dL_law_416 rfl (lv_at hl 0 rfl) ?_
  refine lv_iconst (v := 2) hx hb dL_law_417 (by decide) ?_
  refine lv_iadd hx hb dL_law_418 ?_
  refine lv_topi (nm_r (e' := 2) (by decide) ?_)
  refine va_sld hx hb hX hbl hbA hS (vp_in_c (by decide)) dL_law_419 ?_
  refine vz_Vi (wr := [(h1, .inr (9, [.ref (a1 0), .ref (a1 2), .ref (a1 5), .ref (a1 27), .ref (a1 28), .ref (a1 29), .ref (a1 30), .ref (a1 24), .ref (a1 31), .ref (a1 32), .ref (a1 25), .ref (a1 26), .ref (a1 33), .ref (a1 34), .ref (a1 18), .ref (a1 10), .int 0])), ((a1 25), .inr (4, [.ref (a1 44), .ref (a1 45), .ref (a1 46), .ref (a1 47), .ref (a1 48), .int (-9), .int 0, .int 0, .int 0, .int 0, .int 0, .int 0])), ((a1 26), .inr (4, [.ref (a1 49), .ref (a1 50), .ref (a1 51), .ref (a1 52), .ref (a1 53), .int (-9), .int 0, .int 0, .int 0, .int 0, .int 0, .int 0]))]) (As := [.int (xs 1), .int (xs 2)]) (rest := [.int (-1)]) hx hb hml hown hts hK hA hP hD hS (c_m_ran0 l D g h2 H.size a2 (xs 1) (xs 2)) kv_L_53 (⟨Nat.le_of_ble_eq_true rfl, Nat.le_of_ble_eq_true rfl⟩) (q0 := 0) (ci := 10) rfl rfl rfl [0, 1] [2, 3, 4] rfl rfl (by decide) hl.1 (Nat.le_of_ble_eq_true rfl) dL_law_420 (⟨Nat.le_of_ble_eq_true rfl, Nat.le_of_ble_eq_true rfl⟩) rfl (fun r3 _ H locs e4 _ hP hD hS => ?_)
  subst e4
  have hP : va_P D vwCl [(h1, .inr (9, [.ref (a1 0), .ref (a1 2), .ref (a1 5), .ref (a1 27), .ref (a1 28), .ref (a1 29), .ref (a1 30), .ref (a1 24), .ref (a1 31), .ref (a1 32), .ref (a1 25), .ref (a1 26), .ref (a1 33), .ref (a1 34), .ref (a1 18), .ref (a1 10), .int 0])), ((a1 25), .inr (4, [.ref (a1 44), .ref (a1 45), .ref (a1 46), .ref (a1 47), .ref (a1 48), .int (-9), .int 0, .int 0, .int 0, .int 0, .int 0, .int 0])), ((a1 26), .inr (4, [.ref (a1 49), .ref (a1 50), .ref (a1 51), .ref (a1 52), .ref (a1 53), .int (-9), .int 0, .int 0, .int 0, .int 0, .int 0, .int 0])), (h2, .inr (10, mF a2 (fun _ => 0))), ((a2 28), .inl (g 3, 2, .inl (fun _ => 0)))] H := hP
  have hD : va_D A [(h1, .inr (9, [.ref (a1 0), .ref (a1 2), .ref (a1 5), .ref (a1 27), .ref (a1 28), .ref (a1 29), .ref (a1 30), .ref (a1 24), .ref (a1 31), .ref (a1 32), .ref (a1 25), .ref (a1 26), .ref (a1 33), .ref (a1 34), .ref (a1 18), .ref (a1 10), .int 0])), ((a1 25), .inr (4, [.ref (a1 44), .ref (a1 45), .ref (a1 46), .ref (a1 47), .ref (a1 48), .int (-9), .int 0, .int 0, .int 0, .int 0, .int 0, .int 0])), ((a1 26), .inr (4, [.ref (a1 49), .ref (a1 50), .ref (a1 51), .ref (a1 52), .ref (a1 53), .int (-9), .int 0, .int 0, .int 0, .int 0, .int 0, .int 0])), (h2, .inr (10, mF a2 (fun _ => 0))), ((a2 28), .inl (g 3, 2, .inl (fun _ => 0)))] := hD
  refine lv_icmp_eq (tgt := 732) hx hb dL_law_423 (by decide) (fun _ => ?_) (fun h9 => absurd (by decide) h9)
  refine lv_iinc (v := 6) (lv' := [(3, .int 6), (2, .ref h2), (1, .ref h1), (0, .ref b)]) hx hb dL_law_732 hl (k := 0) rfl (by decide) (by decide) rfl (fun ls hl => ?_)
  refine lv_goto (tgt := 18) hx hb dL_law_735 (by decide) ?_
  refine lv_iload_n hx hb dL_law_18 rfl (lv_at hl 0 rfl) ?_
  refine lv_aload_n hx hb dL_law_19 rfl (lv_at hl 3 rfl) ?_
  refine va_slen hx hb hX hbl hbA hS dL_law_20 ?_
  refine lv_topi (nm_r (e' := 6) (by decide) ?_)
  refine lv_bipush (v := 6) hx hb dL_law_21 (by decide) ?_
  refine lv_isub hx hb dL_law_23 ?_
  refine lv_topi (nm_r (e' := 0) (by decide) ?_)
  refine lv_icmp_gt (tgt := 738) hx hb dL_law_24 (by decide) (fun _ => ?_) (fun h9 => absurd (by decide) h9)
  refine lv_iconst (v := 1) hx hb dL_law_738 (by decide) ?_
  refine va_forget (fun q hq => hAe _ (hS.2.2 q hq)) ?_
  refine W.widen (k := 600000) (n := 7302250) (Nat.le_of_ble_eq_true rfl) (Nat.le_of_ble_eq_true rfl) ?_
  exact lw_ret hx hb hr hlocks dL_law_739
theorem q1535 : Cond.methodLink RL 54 yX9_mark ∈ wsL_law := mT_6 (List.mem_of_getElem? (i := 28) rfl) rfl
theorem q1536 : Cond.instanceMethod yX9_mark ∈ wsL_law := mT_6 (List.mem_of_getElem? (i := 29) rfl) rfl
theorem q1537 : Cond.selects RX9 yX9_mark yX9_mark ∈ wsL_law := mT_6 (List.mem_of_getElem? (i := 30) rfl) rfl
theorem q1538 : Cond.code yX9_mark cX9_mark 3 (some .int) ∈ wsL_law := mT_6 (List.mem_of_getElem? (i := 31) rfl) rfl
theorem kv_L_54 : vz_cv RL 54 yX9_mark cX9_mark 3 (some .int) 2 := ⟨q1535, q1536, q1537, q2, q1538, by decide +kernel⟩
theorem q1541 : Cond.methodLink RL 57 yX10_mark ∈ wsL_law := mT_9 (List.mem_of_getElem? (i := 63) rfl) rfl
theorem q1542 : Cond.instanceMethod yX10_mark ∈ wsL_law := mT_9 (List.mem_of_getElem? (i := 64) rfl) rfl
theorem q1543 : Cond.selects RX10 yX10_mark yX10_mark ∈ wsL_law := mT_9 (List.mem_of_getElem? (i := 65) rfl) rfl
theorem q1544 : Cond.code yX10_mark cX10_mark 3 (some .int) ∈ wsL_law := mT_9 (List.mem_of_getElem? (i := 66) rfl) rfl
theorem kv_L_57 : vz_cv RL 57 yX10_mark cX10_mark 3 (some .int) 2 := ⟨q1541, q1542, q1543, q5, q1544, by decide +kernel⟩
theorem dL_law_428 : decode cL_law 428 = .ok (.aload_n 1, 1) := by decide +kernel
theorem dL_law_429 : decode cL_law 429 = .ok (.aload_n 0, 1) := by decide +kernel
theorem dL_law_430 : decode cL_law 430 = .ok (.iload_n 3, 1) := by decide +kernel
theorem dL_law_431 : decode cL_law 431 = .ok (.iconst 1, 1) := by decide +kernel
theorem dL_law_432 : decode cL_law 432 = .ok (.iadd, 1) := by decide +kernel
theorem dL_law_433 : decode cL_law 433 = .ok (.iaload, 1) := by decide +kernel
theorem dL_law_434 : decode cL_law 434 = .ok (.aload_n 0, 1) := by decide +kernel
theorem dL_law_435 : decode cL_law 435 = .ok (.iload_n 3, 1) := by decide +kernel
theorem dL_law_436 : decode cL_law 436 = .ok (.iconst 2, 1) := by decide +kernel
theorem dL_law_437 : decode cL_law 437 = .ok (.iadd, 1) := by decide +kernel
theorem dL_law_438 : decode cL_law 438 = .ok (.iaload, 1) := by decide +kernel
theorem dL_law_439 : decode cL_law 439 = .ok (.invokevirtual 54, 3) := by decide +kernel
theorem dL_law_442 : decode cL_law 442 = .ok (.aload_n 2, 1) := by decide +kernel
theorem dL_law_443 : decode cL_law 443 = .ok (.aload_n 0, 1) := by decide +kernel
theorem dL_law_444 : decode cL_law 444 = .ok (.iload_n 3, 1) := by decide +kernel
theorem dL_law_445 : decode cL_law 445 = .ok (.iconst 1, 1) := by decide +kernel
theorem dL_law_446 : decode cL_law 446 = .ok (.iadd, 1) := by decide +kernel
theorem dL_law_447 : decode cL_law 447 = .ok (.iaload, 1) := by decide +kernel
theorem dL_law_448 : decode cL_law 448 = .ok (.aload_n 0, 1) := by decide +kernel
theorem dL_law_449 : decode cL_law 449 = .ok (.iload_n 3, 1) := by decide +kernel
theorem dL_law_450 : decode cL_law 450 = .ok (.iconst 2, 1) := by decide +kernel
theorem dL_law_451 : decode cL_law 451 = .ok (.iadd, 1) := by decide +kernel
theorem dL_law_452 : decode cL_law 452 = .ok (.iaload, 1) := by decide +kernel
theorem dL_law_453 : decode cL_law 453 = .ok (.invokevirtual 57, 3) := by decide +kernel
theorem dL_law_456 : decode cL_law 456 = .ok (.if_icmp .eq 276, 3) := by decide +kernel
set_option maxHeartbeats 4000000 in
set_option maxRecDepth 100000 in
theorem law_op8 {p : Program} {e : Env} {s : State} {m : MethodId} {below : List Frame} {meth : Method} {c : Code} {l : Launch} {b : Nat} {xs : Nat → Int32} (C0 : lw_At p s m meth c b 6 xs) {D : va_G} {g : Nat → ClassId} {A : Nat → Prop} (hAe : ∀ q, A q → s.heap.size ≤ q) (hA : ∀ q : Nat, s.heap.size ≤ q → A q) (hK : va_K D vwCl (tyG g) s) {h1 h2 : Nat} {a1 a2 : Nat → Nat} {H : Heap} {locs : List Loc} {ls : Array Slot} (hP : va_P D vwCl [(h1, .inr (9, [.ref (a1 0), .ref (a1 2), .ref (a1 5), .ref (a1 27), .ref (a1 28), .ref (a1 29), .ref (a1 30), .ref (a1 24), .ref (a1 31), .ref (a1 32), .ref (a1 25), .ref (a1 26), .ref (a1 33), .ref (a1 34), .ref (a1 18), .ref (a1 10), .int 0])), tT (a1 0) (a1 1) (nI 1) (nI 1000) 0, tA g (a1 1) 1000 (fun _ => 0), ((a1 2), .inr (5, [.ref (a1 3), .int 0])), tT (a1 3) (a1 4) (nI 3) (nI 1001) 0, tA g (a1 4) 3003 (fun _ => 0), ((a1 5), .inr (3, [.ref (a1 3), .ref (a1 6), .ref (a1 7), .ref (a1 8), .ref (a1 10), .int 0, .int 0, .int 0, .int 0, .int (-9), .int 0, .int 0])), tT (a1 6) (a1 35) (nI 1) (nI 6) 0, tT (a1 7) (a1 36) (nI 1) (nI 6) 0, tT (a1 8) (a1 9) (nI 1) (nI 80) 0, tA g (a1 9) 80 (fun _ => 0), ((a1 10), .inr (2, [.ref (a1 11), .ref (a1 12), .ref (a1 13), .ref (a1 14), .ref (a1 16)])), tT (a1 11) (a1 37) (nI 12) (nI 80) 0, tT (a1 12) (a1 38) (nI 5) (nI 1000) 0, tT (a1 13) (a1 39) (nI 5) (nI 112) 0, tT (a1 14) (a1 15) (nI 1) (nI 16) 0, tA g (a1 15) 16 (fun _ => 0), tT (a1 16) (a1 17) (nI 2) (nI 8) 0, tA g (a1 17) 16 (fun _ => 0), ((a1 18), .inr (2, [.ref (a1 19), .ref (a1 22), .ref (a1 20), .ref (a1 23), .ref (a1 21)])), tT (a1 19) (a1 40) (nI 12) (nI 80) 0, tT (a1 20) (a1 41) (nI 5) (nI 112) 0, tT (a1 21) (a1 42) (nI 2) (nI 8) 0, tT (a1 24) (a1 43) (nI 4) (nI 30) 0, ((a1 25), .inr (4, [.ref (a1 44), .ref (a1 45), .ref (a1 46), .ref (a1 47), .ref (a1 48), .int (-9), .int 0, .int 0, .int 0, .int 0, .int 0, .int 0])), ((a1 26), .inr (4, [.ref (a1 49), .ref (a1 50), .ref (a1 51), .ref (a1 52), .ref (a1 53), .int (-9), .int 0, .int 0, .int 0, .int 0, .int 0, .int 0])), (h2, .inr (10, mF a2 (fun _ => 0))), ((a2 1), .inl (g 1, 1000, .inl (fun _ => 0))), tA g (a2 3) 2 (fun _ => 0), tA g (a2 10) 2 (fun _ => 0), tA g (a2 12) 2 (fun _ => 0), tA g (a2 14) 2 (fun _ => 0), tA g (a2 13) 32 (fun _ => 0), ((a2 28), .inl (g 3, 2, .inl (fun _ => 0)))] H) (hD : va_D A [(h1, .inr (9, [.ref (a1 0), .ref (a1 2), .ref (a1 5), .ref (a1 27), .ref (a1 28), .ref (a1 29), .ref (a1 30), .ref (a1 24), .ref (a1 31), .ref (a1 32), .ref (a1 25), .ref (a1 26), .ref (a1 33), .ref (a1 34), .ref (a1 18), .ref (a1 10), .int 0])), tT (a1 0) (a1 1) (nI 1) (nI 1000) 0, tA g (a1 1) 1000 (fun _ => 0), ((a1 2), .inr (5, [.ref (a1 3), .int 0])), tT (a1 3) (a1 4) (nI 3) (nI 1001) 0, tA g (a1 4) 3003 (fun _ => 0), ((a1 5), .inr (3, [.ref (a1 3), .ref (a1 6), .ref (a1 7), .ref (a1 8), .ref (a1 10), .int 0, .int 0, .int 0, .int 0, .int (-9), .int 0, .int 0])), tT (a1 6) (a1 35) (nI 1) (nI 6) 0, tT (a1 7) (a1 36) (nI 1) (nI 6) 0, tT (a1 8) (a1 9) (nI 1) (nI 80) 0, tA g (a1 9) 80 (fun _ => 0), ((a1 10), .inr (2, [.ref (a1 11), .ref (a1 12), .ref (a1 13), .ref (a1 14), .ref (a1 16)])), tT (a1 11) (a1 37) (nI 12) (nI 80) 0, tT (a1 12) (a1 38) (nI 5) (nI 1000) 0, tT (a1 13) (a1 39) (nI 5) (nI 112) 0, tT (a1 14) (a1 15) (nI 1) (nI 16) 0, tA g (a1 15) 16 (fun _ => 0), tT (a1 16) (a1 17) (nI 2) (nI 8) 0, tA g (a1 17) 16 (fun _ => 0), ((a1 18), .inr (2, [.ref (a1 19), .ref (a1 22), .ref (a1 20), .ref (a1 23), .ref (a1 21)])), tT (a1 19) (a1 40) (nI 12) (nI 80) 0, tT (a1 20) (a1 41) (nI 5) (nI 112) 0, tT (a1 21) (a1 42) (nI 2) (nI 8) 0, tT (a1 24) (a1 43) (nI 4) (nI 30) 0, ((a1 25), .inr (4, [.ref (a1 44), .ref (a1 45), .ref (a1 46), .ref (a1 47), .ref (a1 48), .int (-9), .int 0, .int 0, .int 0, .int 0, .int 0, .int 0])), ((a1 26), .inr (4, [.ref (a1 49), .ref (a1 50), .ref (a1 51), .ref (a1 52), .ref (a1 53), .int (-9), .int 0, .int 0, .int 0, .int 0, .int 0, .int 0])), (h2, .inr (10, mF a2 (fun _ => 0))), ((a2 1), .inl (g 1, 1000, .inl (fun _ => 0))), tA g (a2 3) 2 (fun _ => 0), tA g (a2 10) 2 (fun _ => 0), tA g (a2 12) 2 (fun _ => 0), tA g (a2 14) 2 (fun _ => 0), tA g (a2 13) 32 (fun _ => 0), ((a2 28), .inl (g 3, 2, .inl (fun _ => 0)))]) (hS : va_S A s.heap H locs) (hl : lv_has ls 4 [(3, .int 0), (2, .ref h2), (1, .ref h1), (0, .ref b)]) : W p l e room_1 s m #[Value.ref b] below meth c H locs 168 110802 (lw_Z below #[Value.ref b] s) (F0 m 428 ls []) := by
  obtain ⟨hx, hb, hr, hml, hown, hts0, hX, hbl, hlocks, -⟩ := id C0
  have hts : ∀ w ∈ wsL_law, w.before #[Value.ref b] s = true := fun w h => hts0 w (wsL_law_in w h)
  have hbA : ¬ A b := fun z => absurd (hAe _ z) (Nat.not_le.mpr hbl)
  have hP : va_P D vwCl [(h1, .inr (9, [.ref (a1 0), .ref (a1 2), .ref (a1 5), .ref (a1 27), .ref (a1 28), .ref (a1 29), .ref (a1 30), .ref (a1 24), .ref (a1 31), .ref (a1 32), .ref (a1 25), .ref (a1 26), .ref (a1 33), .ref (a1 34), .ref (a1 18), .ref (a1 10), .int 0])), ((a1 25), .inr (4, [.ref (a1 44), .ref (a1 45), .ref (a1 46), .ref (a1 47), .ref (a1 48), .int (-9), .int 0, .int 0, .int 0, .int 0, .int 0, .int 0])), ((a1 26), .inr (4, [.ref (a1 49), .ref (a1 50), .ref (a1 51), .ref (a1 52), .ref (a1 53), .int (-9), .int 0, .int 0, .int 0, .int 0, .int 0, .int 0])), (h2, .inr (10, mF a2 (fun _ => 0))), ((a2 28), .inl (g 3, 2, .inl (fun _ => 0)))] H := vz_pickP hP [0, 24, 25, 26, 33] rfl
  have hD : va_D A [(h1, .inr (9, [.ref (a1 0), .ref (a1 2), .ref (a1 5), .ref (a1 27), .ref (a1 28), .ref (a1 29), .ref (a1 30), .ref (a1 24), .ref (a1 31), .ref (a1 32), .ref (a1 25), .ref (a1 26), .ref (a1 33), .ref (a1 34), .ref (a1 18), .ref (a1 10), .int 0])), ((a1 25), .inr (4, [.ref (a1 44), .ref (a1 45), .ref (a1 46), .ref (a1 47), .ref (a1 48), .int (-9), .int 0, .int 0, .int 0, .int 0, .int 0, .int 0])), ((a1 26), .inr (4, [.ref (a1 49), .ref (a1 50), .ref (a1 51), .ref (a1 52), .ref (a1 53), .int (-9), .int 0, .int 0, .int 0, .int 0, .int 0, .int 0])), (h2, .inr (10, mF a2 (fun _ => 0))), ((a2 28), .inl (g 3, 2, .inl (fun _ => 0)))] := hD.sub [0, 24, 25, 26, 33] (by decide) rfl
  refine lv_aload_n hx hb dL_law_428 rfl (lv_at hl 2 rfl) ?_
  refine lv_aload_n hx hb dL_law_429 rfl (lv_at hl 3 rfl) ?_
  refine lv_iload_n hx hb dL_law_430 rfl (lv_at hl 0 rfl) ?_
  refine lv_iconst (v := 1) hx hb dL_law_431 (by decide) ?_
  refine lv_iadd hx hb dL_law_432 ?_
  refine lv_topi (nm_r (e' := 1) (by decide) ?_)
  refine va_sld hx hb hX hbl hbA hS (vp_in_c (by decide)) dL_law_433 ?_
  refine lv_aload_n hx hb dL_law_434 rfl (lv_at hl 3 rfl) ?_
  refine lv_iload_n hx hb dL_law_435 rfl (lv_at hl 0 rfl) ?_
  refine lv_iconst (v := 2) hx hb dL_law_436 (by decide) ?_
  refine lv_iadd hx hb dL_law_437 ?_
  refine lv_topi (nm_r (e' := 2) (by decide) ?_)
  refine va_sld hx hb hX hbl hbA hS (vp_in_c (by decide)) dL_law_438 ?_
  refine vz_Vi (wr := [(h2, .inr (10, mF a2 (fun _ => 0))), ((a2 28), .inl (g 3, 2, .inl (fun _ => 0)))]) (As := [.int (xs 1), .int (xs 2)]) (rest := []) hx hb hml hown hts hK hA hP hD hS (c_A_mark0 l D g h1 H.size a1 (xs 1) (xs 2)) kv_L_54 (⟨Nat.le_of_ble_eq_true rfl, Nat.le_of_ble_eq_true rfl⟩) (q0 := 0) (ci := 9) rfl rfl rfl [0, 1, 2] [3, 4] rfl rfl (by decide) hl.1 (Nat.le_of_ble_eq_true rfl) dL_law_439 (⟨Nat.le_of_ble_eq_true rfl, Nat.le_of_ble_eq_true rfl⟩) rfl (fun r1 _ H locs e2 _ hP hD hS => ?_)
  subst e2
  have hP : va_P D vwCl [(h2, .inr (10, mF a2 (fun _ => 0))), ((a2 28), .inl (g 3, 2, .inl (fun _ => 0))), (h1, .inr (9, [.ref (a1 0), .ref (a1 2), .ref (a1 5), .ref (a1 27), .ref (a1 28), .ref (a1 29), .ref (a1 30), .ref (a1 24), .ref (a1 31), .ref (a1 32), .ref (a1 25), .ref (a1 26), .ref (a1 33), .ref (a1 34), .ref (a1 18), .ref (a1 10), .int 0])), ((a1 25), .inr (4, [.ref (a1 44), .ref (a1 45), .ref (a1 46), .ref (a1 47), .ref (a1 48), .int (-9), .int 0, .int 0, .int 0, .int 0, .int 0, .int 0])), ((a1 26), .inr (4, [.ref (a1 49), .ref (a1 50), .ref (a1 51), .ref (a1 52), .ref (a1 53), .int (-9), .int 0, .int 0, .int 0, .int 0, .int 0, .int 0]))] H := hP
  have hD : va_D A [(h2, .inr (10, mF a2 (fun _ => 0))), ((a2 28), .inl (g 3, 2, .inl (fun _ => 0))), (h1, .inr (9, [.ref (a1 0), .ref (a1 2), .ref (a1 5), .ref (a1 27), .ref (a1 28), .ref (a1 29), .ref (a1 30), .ref (a1 24), .ref (a1 31), .ref (a1 32), .ref (a1 25), .ref (a1 26), .ref (a1 33), .ref (a1 34), .ref (a1 18), .ref (a1 10), .int 0])), ((a1 25), .inr (4, [.ref (a1 44), .ref (a1 45), .ref (a1 46), .ref (a1 47), .ref (a1 48), .int (-9), .int 0, .int 0, .int 0, .int 0, .int 0, .int 0])), ((a1 26), .inr (4, [.ref (a1 49), .ref (a1 50), .ref (a1 51), .ref (a1 52), .ref (a1 53), .int (-9), .int 0, .int 0, .int 0, .int 0, .int 0, .int 0]))] := hD
  refine lv_aload_n hx hb dL_law_442 rfl (lv_at hl 1 rfl) ?_
  refine lv_aload_n hx hb dL_law_443 rfl (lv_at hl 3 rfl) ?_
  refine lv_iload_n hx hb dL_law_444 rfl (lv_at hl 0 rfl) ?_
  refine lv_iconst (v := 1) hx hb dL_law_445 (by decide) ?_
  refine lv_iadd hx hb dL_law_446 ?_
  refine lv_topi (nm_r (e' := 1) (by decide) ?_)
  refine va_sld hx hb hX hbl hbA hS (vp_in_c (by decide)) dL_law_447 ?_
  refine lv_aload_n hx hb dL_law_448 rfl (lv_at hl 3 rfl) ?_
  refine lv_iload_n hx hb dL_law_449 rfl (lv_at hl 0 rfl) ?_
  refine lv_iconst (v := 2) hx hb dL_law_450 (by decide) ?_
  refine lv_iadd hx hb dL_law_451 ?_
  refine lv_topi (nm_r (e' := 2) (by decide) ?_)
  refine va_sld hx hb hX hbl hbA hS (vp_in_c (by decide)) dL_law_452 ?_
  refine vz_Vi (wr := [(h1, .inr (9, [.ref (a1 0), .ref (a1 2), .ref (a1 5), .ref (a1 27), .ref (a1 28), .ref (a1 29), .ref (a1 30), .ref (a1 24), .ref (a1 31), .ref (a1 32), .ref (a1 25), .ref (a1 26), .ref (a1 33), .ref (a1 34), .ref (a1 18), .ref (a1 10), .int 0])), ((a1 25), .inr (4, [.ref (a1 44), .ref (a1 45), .ref (a1 46), .ref (a1 47), .ref (a1 48), .int (-9), .int 0, .int 0, .int 0, .int 0, .int 0, .int 0])), ((a1 26), .inr (4, [.ref (a1 49), .ref (a1 50), .ref (a1 51), .ref (a1 52), .ref (a1 53), .int (-9), .int 0, .int 0, .int 0, .int 0, .int 0, .int 0]))]) (As := [.int (xs 1), .int (xs 2)]) (rest := [.int (-1)]) hx hb hml hown hts hK hA hP hD hS (c_m_mark0 l D g h2 H.size a2 (xs 1) (xs 2)) kv_L_57 (⟨Nat.le_of_ble_eq_true rfl, Nat.le_of_ble_eq_true rfl⟩) (q0 := 0) (ci := 10) rfl rfl rfl [0, 1] [2, 3, 4] rfl rfl (by decide) hl.1 (Nat.le_of_ble_eq_true rfl) dL_law_453 (⟨Nat.le_of_ble_eq_true rfl, Nat.le_of_ble_eq_true rfl⟩) rfl (fun r3 _ H locs e4 _ hP hD hS => ?_)
  subst e4
  have hP : va_P D vwCl [(h1, .inr (9, [.ref (a1 0), .ref (a1 2), .ref (a1 5), .ref (a1 27), .ref (a1 28), .ref (a1 29), .ref (a1 30), .ref (a1 24), .ref (a1 31), .ref (a1 32), .ref (a1 25), .ref (a1 26), .ref (a1 33), .ref (a1 34), .ref (a1 18), .ref (a1 10), .int 0])), ((a1 25), .inr (4, [.ref (a1 44), .ref (a1 45), .ref (a1 46), .ref (a1 47), .ref (a1 48), .int (-9), .int 0, .int 0, .int 0, .int 0, .int 0, .int 0])), ((a1 26), .inr (4, [.ref (a1 49), .ref (a1 50), .ref (a1 51), .ref (a1 52), .ref (a1 53), .int (-9), .int 0, .int 0, .int 0, .int 0, .int 0, .int 0])), (h2, .inr (10, mF a2 (fun _ => 0))), ((a2 28), .inl (g 3, 2, .inl (fun _ => 0)))] H := hP
  have hD : va_D A [(h1, .inr (9, [.ref (a1 0), .ref (a1 2), .ref (a1 5), .ref (a1 27), .ref (a1 28), .ref (a1 29), .ref (a1 30), .ref (a1 24), .ref (a1 31), .ref (a1 32), .ref (a1 25), .ref (a1 26), .ref (a1 33), .ref (a1 34), .ref (a1 18), .ref (a1 10), .int 0])), ((a1 25), .inr (4, [.ref (a1 44), .ref (a1 45), .ref (a1 46), .ref (a1 47), .ref (a1 48), .int (-9), .int 0, .int 0, .int 0, .int 0, .int 0, .int 0])), ((a1 26), .inr (4, [.ref (a1 49), .ref (a1 50), .ref (a1 51), .ref (a1 52), .ref (a1 53), .int (-9), .int 0, .int 0, .int 0, .int 0, .int 0, .int 0])), (h2, .inr (10, mF a2 (fun _ => 0))), ((a2 28), .inl (g 3, 2, .inl (fun _ => 0)))] := hD
  refine lv_icmp_eq (tgt := 732) hx hb dL_law_456 (by decide) (fun _ => ?_) (fun h9 => absurd (by decide) h9)
  refine lv_iinc (v := 6) (lv' := [(3, .int 6), (2, .ref h2), (1, .ref h1), (0, .ref b)]) hx hb dL_law_732 hl (k := 0) rfl (by decide) (by decide) rfl (fun ls hl => ?_)
  refine lv_goto (tgt := 18) hx hb dL_law_735 (by decide) ?_
  refine lv_iload_n hx hb dL_law_18 rfl (lv_at hl 0 rfl) ?_
  refine lv_aload_n hx hb dL_law_19 rfl (lv_at hl 3 rfl) ?_
  refine va_slen hx hb hX hbl hbA hS dL_law_20 ?_
  refine lv_topi (nm_r (e' := 6) (by decide) ?_)
  refine lv_bipush (v := 6) hx hb dL_law_21 (by decide) ?_
  refine lv_isub hx hb dL_law_23 ?_
  refine lv_topi (nm_r (e' := 0) (by decide) ?_)
  refine lv_icmp_gt (tgt := 738) hx hb dL_law_24 (by decide) (fun _ => ?_) (fun h9 => absurd (by decide) h9)
  refine lv_iconst (v := 1) hx hb dL_law_738 (by decide) ?_
  refine va_forget (fun q hq => hAe _ (hS.2.2 q hq)) ?_
  refine W.widen (k := 600000) (n := 7302250) (Nat.le_of_ble_eq_true rfl) (Nat.le_of_ble_eq_true rfl) ?_
  exact lw_ret hx hb hr hlocks dL_law_739
theorem q1545 : Cond.methodLink RL 58 yX9_failure ∈ wsL_law := mT_6 (List.mem_of_getElem? (i := 33) rfl) rfl
theorem q1546 : Cond.instanceMethod yX9_failure ∈ wsL_law := mT_6 (List.mem_of_getElem? (i := 34) rfl) rfl
theorem q1547 : Cond.selects RX9 yX9_failure yX9_failure ∈ wsL_law := mT_6 (List.mem_of_getElem? (i := 35) rfl) rfl
theorem q1548 : Cond.code yX9_failure cX9_failure 4 (some .int) ∈ wsL_law := mT_6 (List.mem_of_getElem? (i := 36) rfl) rfl
theorem kv_L_58 : vz_cv RL 58 yX9_failure cX9_failure 4 (some .int) 3 := ⟨q1545, q1546, q1547, q2, q1548, by decide +kernel⟩
theorem q1550 : Cond.methodLink RL 62 yX10_failure ∈ wsL_law := mT_9 (List.mem_of_getElem? (i := 67) rfl) rfl
theorem q1551 : Cond.instanceMethod yX10_failure ∈ wsL_law := mT_9 (List.mem_of_getElem? (i := 68) rfl) rfl
theorem q1552 : Cond.selects RX10 yX10_failure yX10_failure ∈ wsL_law := mT_9 (List.mem_of_getElem? (i := 69) rfl) rfl
theorem q1553 : Cond.code yX10_failure cX10_failure 5 (some .int) ∈ wsL_law := mT_9 (List.mem_of_getElem? (i := 70) rfl) rfl
theorem kv_L_62 : vz_cv RL 62 yX10_failure cX10_failure 5 (some .int) 3 := ⟨q1550, q1551, q1552, q5, q1553, by decide +kernel⟩
theorem dL_law_461 : decode cL_law 461 = .ok (.aload_n 1, 1) := by decide +kernel
theorem dL_law_462 : decode cL_law 462 = .ok (.aload_n 0, 1) := by decide +kernel
theorem dL_law_463 : decode cL_law 463 = .ok (.iload_n 3, 1) := by decide +kernel
theorem dL_law_464 : decode cL_law 464 = .ok (.iconst 1, 1) := by decide +kernel
theorem dL_law_465 : decode cL_law 465 = .ok (.iadd, 1) := by decide +kernel
theorem dL_law_466 : decode cL_law 466 = .ok (.iaload, 1) := by decide +kernel
theorem dL_law_467 : decode cL_law 467 = .ok (.aload_n 0, 1) := by decide +kernel
theorem dL_law_468 : decode cL_law 468 = .ok (.iload_n 3, 1) := by decide +kernel
theorem dL_law_469 : decode cL_law 469 = .ok (.iconst 2, 1) := by decide +kernel
theorem dL_law_470 : decode cL_law 470 = .ok (.iadd, 1) := by decide +kernel
theorem dL_law_471 : decode cL_law 471 = .ok (.iaload, 1) := by decide +kernel
theorem dL_law_472 : decode cL_law 472 = .ok (.aload_n 0, 1) := by decide +kernel
theorem dL_law_473 : decode cL_law 473 = .ok (.iload_n 3, 1) := by decide +kernel
theorem dL_law_474 : decode cL_law 474 = .ok (.iconst 3, 1) := by decide +kernel
theorem dL_law_475 : decode cL_law 475 = .ok (.iadd, 1) := by decide +kernel
theorem dL_law_476 : decode cL_law 476 = .ok (.iaload, 1) := by decide +kernel
theorem dL_law_477 : decode cL_law 477 = .ok (.invokevirtual 58, 3) := by decide +kernel
theorem dL_law_480 : decode cL_law 480 = .ok (.aload_n 2, 1) := by decide +kernel
theorem dL_law_481 : decode cL_law 481 = .ok (.aload_n 0, 1) := by decide +kernel
theorem dL_law_482 : decode cL_law 482 = .ok (.iload_n 3, 1) := by decide +kernel
theorem dL_law_483 : decode cL_law 483 = .ok (.iconst 1, 1) := by decide +kernel
theorem dL_law_484 : decode cL_law 484 = .ok (.iadd, 1) := by decide +kernel
theorem dL_law_485 : decode cL_law 485 = .ok (.iaload, 1) := by decide +kernel
theorem dL_law_486 : decode cL_law 486 = .ok (.aload_n 0, 1) := by decide +kernel
theorem dL_law_487 : decode cL_law 487 = .ok (.iload_n 3, 1) := by decide +kernel
theorem dL_law_488 : decode cL_law 488 = .ok (.iconst 2, 1) := by decide +kernel
theorem dL_law_489 : decode cL_law 489 = .ok (.iadd, 1) := by decide +kernel
theorem dL_law_490 : decode cL_law 490 = .ok (.iaload, 1) := by decide +kernel
theorem dL_law_491 : decode cL_law 491 = .ok (.aload_n 0, 1) := by decide +kernel
theorem dL_law_492 : decode cL_law 492 = .ok (.iload_n 3, 1) := by decide +kernel
theorem dL_law_493 : decode cL_law 493 = .ok (.iconst 3, 1) := by decide +kernel
theorem dL_law_494 : decode cL_law 494 = .ok (.iadd, 1) := by decide +kernel
theorem dL_law_495 : decode cL_law 495 = .ok (.iaload, 1) := by decide +kernel
theorem dL_law_496 : decode cL_law 496 = .ok (.invokevirtual 62, 3) := by decide +kernel
theorem dL_law_499 : decode cL_law 499 = .ok (.if_icmp .eq 233, 3) := by decide +kernel
set_option maxHeartbeats 4000000 in
set_option maxRecDepth 100000 in
theorem law_op9 {p : Program} {e : Env} {s : State} {m : MethodId} {below : List Frame} {meth : Method} {c : Code} {l : Launch} {b : Nat} {xs : Nat → Int32} (C0 : lw_At p s m meth c b 6 xs) {D : va_G} {g : Nat → ClassId} {A : Nat → Prop} (hAe : ∀ q, A q → s.heap.size ≤ q) (hA : ∀ q : Nat, s.heap.size ≤ q → A q) (hK : va_K D vwCl (tyG g) s) {h1 h2 : Nat} {a1 a2 : Nat → Nat} {H : Heap} {locs : List Loc} {ls : Array Slot} (hP : va_P D vwCl [(h1, .inr (9, [.ref (a1 0), .ref (a1 2), .ref (a1 5), .ref (a1 27), .ref (a1 28), .ref (a1 29), .ref (a1 30), .ref (a1 24), .ref (a1 31), .ref (a1 32), .ref (a1 25), .ref (a1 26), .ref (a1 33), .ref (a1 34), .ref (a1 18), .ref (a1 10), .int 0])), tT (a1 0) (a1 1) (nI 1) (nI 1000) 0, tA g (a1 1) 1000 (fun _ => 0), ((a1 2), .inr (5, [.ref (a1 3), .int 0])), tT (a1 3) (a1 4) (nI 3) (nI 1001) 0, tA g (a1 4) 3003 (fun _ => 0), ((a1 5), .inr (3, [.ref (a1 3), .ref (a1 6), .ref (a1 7), .ref (a1 8), .ref (a1 10), .int 0, .int 0, .int 0, .int 0, .int (-9), .int 0, .int 0])), tT (a1 6) (a1 35) (nI 1) (nI 6) 0, tT (a1 7) (a1 36) (nI 1) (nI 6) 0, tT (a1 8) (a1 9) (nI 1) (nI 80) 0, tA g (a1 9) 80 (fun _ => 0), ((a1 10), .inr (2, [.ref (a1 11), .ref (a1 12), .ref (a1 13), .ref (a1 14), .ref (a1 16)])), tT (a1 11) (a1 37) (nI 12) (nI 80) 0, tT (a1 12) (a1 38) (nI 5) (nI 1000) 0, tT (a1 13) (a1 39) (nI 5) (nI 112) 0, tT (a1 14) (a1 15) (nI 1) (nI 16) 0, tA g (a1 15) 16 (fun _ => 0), tT (a1 16) (a1 17) (nI 2) (nI 8) 0, tA g (a1 17) 16 (fun _ => 0), ((a1 18), .inr (2, [.ref (a1 19), .ref (a1 22), .ref (a1 20), .ref (a1 23), .ref (a1 21)])), tT (a1 19) (a1 40) (nI 12) (nI 80) 0, tT (a1 20) (a1 41) (nI 5) (nI 112) 0, tT (a1 21) (a1 42) (nI 2) (nI 8) 0, tT (a1 24) (a1 43) (nI 4) (nI 30) 0, ((a1 25), .inr (4, [.ref (a1 44), .ref (a1 45), .ref (a1 46), .ref (a1 47), .ref (a1 48), .int (-9), .int 0, .int 0, .int 0, .int 0, .int 0, .int 0])), ((a1 26), .inr (4, [.ref (a1 49), .ref (a1 50), .ref (a1 51), .ref (a1 52), .ref (a1 53), .int (-9), .int 0, .int 0, .int 0, .int 0, .int 0, .int 0])), (h2, .inr (10, mF a2 (fun _ => 0))), ((a2 1), .inl (g 1, 1000, .inl (fun _ => 0))), tA g (a2 3) 2 (fun _ => 0), tA g (a2 10) 2 (fun _ => 0), tA g (a2 12) 2 (fun _ => 0), tA g (a2 14) 2 (fun _ => 0), tA g (a2 13) 32 (fun _ => 0), ((a2 28), .inl (g 3, 2, .inl (fun _ => 0)))] H) (hD : va_D A [(h1, .inr (9, [.ref (a1 0), .ref (a1 2), .ref (a1 5), .ref (a1 27), .ref (a1 28), .ref (a1 29), .ref (a1 30), .ref (a1 24), .ref (a1 31), .ref (a1 32), .ref (a1 25), .ref (a1 26), .ref (a1 33), .ref (a1 34), .ref (a1 18), .ref (a1 10), .int 0])), tT (a1 0) (a1 1) (nI 1) (nI 1000) 0, tA g (a1 1) 1000 (fun _ => 0), ((a1 2), .inr (5, [.ref (a1 3), .int 0])), tT (a1 3) (a1 4) (nI 3) (nI 1001) 0, tA g (a1 4) 3003 (fun _ => 0), ((a1 5), .inr (3, [.ref (a1 3), .ref (a1 6), .ref (a1 7), .ref (a1 8), .ref (a1 10), .int 0, .int 0, .int 0, .int 0, .int (-9), .int 0, .int 0])), tT (a1 6) (a1 35) (nI 1) (nI 6) 0, tT (a1 7) (a1 36) (nI 1) (nI 6) 0, tT (a1 8) (a1 9) (nI 1) (nI 80) 0, tA g (a1 9) 80 (fun _ => 0), ((a1 10), .inr (2, [.ref (a1 11), .ref (a1 12), .ref (a1 13), .ref (a1 14), .ref (a1 16)])), tT (a1 11) (a1 37) (nI 12) (nI 80) 0, tT (a1 12) (a1 38) (nI 5) (nI 1000) 0, tT (a1 13) (a1 39) (nI 5) (nI 112) 0, tT (a1 14) (a1 15) (nI 1) (nI 16) 0, tA g (a1 15) 16 (fun _ => 0), tT (a1 16) (a1 17) (nI 2) (nI 8) 0, tA g (a1 17) 16 (fun _ => 0), ((a1 18), .inr (2, [.ref (a1 19), .ref (a1 22), .ref (a1 20), .ref (a1 23), .ref (a1 21)])), tT (a1 19) (a1 40) (nI 12) (nI 80) 0, tT (a1 20) (a1 41) (nI 5) (nI 112) 0, tT (a1 21) (a1 42) (nI 2) (nI 8) 0, tT (a1 24) (a1 43) (nI 4) (nI 30) 0, ((a1 25), .inr (4, [.ref (a1 44), .ref (a1 45), .ref (a1 46), .ref (a1 47), .ref (a1 48), .int (-9), .int 0, .int 0, .int 0, .int 0, .int 0, .int 0])), ((a1 26), .inr (4, [.ref (a1 49), .ref (a1 50), .ref (a1 51), .ref (a1 52), .ref (a1 53), .int (-9), .int 0, .int 0, .int 0, .int 0, .int 0, .int 0])), (h2, .inr (10, mF a2 (fun _ => 0))), ((a2 1), .inl (g 1, 1000, .inl (fun _ => 0))), tA g (a2 3) 2 (fun _ => 0), tA g (a2 10) 2 (fun _ => 0), tA g (a2 12) 2 (fun _ => 0), tA g (a2 14) 2 (fun _ => 0), tA g (a2 13) 32 (fun _ => 0), ((a2 28), .inl (g 3, 2, .inl (fun _ => 0)))]) (hS : va_S A s.heap H locs) (hl : lv_has ls 4 [(3, .int 0), (2, .ref h2), (1, .ref h1), (0, .ref b)]) : W p l e room_1 s m #[Value.ref b] below meth c H locs 168 110802 (lw_Z below #[Value.ref b] s) (F0 m 461 ls []) := by
  obtain ⟨hx, hb, hr, hml, hown, hts0, hX, hbl, hlocks, -⟩ := id C0
  have hts : ∀ w ∈ wsL_law, w.before #[Value.ref b] s = true := fun w h => hts0 w (wsL_law_in w h)
  have hbA : ¬ A b := fun z => absurd (hAe _ z) (Nat.not_le.mpr hbl)
  have hP : va_P D vwCl [(h1, .inr (9, [.ref (a1 0), .ref (a1 2), .ref (a1 5), .ref (a1 27), .ref (a1 28), .ref (a1 29), .ref (a1 30), .ref (a1 24), .ref (a1 31), .ref (a1 32), .ref (a1 25), .ref (a1 26), .ref (a1 33), .ref (a1 34), .ref (a1 18), .ref (a1 10), .int 0])), ((a1 25), .inr (4, [.ref (a1 44), .ref (a1 45), .ref (a1 46), .ref (a1 47), .ref (a1 48), .int (-9), .int 0, .int 0, .int 0, .int 0, .int 0, .int 0])), ((a1 26), .inr (4, [.ref (a1 49), .ref (a1 50), .ref (a1 51), .ref (a1 52), .ref (a1 53), .int (-9), .int 0, .int 0, .int 0, .int 0, .int 0, .int 0])), (h2, .inr (10, mF a2 (fun _ => 0))), ((a2 28), .inl (g 3, 2, .inl (fun _ => 0)))] H := vz_pickP hP [0, 24, 25, 26, 33] rfl
  have hD : va_D A [(h1, .inr (9, [.ref (a1 0), .ref (a1 2), .ref (a1 5), .ref (a1 27), .ref (a1 28), .ref (a1 29), .ref (a1 30), .ref (a1 24), .ref (a1 31), .ref (a1 32), .ref (a1 25), .ref (a1 26), .ref (a1 33), .ref (a1 34), .ref (a1 18), .ref (a1 10), .int 0])), ((a1 25), .inr (4, [.ref (a1 44), .ref (a1 45), .ref (a1 46), .ref (a1 47), .ref (a1 48), .int (-9), .int 0, .int 0, .int 0, .int 0, .int 0, .int 0])), ((a1 26), .inr (4, [.ref (a1 49), .ref (a1 50), .ref (a1 51), .ref (a1 52), .ref (a1 53), .int (-9), .int 0, .int 0, .int 0, .int 0, .int 0, .int 0])), (h2, .inr (10, mF a2 (fun _ => 0))), ((a2 28), .inl (g 3, 2, .inl (fun _ => 0)))] := hD.sub [0, 24, 25, 26, 33] (by decide) rfl
  refine lv_aload_n hx hb dL_law_461 rfl (lv_at hl 2 rfl) ?_
  refine lv_aload_n hx hb dL_law_462 rfl (lv_at hl 3 rfl) ?_
  refine lv_iload_n hx hb dL_law_463 rfl (lv_at hl 0 rfl) ?_
  refine lv_iconst (v := 1) hx hb dL_law_464 (by decide) ?_
  refine lv_iadd hx hb dL_law_465 ?_
  refine lv_topi (nm_r (e' := 1) (by decide) ?_)
  refine va_sld hx hb hX hbl hbA hS (vp_in_c (by decide)) dL_law_466 ?_
  refine lv_aload_n hx hb dL_law_467 rfl (lv_at hl 3 rfl) ?_
  refine lv_iload_n hx hb dL_law_468 rfl (lv_at hl 0 rfl) ?_
  refine lv_iconst (v := 2) hx hb dL_law_469 (by decide) ?_
  refine lv_iadd hx hb dL_law_470 ?_
  refine lv_topi (nm_r (e' := 2) (by decide) ?_)
  refine va_sld hx hb hX hbl hbA hS (vp_in_c (by decide)) dL_law_471 ?_
  refine lv_aload_n hx hb dL_law_472 rfl (lv_at hl 3 rfl) ?_
  refine lv_iload_n hx hb dL_law_473 rfl (lv_at hl 0 rfl) ?_
  refine lv_iconst (v := 3) hx hb dL_law_474 (by decide) ?_
  refine lv_iadd hx hb dL_law_475 ?_
  refine lv_topi (nm_r (e' := 3) (by decide) ?_)
  refine va_sld hx hb hX hbl hbA hS (vp_in_c (by decide)) dL_law_476 ?_
  refine vz_Vi (wr := [(h2, .inr (10, mF a2 (fun _ => 0))), ((a2 28), .inl (g 3, 2, .inl (fun _ => 0)))]) (As := [.int (xs 1), .int (xs 2), .int (xs 3)]) (rest := []) hx hb hml hown hts hK hA hP hD hS (c_A_failure0 l D g h1 H.size a1 (xs 1) (xs 2) (xs 3)) kv_L_58 (⟨Nat.le_of_ble_eq_true rfl, Nat.le_of_ble_eq_true rfl⟩) (q0 := 0) (ci := 9) rfl rfl rfl [0, 1, 2] [3, 4] rfl rfl (by decide) hl.1 (Nat.le_of_ble_eq_true rfl) dL_law_477 (⟨Nat.le_of_ble_eq_true rfl, Nat.le_of_ble_eq_true rfl⟩) rfl (fun r1 _ H locs e2 _ hP hD hS => ?_)
  subst e2
  have hP : va_P D vwCl [(h2, .inr (10, mF a2 (fun _ => 0))), ((a2 28), .inl (g 3, 2, .inl (fun _ => 0))), (h1, .inr (9, [.ref (a1 0), .ref (a1 2), .ref (a1 5), .ref (a1 27), .ref (a1 28), .ref (a1 29), .ref (a1 30), .ref (a1 24), .ref (a1 31), .ref (a1 32), .ref (a1 25), .ref (a1 26), .ref (a1 33), .ref (a1 34), .ref (a1 18), .ref (a1 10), .int 0])), ((a1 25), .inr (4, [.ref (a1 44), .ref (a1 45), .ref (a1 46), .ref (a1 47), .ref (a1 48), .int (-9), .int 0, .int 0, .int 0, .int 0, .int 0, .int 0])), ((a1 26), .inr (4, [.ref (a1 49), .ref (a1 50), .ref (a1 51), .ref (a1 52), .ref (a1 53), .int (-9), .int 0, .int 0, .int 0, .int 0, .int 0, .int 0]))] H := hP
  have hD : va_D A [(h2, .inr (10, mF a2 (fun _ => 0))), ((a2 28), .inl (g 3, 2, .inl (fun _ => 0))), (h1, .inr (9, [.ref (a1 0), .ref (a1 2), .ref (a1 5), .ref (a1 27), .ref (a1 28), .ref (a1 29), .ref (a1 30), .ref (a1 24), .ref (a1 31), .ref (a1 32), .ref (a1 25), .ref (a1 26), .ref (a1 33), .ref (a1 34), .ref (a1 18), .ref (a1 10), .int 0])), ((a1 25), .inr (4, [.ref (a1 44), .ref (a1 45), .ref (a1 46), .ref (a1 47), .ref (a1 48), .int (-9), .int 0, .int 0, .int 0, .int 0, .int 0, .int 0])), ((a1 26), .inr (4, [.ref (a1 49), .ref (a1 50), .ref (a1 51), .ref (a1 52), .ref (a1 53), .int (-9), .int 0, .int 0, .int 0, .int 0, .int 0, .int 0]))] := hD
  refine lv_aload_n hx hb dL_law_480 rfl (lv_at hl 1 rfl) ?_
  refine lv_aload_n hx hb dL_law_481 rfl (lv_at hl 3 rfl) ?_
  refine lv_iload_n hx hb dL_law_482 rfl (lv_at hl 0 rfl) ?_
  refine lv_iconst (v := 1) hx hb dL_law_483 (by decide) ?_
  refine lv_iadd hx hb dL_law_484 ?_
  refine lv_topi (nm_r (e' := 1) (by decide) ?_)
  refine va_sld hx hb hX hbl hbA hS (vp_in_c (by decide)) dL_law_485 ?_
  refine lv_aload_n hx hb dL_law_486 rfl (lv_at hl 3 rfl) ?_
  refine lv_iload_n hx hb dL_law_487 rfl (lv_at hl 0 rfl) ?_
  refine lv_iconst (v := 2) hx hb dL_law_488 (by decide) ?_
  refine lv_iadd hx hb dL_law_489 ?_
  refine lv_topi (nm_r (e' := 2) (by decide) ?_)
  refine va_sld hx hb hX hbl hbA hS (vp_in_c (by decide)) dL_law_490 ?_
  refine lv_aload_n hx hb dL_law_491 rfl (lv_at hl 3 rfl) ?_
  refine lv_iload_n hx hb dL_law_492 rfl (lv_at hl 0 rfl) ?_
  refine lv_iconst (v := 3) hx hb dL_law_493 (by decide) ?_
  refine lv_iadd hx hb dL_law_494 ?_
  refine lv_topi (nm_r (e' := 3) (by decide) ?_)
  refine va_sld hx hb hX hbl hbA hS (vp_in_c (by decide)) dL_law_495 ?_
  refine vz_Vi (wr := [(h1, .inr (9, [.ref (a1 0), .ref (a1 2), .ref (a1 5), .ref (a1 27), .ref (a1 28), .ref (a1 29), .ref (a1 30), .ref (a1 24), .ref (a1 31), .ref (a1 32), .ref (a1 25), .ref (a1 26), .ref (a1 33), .ref (a1 34), .ref (a1 18), .ref (a1 10), .int 0])), ((a1 25), .inr (4, [.ref (a1 44), .ref (a1 45), .ref (a1 46), .ref (a1 47), .ref (a1 48), .int (-9), .int 0, .int 0, .int 0, .int 0, .int 0, .int 0])), ((a1 26), .inr (4, [.ref (a1 49), .ref (a1 50), .ref (a1 51), .ref (a1 52), .ref (a1 53), .int (-9), .int 0, .int 0, .int 0, .int 0, .int 0, .int 0]))]) (As := [.int (xs 1), .int (xs 2), .int (xs 3)]) (rest := [.int (-1)]) hx hb hml hown hts hK hA hP hD hS (c_m_failure0 l D g h2 H.size a2 (xs 1) (xs 2) (xs 3)) kv_L_62 (⟨Nat.le_of_ble_eq_true rfl, Nat.le_of_ble_eq_true rfl⟩) (q0 := 0) (ci := 10) rfl rfl rfl [0, 1] [2, 3, 4] rfl rfl (by decide) hl.1 (Nat.le_of_ble_eq_true rfl) dL_law_496 (⟨Nat.le_of_ble_eq_true rfl, Nat.le_of_ble_eq_true rfl⟩) rfl (fun r3 _ H locs e4 _ hP hD hS => ?_)
  subst e4
  have hP : va_P D vwCl [(h1, .inr (9, [.ref (a1 0), .ref (a1 2), .ref (a1 5), .ref (a1 27), .ref (a1 28), .ref (a1 29), .ref (a1 30), .ref (a1 24), .ref (a1 31), .ref (a1 32), .ref (a1 25), .ref (a1 26), .ref (a1 33), .ref (a1 34), .ref (a1 18), .ref (a1 10), .int 0])), ((a1 25), .inr (4, [.ref (a1 44), .ref (a1 45), .ref (a1 46), .ref (a1 47), .ref (a1 48), .int (-9), .int 0, .int 0, .int 0, .int 0, .int 0, .int 0])), ((a1 26), .inr (4, [.ref (a1 49), .ref (a1 50), .ref (a1 51), .ref (a1 52), .ref (a1 53), .int (-9), .int 0, .int 0, .int 0, .int 0, .int 0, .int 0])), (h2, .inr (10, mF a2 (fun _ => 0))), ((a2 28), .inl (g 3, 2, .inl (fun _ => 0)))] H := hP
  have hD : va_D A [(h1, .inr (9, [.ref (a1 0), .ref (a1 2), .ref (a1 5), .ref (a1 27), .ref (a1 28), .ref (a1 29), .ref (a1 30), .ref (a1 24), .ref (a1 31), .ref (a1 32), .ref (a1 25), .ref (a1 26), .ref (a1 33), .ref (a1 34), .ref (a1 18), .ref (a1 10), .int 0])), ((a1 25), .inr (4, [.ref (a1 44), .ref (a1 45), .ref (a1 46), .ref (a1 47), .ref (a1 48), .int (-9), .int 0, .int 0, .int 0, .int 0, .int 0, .int 0])), ((a1 26), .inr (4, [.ref (a1 49), .ref (a1 50), .ref (a1 51), .ref (a1 52), .ref (a1 53), .int (-9), .int 0, .int 0, .int 0, .int 0, .int 0, .int 0])), (h2, .inr (10, mF a2 (fun _ => 0))), ((a2 28), .inl (g 3, 2, .inl (fun _ => 0)))] := hD
  refine lv_icmp_eq (tgt := 732) hx hb dL_law_499 (by decide) (fun _ => ?_) (fun h9 => absurd (by decide) h9)
  refine lv_iinc (v := 6) (lv' := [(3, .int 6), (2, .ref h2), (1, .ref h1), (0, .ref b)]) hx hb dL_law_732 hl (k := 0) rfl (by decide) (by decide) rfl (fun ls hl => ?_)
  refine lv_goto (tgt := 18) hx hb dL_law_735 (by decide) ?_
  refine lv_iload_n hx hb dL_law_18 rfl (lv_at hl 0 rfl) ?_
  refine lv_aload_n hx hb dL_law_19 rfl (lv_at hl 3 rfl) ?_
  refine va_slen hx hb hX hbl hbA hS dL_law_20 ?_
  refine lv_topi (nm_r (e' := 6) (by decide) ?_)
  refine lv_bipush (v := 6) hx hb dL_law_21 (by decide) ?_
  refine lv_isub hx hb dL_law_23 ?_
  refine lv_topi (nm_r (e' := 0) (by decide) ?_)
  refine lv_icmp_gt (tgt := 738) hx hb dL_law_24 (by decide) (fun _ => ?_) (fun h9 => absurd (by decide) h9)
  refine lv_iconst (v := 1) hx hb dL_law_738 (by decide) ?_
  refine va_forget (fun q hq => hAe _ (hS.2.2 q hq)) ?_
  refine W.widen (k := 600000) (n := 7302250) (Nat.le_of_ble_eq_true rfl) (Nat.le_of_ble_eq_true rfl) ?_
  exact lw_ret hx hb hr hlocks dL_law_739
theorem q1554 : Cond.methodLink RL 63 yX9_trace ∈ wsL_law := mT_6 (List.mem_of_getElem? (i := 37) rfl) rfl
theorem q1555 : Cond.instanceMethod yX9_trace ∈ wsL_law := mT_6 (List.mem_of_getElem? (i := 38) rfl) rfl
theorem q1556 : Cond.selects RX9 yX9_trace yX9_trace ∈ wsL_law := mT_6 (List.mem_of_getElem? (i := 39) rfl) rfl
theorem q1557 : Cond.code yX9_trace cX9_trace 4 (some .int) ∈ wsL_law := mT_6 (List.mem_of_getElem? (i := 40) rfl) rfl
theorem kv_L_63 : vz_cv RL 63 yX9_trace cX9_trace 4 (some .int) 3 := ⟨q1554, q1555, q1556, q2, q1557, by decide +kernel⟩
theorem q1563 : Cond.methodLink RL 66 yX10_trace ∈ wsL_law := mT_9 (List.mem_of_getElem? (i := 71) rfl) rfl
theorem q1564 : Cond.instanceMethod yX10_trace ∈ wsL_law := mT_9 (List.mem_of_getElem? (i := 72) rfl) rfl
theorem q1565 : Cond.selects RX10 yX10_trace yX10_trace ∈ wsL_law := mT_9 (List.mem_of_getElem? (i := 73) rfl) rfl
theorem q1566 : Cond.code yX10_trace cX10_trace 4 (some .int) ∈ wsL_law := mT_9 (List.mem_of_getElem? (i := 74) rfl) rfl
theorem kv_L_66 : vz_cv RL 66 yX10_trace cX10_trace 4 (some .int) 3 := ⟨q1563, q1564, q1565, q5, q1566, by decide +kernel⟩
theorem dL_law_504 : decode cL_law 504 = .ok (.aload_n 1, 1) := by decide +kernel
theorem dL_law_505 : decode cL_law 505 = .ok (.aload_n 0, 1) := by decide +kernel
theorem dL_law_506 : decode cL_law 506 = .ok (.iload_n 3, 1) := by decide +kernel
theorem dL_law_507 : decode cL_law 507 = .ok (.iconst 1, 1) := by decide +kernel
theorem dL_law_508 : decode cL_law 508 = .ok (.iadd, 1) := by decide +kernel
theorem dL_law_509 : decode cL_law 509 = .ok (.iaload, 1) := by decide +kernel
theorem dL_law_510 : decode cL_law 510 = .ok (.aload_n 0, 1) := by decide +kernel
theorem dL_law_511 : decode cL_law 511 = .ok (.iload_n 3, 1) := by decide +kernel
theorem dL_law_512 : decode cL_law 512 = .ok (.iconst 2, 1) := by decide +kernel
theorem dL_law_513 : decode cL_law 513 = .ok (.iadd, 1) := by decide +kernel
theorem dL_law_514 : decode cL_law 514 = .ok (.iaload, 1) := by decide +kernel
theorem dL_law_515 : decode cL_law 515 = .ok (.aload_n 0, 1) := by decide +kernel
theorem dL_law_516 : decode cL_law 516 = .ok (.iload_n 3, 1) := by decide +kernel
theorem dL_law_517 : decode cL_law 517 = .ok (.iconst 3, 1) := by decide +kernel
theorem dL_law_518 : decode cL_law 518 = .ok (.iadd, 1) := by decide +kernel
theorem dL_law_519 : decode cL_law 519 = .ok (.iaload, 1) := by decide +kernel
theorem dL_law_520 : decode cL_law 520 = .ok (.invokevirtual 63, 3) := by decide +kernel
theorem dL_law_523 : decode cL_law 523 = .ok (.aload_n 2, 1) := by decide +kernel
theorem dL_law_524 : decode cL_law 524 = .ok (.aload_n 0, 1) := by decide +kernel
theorem dL_law_525 : decode cL_law 525 = .ok (.iload_n 3, 1) := by decide +kernel
theorem dL_law_526 : decode cL_law 526 = .ok (.iconst 1, 1) := by decide +kernel
theorem dL_law_527 : decode cL_law 527 = .ok (.iadd, 1) := by decide +kernel
theorem dL_law_528 : decode cL_law 528 = .ok (.iaload, 1) := by decide +kernel
theorem dL_law_529 : decode cL_law 529 = .ok (.aload_n 0, 1) := by decide +kernel
theorem dL_law_530 : decode cL_law 530 = .ok (.iload_n 3, 1) := by decide +kernel
theorem dL_law_531 : decode cL_law 531 = .ok (.iconst 2, 1) := by decide +kernel
theorem dL_law_532 : decode cL_law 532 = .ok (.iadd, 1) := by decide +kernel
theorem dL_law_533 : decode cL_law 533 = .ok (.iaload, 1) := by decide +kernel
theorem dL_law_534 : decode cL_law 534 = .ok (.aload_n 0, 1) := by decide +kernel
theorem dL_law_535 : decode cL_law 535 = .ok (.iload_n 3, 1) := by decide +kernel
theorem dL_law_536 : decode cL_law 536 = .ok (.iconst 3, 1) := by decide +kernel
theorem dL_law_537 : decode cL_law 537 = .ok (.iadd, 1) := by decide +kernel
theorem dL_law_538 : decode cL_law 538 = .ok (.iaload, 1) := by decide +kernel
theorem dL_law_539 : decode cL_law 539 = .ok (.invokevirtual 66, 3) := by decide +kernel
theorem dL_law_542 : decode cL_law 542 = .ok (.if_icmp .eq 190, 3) := by decide +kernel
set_option maxHeartbeats 4000000 in
set_option maxRecDepth 100000 in
theorem law_op10 {p : Program} {e : Env} {s : State} {m : MethodId} {below : List Frame} {meth : Method} {c : Code} {l : Launch} {b : Nat} {xs : Nat → Int32} (C0 : lw_At p s m meth c b 6 xs) {D : va_G} {g : Nat → ClassId} {A : Nat → Prop} (hAe : ∀ q, A q → s.heap.size ≤ q) (hA : ∀ q : Nat, s.heap.size ≤ q → A q) (hK : va_K D vwCl (tyG g) s) {h1 h2 : Nat} {a1 a2 : Nat → Nat} {H : Heap} {locs : List Loc} {ls : Array Slot} (hP : va_P D vwCl [(h1, .inr (9, [.ref (a1 0), .ref (a1 2), .ref (a1 5), .ref (a1 27), .ref (a1 28), .ref (a1 29), .ref (a1 30), .ref (a1 24), .ref (a1 31), .ref (a1 32), .ref (a1 25), .ref (a1 26), .ref (a1 33), .ref (a1 34), .ref (a1 18), .ref (a1 10), .int 0])), tT (a1 0) (a1 1) (nI 1) (nI 1000) 0, tA g (a1 1) 1000 (fun _ => 0), ((a1 2), .inr (5, [.ref (a1 3), .int 0])), tT (a1 3) (a1 4) (nI 3) (nI 1001) 0, tA g (a1 4) 3003 (fun _ => 0), ((a1 5), .inr (3, [.ref (a1 3), .ref (a1 6), .ref (a1 7), .ref (a1 8), .ref (a1 10), .int 0, .int 0, .int 0, .int 0, .int (-9), .int 0, .int 0])), tT (a1 6) (a1 35) (nI 1) (nI 6) 0, tT (a1 7) (a1 36) (nI 1) (nI 6) 0, tT (a1 8) (a1 9) (nI 1) (nI 80) 0, tA g (a1 9) 80 (fun _ => 0), ((a1 10), .inr (2, [.ref (a1 11), .ref (a1 12), .ref (a1 13), .ref (a1 14), .ref (a1 16)])), tT (a1 11) (a1 37) (nI 12) (nI 80) 0, tT (a1 12) (a1 38) (nI 5) (nI 1000) 0, tT (a1 13) (a1 39) (nI 5) (nI 112) 0, tT (a1 14) (a1 15) (nI 1) (nI 16) 0, tA g (a1 15) 16 (fun _ => 0), tT (a1 16) (a1 17) (nI 2) (nI 8) 0, tA g (a1 17) 16 (fun _ => 0), ((a1 18), .inr (2, [.ref (a1 19), .ref (a1 22), .ref (a1 20), .ref (a1 23), .ref (a1 21)])), tT (a1 19) (a1 40) (nI 12) (nI 80) 0, tT (a1 20) (a1 41) (nI 5) (nI 112) 0, tT (a1 21) (a1 42) (nI 2) (nI 8) 0, tT (a1 24) (a1 43) (nI 4) (nI 30) 0, ((a1 25), .inr (4, [.ref (a1 44), .ref (a1 45), .ref (a1 46), .ref (a1 47), .ref (a1 48), .int (-9), .int 0, .int 0, .int 0, .int 0, .int 0, .int 0])), ((a1 26), .inr (4, [.ref (a1 49), .ref (a1 50), .ref (a1 51), .ref (a1 52), .ref (a1 53), .int (-9), .int 0, .int 0, .int 0, .int 0, .int 0, .int 0])), (h2, .inr (10, mF a2 (fun _ => 0))), ((a2 1), .inl (g 1, 1000, .inl (fun _ => 0))), tA g (a2 3) 2 (fun _ => 0), tA g (a2 10) 2 (fun _ => 0), tA g (a2 12) 2 (fun _ => 0), tA g (a2 14) 2 (fun _ => 0), tA g (a2 13) 32 (fun _ => 0), ((a2 28), .inl (g 3, 2, .inl (fun _ => 0)))] H) (hD : va_D A [(h1, .inr (9, [.ref (a1 0), .ref (a1 2), .ref (a1 5), .ref (a1 27), .ref (a1 28), .ref (a1 29), .ref (a1 30), .ref (a1 24), .ref (a1 31), .ref (a1 32), .ref (a1 25), .ref (a1 26), .ref (a1 33), .ref (a1 34), .ref (a1 18), .ref (a1 10), .int 0])), tT (a1 0) (a1 1) (nI 1) (nI 1000) 0, tA g (a1 1) 1000 (fun _ => 0), ((a1 2), .inr (5, [.ref (a1 3), .int 0])), tT (a1 3) (a1 4) (nI 3) (nI 1001) 0, tA g (a1 4) 3003 (fun _ => 0), ((a1 5), .inr (3, [.ref (a1 3), .ref (a1 6), .ref (a1 7), .ref (a1 8), .ref (a1 10), .int 0, .int 0, .int 0, .int 0, .int (-9), .int 0, .int 0])), tT (a1 6) (a1 35) (nI 1) (nI 6) 0, tT (a1 7) (a1 36) (nI 1) (nI 6) 0, tT (a1 8) (a1 9) (nI 1) (nI 80) 0, tA g (a1 9) 80 (fun _ => 0), ((a1 10), .inr (2, [.ref (a1 11), .ref (a1 12), .ref (a1 13), .ref (a1 14), .ref (a1 16)])), tT (a1 11) (a1 37) (nI 12) (nI 80) 0, tT (a1 12) (a1 38) (nI 5) (nI 1000) 0, tT (a1 13) (a1 39) (nI 5) (nI 112) 0, tT (a1 14) (a1 15) (nI 1) (nI 16) 0, tA g (a1 15) 16 (fun _ => 0), tT (a1 16) (a1 17) (nI 2) (nI 8) 0, tA g (a1 17) 16 (fun _ => 0), ((a1 18), .inr (2, [.ref (a1 19), .ref (a1 22), .ref (a1 20), .ref (a1 23), .ref (a1 21)])), tT (a1 19) (a1 40) (nI 12) (nI 80) 0, tT (a1 20) (a1 41) (nI 5) (nI 112) 0, tT (a1 21) (a1 42) (nI 2) (nI 8) 0, tT (a1 24) (a1 43) (nI 4) (nI 30) 0, ((a1 25), .inr (4, [.ref (a1 44), .ref (a1 45), .ref (a1 46), .ref (a1 47), .ref (a1 48), .int (-9), .int 0, .int 0, .int 0, .int 0, .int 0, .int 0])), ((a1 26), .inr (4, [.ref (a1 49), .ref (a1 50), .ref (a1 51), .ref (a1 52), .ref (a1 53), .int (-9), .int 0, .int 0, .int 0, .int 0, .int 0, .int 0])), (h2, .inr (10, mF a2 (fun _ => 0))), ((a2 1), .inl (g 1, 1000, .inl (fun _ => 0))), tA g (a2 3) 2 (fun _ => 0), tA g (a2 10) 2 (fun _ => 0), tA g (a2 12) 2 (fun _ => 0), tA g (a2 14) 2 (fun _ => 0), tA g (a2 13) 32 (fun _ => 0), ((a2 28), .inl (g 3, 2, .inl (fun _ => 0)))]) (hS : va_S A s.heap H locs) (hl : lv_has ls 4 [(3, .int 0), (2, .ref h2), (1, .ref h1), (0, .ref b)]) : W p l e room_1 s m #[Value.ref b] below meth c H locs 168 110802 (lw_Z below #[Value.ref b] s) (F0 m 504 ls []) := by
  obtain ⟨hx, hb, hr, hml, hown, hts0, hX, hbl, hlocks, -⟩ := id C0
  have hts : ∀ w ∈ wsL_law, w.before #[Value.ref b] s = true := fun w h => hts0 w (wsL_law_in w h)
  have hbA : ¬ A b := fun z => absurd (hAe _ z) (Nat.not_le.mpr hbl)
  have hP : va_P D vwCl [(h1, .inr (9, [.ref (a1 0), .ref (a1 2), .ref (a1 5), .ref (a1 27), .ref (a1 28), .ref (a1 29), .ref (a1 30), .ref (a1 24), .ref (a1 31), .ref (a1 32), .ref (a1 25), .ref (a1 26), .ref (a1 33), .ref (a1 34), .ref (a1 18), .ref (a1 10), .int 0])), ((a1 25), .inr (4, [.ref (a1 44), .ref (a1 45), .ref (a1 46), .ref (a1 47), .ref (a1 48), .int (-9), .int 0, .int 0, .int 0, .int 0, .int 0, .int 0])), ((a1 26), .inr (4, [.ref (a1 49), .ref (a1 50), .ref (a1 51), .ref (a1 52), .ref (a1 53), .int (-9), .int 0, .int 0, .int 0, .int 0, .int 0, .int 0])), (h2, .inr (10, mF a2 (fun _ => 0))), ((a2 28), .inl (g 3, 2, .inl (fun _ => 0)))] H := vz_pickP hP [0, 24, 25, 26, 33] rfl
  have hD : va_D A [(h1, .inr (9, [.ref (a1 0), .ref (a1 2), .ref (a1 5), .ref (a1 27), .ref (a1 28), .ref (a1 29), .ref (a1 30), .ref (a1 24), .ref (a1 31), .ref (a1 32), .ref (a1 25), .ref (a1 26), .ref (a1 33), .ref (a1 34), .ref (a1 18), .ref (a1 10), .int 0])), ((a1 25), .inr (4, [.ref (a1 44), .ref (a1 45), .ref (a1 46), .ref (a1 47), .ref (a1 48), .int (-9), .int 0, .int 0, .int 0, .int 0, .int 0, .int 0])), ((a1 26), .inr (4, [.ref (a1 49), .ref (a1 50), .ref (a1 51), .ref (a1 52), .ref (a1 53), .int (-9), .int 0, .int 0, .int 0, .int 0, .int 0, .int 0])), (h2, .inr (10, mF a2 (fun _ => 0))), ((a2 28), .inl (g 3, 2, .inl (fun _ => 0)))] := hD.sub [0, 24, 25, 26, 33] (by decide) rfl
  refine lv_aload_n hx hb dL_law_504 rfl (lv_at hl 2 rfl) ?_
  refine lv_aload_n hx hb dL_law_505 rfl (lv_at hl 3 rfl) ?_
  refine lv_iload_n hx hb dL_law_506 rfl (lv_at hl 0 rfl) ?_
  refine lv_iconst (v := 1) hx hb dL_law_507 (by decide) ?_
  refine lv_iadd hx hb dL_law_508 ?_
  refine lv_topi (nm_r (e' := 1) (by decide) ?_)
  refine va_sld hx hb hX hbl hbA hS (vp_in_c (by decide)) dL_law_509 ?_
  refine lv_aload_n hx hb dL_law_510 rfl (lv_at hl 3 rfl) ?_
  refine lv_iload_n hx hb dL_law_511 rfl (lv_at hl 0 rfl) ?_
  refine lv_iconst (v := 2) hx hb dL_law_512 (by decide) ?_
  refine lv_iadd hx hb dL_law_513 ?_
  refine lv_topi (nm_r (e' := 2) (by decide) ?_)
  refine va_sld hx hb hX hbl hbA hS (vp_in_c (by decide)) dL_law_514 ?_
  refine lv_aload_n hx hb dL_law_515 rfl (lv_at hl 3 rfl) ?_
  refine lv_iload_n hx hb dL_law_516 rfl (lv_at hl 0 rfl) ?_
  refine lv_iconst (v := 3) hx hb dL_law_517 (by decide) ?_
  refine lv_iadd hx hb dL_law_518 ?_
  refine lv_topi (nm_r (e' := 3) (by decide) ?_)
  refine va_sld hx hb hX hbl hbA hS (vp_in_c (by decide)) dL_law_519 ?_
  refine vz_Vi (wr := [(h2, .inr (10, mF a2 (fun _ => 0))), ((a2 28), .inl (g 3, 2, .inl (fun _ => 0)))]) (As := [.int (xs 1), .int (xs 2), .int (xs 3)]) (rest := []) hx hb hml hown hts hK hA hP hD hS (c_A_trace0 l D g h1 H.size a1 (xs 1) (xs 2) (xs 3)) kv_L_63 (⟨Nat.le_of_ble_eq_true rfl, Nat.le_of_ble_eq_true rfl⟩) (q0 := 0) (ci := 9) rfl rfl rfl [0, 1, 2] [3, 4] rfl rfl (by decide) hl.1 (Nat.le_of_ble_eq_true rfl) dL_law_520 (⟨Nat.le_of_ble_eq_true rfl, Nat.le_of_ble_eq_true rfl⟩) rfl (fun r1 _ H locs e2 _ hP hD hS => ?_)
  subst e2
  have hP : va_P D vwCl [(h2, .inr (10, mF a2 (fun _ => 0))), ((a2 28), .inl (g 3, 2, .inl (fun _ => 0))), (h1, .inr (9, [.ref (a1 0), .ref (a1 2), .ref (a1 5), .ref (a1 27), .ref (a1 28), .ref (a1 29), .ref (a1 30), .ref (a1 24), .ref (a1 31), .ref (a1 32), .ref (a1 25), .ref (a1 26), .ref (a1 33), .ref (a1 34), .ref (a1 18), .ref (a1 10), .int 0])), ((a1 25), .inr (4, [.ref (a1 44), .ref (a1 45), .ref (a1 46), .ref (a1 47), .ref (a1 48), .int (-9), .int 0, .int 0, .int 0, .int 0, .int 0, .int 0])), ((a1 26), .inr (4, [.ref (a1 49), .ref (a1 50), .ref (a1 51), .ref (a1 52), .ref (a1 53), .int (-9), .int 0, .int 0, .int 0, .int 0, .int 0, .int 0]))] H := hP
  have hD : va_D A [(h2, .inr (10, mF a2 (fun _ => 0))), ((a2 28), .inl (g 3, 2, .inl (fun _ => 0))), (h1, .inr (9, [.ref (a1 0), .ref (a1 2), .ref (a1 5), .ref (a1 27), .ref (a1 28), .ref (a1 29), .ref (a1 30), .ref (a1 24), .ref (a1 31), .ref (a1 32), .ref (a1 25), .ref (a1 26), .ref (a1 33), .ref (a1 34), .ref (a1 18), .ref (a1 10), .int 0])), ((a1 25), .inr (4, [.ref (a1 44), .ref (a1 45), .ref (a1 46), .ref (a1 47), .ref (a1 48), .int (-9), .int 0, .int 0, .int 0, .int 0, .int 0, .int 0])), ((a1 26), .inr (4, [.ref (a1 49), .ref (a1 50), .ref (a1 51), .ref (a1 52), .ref (a1 53), .int (-9), .int 0, .int 0, .int 0, .int 0, .int 0, .int 0]))] := hD
  refine lv_aload_n hx hb dL_law_523 rfl (lv_at hl 1 rfl) ?_
  refine lv_aload_n hx hb dL_law_524 rfl (lv_at hl 3 rfl) ?_
  refine lv_iload_n hx hb dL_law_525 rfl (lv_at hl 0 rfl) ?_
  refine lv_iconst (v := 1) hx hb dL_law_526 (by decide) ?_
  refine lv_iadd hx hb dL_law_527 ?_
  refine lv_topi (nm_r (e' := 1) (by decide) ?_)
  refine va_sld hx hb hX hbl hbA hS (vp_in_c (by decide)) dL_law_528 ?_
  refine lv_aload_n hx hb dL_law_529 rfl (lv_at hl 3 rfl) ?_
  refine lv_iload_n hx hb dL_law_530 rfl (lv_at hl 0 rfl) ?_
  refine lv_iconst (v := 2) hx hb dL_law_531 (by decide) ?_
  refine lv_iadd hx hb dL_law_532 ?_
  refine lv_topi (nm_r (e' := 2) (by decide) ?_)
  refine va_sld hx hb hX hbl hbA hS (vp_in_c (by decide)) dL_law_533 ?_
  refine lv_aload_n hx hb dL_law_534 rfl (lv_at hl 3 rfl) ?_
  refine lv_iload_n hx hb dL_law_535 rfl (lv_at hl 0 rfl) ?_
  refine lv_iconst (v := 3) hx hb dL_law_536 (by decide) ?_
  refine lv_iadd hx hb dL_law_537 ?_
  refine lv_topi (nm_r (e' := 3) (by decide) ?_)
  refine va_sld hx hb hX hbl hbA hS (vp_in_c (by decide)) dL_law_538 ?_
  refine vz_Vi (wr := [(h1, .inr (9, [.ref (a1 0), .ref (a1 2), .ref (a1 5), .ref (a1 27), .ref (a1 28), .ref (a1 29), .ref (a1 30), .ref (a1 24), .ref (a1 31), .ref (a1 32), .ref (a1 25), .ref (a1 26), .ref (a1 33), .ref (a1 34), .ref (a1 18), .ref (a1 10), .int 0])), ((a1 25), .inr (4, [.ref (a1 44), .ref (a1 45), .ref (a1 46), .ref (a1 47), .ref (a1 48), .int (-9), .int 0, .int 0, .int 0, .int 0, .int 0, .int 0])), ((a1 26), .inr (4, [.ref (a1 49), .ref (a1 50), .ref (a1 51), .ref (a1 52), .ref (a1 53), .int (-9), .int 0, .int 0, .int 0, .int 0, .int 0, .int 0]))]) (As := [.int (xs 1), .int (xs 2), .int (xs 3)]) (rest := [.int (-1)]) hx hb hml hown hts hK hA hP hD hS (c_m_trace0 l D g h2 H.size a2 (xs 1) (xs 2) (xs 3)) kv_L_66 (⟨Nat.le_of_ble_eq_true rfl, Nat.le_of_ble_eq_true rfl⟩) (q0 := 0) (ci := 10) rfl rfl rfl [0, 1] [2, 3, 4] rfl rfl (by decide) hl.1 (Nat.le_of_ble_eq_true rfl) dL_law_539 (⟨Nat.le_of_ble_eq_true rfl, Nat.le_of_ble_eq_true rfl⟩) rfl (fun r3 _ H locs e4 _ hP hD hS => ?_)
  subst e4
  have hP : va_P D vwCl [(h1, .inr (9, [.ref (a1 0), .ref (a1 2), .ref (a1 5), .ref (a1 27), .ref (a1 28), .ref (a1 29), .ref (a1 30), .ref (a1 24), .ref (a1 31), .ref (a1 32), .ref (a1 25), .ref (a1 26), .ref (a1 33), .ref (a1 34), .ref (a1 18), .ref (a1 10), .int 0])), ((a1 25), .inr (4, [.ref (a1 44), .ref (a1 45), .ref (a1 46), .ref (a1 47), .ref (a1 48), .int (-9), .int 0, .int 0, .int 0, .int 0, .int 0, .int 0])), ((a1 26), .inr (4, [.ref (a1 49), .ref (a1 50), .ref (a1 51), .ref (a1 52), .ref (a1 53), .int (-9), .int 0, .int 0, .int 0, .int 0, .int 0, .int 0])), (h2, .inr (10, mF a2 (fun _ => 0))), ((a2 28), .inl (g 3, 2, .inl (fun _ => 0)))] H := hP
  have hD : va_D A [(h1, .inr (9, [.ref (a1 0), .ref (a1 2), .ref (a1 5), .ref (a1 27), .ref (a1 28), .ref (a1 29), .ref (a1 30), .ref (a1 24), .ref (a1 31), .ref (a1 32), .ref (a1 25), .ref (a1 26), .ref (a1 33), .ref (a1 34), .ref (a1 18), .ref (a1 10), .int 0])), ((a1 25), .inr (4, [.ref (a1 44), .ref (a1 45), .ref (a1 46), .ref (a1 47), .ref (a1 48), .int (-9), .int 0, .int 0, .int 0, .int 0, .int 0, .int 0])), ((a1 26), .inr (4, [.ref (a1 49), .ref (a1 50), .ref (a1 51), .ref (a1 52), .ref (a1 53), .int (-9), .int 0, .int 0, .int 0, .int 0, .int 0, .int 0])), (h2, .inr (10, mF a2 (fun _ => 0))), ((a2 28), .inl (g 3, 2, .inl (fun _ => 0)))] := hD
  refine lv_icmp_eq (tgt := 732) hx hb dL_law_542 (by decide) (fun _ => ?_) (fun h9 => absurd (by decide) h9)
  refine lv_iinc (v := 6) (lv' := [(3, .int 6), (2, .ref h2), (1, .ref h1), (0, .ref b)]) hx hb dL_law_732 hl (k := 0) rfl (by decide) (by decide) rfl (fun ls hl => ?_)
  refine lv_goto (tgt := 18) hx hb dL_law_735 (by decide) ?_
  refine lv_iload_n hx hb dL_law_18 rfl (lv_at hl 0 rfl) ?_
  refine lv_aload_n hx hb dL_law_19 rfl (lv_at hl 3 rfl) ?_
  refine va_slen hx hb hX hbl hbA hS dL_law_20 ?_
  refine lv_topi (nm_r (e' := 6) (by decide) ?_)
  refine lv_bipush (v := 6) hx hb dL_law_21 (by decide) ?_
  refine lv_isub hx hb dL_law_23 ?_
  refine lv_topi (nm_r (e' := 0) (by decide) ?_)
  refine lv_icmp_gt (tgt := 738) hx hb dL_law_24 (by decide) (fun _ => ?_) (fun h9 => absurd (by decide) h9)
  refine lv_iconst (v := 1) hx hb dL_law_738 (by decide) ?_
  refine va_forget (fun q hq => hAe _ (hS.2.2 q hq)) ?_
  refine W.widen (k := 600000) (n := 7302250) (Nat.le_of_ble_eq_true rfl) (Nat.le_of_ble_eq_true rfl) ?_
  exact lw_ret hx hb hr hlocks dL_law_739
theorem q1567 : Cond.methodLink RL 67 yX9_closed ∈ wsL_law := mT_6 (List.mem_of_getElem? (i := 46) rfl) rfl
theorem q1568 : Cond.instanceMethod yX9_closed ∈ wsL_law := mT_6 (List.mem_of_getElem? (i := 47) rfl) rfl
theorem q1569 : Cond.selects RX9 yX9_closed yX9_closed ∈ wsL_law := mT_6 (List.mem_of_getElem? (i := 48) rfl) rfl
theorem q1570 : Cond.code yX9_closed cX9_closed 3 (some .int) ∈ wsL_law := mT_6 (List.mem_of_getElem? (i := 49) rfl) rfl
theorem kv_L_67 : vz_cv RL 67 yX9_closed cX9_closed 3 (some .int) 2 := ⟨q1567, q1568, q1569, q2, q1570, by decide +kernel⟩
theorem q1572 : Cond.methodLink RL 70 yX10_closed ∈ wsL_law := mT_9 (List.mem_of_getElem? (i := 75) rfl) rfl
theorem q1573 : Cond.instanceMethod yX10_closed ∈ wsL_law := mT_9 (List.mem_of_getElem? (i := 76) rfl) rfl
theorem q1574 : Cond.selects RX10 yX10_closed yX10_closed ∈ wsL_law := mT_9 (List.mem_of_getElem? (i := 77) rfl) rfl
theorem q1575 : Cond.code yX10_closed cX10_closed 3 (some .int) ∈ wsL_law := mT_9 (List.mem_of_getElem? (i := 78) rfl) rfl
theorem kv_L_70 : vz_cv RL 70 yX10_closed cX10_closed 3 (some .int) 2 := ⟨q1572, q1573, q1574, q5, q1575, by decide +kernel⟩
theorem dL_law_547 : decode cL_law 547 = .ok (.aload_n 1, 1) := by decide +kernel
theorem dL_law_548 : decode cL_law 548 = .ok (.aload_n 0, 1) := by decide +kernel
theorem dL_law_549 : decode cL_law 549 = .ok (.iload_n 3, 1) := by decide +kernel
theorem dL_law_550 : decode cL_law 550 = .ok (.iconst 1, 1) := by decide +kernel
theorem dL_law_551 : decode cL_law 551 = .ok (.iadd, 1) := by decide +kernel
theorem dL_law_552 : decode cL_law 552 = .ok (.iaload, 1) := by decide +kernel
theorem dL_law_553 : decode cL_law 553 = .ok (.aload_n 0, 1) := by decide +kernel
theorem dL_law_554 : decode cL_law 554 = .ok (.iload_n 3, 1) := by decide +kernel
theorem dL_law_555 : decode cL_law 555 = .ok (.iconst 2, 1) := by decide +kernel
theorem dL_law_556 : decode cL_law 556 = .ok (.iadd, 1) := by decide +kernel
theorem dL_law_557 : decode cL_law 557 = .ok (.iaload, 1) := by decide +kernel
theorem dL_law_558 : decode cL_law 558 = .ok (.invokevirtual 67, 3) := by decide +kernel
theorem dL_law_561 : decode cL_law 561 = .ok (.aload_n 2, 1) := by decide +kernel
theorem dL_law_562 : decode cL_law 562 = .ok (.aload_n 0, 1) := by decide +kernel
theorem dL_law_563 : decode cL_law 563 = .ok (.iload_n 3, 1) := by decide +kernel
theorem dL_law_564 : decode cL_law 564 = .ok (.iconst 1, 1) := by decide +kernel
theorem dL_law_565 : decode cL_law 565 = .ok (.iadd, 1) := by decide +kernel
theorem dL_law_566 : decode cL_law 566 = .ok (.iaload, 1) := by decide +kernel
theorem dL_law_567 : decode cL_law 567 = .ok (.aload_n 0, 1) := by decide +kernel
theorem dL_law_568 : decode cL_law 568 = .ok (.iload_n 3, 1) := by decide +kernel
theorem dL_law_569 : decode cL_law 569 = .ok (.iconst 2, 1) := by decide +kernel
theorem dL_law_570 : decode cL_law 570 = .ok (.iadd, 1) := by decide +kernel
theorem dL_law_571 : decode cL_law 571 = .ok (.iaload, 1) := by decide +kernel
theorem dL_law_572 : decode cL_law 572 = .ok (.invokevirtual 70, 3) := by decide +kernel
theorem dL_law_575 : decode cL_law 575 = .ok (.if_icmp .eq 157, 3) := by decide +kernel
set_option maxHeartbeats 4000000 in
set_option maxRecDepth 100000 in
theorem law_op11 {p : Program} {e : Env} {s : State} {m : MethodId} {below : List Frame} {meth : Method} {c : Code} {l : Launch} {b : Nat} {xs : Nat → Int32} (C0 : lw_At p s m meth c b 6 xs) {D : va_G} {g : Nat → ClassId} {A : Nat → Prop} (hAe : ∀ q, A q → s.heap.size ≤ q) (hA : ∀ q : Nat, s.heap.size ≤ q → A q) (hK : va_K D vwCl (tyG g) s) {h1 h2 : Nat} {a1 a2 : Nat → Nat} {H : Heap} {locs : List Loc} {ls : Array Slot} (hP : va_P D vwCl [(h1, .inr (9, [.ref (a1 0), .ref (a1 2), .ref (a1 5), .ref (a1 27), .ref (a1 28), .ref (a1 29), .ref (a1 30), .ref (a1 24), .ref (a1 31), .ref (a1 32), .ref (a1 25), .ref (a1 26), .ref (a1 33), .ref (a1 34), .ref (a1 18), .ref (a1 10), .int 0])), tT (a1 0) (a1 1) (nI 1) (nI 1000) 0, tA g (a1 1) 1000 (fun _ => 0), ((a1 2), .inr (5, [.ref (a1 3), .int 0])), tT (a1 3) (a1 4) (nI 3) (nI 1001) 0, tA g (a1 4) 3003 (fun _ => 0), ((a1 5), .inr (3, [.ref (a1 3), .ref (a1 6), .ref (a1 7), .ref (a1 8), .ref (a1 10), .int 0, .int 0, .int 0, .int 0, .int (-9), .int 0, .int 0])), tT (a1 6) (a1 35) (nI 1) (nI 6) 0, tT (a1 7) (a1 36) (nI 1) (nI 6) 0, tT (a1 8) (a1 9) (nI 1) (nI 80) 0, tA g (a1 9) 80 (fun _ => 0), ((a1 10), .inr (2, [.ref (a1 11), .ref (a1 12), .ref (a1 13), .ref (a1 14), .ref (a1 16)])), tT (a1 11) (a1 37) (nI 12) (nI 80) 0, tT (a1 12) (a1 38) (nI 5) (nI 1000) 0, tT (a1 13) (a1 39) (nI 5) (nI 112) 0, tT (a1 14) (a1 15) (nI 1) (nI 16) 0, tA g (a1 15) 16 (fun _ => 0), tT (a1 16) (a1 17) (nI 2) (nI 8) 0, tA g (a1 17) 16 (fun _ => 0), ((a1 18), .inr (2, [.ref (a1 19), .ref (a1 22), .ref (a1 20), .ref (a1 23), .ref (a1 21)])), tT (a1 19) (a1 40) (nI 12) (nI 80) 0, tT (a1 20) (a1 41) (nI 5) (nI 112) 0, tT (a1 21) (a1 42) (nI 2) (nI 8) 0, tT (a1 24) (a1 43) (nI 4) (nI 30) 0, ((a1 25), .inr (4, [.ref (a1 44), .ref (a1 45), .ref (a1 46), .ref (a1 47), .ref (a1 48), .int (-9), .int 0, .int 0, .int 0, .int 0, .int 0, .int 0])), ((a1 26), .inr (4, [.ref (a1 49), .ref (a1 50), .ref (a1 51), .ref (a1 52), .ref (a1 53), .int (-9), .int 0, .int 0, .int 0, .int 0, .int 0, .int 0])), (h2, .inr (10, mF a2 (fun _ => 0))), ((a2 1), .inl (g 1, 1000, .inl (fun _ => 0))), tA g (a2 3) 2 (fun _ => 0), tA g (a2 10) 2 (fun _ => 0), tA g (a2 12) 2 (fun _ => 0), tA g (a2 14) 2 (fun _ => 0), tA g (a2 13) 32 (fun _ => 0), ((a2 28), .inl (g 3, 2, .inl (fun _ => 0)))] H) (hD : va_D A [(h1, .inr (9, [.ref (a1 0), .ref (a1 2), .ref (a1 5), .ref (a1 27), .ref (a1 28), .ref (a1 29), .ref (a1 30), .ref (a1 24), .ref (a1 31), .ref (a1 32), .ref (a1 25), .ref (a1 26), .ref (a1 33), .ref (a1 34), .ref (a1 18), .ref (a1 10), .int 0])), tT (a1 0) (a1 1) (nI 1) (nI 1000) 0, tA g (a1 1) 1000 (fun _ => 0), ((a1 2), .inr (5, [.ref (a1 3), .int 0])), tT (a1 3) (a1 4) (nI 3) (nI 1001) 0, tA g (a1 4) 3003 (fun _ => 0), ((a1 5), .inr (3, [.ref (a1 3), .ref (a1 6), .ref (a1 7), .ref (a1 8), .ref (a1 10), .int 0, .int 0, .int 0, .int 0, .int (-9), .int 0, .int 0])), tT (a1 6) (a1 35) (nI 1) (nI 6) 0, tT (a1 7) (a1 36) (nI 1) (nI 6) 0, tT (a1 8) (a1 9) (nI 1) (nI 80) 0, tA g (a1 9) 80 (fun _ => 0), ((a1 10), .inr (2, [.ref (a1 11), .ref (a1 12), .ref (a1 13), .ref (a1 14), .ref (a1 16)])), tT (a1 11) (a1 37) (nI 12) (nI 80) 0, tT (a1 12) (a1 38) (nI 5) (nI 1000) 0, tT (a1 13) (a1 39) (nI 5) (nI 112) 0, tT (a1 14) (a1 15) (nI 1) (nI 16) 0, tA g (a1 15) 16 (fun _ => 0), tT (a1 16) (a1 17) (nI 2) (nI 8) 0, tA g (a1 17) 16 (fun _ => 0), ((a1 18), .inr (2, [.ref (a1 19), .ref (a1 22), .ref (a1 20), .ref (a1 23), .ref (a1 21)])), tT (a1 19) (a1 40) (nI 12) (nI 80) 0, tT (a1 20) (a1 41) (nI 5) (nI 112) 0, tT (a1 21) (a1 42) (nI 2) (nI 8) 0, tT (a1 24) (a1 43) (nI 4) (nI 30) 0, ((a1 25), .inr (4, [.ref (a1 44), .ref (a1 45), .ref (a1 46), .ref (a1 47), .ref (a1 48), .int (-9), .int 0, .int 0, .int 0, .int 0, .int 0, .int 0])), ((a1 26), .inr (4, [.ref (a1 49), .ref (a1 50), .ref (a1 51), .ref (a1 52), .ref (a1 53), .int (-9), .int 0, .int 0, .int 0, .int 0, .int 0, .int 0])), (h2, .inr (10, mF a2 (fun _ => 0))), ((a2 1), .inl (g 1, 1000, .inl (fun _ => 0))), tA g (a2 3) 2 (fun _ => 0), tA g (a2 10) 2 (fun _ => 0), tA g (a2 12) 2 (fun _ => 0), tA g (a2 14) 2 (fun _ => 0), tA g (a2 13) 32 (fun _ => 0), ((a2 28), .inl (g 3, 2, .inl (fun _ => 0)))]) (hS : va_S A s.heap H locs) (hl : lv_has ls 4 [(3, .int 0), (2, .ref h2), (1, .ref h1), (0, .ref b)]) : W p l e room_1 s m #[Value.ref b] below meth c H locs 168 110802 (lw_Z below #[Value.ref b] s) (F0 m 547 ls []) := by
  obtain ⟨hx, hb, hr, hml, hown, hts0, hX, hbl, hlocks, -⟩ := id C0
  have hts : ∀ w ∈ wsL_law, w.before #[Value.ref b] s = true := fun w h => hts0 w (wsL_law_in w h)
  have hbA : ¬ A b := fun z => absurd (hAe _ z) (Nat.not_le.mpr hbl)
  have hP : va_P D vwCl [(h1, .inr (9, [.ref (a1 0), .ref (a1 2), .ref (a1 5), .ref (a1 27), .ref (a1 28), .ref (a1 29), .ref (a1 30), .ref (a1 24), .ref (a1 31), .ref (a1 32), .ref (a1 25), .ref (a1 26), .ref (a1 33), .ref (a1 34), .ref (a1 18), .ref (a1 10), .int 0])), ((a1 25), .inr (4, [.ref (a1 44), .ref (a1 45), .ref (a1 46), .ref (a1 47), .ref (a1 48), .int (-9), .int 0, .int 0, .int 0, .int 0, .int 0, .int 0])), ((a1 26), .inr (4, [.ref (a1 49), .ref (a1 50), .ref (a1 51), .ref (a1 52), .ref (a1 53), .int (-9), .int 0, .int 0, .int 0, .int 0, .int 0, .int 0])), (h2, .inr (10, mF a2 (fun _ => 0))), ((a2 28), .inl (g 3, 2, .inl (fun _ => 0)))] H := vz_pickP hP [0, 24, 25, 26, 33] rfl
  have hD : va_D A [(h1, .inr (9, [.ref (a1 0), .ref (a1 2), .ref (a1 5), .ref (a1 27), .ref (a1 28), .ref (a1 29), .ref (a1 30), .ref (a1 24), .ref (a1 31), .ref (a1 32), .ref (a1 25), .ref (a1 26), .ref (a1 33), .ref (a1 34), .ref (a1 18), .ref (a1 10), .int 0])), ((a1 25), .inr (4, [.ref (a1 44), .ref (a1 45), .ref (a1 46), .ref (a1 47), .ref (a1 48), .int (-9), .int 0, .int 0, .int 0, .int 0, .int 0, .int 0])), ((a1 26), .inr (4, [.ref (a1 49), .ref (a1 50), .ref (a1 51), .ref (a1 52), .ref (a1 53), .int (-9), .int 0, .int 0, .int 0, .int 0, .int 0, .int 0])), (h2, .inr (10, mF a2 (fun _ => 0))), ((a2 28), .inl (g 3, 2, .inl (fun _ => 0)))] := hD.sub [0, 24, 25, 26, 33] (by decide) rfl
  refine lv_aload_n hx hb dL_law_547 rfl (lv_at hl 2 rfl) ?_
  refine lv_aload_n hx hb dL_law_548 rfl (lv_at hl 3 rfl) ?_
  refine lv_iload_n hx hb dL_law_549 rfl (lv_at hl 0 rfl) ?_
  refine lv_iconst (v := 1) hx hb dL_law_550 (by decide) ?_
  refine lv_iadd hx hb dL_law_551 ?_
  refine lv_topi (nm_r (e' := 1) (by decide) ?_)
  refine va_sld hx hb hX hbl hbA hS (vp_in_c (by decide)) dL_law_552 ?_
  refine lv_aload_n hx hb dL_law_553 rfl (lv_at hl 3 rfl) ?_
  refine lv_iload_n hx hb dL_law_554 rfl (lv_at hl 0 rfl) ?_
  refine lv_iconst (v := 2) hx hb dL_law_555 (by decide) ?_
  refine lv_iadd hx hb dL_law_556 ?_
  refine lv_topi (nm_r (e' := 2) (by decide) ?_)
  refine va_sld hx hb hX hbl hbA hS (vp_in_c (by decide)) dL_law_557 ?_
  refine vz_Vi (wr := [(h2, .inr (10, mF a2 (fun _ => 0))), ((a2 28), .inl (g 3, 2, .inl (fun _ => 0)))]) (As := [.int (xs 1), .int (xs 2)]) (rest := []) hx hb hml hown hts hK hA hP hD hS (c_A_closed0 l D g h1 H.size a1 (xs 1) (xs 2)) kv_L_67 (⟨Nat.le_of_ble_eq_true rfl, Nat.le_of_ble_eq_true rfl⟩) (q0 := 0) (ci := 9) rfl rfl rfl [0, 1, 2] [3, 4] rfl rfl (by decide) hl.1 (Nat.le_of_ble_eq_true rfl) dL_law_558 (⟨Nat.le_of_ble_eq_true rfl, Nat.le_of_ble_eq_true rfl⟩) rfl (fun r1 _ H locs e2 _ hP hD hS => ?_)
  subst e2
  have hP : va_P D vwCl [(h2, .inr (10, mF a2 (fun _ => 0))), ((a2 28), .inl (g 3, 2, .inl (fun _ => 0))), (h1, .inr (9, [.ref (a1 0), .ref (a1 2), .ref (a1 5), .ref (a1 27), .ref (a1 28), .ref (a1 29), .ref (a1 30), .ref (a1 24), .ref (a1 31), .ref (a1 32), .ref (a1 25), .ref (a1 26), .ref (a1 33), .ref (a1 34), .ref (a1 18), .ref (a1 10), .int 0])), ((a1 25), .inr (4, [.ref (a1 44), .ref (a1 45), .ref (a1 46), .ref (a1 47), .ref (a1 48), .int (-9), .int 0, .int 0, .int 0, .int 0, .int 0, .int 0])), ((a1 26), .inr (4, [.ref (a1 49), .ref (a1 50), .ref (a1 51), .ref (a1 52), .ref (a1 53), .int (-9), .int 0, .int 0, .int 0, .int 0, .int 0, .int 0]))] H := hP
  have hD : va_D A [(h2, .inr (10, mF a2 (fun _ => 0))), ((a2 28), .inl (g 3, 2, .inl (fun _ => 0))), (h1, .inr (9, [.ref (a1 0), .ref (a1 2), .ref (a1 5), .ref (a1 27), .ref (a1 28), .ref (a1 29), .ref (a1 30), .ref (a1 24), .ref (a1 31), .ref (a1 32), .ref (a1 25), .ref (a1 26), .ref (a1 33), .ref (a1 34), .ref (a1 18), .ref (a1 10), .int 0])), ((a1 25), .inr (4, [.ref (a1 44), .ref (a1 45), .ref (a1 46), .ref (a1 47), .ref (a1 48), .int (-9), .int 0, .int 0, .int 0, .int 0, .int 0, .int 0])), ((a1 26), .inr (4, [.ref (a1 49), .ref (a1 50), .ref (a1 51), .ref (a1 52), .ref (a1 53), .int (-9), .int 0, .int 0, .int 0, .int 0, .int 0, .int 0]))] := hD
  refine lv_aload_n hx hb dL_law_561 rfl (lv_at hl 1 rfl) ?_
  refine lv_aload_n hx hb dL_law_562 rfl (lv_at hl 3 rfl) ?_
  refine lv_iload_n hx hb dL_law_563 rfl (lv_at hl 0 rfl) ?_
  refine lv_iconst (v := 1) hx hb dL_law_564 (by decide) ?_
  refine lv_iadd hx hb dL_law_565 ?_
  refine lv_topi (nm_r (e' := 1) (by decide) ?_)
  refine va_sld hx hb hX hbl hbA hS (vp_in_c (by decide)) dL_law_566 ?_
  refine lv_aload_n hx hb dL_law_567 rfl (lv_at hl 3 rfl) ?_
  refine lv_iload_n hx hb dL_law_568 rfl (lv_at hl 0 rfl) ?_
  refine lv_iconst (v := 2) hx hb dL_law_569 (by decide) ?_
  refine lv_iadd hx hb dL_law_570 ?_
  refine lv_topi (nm_r (e' := 2) (by decide) ?_)
  refine va_sld hx hb hX hbl hbA hS (vp_in_c (by decide)) dL_law_571 ?_
  refine vz_Vi (wr := [(h1, .inr (9, [.ref (a1 0), .ref (a1 2), .ref (a1 5), .ref (a1 27), .ref (a1 28), .ref (a1 29), .ref (a1 30), .ref (a1 24), .ref (a1 31), .ref (a1 32), .ref (a1 25), .ref (a1 26), .ref (a1 33), .ref (a1 34), .ref (a1 18), .ref (a1 10), .int 0])), ((a1 25), .inr (4, [.ref (a1 44), .ref (a1 45), .ref (a1 46), .ref (a1 47), .ref (a1 48), .int (-9), .int 0, .int 0, .int 0, .int 0, .int 0, .int 0])), ((a1 26), .inr (4, [.ref (a1 49), .ref (a1 50), .ref (a1 51), .ref (a1 52), .ref (a1 53), .int (-9), .int 0, .int 0, .int 0, .int 0, .int 0, .int 0]))]) (As := [.int (xs 1), .int (xs 2)]) (rest := [.int (-1)]) hx hb hml hown hts hK hA hP hD hS (c_m_closed0 l D g h2 H.size a2 (xs 1) (xs 2)) kv_L_70 (⟨Nat.le_of_ble_eq_true rfl, Nat.le_of_ble_eq_true rfl⟩) (q0 := 0) (ci := 10) rfl rfl rfl [0, 1] [2, 3, 4] rfl rfl (by decide) hl.1 (Nat.le_of_ble_eq_true rfl) dL_law_572 (⟨Nat.le_of_ble_eq_true rfl, Nat.le_of_ble_eq_true rfl⟩) rfl (fun r3 _ H locs e4 _ hP hD hS => ?_)
  subst e4
  have hP : va_P D vwCl [(h1, .inr (9, [.ref (a1 0), .ref (a1 2), .ref (a1 5), .ref (a1 27), .ref (a1 28), .ref (a1 29), .ref (a1 30), .ref (a1 24), .ref (a1 31), .ref (a1 32), .ref (a1 25), .ref (a1 26), .ref (a1 33), .ref (a1 34), .ref (a1 18), .ref (a1 10), .int 0])), ((a1 25), .inr (4, [.ref (a1 44), .ref (a1 45), .ref (a1 46), .ref (a1 47), .ref (a1 48), .int (-9), .int 0, .int 0, .int 0, .int 0, .int 0, .int 0])), ((a1 26), .inr (4, [.ref (a1 49), .ref (a1 50), .ref (a1 51), .ref (a1 52), .ref (a1 53), .int (-9), .int 0, .int 0, .int 0, .int 0, .int 0, .int 0])), (h2, .inr (10, mF a2 (fun _ => 0))), ((a2 28), .inl (g 3, 2, .inl (fun _ => 0)))] H := hP
  have hD : va_D A [(h1, .inr (9, [.ref (a1 0), .ref (a1 2), .ref (a1 5), .ref (a1 27), .ref (a1 28), .ref (a1 29), .ref (a1 30), .ref (a1 24), .ref (a1 31), .ref (a1 32), .ref (a1 25), .ref (a1 26), .ref (a1 33), .ref (a1 34), .ref (a1 18), .ref (a1 10), .int 0])), ((a1 25), .inr (4, [.ref (a1 44), .ref (a1 45), .ref (a1 46), .ref (a1 47), .ref (a1 48), .int (-9), .int 0, .int 0, .int 0, .int 0, .int 0, .int 0])), ((a1 26), .inr (4, [.ref (a1 49), .ref (a1 50), .ref (a1 51), .ref (a1 52), .ref (a1 53), .int (-9), .int 0, .int 0, .int 0, .int 0, .int 0, .int 0])), (h2, .inr (10, mF a2 (fun _ => 0))), ((a2 28), .inl (g 3, 2, .inl (fun _ => 0)))] := hD
  refine lv_icmp_eq (tgt := 732) hx hb dL_law_575 (by decide) (fun _ => ?_) (fun h9 => absurd (by decide) h9)
  refine lv_iinc (v := 6) (lv' := [(3, .int 6), (2, .ref h2), (1, .ref h1), (0, .ref b)]) hx hb dL_law_732 hl (k := 0) rfl (by decide) (by decide) rfl (fun ls hl => ?_)
  refine lv_goto (tgt := 18) hx hb dL_law_735 (by decide) ?_
  refine lv_iload_n hx hb dL_law_18 rfl (lv_at hl 0 rfl) ?_
  refine lv_aload_n hx hb dL_law_19 rfl (lv_at hl 3 rfl) ?_
  refine va_slen hx hb hX hbl hbA hS dL_law_20 ?_
  refine lv_topi (nm_r (e' := 6) (by decide) ?_)
  refine lv_bipush (v := 6) hx hb dL_law_21 (by decide) ?_
  refine lv_isub hx hb dL_law_23 ?_
  refine lv_topi (nm_r (e' := 0) (by decide) ?_)
  refine lv_icmp_gt (tgt := 738) hx hb dL_law_24 (by decide) (fun _ => ?_) (fun h9 => absurd (by decide) h9)
  refine lv_iconst (v := 1) hx hb dL_law_738 (by decide) ?_
  refine va_forget (fun q hq => hAe _ (hS.2.2 q hq)) ?_
  refine W.widen (k := 600000) (n := 7302250) (Nat.le_of_ble_eq_true rfl) (Nat.le_of_ble_eq_true rfl) ?_
  exact lw_ret hx hb hr hlocks dL_law_739
theorem q1576 : Cond.methodLink RL 71 yX9_entered ∈ wsL_law := mT_6 (List.mem_of_getElem? (i := 50) rfl) rfl
theorem q1577 : Cond.instanceMethod yX9_entered ∈ wsL_law := mT_6 (List.mem_of_getElem? (i := 51) rfl) rfl
theorem q1578 : Cond.selects RX9 yX9_entered yX9_entered ∈ wsL_law := mT_6 (List.mem_of_getElem? (i := 52) rfl) rfl
theorem q1579 : Cond.code yX9_entered cX9_entered 3 (some .int) ∈ wsL_law := mT_6 (List.mem_of_getElem? (i := 53) rfl) rfl
theorem kv_L_71 : vz_cv RL 71 yX9_entered cX9_entered 3 (some .int) 2 := ⟨q1576, q1577, q1578, q2, q1579, by decide +kernel⟩
theorem q1581 : Cond.methodLink RL 74 yX10_entered ∈ wsL_law := mT_9 (List.mem_of_getElem? (i := 79) rfl) rfl
theorem q1582 : Cond.instanceMethod yX10_entered ∈ wsL_law := mT_9 (List.mem_of_getElem? (i := 80) rfl) rfl
theorem q1583 : Cond.selects RX10 yX10_entered yX10_entered ∈ wsL_law := mT_9 (List.mem_of_getElem? (i := 81) rfl) rfl
theorem q1584 : Cond.code yX10_entered cX10_entered 3 (some .int) ∈ wsL_law := mT_9 (List.mem_of_getElem? (i := 82) rfl) rfl
theorem kv_L_74 : vz_cv RL 74 yX10_entered cX10_entered 3 (some .int) 2 := ⟨q1581, q1582, q1583, q5, q1584, by decide +kernel⟩
theorem dL_law_580 : decode cL_law 580 = .ok (.aload_n 1, 1) := by decide +kernel
theorem dL_law_581 : decode cL_law 581 = .ok (.aload_n 0, 1) := by decide +kernel
theorem dL_law_582 : decode cL_law 582 = .ok (.iload_n 3, 1) := by decide +kernel
theorem dL_law_583 : decode cL_law 583 = .ok (.iconst 1, 1) := by decide +kernel
theorem dL_law_584 : decode cL_law 584 = .ok (.iadd, 1) := by decide +kernel
theorem dL_law_585 : decode cL_law 585 = .ok (.iaload, 1) := by decide +kernel
theorem dL_law_586 : decode cL_law 586 = .ok (.aload_n 0, 1) := by decide +kernel
theorem dL_law_587 : decode cL_law 587 = .ok (.iload_n 3, 1) := by decide +kernel
theorem dL_law_588 : decode cL_law 588 = .ok (.iconst 2, 1) := by decide +kernel
theorem dL_law_589 : decode cL_law 589 = .ok (.iadd, 1) := by decide +kernel
theorem dL_law_590 : decode cL_law 590 = .ok (.iaload, 1) := by decide +kernel
theorem dL_law_591 : decode cL_law 591 = .ok (.invokevirtual 71, 3) := by decide +kernel
theorem dL_law_594 : decode cL_law 594 = .ok (.aload_n 2, 1) := by decide +kernel
theorem dL_law_595 : decode cL_law 595 = .ok (.aload_n 0, 1) := by decide +kernel
theorem dL_law_596 : decode cL_law 596 = .ok (.iload_n 3, 1) := by decide +kernel
theorem dL_law_597 : decode cL_law 597 = .ok (.iconst 1, 1) := by decide +kernel
theorem dL_law_598 : decode cL_law 598 = .ok (.iadd, 1) := by decide +kernel
theorem dL_law_599 : decode cL_law 599 = .ok (.iaload, 1) := by decide +kernel
theorem dL_law_600 : decode cL_law 600 = .ok (.aload_n 0, 1) := by decide +kernel
theorem dL_law_601 : decode cL_law 601 = .ok (.iload_n 3, 1) := by decide +kernel
theorem dL_law_602 : decode cL_law 602 = .ok (.iconst 2, 1) := by decide +kernel
theorem dL_law_603 : decode cL_law 603 = .ok (.iadd, 1) := by decide +kernel
theorem dL_law_604 : decode cL_law 604 = .ok (.iaload, 1) := by decide +kernel
theorem dL_law_605 : decode cL_law 605 = .ok (.invokevirtual 74, 3) := by decide +kernel
theorem dL_law_608 : decode cL_law 608 = .ok (.if_icmp .eq 124, 3) := by decide +kernel
set_option maxHeartbeats 4000000 in
set_option maxRecDepth 100000 in
theorem law_op12 {p : Program} {e : Env} {s : State} {m : MethodId} {below : List Frame} {meth : Method} {c : Code} {l : Launch} {b : Nat} {xs : Nat → Int32} (C0 : lw_At p s m meth c b 6 xs) {D : va_G} {g : Nat → ClassId} {A : Nat → Prop} (hAe : ∀ q, A q → s.heap.size ≤ q) (hA : ∀ q : Nat, s.heap.size ≤ q → A q) (hK : va_K D vwCl (tyG g) s) {h1 h2 : Nat} {a1 a2 : Nat → Nat} {H : Heap} {locs : List Loc} {ls : Array Slot} (hP : va_P D vwCl [(h1, .inr (9, [.ref (a1 0), .ref (a1 2), .ref (a1 5), .ref (a1 27), .ref (a1 28), .ref (a1 29), .ref (a1 30), .ref (a1 24), .ref (a1 31), .ref (a1 32), .ref (a1 25), .ref (a1 26), .ref (a1 33), .ref (a1 34), .ref (a1 18), .ref (a1 10), .int 0])), tT (a1 0) (a1 1) (nI 1) (nI 1000) 0, tA g (a1 1) 1000 (fun _ => 0), ((a1 2), .inr (5, [.ref (a1 3), .int 0])), tT (a1 3) (a1 4) (nI 3) (nI 1001) 0, tA g (a1 4) 3003 (fun _ => 0), ((a1 5), .inr (3, [.ref (a1 3), .ref (a1 6), .ref (a1 7), .ref (a1 8), .ref (a1 10), .int 0, .int 0, .int 0, .int 0, .int (-9), .int 0, .int 0])), tT (a1 6) (a1 35) (nI 1) (nI 6) 0, tT (a1 7) (a1 36) (nI 1) (nI 6) 0, tT (a1 8) (a1 9) (nI 1) (nI 80) 0, tA g (a1 9) 80 (fun _ => 0), ((a1 10), .inr (2, [.ref (a1 11), .ref (a1 12), .ref (a1 13), .ref (a1 14), .ref (a1 16)])), tT (a1 11) (a1 37) (nI 12) (nI 80) 0, tT (a1 12) (a1 38) (nI 5) (nI 1000) 0, tT (a1 13) (a1 39) (nI 5) (nI 112) 0, tT (a1 14) (a1 15) (nI 1) (nI 16) 0, tA g (a1 15) 16 (fun _ => 0), tT (a1 16) (a1 17) (nI 2) (nI 8) 0, tA g (a1 17) 16 (fun _ => 0), ((a1 18), .inr (2, [.ref (a1 19), .ref (a1 22), .ref (a1 20), .ref (a1 23), .ref (a1 21)])), tT (a1 19) (a1 40) (nI 12) (nI 80) 0, tT (a1 20) (a1 41) (nI 5) (nI 112) 0, tT (a1 21) (a1 42) (nI 2) (nI 8) 0, tT (a1 24) (a1 43) (nI 4) (nI 30) 0, ((a1 25), .inr (4, [.ref (a1 44), .ref (a1 45), .ref (a1 46), .ref (a1 47), .ref (a1 48), .int (-9), .int 0, .int 0, .int 0, .int 0, .int 0, .int 0])), ((a1 26), .inr (4, [.ref (a1 49), .ref (a1 50), .ref (a1 51), .ref (a1 52), .ref (a1 53), .int (-9), .int 0, .int 0, .int 0, .int 0, .int 0, .int 0])), (h2, .inr (10, mF a2 (fun _ => 0))), ((a2 1), .inl (g 1, 1000, .inl (fun _ => 0))), tA g (a2 3) 2 (fun _ => 0), tA g (a2 10) 2 (fun _ => 0), tA g (a2 12) 2 (fun _ => 0), tA g (a2 14) 2 (fun _ => 0), tA g (a2 13) 32 (fun _ => 0), ((a2 28), .inl (g 3, 2, .inl (fun _ => 0)))] H) (hD : va_D A [(h1, .inr (9, [.ref (a1 0), .ref (a1 2), .ref (a1 5), .ref (a1 27), .ref (a1 28), .ref (a1 29), .ref (a1 30), .ref (a1 24), .ref (a1 31), .ref (a1 32), .ref (a1 25), .ref (a1 26), .ref (a1 33), .ref (a1 34), .ref (a1 18), .ref (a1 10), .int 0])), tT (a1 0) (a1 1) (nI 1) (nI 1000) 0, tA g (a1 1) 1000 (fun _ => 0), ((a1 2), .inr (5, [.ref (a1 3), .int 0])), tT (a1 3) (a1 4) (nI 3) (nI 1001) 0, tA g (a1 4) 3003 (fun _ => 0), ((a1 5), .inr (3, [.ref (a1 3), .ref (a1 6), .ref (a1 7), .ref (a1 8), .ref (a1 10), .int 0, .int 0, .int 0, .int 0, .int (-9), .int 0, .int 0])), tT (a1 6) (a1 35) (nI 1) (nI 6) 0, tT (a1 7) (a1 36) (nI 1) (nI 6) 0, tT (a1 8) (a1 9) (nI 1) (nI 80) 0, tA g (a1 9) 80 (fun _ => 0), ((a1 10), .inr (2, [.ref (a1 11), .ref (a1 12), .ref (a1 13), .ref (a1 14), .ref (a1 16)])), tT (a1 11) (a1 37) (nI 12) (nI 80) 0, tT (a1 12) (a1 38) (nI 5) (nI 1000) 0, tT (a1 13) (a1 39) (nI 5) (nI 112) 0, tT (a1 14) (a1 15) (nI 1) (nI 16) 0, tA g (a1 15) 16 (fun _ => 0), tT (a1 16) (a1 17) (nI 2) (nI 8) 0, tA g (a1 17) 16 (fun _ => 0), ((a1 18), .inr (2, [.ref (a1 19), .ref (a1 22), .ref (a1 20), .ref (a1 23), .ref (a1 21)])), tT (a1 19) (a1 40) (nI 12) (nI 80) 0, tT (a1 20) (a1 41) (nI 5) (nI 112) 0, tT (a1 21) (a1 42) (nI 2) (nI 8) 0, tT (a1 24) (a1 43) (nI 4) (nI 30) 0, ((a1 25), .inr (4, [.ref (a1 44), .ref (a1 45), .ref (a1 46), .ref (a1 47), .ref (a1 48), .int (-9), .int 0, .int 0, .int 0, .int 0, .int 0, .int 0])), ((a1 26), .inr (4, [.ref (a1 49), .ref (a1 50), .ref (a1 51), .ref (a1 52), .ref (a1 53), .int (-9), .int 0, .int 0, .int 0, .int 0, .int 0, .int 0])), (h2, .inr (10, mF a2 (fun _ => 0))), ((a2 1), .inl (g 1, 1000, .inl (fun _ => 0))), tA g (a2 3) 2 (fun _ => 0), tA g (a2 10) 2 (fun _ => 0), tA g (a2 12) 2 (fun _ => 0), tA g (a2 14) 2 (fun _ => 0), tA g (a2 13) 32 (fun _ => 0), ((a2 28), .inl (g 3, 2, .inl (fun _ => 0)))]) (hS : va_S A s.heap H locs) (hl : lv_has ls 4 [(3, .int 0), (2, .ref h2), (1, .ref h1), (0, .ref b)]) : W p l e room_1 s m #[Value.ref b] below meth c H locs 168 110802 (lw_Z below #[Value.ref b] s) (F0 m 580 ls []) := by
  obtain ⟨hx, hb, hr, hml, hown, hts0, hX, hbl, hlocks, -⟩ := id C0
  have hts : ∀ w ∈ wsL_law, w.before #[Value.ref b] s = true := fun w h => hts0 w (wsL_law_in w h)
  have hbA : ¬ A b := fun z => absurd (hAe _ z) (Nat.not_le.mpr hbl)
  have hP : va_P D vwCl [(h1, .inr (9, [.ref (a1 0), .ref (a1 2), .ref (a1 5), .ref (a1 27), .ref (a1 28), .ref (a1 29), .ref (a1 30), .ref (a1 24), .ref (a1 31), .ref (a1 32), .ref (a1 25), .ref (a1 26), .ref (a1 33), .ref (a1 34), .ref (a1 18), .ref (a1 10), .int 0])), ((a1 25), .inr (4, [.ref (a1 44), .ref (a1 45), .ref (a1 46), .ref (a1 47), .ref (a1 48), .int (-9), .int 0, .int 0, .int 0, .int 0, .int 0, .int 0])), ((a1 26), .inr (4, [.ref (a1 49), .ref (a1 50), .ref (a1 51), .ref (a1 52), .ref (a1 53), .int (-9), .int 0, .int 0, .int 0, .int 0, .int 0, .int 0])), (h2, .inr (10, mF a2 (fun _ => 0))), ((a2 28), .inl (g 3, 2, .inl (fun _ => 0)))] H := vz_pickP hP [0, 24, 25, 26, 33] rfl
  have hD : va_D A [(h1, .inr (9, [.ref (a1 0), .ref (a1 2), .ref (a1 5), .ref (a1 27), .ref (a1 28), .ref (a1 29), .ref (a1 30), .ref (a1 24), .ref (a1 31), .ref (a1 32), .ref (a1 25), .ref (a1 26), .ref (a1 33), .ref (a1 34), .ref (a1 18), .ref (a1 10), .int 0])), ((a1 25), .inr (4, [.ref (a1 44), .ref (a1 45), .ref (a1 46), .ref (a1 47), .ref (a1 48), .int (-9), .int 0, .int 0, .int 0, .int 0, .int 0, .int 0])), ((a1 26), .inr (4, [.ref (a1 49), .ref (a1 50), .ref (a1 51), .ref (a1 52), .ref (a1 53), .int (-9), .int 0, .int 0, .int 0, .int 0, .int 0, .int 0])), (h2, .inr (10, mF a2 (fun _ => 0))), ((a2 28), .inl (g 3, 2, .inl (fun _ => 0)))] := hD.sub [0, 24, 25, 26, 33] (by decide) rfl
  refine lv_aload_n hx hb dL_law_580 rfl (lv_at hl 2 rfl) ?_
  refine lv_aload_n hx hb dL_law_581 rfl (lv_at hl 3 rfl) ?_
  refine lv_iload_n hx hb dL_law_582 rfl (lv_at hl 0 rfl) ?_
  refine lv_iconst (v := 1) hx hb dL_law_583 (by decide) ?_
  refine lv_iadd hx hb dL_law_584 ?_
  refine lv_topi (nm_r (e' := 1) (by decide) ?_)
  refine va_sld hx hb hX hbl hbA hS (vp_in_c (by decide)) dL_law_585 ?_
  refine lv_aload_n hx hb dL_law_586 rfl (lv_at hl 3 rfl) ?_
  refine lv_iload_n hx hb dL_law_587 rfl (lv_at hl 0 rfl) ?_
  refine lv_iconst (v := 2) hx hb dL_law_588 (by decide) ?_
  refine lv_iadd hx hb dL_law_589 ?_
  refine lv_topi (nm_r (e' := 2) (by decide) ?_)
  refine va_sld hx hb hX hbl hbA hS (vp_in_c (by decide)) dL_law_590 ?_
  refine vz_Vi (wr := [(h2, .inr (10, mF a2 (fun _ => 0))), ((a2 28), .inl (g 3, 2, .inl (fun _ => 0)))]) (As := [.int (xs 1), .int (xs 2)]) (rest := []) hx hb hml hown hts hK hA hP hD hS (c_A_entered0 l D g h1 H.size a1 (xs 1) (xs 2)) kv_L_71 (⟨Nat.le_of_ble_eq_true rfl, Nat.le_of_ble_eq_true rfl⟩) (q0 := 0) (ci := 9) rfl rfl rfl [0, 1, 2] [3, 4] rfl rfl (by decide) hl.1 (Nat.le_of_ble_eq_true rfl) dL_law_591 (⟨Nat.le_of_ble_eq_true rfl, Nat.le_of_ble_eq_true rfl⟩) rfl (fun r1 _ H locs e2 _ hP hD hS => ?_)
  subst e2
  have hP : va_P D vwCl [(h2, .inr (10, mF a2 (fun _ => 0))), ((a2 28), .inl (g 3, 2, .inl (fun _ => 0))), (h1, .inr (9, [.ref (a1 0), .ref (a1 2), .ref (a1 5), .ref (a1 27), .ref (a1 28), .ref (a1 29), .ref (a1 30), .ref (a1 24), .ref (a1 31), .ref (a1 32), .ref (a1 25), .ref (a1 26), .ref (a1 33), .ref (a1 34), .ref (a1 18), .ref (a1 10), .int 0])), ((a1 25), .inr (4, [.ref (a1 44), .ref (a1 45), .ref (a1 46), .ref (a1 47), .ref (a1 48), .int (-9), .int 0, .int 0, .int 0, .int 0, .int 0, .int 0])), ((a1 26), .inr (4, [.ref (a1 49), .ref (a1 50), .ref (a1 51), .ref (a1 52), .ref (a1 53), .int (-9), .int 0, .int 0, .int 0, .int 0, .int 0, .int 0]))] H := hP
  have hD : va_D A [(h2, .inr (10, mF a2 (fun _ => 0))), ((a2 28), .inl (g 3, 2, .inl (fun _ => 0))), (h1, .inr (9, [.ref (a1 0), .ref (a1 2), .ref (a1 5), .ref (a1 27), .ref (a1 28), .ref (a1 29), .ref (a1 30), .ref (a1 24), .ref (a1 31), .ref (a1 32), .ref (a1 25), .ref (a1 26), .ref (a1 33), .ref (a1 34), .ref (a1 18), .ref (a1 10), .int 0])), ((a1 25), .inr (4, [.ref (a1 44), .ref (a1 45), .ref (a1 46), .ref (a1 47), .ref (a1 48), .int (-9), .int 0, .int 0, .int 0, .int 0, .int 0, .int 0])), ((a1 26), .inr (4, [.ref (a1 49), .ref (a1 50), .ref (a1 51), .ref (a1 52), .ref (a1 53), .int (-9), .int 0, .int 0, .int 0, .int 0, .int 0, .int 0]))] := hD
  refine lv_aload_n hx hb dL_law_594 rfl (lv_at hl 1 rfl) ?_
  refine lv_aload_n hx hb dL_law_595 rfl (lv_at hl 3 rfl) ?_
  refine lv_iload_n hx hb dL_law_596 rfl (lv_at hl 0 rfl) ?_
  refine lv_iconst (v := 1) hx hb dL_law_597 (by decide) ?_
  refine lv_iadd hx hb dL_law_598 ?_
  refine lv_topi (nm_r (e' := 1) (by decide) ?_)
  refine va_sld hx hb hX hbl hbA hS (vp_in_c (by decide)) dL_law_599 ?_
  refine lv_aload_n hx hb dL_law_600 rfl (lv_at hl 3 rfl) ?_
  refine lv_iload_n hx hb dL_law_601 rfl (lv_at hl 0 rfl) ?_
  refine lv_iconst (v := 2) hx hb dL_law_602 (by decide) ?_
  refine lv_iadd hx hb dL_law_603 ?_
  refine lv_topi (nm_r (e' := 2) (by decide) ?_)
  refine va_sld hx hb hX hbl hbA hS (vp_in_c (by decide)) dL_law_604 ?_
  refine vz_Vi (wr := [(h1, .inr (9, [.ref (a1 0), .ref (a1 2), .ref (a1 5), .ref (a1 27), .ref (a1 28), .ref (a1 29), .ref (a1 30), .ref (a1 24), .ref (a1 31), .ref (a1 32), .ref (a1 25), .ref (a1 26), .ref (a1 33), .ref (a1 34), .ref (a1 18), .ref (a1 10), .int 0])), ((a1 25), .inr (4, [.ref (a1 44), .ref (a1 45), .ref (a1 46), .ref (a1 47), .ref (a1 48), .int (-9), .int 0, .int 0, .int 0, .int 0, .int 0, .int 0])), ((a1 26), .inr (4, [.ref (a1 49), .ref (a1 50), .ref (a1 51), .ref (a1 52), .ref (a1 53), .int (-9), .int 0, .int 0, .int 0, .int 0, .int 0, .int 0]))]) (As := [.int (xs 1), .int (xs 2)]) (rest := [.int (-1)]) hx hb hml hown hts hK hA hP hD hS (c_m_entered0 l D g h2 H.size a2 (xs 1) (xs 2)) kv_L_74 (⟨Nat.le_of_ble_eq_true rfl, Nat.le_of_ble_eq_true rfl⟩) (q0 := 0) (ci := 10) rfl rfl rfl [0, 1] [2, 3, 4] rfl rfl (by decide) hl.1 (Nat.le_of_ble_eq_true rfl) dL_law_605 (⟨Nat.le_of_ble_eq_true rfl, Nat.le_of_ble_eq_true rfl⟩) rfl (fun r3 _ H locs e4 _ hP hD hS => ?_)
  subst e4
  have hP : va_P D vwCl [(h1, .inr (9, [.ref (a1 0), .ref (a1 2), .ref (a1 5), .ref (a1 27), .ref (a1 28), .ref (a1 29), .ref (a1 30), .ref (a1 24), .ref (a1 31), .ref (a1 32), .ref (a1 25), .ref (a1 26), .ref (a1 33), .ref (a1 34), .ref (a1 18), .ref (a1 10), .int 0])), ((a1 25), .inr (4, [.ref (a1 44), .ref (a1 45), .ref (a1 46), .ref (a1 47), .ref (a1 48), .int (-9), .int 0, .int 0, .int 0, .int 0, .int 0, .int 0])), ((a1 26), .inr (4, [.ref (a1 49), .ref (a1 50), .ref (a1 51), .ref (a1 52), .ref (a1 53), .int (-9), .int 0, .int 0, .int 0, .int 0, .int 0, .int 0])), (h2, .inr (10, mF a2 (fun _ => 0))), ((a2 28), .inl (g 3, 2, .inl (fun _ => 0)))] H := hP
  have hD : va_D A [(h1, .inr (9, [.ref (a1 0), .ref (a1 2), .ref (a1 5), .ref (a1 27), .ref (a1 28), .ref (a1 29), .ref (a1 30), .ref (a1 24), .ref (a1 31), .ref (a1 32), .ref (a1 25), .ref (a1 26), .ref (a1 33), .ref (a1 34), .ref (a1 18), .ref (a1 10), .int 0])), ((a1 25), .inr (4, [.ref (a1 44), .ref (a1 45), .ref (a1 46), .ref (a1 47), .ref (a1 48), .int (-9), .int 0, .int 0, .int 0, .int 0, .int 0, .int 0])), ((a1 26), .inr (4, [.ref (a1 49), .ref (a1 50), .ref (a1 51), .ref (a1 52), .ref (a1 53), .int (-9), .int 0, .int 0, .int 0, .int 0, .int 0, .int 0])), (h2, .inr (10, mF a2 (fun _ => 0))), ((a2 28), .inl (g 3, 2, .inl (fun _ => 0)))] := hD
  refine lv_icmp_eq (tgt := 732) hx hb dL_law_608 (by decide) (fun _ => ?_) (fun h9 => absurd (by decide) h9)
  refine lv_iinc (v := 6) (lv' := [(3, .int 6), (2, .ref h2), (1, .ref h1), (0, .ref b)]) hx hb dL_law_732 hl (k := 0) rfl (by decide) (by decide) rfl (fun ls hl => ?_)
  refine lv_goto (tgt := 18) hx hb dL_law_735 (by decide) ?_
  refine lv_iload_n hx hb dL_law_18 rfl (lv_at hl 0 rfl) ?_
  refine lv_aload_n hx hb dL_law_19 rfl (lv_at hl 3 rfl) ?_
  refine va_slen hx hb hX hbl hbA hS dL_law_20 ?_
  refine lv_topi (nm_r (e' := 6) (by decide) ?_)
  refine lv_bipush (v := 6) hx hb dL_law_21 (by decide) ?_
  refine lv_isub hx hb dL_law_23 ?_
  refine lv_topi (nm_r (e' := 0) (by decide) ?_)
  refine lv_icmp_gt (tgt := 738) hx hb dL_law_24 (by decide) (fun _ => ?_) (fun h9 => absurd (by decide) h9)
  refine lv_iconst (v := 1) hx hb dL_law_738 (by decide) ?_
  refine va_forget (fun q hq => hAe _ (hS.2.2 q hq)) ?_
  refine W.widen (k := 600000) (n := 7302250) (Nat.le_of_ble_eq_true rfl) (Nat.le_of_ble_eq_true rfl) ?_
  exact lw_ret hx hb hr hlocks dL_law_739
theorem q1585 : Cond.methodLink RL 75 yX9_handler ∈ wsL_law := mT_6 (List.mem_of_getElem? (i := 54) rfl) rfl
theorem q1586 : Cond.instanceMethod yX9_handler ∈ wsL_law := mT_6 (List.mem_of_getElem? (i := 55) rfl) rfl
theorem q1587 : Cond.selects RX9 yX9_handler yX9_handler ∈ wsL_law := mT_6 (List.mem_of_getElem? (i := 56) rfl) rfl
theorem q1588 : Cond.code yX9_handler cX9_handler 3 (some .int) ∈ wsL_law := mT_6 (List.mem_of_getElem? (i := 57) rfl) rfl
theorem kv_L_75 : vz_cv RL 75 yX9_handler cX9_handler 3 (some .int) 2 := ⟨q1585, q1586, q1587, q2, q1588, by decide +kernel⟩
theorem q1589 : Cond.methodLink RL 78 yX10_handler ∈ wsL_law := mT_8 (List.mem_of_getElem? (i := 151) rfl) rfl
theorem q1590 : Cond.instanceMethod yX10_handler ∈ wsL_law := mT_8 (List.mem_of_getElem? (i := 152) rfl) rfl
theorem q1591 : Cond.selects RX10 yX10_handler yX10_handler ∈ wsL_law := mT_8 (List.mem_of_getElem? (i := 153) rfl) rfl
theorem q1592 : Cond.code yX10_handler cX10_handler 6 (some .int) ∈ wsL_law := mT_8 (List.mem_of_getElem? (i := 154) rfl) rfl
theorem kv_L_78 : vz_cv RL 78 yX10_handler cX10_handler 6 (some .int) 2 := ⟨q1589, q1590, q1591, q5, q1592, by decide +kernel⟩
theorem dL_law_613 : decode cL_law 613 = .ok (.aload_n 1, 1) := by decide +kernel
theorem dL_law_614 : decode cL_law 614 = .ok (.aload_n 0, 1) := by decide +kernel
theorem dL_law_615 : decode cL_law 615 = .ok (.iload_n 3, 1) := by decide +kernel
theorem dL_law_616 : decode cL_law 616 = .ok (.iconst 1, 1) := by decide +kernel
theorem dL_law_617 : decode cL_law 617 = .ok (.iadd, 1) := by decide +kernel
theorem dL_law_618 : decode cL_law 618 = .ok (.iaload, 1) := by decide +kernel
theorem dL_law_619 : decode cL_law 619 = .ok (.aload_n 0, 1) := by decide +kernel
theorem dL_law_620 : decode cL_law 620 = .ok (.iload_n 3, 1) := by decide +kernel
theorem dL_law_621 : decode cL_law 621 = .ok (.iconst 2, 1) := by decide +kernel
theorem dL_law_622 : decode cL_law 622 = .ok (.iadd, 1) := by decide +kernel
theorem dL_law_623 : decode cL_law 623 = .ok (.iaload, 1) := by decide +kernel
theorem dL_law_624 : decode cL_law 624 = .ok (.invokevirtual 75, 3) := by decide +kernel
theorem dL_law_627 : decode cL_law 627 = .ok (.aload_n 2, 1) := by decide +kernel
theorem dL_law_628 : decode cL_law 628 = .ok (.aload_n 0, 1) := by decide +kernel
theorem dL_law_629 : decode cL_law 629 = .ok (.iload_n 3, 1) := by decide +kernel
theorem dL_law_630 : decode cL_law 630 = .ok (.iconst 1, 1) := by decide +kernel
theorem dL_law_631 : decode cL_law 631 = .ok (.iadd, 1) := by decide +kernel
theorem dL_law_632 : decode cL_law 632 = .ok (.iaload, 1) := by decide +kernel
theorem dL_law_633 : decode cL_law 633 = .ok (.aload_n 0, 1) := by decide +kernel
theorem dL_law_634 : decode cL_law 634 = .ok (.iload_n 3, 1) := by decide +kernel
theorem dL_law_635 : decode cL_law 635 = .ok (.iconst 2, 1) := by decide +kernel
theorem dL_law_636 : decode cL_law 636 = .ok (.iadd, 1) := by decide +kernel
theorem dL_law_637 : decode cL_law 637 = .ok (.iaload, 1) := by decide +kernel
theorem dL_law_638 : decode cL_law 638 = .ok (.invokevirtual 78, 3) := by decide +kernel
theorem dL_law_641 : decode cL_law 641 = .ok (.if_icmp .eq 91, 3) := by decide +kernel
set_option maxHeartbeats 4000000 in
set_option maxRecDepth 100000 in
theorem law_op13 {p : Program} {e : Env} {s : State} {m : MethodId} {below : List Frame} {meth : Method} {c : Code} {l : Launch} {b : Nat} {xs : Nat → Int32} (C0 : lw_At p s m meth c b 6 xs) {D : va_G} {g : Nat → ClassId} {A : Nat → Prop} (hAe : ∀ q, A q → s.heap.size ≤ q) (hA : ∀ q : Nat, s.heap.size ≤ q → A q) (hK : va_K D vwCl (tyG g) s) {h1 h2 : Nat} {a1 a2 : Nat → Nat} {H : Heap} {locs : List Loc} {ls : Array Slot} (hP : va_P D vwCl [(h1, .inr (9, [.ref (a1 0), .ref (a1 2), .ref (a1 5), .ref (a1 27), .ref (a1 28), .ref (a1 29), .ref (a1 30), .ref (a1 24), .ref (a1 31), .ref (a1 32), .ref (a1 25), .ref (a1 26), .ref (a1 33), .ref (a1 34), .ref (a1 18), .ref (a1 10), .int 0])), tT (a1 0) (a1 1) (nI 1) (nI 1000) 0, tA g (a1 1) 1000 (fun _ => 0), ((a1 2), .inr (5, [.ref (a1 3), .int 0])), tT (a1 3) (a1 4) (nI 3) (nI 1001) 0, tA g (a1 4) 3003 (fun _ => 0), ((a1 5), .inr (3, [.ref (a1 3), .ref (a1 6), .ref (a1 7), .ref (a1 8), .ref (a1 10), .int 0, .int 0, .int 0, .int 0, .int (-9), .int 0, .int 0])), tT (a1 6) (a1 35) (nI 1) (nI 6) 0, tT (a1 7) (a1 36) (nI 1) (nI 6) 0, tT (a1 8) (a1 9) (nI 1) (nI 80) 0, tA g (a1 9) 80 (fun _ => 0), ((a1 10), .inr (2, [.ref (a1 11), .ref (a1 12), .ref (a1 13), .ref (a1 14), .ref (a1 16)])), tT (a1 11) (a1 37) (nI 12) (nI 80) 0, tT (a1 12) (a1 38) (nI 5) (nI 1000) 0, tT (a1 13) (a1 39) (nI 5) (nI 112) 0, tT (a1 14) (a1 15) (nI 1) (nI 16) 0, tA g (a1 15) 16 (fun _ => 0), tT (a1 16) (a1 17) (nI 2) (nI 8) 0, tA g (a1 17) 16 (fun _ => 0), ((a1 18), .inr (2, [.ref (a1 19), .ref (a1 22), .ref (a1 20), .ref (a1 23), .ref (a1 21)])), tT (a1 19) (a1 40) (nI 12) (nI 80) 0, tT (a1 20) (a1 41) (nI 5) (nI 112) 0, tT (a1 21) (a1 42) (nI 2) (nI 8) 0, tT (a1 24) (a1 43) (nI 4) (nI 30) 0, ((a1 25), .inr (4, [.ref (a1 44), .ref (a1 45), .ref (a1 46), .ref (a1 47), .ref (a1 48), .int (-9), .int 0, .int 0, .int 0, .int 0, .int 0, .int 0])), ((a1 26), .inr (4, [.ref (a1 49), .ref (a1 50), .ref (a1 51), .ref (a1 52), .ref (a1 53), .int (-9), .int 0, .int 0, .int 0, .int 0, .int 0, .int 0])), (h2, .inr (10, mF a2 (fun _ => 0))), ((a2 1), .inl (g 1, 1000, .inl (fun _ => 0))), tA g (a2 3) 2 (fun _ => 0), tA g (a2 10) 2 (fun _ => 0), tA g (a2 12) 2 (fun _ => 0), tA g (a2 14) 2 (fun _ => 0), tA g (a2 13) 32 (fun _ => 0), ((a2 28), .inl (g 3, 2, .inl (fun _ => 0)))] H) (hD : va_D A [(h1, .inr (9, [.ref (a1 0), .ref (a1 2), .ref (a1 5), .ref (a1 27), .ref (a1 28), .ref (a1 29), .ref (a1 30), .ref (a1 24), .ref (a1 31), .ref (a1 32), .ref (a1 25), .ref (a1 26), .ref (a1 33), .ref (a1 34), .ref (a1 18), .ref (a1 10), .int 0])), tT (a1 0) (a1 1) (nI 1) (nI 1000) 0, tA g (a1 1) 1000 (fun _ => 0), ((a1 2), .inr (5, [.ref (a1 3), .int 0])), tT (a1 3) (a1 4) (nI 3) (nI 1001) 0, tA g (a1 4) 3003 (fun _ => 0), ((a1 5), .inr (3, [.ref (a1 3), .ref (a1 6), .ref (a1 7), .ref (a1 8), .ref (a1 10), .int 0, .int 0, .int 0, .int 0, .int (-9), .int 0, .int 0])), tT (a1 6) (a1 35) (nI 1) (nI 6) 0, tT (a1 7) (a1 36) (nI 1) (nI 6) 0, tT (a1 8) (a1 9) (nI 1) (nI 80) 0, tA g (a1 9) 80 (fun _ => 0), ((a1 10), .inr (2, [.ref (a1 11), .ref (a1 12), .ref (a1 13), .ref (a1 14), .ref (a1 16)])), tT (a1 11) (a1 37) (nI 12) (nI 80) 0, tT (a1 12) (a1 38) (nI 5) (nI 1000) 0, tT (a1 13) (a1 39) (nI 5) (nI 112) 0, tT (a1 14) (a1 15) (nI 1) (nI 16) 0, tA g (a1 15) 16 (fun _ => 0), tT (a1 16) (a1 17) (nI 2) (nI 8) 0, tA g (a1 17) 16 (fun _ => 0), ((a1 18), .inr (2, [.ref (a1 19), .ref (a1 22), .ref (a1 20), .ref (a1 23), .ref (a1 21)])), tT (a1 19) (a1 40) (nI 12) (nI 80) 0, tT (a1 20) (a1 41) (nI 5) (nI 112) 0, tT (a1 21) (a1 42) (nI 2) (nI 8) 0, tT (a1 24) (a1 43) (nI 4) (nI 30) 0, ((a1 25), .inr (4, [.ref (a1 44), .ref (a1 45), .ref (a1 46), .ref (a1 47), .ref (a1 48), .int (-9), .int 0, .int 0, .int 0, .int 0, .int 0, .int 0])), ((a1 26), .inr (4, [.ref (a1 49), .ref (a1 50), .ref (a1 51), .ref (a1 52), .ref (a1 53), .int (-9), .int 0, .int 0, .int 0, .int 0, .int 0, .int 0])), (h2, .inr (10, mF a2 (fun _ => 0))), ((a2 1), .inl (g 1, 1000, .inl (fun _ => 0))), tA g (a2 3) 2 (fun _ => 0), tA g (a2 10) 2 (fun _ => 0), tA g (a2 12) 2 (fun _ => 0), tA g (a2 14) 2 (fun _ => 0), tA g (a2 13) 32 (fun _ => 0), ((a2 28), .inl (g 3, 2, .inl (fun _ => 0)))]) (hS : va_S A s.heap H locs) (hl : lv_has ls 4 [(3, .int 0), (2, .ref h2), (1, .ref h1), (0, .ref b)]) : W p l e room_1 s m #[Value.ref b] below meth c H locs 168 110802 (lw_Z below #[Value.ref b] s) (F0 m 613 ls []) := by
  obtain ⟨hx, hb, hr, hml, hown, hts0, hX, hbl, hlocks, -⟩ := id C0
  have hts : ∀ w ∈ wsL_law, w.before #[Value.ref b] s = true := fun w h => hts0 w (wsL_law_in w h)
  have hbA : ¬ A b := fun z => absurd (hAe _ z) (Nat.not_le.mpr hbl)
  have hP : va_P D vwCl [(h1, .inr (9, [.ref (a1 0), .ref (a1 2), .ref (a1 5), .ref (a1 27), .ref (a1 28), .ref (a1 29), .ref (a1 30), .ref (a1 24), .ref (a1 31), .ref (a1 32), .ref (a1 25), .ref (a1 26), .ref (a1 33), .ref (a1 34), .ref (a1 18), .ref (a1 10), .int 0])), ((a1 18), .inr (2, [.ref (a1 19), .ref (a1 22), .ref (a1 20), .ref (a1 23), .ref (a1 21)])), tT (a1 20) (a1 41) (nI 5) (nI 112) 0, (h2, .inr (10, mF a2 (fun _ => 0)))] H := vz_pickP hP [0, 19, 21, 26] rfl
  have hD : va_D A [(h1, .inr (9, [.ref (a1 0), .ref (a1 2), .ref (a1 5), .ref (a1 27), .ref (a1 28), .ref (a1 29), .ref (a1 30), .ref (a1 24), .ref (a1 31), .ref (a1 32), .ref (a1 25), .ref (a1 26), .ref (a1 33), .ref (a1 34), .ref (a1 18), .ref (a1 10), .int 0])), ((a1 18), .inr (2, [.ref (a1 19), .ref (a1 22), .ref (a1 20), .ref (a1 23), .ref (a1 21)])), tT (a1 20) (a1 41) (nI 5) (nI 112) 0, (h2, .inr (10, mF a2 (fun _ => 0)))] := hD.sub [0, 19, 21, 26] (by decide) rfl
  refine lv_aload_n hx hb dL_law_613 rfl (lv_at hl 2 rfl) ?_
  refine lv_aload_n hx hb dL_law_614 rfl (lv_at hl 3 rfl) ?_
  refine lv_iload_n hx hb dL_law_615 rfl (lv_at hl 0 rfl) ?_
  refine lv_iconst (v := 1) hx hb dL_law_616 (by decide) ?_
  refine lv_iadd hx hb dL_law_617 ?_
  refine lv_topi (nm_r (e' := 1) (by decide) ?_)
  refine va_sld hx hb hX hbl hbA hS (vp_in_c (by decide)) dL_law_618 ?_
  refine lv_aload_n hx hb dL_law_619 rfl (lv_at hl 3 rfl) ?_
  refine lv_iload_n hx hb dL_law_620 rfl (lv_at hl 0 rfl) ?_
  refine lv_iconst (v := 2) hx hb dL_law_621 (by decide) ?_
  refine lv_iadd hx hb dL_law_622 ?_
  refine lv_topi (nm_r (e' := 2) (by decide) ?_)
  refine va_sld hx hb hX hbl hbA hS (vp_in_c (by decide)) dL_law_623 ?_
  refine vz_Vi (wr := [(h2, .inr (10, mF a2 (fun _ => 0)))]) (As := [.int (xs 1), .int (xs 2)]) (rest := []) hx hb hml hown hts hK hA hP hD hS (c_A_handler0 l D g h1 H.size a1 (xs 1) (xs 2)) kv_L_75 (⟨Nat.le_of_ble_eq_true rfl, Nat.le_of_ble_eq_true rfl⟩) (q0 := 0) (ci := 9) rfl rfl rfl [0, 1, 2] [3] rfl rfl (by decide) hl.1 (Nat.le_of_ble_eq_true rfl) dL_law_624 (⟨Nat.le_of_ble_eq_true rfl, Nat.le_of_ble_eq_true rfl⟩) rfl (fun r1 _ H locs e2 _ hP hD hS => ?_)
  subst e2
  have hP : va_P D vwCl [(h2, .inr (10, mF a2 (fun _ => 0))), (h1, .inr (9, [.ref (a1 0), .ref (a1 2), .ref (a1 5), .ref (a1 27), .ref (a1 28), .ref (a1 29), .ref (a1 30), .ref (a1 24), .ref (a1 31), .ref (a1 32), .ref (a1 25), .ref (a1 26), .ref (a1 33), .ref (a1 34), .ref (a1 18), .ref (a1 10), .int 0])), ((a1 18), .inr (2, [.ref (a1 19), .ref (a1 22), .ref (a1 20), .ref (a1 23), .ref (a1 21)])), tT (a1 20) (a1 41) (nI 5) (nI 112) 0] H := hP
  have hD : va_D A [(h2, .inr (10, mF a2 (fun _ => 0))), (h1, .inr (9, [.ref (a1 0), .ref (a1 2), .ref (a1 5), .ref (a1 27), .ref (a1 28), .ref (a1 29), .ref (a1 30), .ref (a1 24), .ref (a1 31), .ref (a1 32), .ref (a1 25), .ref (a1 26), .ref (a1 33), .ref (a1 34), .ref (a1 18), .ref (a1 10), .int 0])), ((a1 18), .inr (2, [.ref (a1 19), .ref (a1 22), .ref (a1 20), .ref (a1 23), .ref (a1 21)])), tT (a1 20) (a1 41) (nI 5) (nI 112) 0] := hD
  refine lv_aload_n hx hb dL_law_627 rfl (lv_at hl 1 rfl) ?_
  refine lv_aload_n hx hb dL_law_628 rfl (lv_at hl 3 rfl) ?_
  refine lv_iload_n hx hb dL_law_629 rfl (lv_at hl 0 rfl) ?_
  refine lv_iconst (v := 1) hx hb dL_law_630 (by decide) ?_
  refine lv_iadd hx hb dL_law_631 ?_
  refine lv_topi (nm_r (e' := 1) (by decide) ?_)
  refine va_sld hx hb hX hbl hbA hS (vp_in_c (by decide)) dL_law_632 ?_
  refine lv_aload_n hx hb dL_law_633 rfl (lv_at hl 3 rfl) ?_
  refine lv_iload_n hx hb dL_law_634 rfl (lv_at hl 0 rfl) ?_
  refine lv_iconst (v := 2) hx hb dL_law_635 (by decide) ?_
  refine lv_iadd hx hb dL_law_636 ?_
  refine lv_topi (nm_r (e' := 2) (by decide) ?_)
  refine va_sld hx hb hX hbl hbA hS (vp_in_c (by decide)) dL_law_637 ?_
  refine vz_Vi (wr := [(h1, .inr (9, [.ref (a1 0), .ref (a1 2), .ref (a1 5), .ref (a1 27), .ref (a1 28), .ref (a1 29), .ref (a1 30), .ref (a1 24), .ref (a1 31), .ref (a1 32), .ref (a1 25), .ref (a1 26), .ref (a1 33), .ref (a1 34), .ref (a1 18), .ref (a1 10), .int 0])), ((a1 18), .inr (2, [.ref (a1 19), .ref (a1 22), .ref (a1 20), .ref (a1 23), .ref (a1 21)])), tT (a1 20) (a1 41) (nI 5) (nI 112) 0]) (As := [.int (xs 1), .int (xs 2)]) (rest := [.int (-1)]) hx hb hml hown hts hK hA hP hD hS (c_m_handler0 l D g h2 H.size a2 (xs 1) (xs 2)) kv_L_78 (⟨Nat.le_of_ble_eq_true rfl, Nat.le_of_ble_eq_true rfl⟩) (q0 := 0) (ci := 10) rfl rfl rfl [0] [1, 2, 3] rfl rfl (by decide) hl.1 (Nat.le_of_ble_eq_true rfl) dL_law_638 (⟨Nat.le_of_ble_eq_true rfl, Nat.le_of_ble_eq_true rfl⟩) rfl (fun r3 _ H locs e4 _ hP hD hS => ?_)
  subst e4
  have hP : va_P D vwCl [(h1, .inr (9, [.ref (a1 0), .ref (a1 2), .ref (a1 5), .ref (a1 27), .ref (a1 28), .ref (a1 29), .ref (a1 30), .ref (a1 24), .ref (a1 31), .ref (a1 32), .ref (a1 25), .ref (a1 26), .ref (a1 33), .ref (a1 34), .ref (a1 18), .ref (a1 10), .int 0])), ((a1 18), .inr (2, [.ref (a1 19), .ref (a1 22), .ref (a1 20), .ref (a1 23), .ref (a1 21)])), tT (a1 20) (a1 41) (nI 5) (nI 112) 0, (h2, .inr (10, mF a2 (fun _ => 0)))] H := hP
  have hD : va_D A [(h1, .inr (9, [.ref (a1 0), .ref (a1 2), .ref (a1 5), .ref (a1 27), .ref (a1 28), .ref (a1 29), .ref (a1 30), .ref (a1 24), .ref (a1 31), .ref (a1 32), .ref (a1 25), .ref (a1 26), .ref (a1 33), .ref (a1 34), .ref (a1 18), .ref (a1 10), .int 0])), ((a1 18), .inr (2, [.ref (a1 19), .ref (a1 22), .ref (a1 20), .ref (a1 23), .ref (a1 21)])), tT (a1 20) (a1 41) (nI 5) (nI 112) 0, (h2, .inr (10, mF a2 (fun _ => 0)))] := hD
  refine lv_icmp_eq (tgt := 732) hx hb dL_law_641 (by decide) (fun _ => ?_) (fun h9 => absurd (by decide) h9)
  refine lv_iinc (v := 6) (lv' := [(3, .int 6), (2, .ref h2), (1, .ref h1), (0, .ref b)]) hx hb dL_law_732 hl (k := 0) rfl (by decide) (by decide) rfl (fun ls hl => ?_)
  refine lv_goto (tgt := 18) hx hb dL_law_735 (by decide) ?_
  refine lv_iload_n hx hb dL_law_18 rfl (lv_at hl 0 rfl) ?_
  refine lv_aload_n hx hb dL_law_19 rfl (lv_at hl 3 rfl) ?_
  refine va_slen hx hb hX hbl hbA hS dL_law_20 ?_
  refine lv_topi (nm_r (e' := 6) (by decide) ?_)
  refine lv_bipush (v := 6) hx hb dL_law_21 (by decide) ?_
  refine lv_isub hx hb dL_law_23 ?_
  refine lv_topi (nm_r (e' := 0) (by decide) ?_)
  refine lv_icmp_gt (tgt := 738) hx hb dL_law_24 (by decide) (fun _ => ?_) (fun h9 => absurd (by decide) h9)
  refine lv_iconst (v := 1) hx hb dL_law_738 (by decide) ?_
  refine va_forget (fun q hq => hAe _ (hS.2.2 q hq)) ?_
  refine W.widen (k := 600000) (n := 7302250) (Nat.le_of_ble_eq_true rfl) (Nat.le_of_ble_eq_true rfl) ?_
  exact lw_ret hx hb hr hlocks dL_law_739
theorem q1593 : Cond.methodLink RL 79 yX9_ways ∈ wsL_law := mT_6 (List.mem_of_getElem? (i := 58) rfl) rfl
theorem q1594 : Cond.instanceMethod yX9_ways ∈ wsL_law := mT_6 (List.mem_of_getElem? (i := 59) rfl) rfl
theorem q1595 : Cond.selects RX9 yX9_ways yX9_ways ∈ wsL_law := mT_6 (List.mem_of_getElem? (i := 60) rfl) rfl
theorem q1596 : Cond.code yX9_ways cX9_ways 5 (some .int) ∈ wsL_law := mT_6 (List.mem_of_getElem? (i := 61) rfl) rfl
theorem kv_L_79 : vz_cv RL 79 yX9_ways cX9_ways 5 (some .int) 3 := ⟨q1593, q1594, q1595, q2, q1596, by decide +kernel⟩
theorem q1609 : Cond.methodLink RL 82 yX10_ways ∈ wsL_law := mT_9 (List.mem_of_getElem? (i := 83) rfl) rfl
theorem q1610 : Cond.instanceMethod yX10_ways ∈ wsL_law := mT_9 (List.mem_of_getElem? (i := 84) rfl) rfl
theorem q1611 : Cond.selects RX10 yX10_ways yX10_ways ∈ wsL_law := mT_9 (List.mem_of_getElem? (i := 85) rfl) rfl
theorem q1612 : Cond.code yX10_ways cX10_ways 6 (some .int) ∈ wsL_law := mT_9 (List.mem_of_getElem? (i := 86) rfl) rfl
theorem kv_L_82 : vz_cv RL 82 yX10_ways cX10_ways 6 (some .int) 3 := ⟨q1609, q1610, q1611, q5, q1612, by decide +kernel⟩
theorem dL_law_646 : decode cL_law 646 = .ok (.aload_n 1, 1) := by decide +kernel
theorem dL_law_647 : decode cL_law 647 = .ok (.aload_n 0, 1) := by decide +kernel
theorem dL_law_648 : decode cL_law 648 = .ok (.iload_n 3, 1) := by decide +kernel
theorem dL_law_649 : decode cL_law 649 = .ok (.iconst 1, 1) := by decide +kernel
theorem dL_law_650 : decode cL_law 650 = .ok (.iadd, 1) := by decide +kernel
theorem dL_law_651 : decode cL_law 651 = .ok (.iaload, 1) := by decide +kernel
theorem dL_law_652 : decode cL_law 652 = .ok (.aload_n 0, 1) := by decide +kernel
theorem dL_law_653 : decode cL_law 653 = .ok (.iload_n 3, 1) := by decide +kernel
theorem dL_law_654 : decode cL_law 654 = .ok (.iconst 2, 1) := by decide +kernel
theorem dL_law_655 : decode cL_law 655 = .ok (.iadd, 1) := by decide +kernel
theorem dL_law_656 : decode cL_law 656 = .ok (.iaload, 1) := by decide +kernel
theorem dL_law_657 : decode cL_law 657 = .ok (.aload_n 0, 1) := by decide +kernel
theorem dL_law_658 : decode cL_law 658 = .ok (.iload_n 3, 1) := by decide +kernel
theorem dL_law_659 : decode cL_law 659 = .ok (.iconst 3, 1) := by decide +kernel
theorem dL_law_660 : decode cL_law 660 = .ok (.iadd, 1) := by decide +kernel
theorem dL_law_661 : decode cL_law 661 = .ok (.iaload, 1) := by decide +kernel
theorem dL_law_662 : decode cL_law 662 = .ok (.invokevirtual 79, 3) := by decide +kernel
theorem dL_law_665 : decode cL_law 665 = .ok (.aload_n 2, 1) := by decide +kernel
theorem dL_law_666 : decode cL_law 666 = .ok (.aload_n 0, 1) := by decide +kernel
theorem dL_law_667 : decode cL_law 667 = .ok (.iload_n 3, 1) := by decide +kernel
theorem dL_law_668 : decode cL_law 668 = .ok (.iconst 1, 1) := by decide +kernel
theorem dL_law_669 : decode cL_law 669 = .ok (.iadd, 1) := by decide +kernel
theorem dL_law_670 : decode cL_law 670 = .ok (.iaload, 1) := by decide +kernel
theorem dL_law_671 : decode cL_law 671 = .ok (.aload_n 0, 1) := by decide +kernel
theorem dL_law_672 : decode cL_law 672 = .ok (.iload_n 3, 1) := by decide +kernel
theorem dL_law_673 : decode cL_law 673 = .ok (.iconst 2, 1) := by decide +kernel
theorem dL_law_674 : decode cL_law 674 = .ok (.iadd, 1) := by decide +kernel
theorem dL_law_675 : decode cL_law 675 = .ok (.iaload, 1) := by decide +kernel
theorem dL_law_676 : decode cL_law 676 = .ok (.aload_n 0, 1) := by decide +kernel
theorem dL_law_677 : decode cL_law 677 = .ok (.iload_n 3, 1) := by decide +kernel
theorem dL_law_678 : decode cL_law 678 = .ok (.iconst 3, 1) := by decide +kernel
theorem dL_law_679 : decode cL_law 679 = .ok (.iadd, 1) := by decide +kernel
theorem dL_law_680 : decode cL_law 680 = .ok (.iaload, 1) := by decide +kernel
theorem dL_law_681 : decode cL_law 681 = .ok (.invokevirtual 82, 3) := by decide +kernel
theorem dL_law_684 : decode cL_law 684 = .ok (.if_icmp .eq 48, 3) := by decide +kernel
set_option maxHeartbeats 4000000 in
set_option maxRecDepth 100000 in
theorem law_op14 {p : Program} {e : Env} {s : State} {m : MethodId} {below : List Frame} {meth : Method} {c : Code} {l : Launch} {b : Nat} {xs : Nat → Int32} (C0 : lw_At p s m meth c b 6 xs) {D : va_G} {g : Nat → ClassId} {A : Nat → Prop} (hAe : ∀ q, A q → s.heap.size ≤ q) (hA : ∀ q : Nat, s.heap.size ≤ q → A q) (hK : va_K D vwCl (tyG g) s) {h1 h2 : Nat} {a1 a2 : Nat → Nat} {H : Heap} {locs : List Loc} {ls : Array Slot} (hP : va_P D vwCl [(h1, .inr (9, [.ref (a1 0), .ref (a1 2), .ref (a1 5), .ref (a1 27), .ref (a1 28), .ref (a1 29), .ref (a1 30), .ref (a1 24), .ref (a1 31), .ref (a1 32), .ref (a1 25), .ref (a1 26), .ref (a1 33), .ref (a1 34), .ref (a1 18), .ref (a1 10), .int 0])), tT (a1 0) (a1 1) (nI 1) (nI 1000) 0, tA g (a1 1) 1000 (fun _ => 0), ((a1 2), .inr (5, [.ref (a1 3), .int 0])), tT (a1 3) (a1 4) (nI 3) (nI 1001) 0, tA g (a1 4) 3003 (fun _ => 0), ((a1 5), .inr (3, [.ref (a1 3), .ref (a1 6), .ref (a1 7), .ref (a1 8), .ref (a1 10), .int 0, .int 0, .int 0, .int 0, .int (-9), .int 0, .int 0])), tT (a1 6) (a1 35) (nI 1) (nI 6) 0, tT (a1 7) (a1 36) (nI 1) (nI 6) 0, tT (a1 8) (a1 9) (nI 1) (nI 80) 0, tA g (a1 9) 80 (fun _ => 0), ((a1 10), .inr (2, [.ref (a1 11), .ref (a1 12), .ref (a1 13), .ref (a1 14), .ref (a1 16)])), tT (a1 11) (a1 37) (nI 12) (nI 80) 0, tT (a1 12) (a1 38) (nI 5) (nI 1000) 0, tT (a1 13) (a1 39) (nI 5) (nI 112) 0, tT (a1 14) (a1 15) (nI 1) (nI 16) 0, tA g (a1 15) 16 (fun _ => 0), tT (a1 16) (a1 17) (nI 2) (nI 8) 0, tA g (a1 17) 16 (fun _ => 0), ((a1 18), .inr (2, [.ref (a1 19), .ref (a1 22), .ref (a1 20), .ref (a1 23), .ref (a1 21)])), tT (a1 19) (a1 40) (nI 12) (nI 80) 0, tT (a1 20) (a1 41) (nI 5) (nI 112) 0, tT (a1 21) (a1 42) (nI 2) (nI 8) 0, tT (a1 24) (a1 43) (nI 4) (nI 30) 0, ((a1 25), .inr (4, [.ref (a1 44), .ref (a1 45), .ref (a1 46), .ref (a1 47), .ref (a1 48), .int (-9), .int 0, .int 0, .int 0, .int 0, .int 0, .int 0])), ((a1 26), .inr (4, [.ref (a1 49), .ref (a1 50), .ref (a1 51), .ref (a1 52), .ref (a1 53), .int (-9), .int 0, .int 0, .int 0, .int 0, .int 0, .int 0])), (h2, .inr (10, mF a2 (fun _ => 0))), ((a2 1), .inl (g 1, 1000, .inl (fun _ => 0))), tA g (a2 3) 2 (fun _ => 0), tA g (a2 10) 2 (fun _ => 0), tA g (a2 12) 2 (fun _ => 0), tA g (a2 14) 2 (fun _ => 0), tA g (a2 13) 32 (fun _ => 0), ((a2 28), .inl (g 3, 2, .inl (fun _ => 0)))] H) (hD : va_D A [(h1, .inr (9, [.ref (a1 0), .ref (a1 2), .ref (a1 5), .ref (a1 27), .ref (a1 28), .ref (a1 29), .ref (a1 30), .ref (a1 24), .ref (a1 31), .ref (a1 32), .ref (a1 25), .ref (a1 26), .ref (a1 33), .ref (a1 34), .ref (a1 18), .ref (a1 10), .int 0])), tT (a1 0) (a1 1) (nI 1) (nI 1000) 0, tA g (a1 1) 1000 (fun _ => 0), ((a1 2), .inr (5, [.ref (a1 3), .int 0])), tT (a1 3) (a1 4) (nI 3) (nI 1001) 0, tA g (a1 4) 3003 (fun _ => 0), ((a1 5), .inr (3, [.ref (a1 3), .ref (a1 6), .ref (a1 7), .ref (a1 8), .ref (a1 10), .int 0, .int 0, .int 0, .int 0, .int (-9), .int 0, .int 0])), tT (a1 6) (a1 35) (nI 1) (nI 6) 0, tT (a1 7) (a1 36) (nI 1) (nI 6) 0, tT (a1 8) (a1 9) (nI 1) (nI 80) 0, tA g (a1 9) 80 (fun _ => 0), ((a1 10), .inr (2, [.ref (a1 11), .ref (a1 12), .ref (a1 13), .ref (a1 14), .ref (a1 16)])), tT (a1 11) (a1 37) (nI 12) (nI 80) 0, tT (a1 12) (a1 38) (nI 5) (nI 1000) 0, tT (a1 13) (a1 39) (nI 5) (nI 112) 0, tT (a1 14) (a1 15) (nI 1) (nI 16) 0, tA g (a1 15) 16 (fun _ => 0), tT (a1 16) (a1 17) (nI 2) (nI 8) 0, tA g (a1 17) 16 (fun _ => 0), ((a1 18), .inr (2, [.ref (a1 19), .ref (a1 22), .ref (a1 20), .ref (a1 23), .ref (a1 21)])), tT (a1 19) (a1 40) (nI 12) (nI 80) 0, tT (a1 20) (a1 41) (nI 5) (nI 112) 0, tT (a1 21) (a1 42) (nI 2) (nI 8) 0, tT (a1 24) (a1 43) (nI 4) (nI 30) 0, ((a1 25), .inr (4, [.ref (a1 44), .ref (a1 45), .ref (a1 46), .ref (a1 47), .ref (a1 48), .int (-9), .int 0, .int 0, .int 0, .int 0, .int 0, .int 0])), ((a1 26), .inr (4, [.ref (a1 49), .ref (a1 50), .ref (a1 51), .ref (a1 52), .ref (a1 53), .int (-9), .int 0, .int 0, .int 0, .int 0, .int 0, .int 0])), (h2, .inr (10, mF a2 (fun _ => 0))), ((a2 1), .inl (g 1, 1000, .inl (fun _ => 0))), tA g (a2 3) 2 (fun _ => 0), tA g (a2 10) 2 (fun _ => 0), tA g (a2 12) 2 (fun _ => 0), tA g (a2 14) 2 (fun _ => 0), tA g (a2 13) 32 (fun _ => 0), ((a2 28), .inl (g 3, 2, .inl (fun _ => 0)))]) (hS : va_S A s.heap H locs) (hl : lv_has ls 4 [(3, .int 0), (2, .ref h2), (1, .ref h1), (0, .ref b)]) : W p l e room_1 s m #[Value.ref b] below meth c H locs 168 110802 (lw_Z below #[Value.ref b] s) (F0 m 646 ls []) := by
  obtain ⟨hx, hb, hr, hml, hown, hts0, hX, hbl, hlocks, -⟩ := id C0
  have hts : ∀ w ∈ wsL_law, w.before #[Value.ref b] s = true := fun w h => hts0 w (wsL_law_in w h)
  have hbA : ¬ A b := fun z => absurd (hAe _ z) (Nat.not_le.mpr hbl)
  have hP : va_P D vwCl [(h1, .inr (9, [.ref (a1 0), .ref (a1 2), .ref (a1 5), .ref (a1 27), .ref (a1 28), .ref (a1 29), .ref (a1 30), .ref (a1 24), .ref (a1 31), .ref (a1 32), .ref (a1 25), .ref (a1 26), .ref (a1 33), .ref (a1 34), .ref (a1 18), .ref (a1 10), .int 0])), ((a1 18), .inr (2, [.ref (a1 19), .ref (a1 22), .ref (a1 20), .ref (a1 23), .ref (a1 21)])), tT (a1 21) (a1 42) (nI 2) (nI 8) 0, (h2, .inr (10, mF a2 (fun _ => 0)))] H := vz_pickP hP [0, 19, 22, 26] rfl
  have hD : va_D A [(h1, .inr (9, [.ref (a1 0), .ref (a1 2), .ref (a1 5), .ref (a1 27), .ref (a1 28), .ref (a1 29), .ref (a1 30), .ref (a1 24), .ref (a1 31), .ref (a1 32), .ref (a1 25), .ref (a1 26), .ref (a1 33), .ref (a1 34), .ref (a1 18), .ref (a1 10), .int 0])), ((a1 18), .inr (2, [.ref (a1 19), .ref (a1 22), .ref (a1 20), .ref (a1 23), .ref (a1 21)])), tT (a1 21) (a1 42) (nI 2) (nI 8) 0, (h2, .inr (10, mF a2 (fun _ => 0)))] := hD.sub [0, 19, 22, 26] (by decide) rfl
  refine lv_aload_n hx hb dL_law_646 rfl (lv_at hl 2 rfl) ?_
  refine lv_aload_n hx hb dL_law_647 rfl (lv_at hl 3 rfl) ?_
  refine lv_iload_n hx hb dL_law_648 rfl (lv_at hl 0 rfl) ?_
  refine lv_iconst (v := 1) hx hb dL_law_649 (by decide) ?_
  refine lv_iadd hx hb dL_law_650 ?_
  refine lv_topi (nm_r (e' := 1) (by decide) ?_)
  refine va_sld hx hb hX hbl hbA hS (vp_in_c (by decide)) dL_law_651 ?_
  refine lv_aload_n hx hb dL_law_652 rfl (lv_at hl 3 rfl) ?_
  refine lv_iload_n hx hb dL_law_653 rfl (lv_at hl 0 rfl) ?_
  refine lv_iconst (v := 2) hx hb dL_law_654 (by decide) ?_
  refine lv_iadd hx hb dL_law_655 ?_
  refine lv_topi (nm_r (e' := 2) (by decide) ?_)
  refine va_sld hx hb hX hbl hbA hS (vp_in_c (by decide)) dL_law_656 ?_
  refine lv_aload_n hx hb dL_law_657 rfl (lv_at hl 3 rfl) ?_
  refine lv_iload_n hx hb dL_law_658 rfl (lv_at hl 0 rfl) ?_
  refine lv_iconst (v := 3) hx hb dL_law_659 (by decide) ?_
  refine lv_iadd hx hb dL_law_660 ?_
  refine lv_topi (nm_r (e' := 3) (by decide) ?_)
  refine va_sld hx hb hX hbl hbA hS (vp_in_c (by decide)) dL_law_661 ?_
  refine vz_Vi (wr := [(h2, .inr (10, mF a2 (fun _ => 0)))]) (As := [.int (xs 1), .int (xs 2), .int (xs 3)]) (rest := []) hx hb hml hown hts hK hA hP hD hS (c_A_ways0 l D g h1 H.size a1 (xs 1) (xs 2) (xs 3)) kv_L_79 (⟨Nat.le_of_ble_eq_true rfl, Nat.le_of_ble_eq_true rfl⟩) (q0 := 0) (ci := 9) rfl rfl rfl [0, 1, 2] [3] rfl rfl (by decide) hl.1 (Nat.le_of_ble_eq_true rfl) dL_law_662 (⟨Nat.le_of_ble_eq_true rfl, Nat.le_of_ble_eq_true rfl⟩) rfl (fun r1 _ H locs e2 _ hP hD hS => ?_)
  subst e2
  have hP : va_P D vwCl [(h2, .inr (10, mF a2 (fun _ => 0))), (h1, .inr (9, [.ref (a1 0), .ref (a1 2), .ref (a1 5), .ref (a1 27), .ref (a1 28), .ref (a1 29), .ref (a1 30), .ref (a1 24), .ref (a1 31), .ref (a1 32), .ref (a1 25), .ref (a1 26), .ref (a1 33), .ref (a1 34), .ref (a1 18), .ref (a1 10), .int 0])), ((a1 18), .inr (2, [.ref (a1 19), .ref (a1 22), .ref (a1 20), .ref (a1 23), .ref (a1 21)])), tT (a1 21) (a1 42) (nI 2) (nI 8) 0] H := hP
  have hD : va_D A [(h2, .inr (10, mF a2 (fun _ => 0))), (h1, .inr (9, [.ref (a1 0), .ref (a1 2), .ref (a1 5), .ref (a1 27), .ref (a1 28), .ref (a1 29), .ref (a1 30), .ref (a1 24), .ref (a1 31), .ref (a1 32), .ref (a1 25), .ref (a1 26), .ref (a1 33), .ref (a1 34), .ref (a1 18), .ref (a1 10), .int 0])), ((a1 18), .inr (2, [.ref (a1 19), .ref (a1 22), .ref (a1 20), .ref (a1 23), .ref (a1 21)])), tT (a1 21) (a1 42) (nI 2) (nI 8) 0] := hD
  refine lv_aload_n hx hb dL_law_665 rfl (lv_at hl 1 rfl) ?_
  refine lv_aload_n hx hb dL_law_666 rfl (lv_at hl 3 rfl) ?_
  refine lv_iload_n hx hb dL_law_667 rfl (lv_at hl 0 rfl) ?_
  refine lv_iconst (v := 1) hx hb dL_law_668 (by decide) ?_
  refine lv_iadd hx hb dL_law_669 ?_
  refine lv_topi (nm_r (e' := 1) (by decide) ?_)
  refine va_sld hx hb hX hbl hbA hS (vp_in_c (by decide)) dL_law_670 ?_
  refine lv_aload_n hx hb dL_law_671 rfl (lv_at hl 3 rfl) ?_
  refine lv_iload_n hx hb dL_law_672 rfl (lv_at hl 0 rfl) ?_
  refine lv_iconst (v := 2) hx hb dL_law_673 (by decide) ?_
  refine lv_iadd hx hb dL_law_674 ?_
  refine lv_topi (nm_r (e' := 2) (by decide) ?_)
  refine va_sld hx hb hX hbl hbA hS (vp_in_c (by decide)) dL_law_675 ?_
  refine lv_aload_n hx hb dL_law_676 rfl (lv_at hl 3 rfl) ?_
  refine lv_iload_n hx hb dL_law_677 rfl (lv_at hl 0 rfl) ?_
  refine lv_iconst (v := 3) hx hb dL_law_678 (by decide) ?_
  refine lv_iadd hx hb dL_law_679 ?_
  refine lv_topi (nm_r (e' := 3) (by decide) ?_)
  refine va_sld hx hb hX hbl hbA hS (vp_in_c (by decide)) dL_law_680 ?_
  refine vz_Vi (wr := [(h1, .inr (9, [.ref (a1 0), .ref (a1 2), .ref (a1 5), .ref (a1 27), .ref (a1 28), .ref (a1 29), .ref (a1 30), .ref (a1 24), .ref (a1 31), .ref (a1 32), .ref (a1 25), .ref (a1 26), .ref (a1 33), .ref (a1 34), .ref (a1 18), .ref (a1 10), .int 0])), ((a1 18), .inr (2, [.ref (a1 19), .ref (a1 22), .ref (a1 20), .ref (a1 23), .ref (a1 21)])), tT (a1 21) (a1 42) (nI 2) (nI 8) 0]) (As := [.int (xs 1), .int (xs 2), .int (xs 3)]) (rest := [.int (-1)]) hx hb hml hown hts hK hA hP hD hS (c_m_ways0 l D g h2 H.size a2 (xs 1) (xs 2) (xs 3)) kv_L_82 (⟨Nat.le_of_ble_eq_true rfl, Nat.le_of_ble_eq_true rfl⟩) (q0 := 0) (ci := 10) rfl rfl rfl [0] [1, 2, 3] rfl rfl (by decide) hl.1 (Nat.le_of_ble_eq_true rfl) dL_law_681 (⟨Nat.le_of_ble_eq_true rfl, Nat.le_of_ble_eq_true rfl⟩) rfl (fun r3 _ H locs e4 _ hP hD hS => ?_)
  subst e4
  have hP : va_P D vwCl [(h1, .inr (9, [.ref (a1 0), .ref (a1 2), .ref (a1 5), .ref (a1 27), .ref (a1 28), .ref (a1 29), .ref (a1 30), .ref (a1 24), .ref (a1 31), .ref (a1 32), .ref (a1 25), .ref (a1 26), .ref (a1 33), .ref (a1 34), .ref (a1 18), .ref (a1 10), .int 0])), ((a1 18), .inr (2, [.ref (a1 19), .ref (a1 22), .ref (a1 20), .ref (a1 23), .ref (a1 21)])), tT (a1 21) (a1 42) (nI 2) (nI 8) 0, (h2, .inr (10, mF a2 (fun _ => 0)))] H := hP
  have hD : va_D A [(h1, .inr (9, [.ref (a1 0), .ref (a1 2), .ref (a1 5), .ref (a1 27), .ref (a1 28), .ref (a1 29), .ref (a1 30), .ref (a1 24), .ref (a1 31), .ref (a1 32), .ref (a1 25), .ref (a1 26), .ref (a1 33), .ref (a1 34), .ref (a1 18), .ref (a1 10), .int 0])), ((a1 18), .inr (2, [.ref (a1 19), .ref (a1 22), .ref (a1 20), .ref (a1 23), .ref (a1 21)])), tT (a1 21) (a1 42) (nI 2) (nI 8) 0, (h2, .inr (10, mF a2 (fun _ => 0)))] := hD
  refine lv_icmp_eq (tgt := 732) hx hb dL_law_684 (by decide) (fun _ => ?_) (fun h9 => absurd (by decide) h9)
  refine lv_iinc (v := 6) (lv' := [(3, .int 6), (2, .ref h2), (1, .ref h1), (0, .ref b)]) hx hb dL_law_732 hl (k := 0) rfl (by decide) (by decide) rfl (fun ls hl => ?_)
  refine lv_goto (tgt := 18) hx hb dL_law_735 (by decide) ?_
  refine lv_iload_n hx hb dL_law_18 rfl (lv_at hl 0 rfl) ?_
  refine lv_aload_n hx hb dL_law_19 rfl (lv_at hl 3 rfl) ?_
  refine va_slen hx hb hX hbl hbA hS dL_law_20 ?_
  refine lv_topi (nm_r (e' := 6) (by decide) ?_)
  refine lv_bipush (v := 6) hx hb dL_law_21 (by decide) ?_
  refine lv_isub hx hb dL_law_23 ?_
  refine lv_topi (nm_r (e' := 0) (by decide) ?_)
  refine lv_icmp_gt (tgt := 738) hx hb dL_law_24 (by decide) (fun _ => ?_) (fun h9 => absurd (by decide) h9)
  refine lv_iconst (v := 1) hx hb dL_law_738 (by decide) ?_
  refine va_forget (fun q hq => hAe _ (hS.2.2 q hq)) ?_
  refine W.widen (k := 600000) (n := 7302250) (Nat.le_of_ble_eq_true rfl) (Nat.le_of_ble_eq_true rfl) ?_
  exact lw_ret hx hb hr hlocks dL_law_739
theorem q1618 : Cond.methodLink RL 83 yX9_same ∈ wsL_law := mT_6 (List.mem_of_getElem? (i := 70) rfl) rfl
theorem q1619 : Cond.instanceMethod yX9_same ∈ wsL_law := mT_6 (List.mem_of_getElem? (i := 71) rfl) rfl
theorem q1620 : Cond.selects RX9 yX9_same yX9_same ∈ wsL_law := mT_6 (List.mem_of_getElem? (i := 72) rfl) rfl
theorem q1621 : Cond.code yX9_same cX9_same 4 (some .int) ∈ wsL_law := mT_6 (List.mem_of_getElem? (i := 73) rfl) rfl
theorem kv_L_83 : vz_cv RL 83 yX9_same cX9_same 4 (some .int) 3 := ⟨q1618, q1619, q1620, q2, q1621, by decide +kernel⟩
theorem q1632 : Cond.methodLink RL 86 yX10_same ∈ wsL_law := mT_9 (List.mem_of_getElem? (i := 91) rfl) rfl
theorem q1633 : Cond.instanceMethod yX10_same ∈ wsL_law := mT_9 (List.mem_of_getElem? (i := 92) rfl) rfl
theorem q1634 : Cond.selects RX10 yX10_same yX10_same ∈ wsL_law := mT_9 (List.mem_of_getElem? (i := 93) rfl) rfl
theorem q1635 : Cond.code yX10_same cX10_same 4 (some .int) ∈ wsL_law := mT_9 (List.mem_of_getElem? (i := 94) rfl) rfl
theorem kv_L_86 : vz_cv RL 86 yX10_same cX10_same 4 (some .int) 3 := ⟨q1632, q1633, q1634, q5, q1635, by decide +kernel⟩
theorem dL_law_689 : decode cL_law 689 = .ok (.aload_n 1, 1) := by decide +kernel
theorem dL_law_690 : decode cL_law 690 = .ok (.aload_n 0, 1) := by decide +kernel
theorem dL_law_691 : decode cL_law 691 = .ok (.iload_n 3, 1) := by decide +kernel
theorem dL_law_692 : decode cL_law 692 = .ok (.iconst 1, 1) := by decide +kernel
theorem dL_law_693 : decode cL_law 693 = .ok (.iadd, 1) := by decide +kernel
theorem dL_law_694 : decode cL_law 694 = .ok (.iaload, 1) := by decide +kernel
theorem dL_law_695 : decode cL_law 695 = .ok (.aload_n 0, 1) := by decide +kernel
theorem dL_law_696 : decode cL_law 696 = .ok (.iload_n 3, 1) := by decide +kernel
theorem dL_law_697 : decode cL_law 697 = .ok (.iconst 2, 1) := by decide +kernel
theorem dL_law_698 : decode cL_law 698 = .ok (.iadd, 1) := by decide +kernel
theorem dL_law_699 : decode cL_law 699 = .ok (.iaload, 1) := by decide +kernel
theorem dL_law_700 : decode cL_law 700 = .ok (.aload_n 0, 1) := by decide +kernel
theorem dL_law_701 : decode cL_law 701 = .ok (.iload_n 3, 1) := by decide +kernel
theorem dL_law_702 : decode cL_law 702 = .ok (.iconst 3, 1) := by decide +kernel
theorem dL_law_703 : decode cL_law 703 = .ok (.iadd, 1) := by decide +kernel
theorem dL_law_704 : decode cL_law 704 = .ok (.iaload, 1) := by decide +kernel
theorem dL_law_705 : decode cL_law 705 = .ok (.invokevirtual 83, 3) := by decide +kernel
theorem dL_law_708 : decode cL_law 708 = .ok (.aload_n 2, 1) := by decide +kernel
theorem dL_law_709 : decode cL_law 709 = .ok (.aload_n 0, 1) := by decide +kernel
theorem dL_law_710 : decode cL_law 710 = .ok (.iload_n 3, 1) := by decide +kernel
theorem dL_law_711 : decode cL_law 711 = .ok (.iconst 1, 1) := by decide +kernel
theorem dL_law_712 : decode cL_law 712 = .ok (.iadd, 1) := by decide +kernel
theorem dL_law_713 : decode cL_law 713 = .ok (.iaload, 1) := by decide +kernel
theorem dL_law_714 : decode cL_law 714 = .ok (.aload_n 0, 1) := by decide +kernel
theorem dL_law_715 : decode cL_law 715 = .ok (.iload_n 3, 1) := by decide +kernel
theorem dL_law_716 : decode cL_law 716 = .ok (.iconst 2, 1) := by decide +kernel
theorem dL_law_717 : decode cL_law 717 = .ok (.iadd, 1) := by decide +kernel
theorem dL_law_718 : decode cL_law 718 = .ok (.iaload, 1) := by decide +kernel
theorem dL_law_719 : decode cL_law 719 = .ok (.aload_n 0, 1) := by decide +kernel
theorem dL_law_720 : decode cL_law 720 = .ok (.iload_n 3, 1) := by decide +kernel
theorem dL_law_721 : decode cL_law 721 = .ok (.iconst 3, 1) := by decide +kernel
theorem dL_law_722 : decode cL_law 722 = .ok (.iadd, 1) := by decide +kernel
theorem dL_law_723 : decode cL_law 723 = .ok (.iaload, 1) := by decide +kernel
theorem dL_law_724 : decode cL_law 724 = .ok (.invokevirtual 86, 3) := by decide +kernel
theorem dL_law_727 : decode cL_law 727 = .ok (.if_icmp .eq 5, 3) := by decide +kernel
set_option maxHeartbeats 4000000 in
set_option maxRecDepth 100000 in
theorem law_op15 {p : Program} {e : Env} {s : State} {m : MethodId} {below : List Frame} {meth : Method} {c : Code} {l : Launch} {b : Nat} {xs : Nat → Int32} (C0 : lw_At p s m meth c b 6 xs) {D : va_G} {g : Nat → ClassId} {A : Nat → Prop} (hAe : ∀ q, A q → s.heap.size ≤ q) (hA : ∀ q : Nat, s.heap.size ≤ q → A q) (hK : va_K D vwCl (tyG g) s) {h1 h2 : Nat} {a1 a2 : Nat → Nat} {H : Heap} {locs : List Loc} {ls : Array Slot} (hP : va_P D vwCl [(h1, .inr (9, [.ref (a1 0), .ref (a1 2), .ref (a1 5), .ref (a1 27), .ref (a1 28), .ref (a1 29), .ref (a1 30), .ref (a1 24), .ref (a1 31), .ref (a1 32), .ref (a1 25), .ref (a1 26), .ref (a1 33), .ref (a1 34), .ref (a1 18), .ref (a1 10), .int 0])), tT (a1 0) (a1 1) (nI 1) (nI 1000) 0, tA g (a1 1) 1000 (fun _ => 0), ((a1 2), .inr (5, [.ref (a1 3), .int 0])), tT (a1 3) (a1 4) (nI 3) (nI 1001) 0, tA g (a1 4) 3003 (fun _ => 0), ((a1 5), .inr (3, [.ref (a1 3), .ref (a1 6), .ref (a1 7), .ref (a1 8), .ref (a1 10), .int 0, .int 0, .int 0, .int 0, .int (-9), .int 0, .int 0])), tT (a1 6) (a1 35) (nI 1) (nI 6) 0, tT (a1 7) (a1 36) (nI 1) (nI 6) 0, tT (a1 8) (a1 9) (nI 1) (nI 80) 0, tA g (a1 9) 80 (fun _ => 0), ((a1 10), .inr (2, [.ref (a1 11), .ref (a1 12), .ref (a1 13), .ref (a1 14), .ref (a1 16)])), tT (a1 11) (a1 37) (nI 12) (nI 80) 0, tT (a1 12) (a1 38) (nI 5) (nI 1000) 0, tT (a1 13) (a1 39) (nI 5) (nI 112) 0, tT (a1 14) (a1 15) (nI 1) (nI 16) 0, tA g (a1 15) 16 (fun _ => 0), tT (a1 16) (a1 17) (nI 2) (nI 8) 0, tA g (a1 17) 16 (fun _ => 0), ((a1 18), .inr (2, [.ref (a1 19), .ref (a1 22), .ref (a1 20), .ref (a1 23), .ref (a1 21)])), tT (a1 19) (a1 40) (nI 12) (nI 80) 0, tT (a1 20) (a1 41) (nI 5) (nI 112) 0, tT (a1 21) (a1 42) (nI 2) (nI 8) 0, tT (a1 24) (a1 43) (nI 4) (nI 30) 0, ((a1 25), .inr (4, [.ref (a1 44), .ref (a1 45), .ref (a1 46), .ref (a1 47), .ref (a1 48), .int (-9), .int 0, .int 0, .int 0, .int 0, .int 0, .int 0])), ((a1 26), .inr (4, [.ref (a1 49), .ref (a1 50), .ref (a1 51), .ref (a1 52), .ref (a1 53), .int (-9), .int 0, .int 0, .int 0, .int 0, .int 0, .int 0])), (h2, .inr (10, mF a2 (fun _ => 0))), ((a2 1), .inl (g 1, 1000, .inl (fun _ => 0))), tA g (a2 3) 2 (fun _ => 0), tA g (a2 10) 2 (fun _ => 0), tA g (a2 12) 2 (fun _ => 0), tA g (a2 14) 2 (fun _ => 0), tA g (a2 13) 32 (fun _ => 0), ((a2 28), .inl (g 3, 2, .inl (fun _ => 0)))] H) (hD : va_D A [(h1, .inr (9, [.ref (a1 0), .ref (a1 2), .ref (a1 5), .ref (a1 27), .ref (a1 28), .ref (a1 29), .ref (a1 30), .ref (a1 24), .ref (a1 31), .ref (a1 32), .ref (a1 25), .ref (a1 26), .ref (a1 33), .ref (a1 34), .ref (a1 18), .ref (a1 10), .int 0])), tT (a1 0) (a1 1) (nI 1) (nI 1000) 0, tA g (a1 1) 1000 (fun _ => 0), ((a1 2), .inr (5, [.ref (a1 3), .int 0])), tT (a1 3) (a1 4) (nI 3) (nI 1001) 0, tA g (a1 4) 3003 (fun _ => 0), ((a1 5), .inr (3, [.ref (a1 3), .ref (a1 6), .ref (a1 7), .ref (a1 8), .ref (a1 10), .int 0, .int 0, .int 0, .int 0, .int (-9), .int 0, .int 0])), tT (a1 6) (a1 35) (nI 1) (nI 6) 0, tT (a1 7) (a1 36) (nI 1) (nI 6) 0, tT (a1 8) (a1 9) (nI 1) (nI 80) 0, tA g (a1 9) 80 (fun _ => 0), ((a1 10), .inr (2, [.ref (a1 11), .ref (a1 12), .ref (a1 13), .ref (a1 14), .ref (a1 16)])), tT (a1 11) (a1 37) (nI 12) (nI 80) 0, tT (a1 12) (a1 38) (nI 5) (nI 1000) 0, tT (a1 13) (a1 39) (nI 5) (nI 112) 0, tT (a1 14) (a1 15) (nI 1) (nI 16) 0, tA g (a1 15) 16 (fun _ => 0), tT (a1 16) (a1 17) (nI 2) (nI 8) 0, tA g (a1 17) 16 (fun _ => 0), ((a1 18), .inr (2, [.ref (a1 19), .ref (a1 22), .ref (a1 20), .ref (a1 23), .ref (a1 21)])), tT (a1 19) (a1 40) (nI 12) (nI 80) 0, tT (a1 20) (a1 41) (nI 5) (nI 112) 0, tT (a1 21) (a1 42) (nI 2) (nI 8) 0, tT (a1 24) (a1 43) (nI 4) (nI 30) 0, ((a1 25), .inr (4, [.ref (a1 44), .ref (a1 45), .ref (a1 46), .ref (a1 47), .ref (a1 48), .int (-9), .int 0, .int 0, .int 0, .int 0, .int 0, .int 0])), ((a1 26), .inr (4, [.ref (a1 49), .ref (a1 50), .ref (a1 51), .ref (a1 52), .ref (a1 53), .int (-9), .int 0, .int 0, .int 0, .int 0, .int 0, .int 0])), (h2, .inr (10, mF a2 (fun _ => 0))), ((a2 1), .inl (g 1, 1000, .inl (fun _ => 0))), tA g (a2 3) 2 (fun _ => 0), tA g (a2 10) 2 (fun _ => 0), tA g (a2 12) 2 (fun _ => 0), tA g (a2 14) 2 (fun _ => 0), tA g (a2 13) 32 (fun _ => 0), ((a2 28), .inl (g 3, 2, .inl (fun _ => 0)))]) (hS : va_S A s.heap H locs) (hl : lv_has ls 4 [(3, .int 0), (2, .ref h2), (1, .ref h1), (0, .ref b)]) : W p l e room_1 s m #[Value.ref b] below meth c H locs 168 110802 (lw_Z below #[Value.ref b] s) (F0 m 689 ls []) := by
  obtain ⟨hx, hb, hr, hml, hown, hts0, hX, hbl, hlocks, -⟩ := id C0
  have hts : ∀ w ∈ wsL_law, w.before #[Value.ref b] s = true := fun w h => hts0 w (wsL_law_in w h)
  have hbA : ¬ A b := fun z => absurd (hAe _ z) (Nat.not_le.mpr hbl)
  have hP : va_P D vwCl [(h1, .inr (9, [.ref (a1 0), .ref (a1 2), .ref (a1 5), .ref (a1 27), .ref (a1 28), .ref (a1 29), .ref (a1 30), .ref (a1 24), .ref (a1 31), .ref (a1 32), .ref (a1 25), .ref (a1 26), .ref (a1 33), .ref (a1 34), .ref (a1 18), .ref (a1 10), .int 0])), ((a1 18), .inr (2, [.ref (a1 19), .ref (a1 22), .ref (a1 20), .ref (a1 23), .ref (a1 21)])), tT (a1 21) (a1 42) (nI 2) (nI 8) 0, (h2, .inr (10, mF a2 (fun _ => 0)))] H := vz_pickP hP [0, 19, 22, 26] rfl
  have hD : va_D A [(h1, .inr (9, [.ref (a1 0), .ref (a1 2), .ref (a1 5), .ref (a1 27), .ref (a1 28), .ref (a1 29), .ref (a1 30), .ref (a1 24), .ref (a1 31), .ref (a1 32), .ref (a1 25), .ref (a1 26), .ref (a1 33), .ref (a1 34), .ref (a1 18), .ref (a1 10), .int 0])), ((a1 18), .inr (2, [.ref (a1 19), .ref (a1 22), .ref (a1 20), .ref (a1 23), .ref (a1 21)])), tT (a1 21) (a1 42) (nI 2) (nI 8) 0, (h2, .inr (10, mF a2 (fun _ => 0)))] := hD.sub [0, 19, 22, 26] (by decide) rfl
  refine lv_aload_n hx hb dL_law_689 rfl (lv_at hl 2 rfl) ?_
  refine lv_aload_n hx hb dL_law_690 rfl (lv_at hl 3 rfl) ?_
  refine lv_iload_n hx hb dL_law_691 rfl (lv_at hl 0 rfl) ?_
  refine lv_iconst (v := 1) hx hb dL_law_692 (by decide) ?_
  refine lv_iadd hx hb dL_law_693 ?_
  refine lv_topi (nm_r (e' := 1) (by decide) ?_)
  refine va_sld hx hb hX hbl hbA hS (vp_in_c (by decide)) dL_law_694 ?_
  refine lv_aload_n hx hb dL_law_695 rfl (lv_at hl 3 rfl) ?_
  refine lv_iload_n hx hb dL_law_696 rfl (lv_at hl 0 rfl) ?_
  refine lv_iconst (v := 2) hx hb dL_law_697 (by decide) ?_
  refine lv_iadd hx hb dL_law_698 ?_
  refine lv_topi (nm_r (e' := 2) (by decide) ?_)
  refine va_sld hx hb hX hbl hbA hS (vp_in_c (by decide)) dL_law_699 ?_
  refine lv_aload_n hx hb dL_law_700 rfl (lv_at hl 3 rfl) ?_
  refine lv_iload_n hx hb dL_law_701 rfl (lv_at hl 0 rfl) ?_
  refine lv_iconst (v := 3) hx hb dL_law_702 (by decide) ?_
  refine lv_iadd hx hb dL_law_703 ?_
  refine lv_topi (nm_r (e' := 3) (by decide) ?_)
  refine va_sld hx hb hX hbl hbA hS (vp_in_c (by decide)) dL_law_704 ?_
  refine vz_Vi (wr := [(h2, .inr (10, mF a2 (fun _ => 0)))]) (As := [.int (xs 1), .int (xs 2), .int (xs 3)]) (rest := []) hx hb hml hown hts hK hA hP hD hS (c_A_same0 l D g h1 H.size a1 (xs 1) (xs 2) (xs 3)) kv_L_83 (⟨Nat.le_of_ble_eq_true rfl, Nat.le_of_ble_eq_true rfl⟩) (q0 := 0) (ci := 9) rfl rfl rfl [0, 1, 2] [3] rfl rfl (by decide) hl.1 (Nat.le_of_ble_eq_true rfl) dL_law_705 (⟨Nat.le_of_ble_eq_true rfl, Nat.le_of_ble_eq_true rfl⟩) rfl (fun r1 _ H locs e2 _ hP hD hS => ?_)
  subst e2
  have hP : va_P D vwCl [(h2, .inr (10, mF a2 (fun _ => 0))), (h1, .inr (9, [.ref (a1 0), .ref (a1 2), .ref (a1 5), .ref (a1 27), .ref (a1 28), .ref (a1 29), .ref (a1 30), .ref (a1 24), .ref (a1 31), .ref (a1 32), .ref (a1 25), .ref (a1 26), .ref (a1 33), .ref (a1 34), .ref (a1 18), .ref (a1 10), .int 0])), ((a1 18), .inr (2, [.ref (a1 19), .ref (a1 22), .ref (a1 20), .ref (a1 23), .ref (a1 21)])), tT (a1 21) (a1 42) (nI 2) (nI 8) 0] H := hP
  have hD : va_D A [(h2, .inr (10, mF a2 (fun _ => 0))), (h1, .inr (9, [.ref (a1 0), .ref (a1 2), .ref (a1 5), .ref (a1 27), .ref (a1 28), .ref (a1 29), .ref (a1 30), .ref (a1 24), .ref (a1 31), .ref (a1 32), .ref (a1 25), .ref (a1 26), .ref (a1 33), .ref (a1 34), .ref (a1 18), .ref (a1 10), .int 0])), ((a1 18), .inr (2, [.ref (a1 19), .ref (a1 22), .ref (a1 20), .ref (a1 23), .ref (a1 21)])), tT (a1 21) (a1 42) (nI 2) (nI 8) 0] := hD
  refine lv_aload_n hx hb dL_law_708 rfl (lv_at hl 1 rfl) ?_
  refine lv_aload_n hx hb dL_law_709 rfl (lv_at hl 3 rfl) ?_
  refine lv_iload_n hx hb dL_law_710 rfl (lv_at hl 0 rfl) ?_
  refine lv_iconst (v := 1) hx hb dL_law_711 (by decide) ?_
  refine lv_iadd hx hb dL_law_712 ?_
  refine lv_topi (nm_r (e' := 1) (by decide) ?_)
  refine va_sld hx hb hX hbl hbA hS (vp_in_c (by decide)) dL_law_713 ?_
  refine lv_aload_n hx hb dL_law_714 rfl (lv_at hl 3 rfl) ?_
  refine lv_iload_n hx hb dL_law_715 rfl (lv_at hl 0 rfl) ?_
  refine lv_iconst (v := 2) hx hb dL_law_716 (by decide) ?_
  refine lv_iadd hx hb dL_law_717 ?_
  refine lv_topi (nm_r (e' := 2) (by decide) ?_)
  refine va_sld hx hb hX hbl hbA hS (vp_in_c (by decide)) dL_law_718 ?_
  refine lv_aload_n hx hb dL_law_719 rfl (lv_at hl 3 rfl) ?_
  refine lv_iload_n hx hb dL_law_720 rfl (lv_at hl 0 rfl) ?_
  refine lv_iconst (v := 3) hx hb dL_law_721 (by decide) ?_
  refine lv_iadd hx hb dL_law_722 ?_
  refine lv_topi (nm_r (e' := 3) (by decide) ?_)
  refine va_sld hx hb hX hbl hbA hS (vp_in_c (by decide)) dL_law_723 ?_
  refine vz_Vi (wr := [(h1, .inr (9, [.ref (a1 0), .ref (a1 2), .ref (a1 5), .ref (a1 27), .ref (a1 28), .ref (a1 29), .ref (a1 30), .ref (a1 24), .ref (a1 31), .ref (a1 32), .ref (a1 25), .ref (a1 26), .ref (a1 33), .ref (a1 34), .ref (a1 18), .ref (a1 10), .int 0])), ((a1 18), .inr (2, [.ref (a1 19), .ref (a1 22), .ref (a1 20), .ref (a1 23), .ref (a1 21)])), tT (a1 21) (a1 42) (nI 2) (nI 8) 0]) (As := [.int (xs 1), .int (xs 2), .int (xs 3)]) (rest := [.int (-1)]) hx hb hml hown hts hK hA hP hD hS (c_m_same0 l D g h2 H.size a2 (xs 1) (xs 2) (xs 3)) kv_L_86 (⟨Nat.le_of_ble_eq_true rfl, Nat.le_of_ble_eq_true rfl⟩) (q0 := 0) (ci := 10) rfl rfl rfl [0] [1, 2, 3] rfl rfl (by decide) hl.1 (Nat.le_of_ble_eq_true rfl) dL_law_724 (⟨Nat.le_of_ble_eq_true rfl, Nat.le_of_ble_eq_true rfl⟩) rfl (fun r3 _ H locs e4 _ hP hD hS => ?_)
  subst e4
  have hP : va_P D vwCl [(h1, .inr (9, [.ref (a1 0), .ref (a1 2), .ref (a1 5), .ref (a1 27), .ref (a1 28), .ref (a1 29), .ref (a1 30), .ref (a1 24), .ref (a1 31), .ref (a1 32), .ref (a1 25), .ref (a1 26), .ref (a1 33), .ref (a1 34), .ref (a1 18), .ref (a1 10), .int 0])), ((a1 18), .inr (2, [.ref (a1 19), .ref (a1 22), .ref (a1 20), .ref (a1 23), .ref (a1 21)])), tT (a1 21) (a1 42) (nI 2) (nI 8) 0, (h2, .inr (10, mF a2 (fun _ => 0)))] H := hP
  have hD : va_D A [(h1, .inr (9, [.ref (a1 0), .ref (a1 2), .ref (a1 5), .ref (a1 27), .ref (a1 28), .ref (a1 29), .ref (a1 30), .ref (a1 24), .ref (a1 31), .ref (a1 32), .ref (a1 25), .ref (a1 26), .ref (a1 33), .ref (a1 34), .ref (a1 18), .ref (a1 10), .int 0])), ((a1 18), .inr (2, [.ref (a1 19), .ref (a1 22), .ref (a1 20), .ref (a1 23), .ref (a1 21)])), tT (a1 21) (a1 42) (nI 2) (nI 8) 0, (h2, .inr (10, mF a2 (fun _ => 0)))] := hD
  refine lv_icmp_eq (tgt := 732) hx hb dL_law_727 (by decide) (fun _ => ?_) (fun h9 => absurd (by decide) h9)
  refine lv_iinc (v := 6) (lv' := [(3, .int 6), (2, .ref h2), (1, .ref h1), (0, .ref b)]) hx hb dL_law_732 hl (k := 0) rfl (by decide) (by decide) rfl (fun ls hl => ?_)
  refine lv_goto (tgt := 18) hx hb dL_law_735 (by decide) ?_
  refine lv_iload_n hx hb dL_law_18 rfl (lv_at hl 0 rfl) ?_
  refine lv_aload_n hx hb dL_law_19 rfl (lv_at hl 3 rfl) ?_
  refine va_slen hx hb hX hbl hbA hS dL_law_20 ?_
  refine lv_topi (nm_r (e' := 6) (by decide) ?_)
  refine lv_bipush (v := 6) hx hb dL_law_21 (by decide) ?_
  refine lv_isub hx hb dL_law_23 ?_
  refine lv_topi (nm_r (e' := 0) (by decide) ?_)
  refine lv_icmp_gt (tgt := 738) hx hb dL_law_24 (by decide) (fun _ => ?_) (fun h9 => absurd (by decide) h9)
  refine lv_iconst (v := 1) hx hb dL_law_738 (by decide) ?_
  refine va_forget (fun q hq => hAe _ (hS.2.2 q hq)) ?_
  refine W.widen (k := 600000) (n := 7302250) (Nat.le_of_ble_eq_true rfl) (Nat.le_of_ble_eq_true rfl) ?_
  exact lw_ret hx hb hr hlocks dL_law_739
theorem q0 : Cond.classLink RL 7 RX9 ∈ wsL_law := mT_1 (List.mem_of_getElem? (i := 18) rfl) rfl
theorem q1 : Cond.instantiable RX9 17 ∈ wsL_law := mT_1 (List.mem_of_getElem? (i := 19) rfl) rfl
theorem q7 : Cond.methodLink RL 9 yX9_init ∈ wsL_law := mT_1 (List.mem_of_getElem? (i := 20) rfl) rfl
theorem q8 : Cond.instanceMethod yX9_init ∈ wsL_law := mT_1 (List.mem_of_getElem? (i := 21) rfl) rfl
theorem q9 : Cond.code yX9_init cX9_init 1 none ∈ wsL_law := mT_1 (List.mem_of_getElem? (i := 22) rfl) rfl
theorem ki_L_9 : vz_ci RL 9 yX9_init cX9_init 1 0 := ⟨q7, q8, q2, q9, by decide +kernel⟩
theorem q3 : Cond.classLink RL 10 RX10 ∈ wsL_law := mT_6 (List.mem_of_getElem? (i := 84) rfl) rfl
theorem q4 : Cond.instantiable RX10 96 ∈ wsL_law := mT_6 (List.mem_of_getElem? (i := 85) rfl) rfl
theorem q166 : Cond.methodLink RL 12 yX10_init ∈ wsL_law := mT_6 (List.mem_of_getElem? (i := 86) rfl) rfl
theorem q167 : Cond.instanceMethod yX10_init ∈ wsL_law := mT_6 (List.mem_of_getElem? (i := 87) rfl) rfl
theorem q168 : Cond.code yX10_init cX10_init 1 none ∈ wsL_law := mT_6 (List.mem_of_getElem? (i := 88) rfl) rfl
theorem ki_L_12 : vz_ci RL 12 yX10_init cX10_init 1 0 := ⟨q166, q167, q5, q168, by decide +kernel⟩
theorem dL_law_0 : decode cL_law 0 = .ok (.new 7, 3) := by decide +kernel
theorem dL_law_3 : decode cL_law 3 = .ok (.dup, 1) := by decide +kernel
theorem dL_law_4 : decode cL_law 4 = .ok (.invokespecial 9, 3) := by decide +kernel
theorem dL_law_7 : decode cL_law 7 = .ok (.astore_n 1, 1) := by decide +kernel
theorem dL_law_8 : decode cL_law 8 = .ok (.new 10, 3) := by decide +kernel
theorem dL_law_11 : decode cL_law 11 = .ok (.dup, 1) := by decide +kernel
theorem dL_law_12 : decode cL_law 12 = .ok (.invokespecial 12, 3) := by decide +kernel
theorem dL_law_15 : decode cL_law 15 = .ok (.astore_n 2, 1) := by decide +kernel
theorem dL_law_16 : decode cL_law 16 = .ok (.iconst 0, 1) := by decide +kernel
theorem dL_law_17 : decode cL_law 17 = .ok (.istore_n 3, 1) := by decide +kernel
theorem dL_law_27 : decode cL_law 27 = .ok (.aload_n 0, 1) := by decide +kernel
theorem dL_law_28 : decode cL_law 28 = .ok (.iload_n 3, 1) := by decide +kernel
theorem dL_law_29 : decode cL_law 29 = .ok (.iaload, 1) := by decide +kernel
theorem dL_law_30 : decode cL_law 30 = .ok (.bipush 15, 2) := by decide +kernel
theorem dL_law_32 : decode cL_law 32 = .ok (.iand, 1) := by decide +kernel
theorem dL_law_33 : decode cL_law 33 = .ok (.tableswitch 699 0 15 #[79, 142, 181, 194, 217, 270, 283, 362, 395, 428, 471, 514, 547, 580, 613, 656], 79) := by decide +kernel
theorem vz_short {L : Nat} (h : L < 6) : Int32.ofNat L - 6 < 0 := by
  have h2 : L = 0 ∨ L = 1 ∨ L = 2 ∨ L = 3 ∨ L = 4 ∨ L = 5 := by omega
  rcases h2 with rfl | rfl | rfl | rfl | rfl | rfl <;> decide
theorem vz_arr {s : State} {args : Array Value} {ty : FieldType} (hra : ∀ (U : State) (x : ClassId), U.vm.findClass ("[" ++ ty.toString) = some x → va_RA U x ty) (h : (Cond.arrayClass ty).before args s = true) : ∃ cA : ClassId, ArrOfT s cA ty ∧ va_RA s cA ty := by
  obtain ⟨cA, kA, comp, h1, h2, h3⟩ := Cond.arrayClass_spec h
  exact ⟨cA, fun n z => ⟨fun k h => (by cases h), kA, h2, comp, h3⟩, hra s cA h1⟩
set_option maxHeartbeats 4000000 in
set_option maxRecDepth 100000 in
theorem whole_start {p : Program} {e : Env} {s : State} {m : MethodId} {below : List Frame} {meth : Method} {c : Code} (l : Launch) (hflags : l.flags = flags0) {b L : Nat} {xs : Nat → Int32} (hL : L ≤ 6) (C0 : lw_At p s m meth c b L xs) : W p l e room_1 s m #[Value.ref b] below meth c s.heap [] 0 0 (lw_Z below #[Value.ref b] s) (entryFrame m ([Value.ref b] : List Value).toArray 4) := by
  obtain ⟨hx, hb, hr, hml, hown, hts0, hX, hbl, hlocks, -⟩ := id C0
  have hts : ∀ w ∈ wsL_law, w.before #[Value.ref b] s = true := fun w h => hts0 w (wsL_law_in w h)
  have hA : ∀ q : Nat, s.heap.size ≤ q → (fun q : Nat => s.heap.size ≤ q) q := fun _ h => h
  have hAe : ∀ q : Nat, (fun q : Nat => s.heap.size ≤ q) q → s.heap.size ≤ q := fun _ h => h
  have hbA : ¬ (fun q : Nat => s.heap.size ≤ q) b := Nat.not_le.mpr hbl
  obtain ⟨c0, iS0, hKn0⟩ := u_known (C := RX0) (T := TX0) (N := 8) (n := 8) hts inlX0 (hts _ q32)
  obtain ⟨c1, iS1, hKn1⟩ := u_known (C := RX1) (T := TX1) (N := 7) (n := 7) hts inlX1 (hts _ q54)
  obtain ⟨c2, iS2, hKn2⟩ := u_known (C := RX2) (T := TX2) (N := 5) (n := 5) hts inlX2 (hts _ q22)
  obtain ⟨c3, iS3, hKn3⟩ := u_known (C := RX3) (T := TX3) (N := 12) (n := 12) hts inlX3 (hts _ q27)
  obtain ⟨c4, iS4, hKn4⟩ := u_known (C := RX4) (T := TX4) (N := 12) (n := 12) hts inlX4 (hts _ q39)
  obtain ⟨c5, iS5, hKn5⟩ := u_known (C := RX5) (T := TX5) (N := 2) (n := 2) hts inlX5 (hts _ q18)
  obtain ⟨c6, iS6, hKn6⟩ := u_known (C := RX6) (T := TX6) (N := 4) (n := 4) hts inlX6 (hts _ q14)
  obtain ⟨c7, iS7, hKn7⟩ := u_known (C := RX7) (T := TX7) (N := 7) (n := 7) hts inlX7 (hts _ q50)
  obtain ⟨c8, iS8, hKn8⟩ := u_known (C := RX8) (T := TX8) (N := 11) (n := 11) hts inlX8 (hts _ q46)
  obtain ⟨c9, iS9, hKn9⟩ := u_known (C := RX9) (T := TX9) (N := 17) (n := 17) hts inlX9 (hts _ q1)
  obtain ⟨c10, iS10, hKn10⟩ := u_known (C := RX10) (T := TX10) (N := 96) (n := 96) hts inlX10 (hts _ q4)
  obtain ⟨g0, hg0⟩ := vz_arr (ty := .int) (fun _ _ h => h) (hts _ q70)
  obtain ⟨g1, hg1⟩ := vz_arr (ty := .byte) (fun _ _ h => h) (hts _ q193)
  obtain ⟨g2, hg2⟩ := vz_arr (ty := .long) (fun _ _ h => h) (hts _ q170)
  obtain ⟨g3, hg3⟩ := vz_arr (ty := .boolean) (fun _ _ h => h) (hts _ q221)
  obtain ⟨dC, dI, hKc⟩ : ∃ (dC : Nat → ClassId) (dI : Nat → Nat → Nat), ∀ (k : Nat) (q : vw_C), vwCl[k]? = some q → u_Kn s q.1 q.2.1 q.2.2 (dC k) (dI k) := by
    refine ⟨fun k => [c0, c1, c2, c3, c4, c5, c6, c7, c8, c9, c10].getD k 0, fun k => [iS0, iS1, iS2, iS3, iS4, iS5, iS6, iS7, iS8, iS9, iS10].getD k (fun _ => 0), ?_⟩
    intro k q hq
    match k, hq with
    | 0, hq => cases hq; exact hKn0
    | 1, hq => cases hq; exact hKn1
    | 2, hq => cases hq; exact hKn2
    | 3, hq => cases hq; exact hKn3
    | 4, hq => cases hq; exact hKn4
    | 5, hq => cases hq; exact hKn5
    | 6, hq => cases hq; exact hKn6
    | 7, hq => cases hq; exact hKn7
    | 8, hq => cases hq; exact hKn8
    | 9, hq => cases hq; exact hKn9
    | 10, hq => cases hq; exact hKn10
    | k + 11, hq => simp [vwCl] at hq
  obtain ⟨D, hDe⟩ : ∃ D : va_G, D = (dC, dI) := ⟨_, rfl⟩
  obtain ⟨g, hge⟩ : ∃ g : Nat → ClassId, g = fun k => [g0, g1, g2, g3].getD k 0 := ⟨_, rfl⟩
  have hK : va_K D vwCl (tyG g) s := by
    subst hDe hge
    refine ⟨hKc, fun k q h => ?_⟩
    match k, h with
    | 0, h => cases h; exact hg0
    | 1, h => cases h; exact hg1
    | 2, h => cases h; exact hg2
    | 3, h => cases h; exact hg3
    | k + 4, h => simp at h
  obtain ⟨A, hAA⟩ : ∃ A : Nat → Prop, A = (fun q : Nat => s.heap.size ≤ q) := ⟨_, rfl⟩
  rw [← hAA] at hA hAe hbA
  have hS : va_S A s.heap s.heap [] := va_S.rf
  have hP : va_P D vwCl [] s.heap := fun k q h => by simp at h
  have hD : va_D A [] := ⟨fun i j p q h => by simp at h, fun k q h => by simp at h⟩
  have hl := lv_entry ([.ref b]) (n := 4) (Nat.le_of_ble_eq_true rfl)
  rw [lg_entry_eq]
  generalize (lg_sl ([.ref b]) ++ List.replicate (4 - (lg_sl ([.ref b])).length) Slot.unset).toArray = ls at hl ⊢
  have hl : lv_has ls 4 [(0, .ref b)] := hl
  obtain ⟨H, hHe⟩ : ∃ H : Heap, H = s.heap := ⟨_, rfl⟩
  generalize hLe : ([] : List Loc) = locs at hS ⊢
  have hS : va_S A s.heap H locs := by rw [hHe]; exact hS
  have hP : va_P D vwCl [] H := by rw [hHe]; exact hP
  suffices hgo : W p l e room_1 s m #[Value.ref b] below meth c H locs 0 0 (lw_Z below #[Value.ref b] s) (F0 m 0 ls []) by rw [hHe] at hgo; exact hgo
  clear hHe hLe
  refine va_new (ci := 9) (fs := [.null, .null, .null, .null, .null, .null, .null, .null, .null, .null, .null, .null, .null, .null, .null, .null, .int 0]) (C := RX9) (T := TX9) (N := 17) hx hb hts inlX9 tyX9 tyX9_ok hown (hts _ q0) (hts _ q1) (hts _ q2) hK hP hD hS hA rfl (lt_s (lt_s (lt_s (lt_s (lt_s (lt_s (lt_s (lt_s (lt_s (lt_s (lt_s (lt_s (lt_s (lt_s (lt_s (lt_s (lt_s (lt_0) rfl) rfl) rfl) rfl) rfl) rfl) rfl) rfl) rfl) rfl) rfl) rfl) rfl) rfl) rfl) rfl) rfl) (Nat.le_of_ble_eq_true rfl) (Nat.le_of_ble_eq_true rfl) dL_law_0 (fun qq1 H hP hD hS => ?_)
  refine W.cs (cells' := 1) (slots' := 17) rfl rfl ?_
  have hP : va_P D vwCl [(qq1, .inr (9, [.null, .null, .null, .null, .null, .null, .null, .null, .null, .null, .null, .null, .null, .null, .null, .null, .int 0]))] H := hP
  have hD : va_D A [(qq1, .inr (9, [.null, .null, .null, .null, .null, .null, .null, .null, .null, .null, .null, .null, .null, .null, .null, .null, .int 0]))] := hD
  refine lv_dup hx hb dL_law_3 rfl ?_
  refine vz_Iv (wr := []) (As := []) (rest := [.ref qq1]) hx hb hml hown hts hK hA hP hD hS (c_A_init l D g qq1 H.size) ki_L_9 (⟨Nat.le_of_ble_eq_true rfl, Nat.le_of_ble_eq_true rfl⟩) [0] [] rfl rfl (by decide) hl.1 (Nat.le_of_ble_eq_true rfl) dL_law_4 (⟨Nat.le_of_ble_eq_true rfl, Nat.le_of_ble_eq_true rfl⟩) rfl (fun aa2 H locs _ _ hP hD hS => ?_)
  refine W.cs (cells' := 107) (slots' := 62633) rfl rfl ?_
  have hP : va_P D vwCl [(qq1, .inr (9, [.ref (aa2 0), .ref (aa2 2), .ref (aa2 5), .ref (aa2 27), .ref (aa2 28), .ref (aa2 29), .ref (aa2 30), .ref (aa2 24), .ref (aa2 31), .ref (aa2 32), .ref (aa2 25), .ref (aa2 26), .ref (aa2 33), .ref (aa2 34), .ref (aa2 18), .ref (aa2 10), .int 0])), tT (aa2 0) (aa2 1) (nI 1) (nI 1000) 0, tA g (aa2 1) 1000 (fun _ => 0), ((aa2 2), .inr (5, [.ref (aa2 3), .int 0])), tT (aa2 3) (aa2 4) (nI 3) (nI 1001) 0, tA g (aa2 4) 3003 (fun _ => 0), ((aa2 5), .inr (3, [.ref (aa2 3), .ref (aa2 6), .ref (aa2 7), .ref (aa2 8), .ref (aa2 10), .int 0, .int 0, .int 0, .int 0, .int (-9), .int 0, .int 0])), tT (aa2 6) (aa2 35) (nI 1) (nI 6) 0, tT (aa2 7) (aa2 36) (nI 1) (nI 6) 0, tT (aa2 8) (aa2 9) (nI 1) (nI 80) 0, tA g (aa2 9) 80 (fun _ => 0), ((aa2 10), .inr (2, [.ref (aa2 11), .ref (aa2 12), .ref (aa2 13), .ref (aa2 14), .ref (aa2 16)])), tT (aa2 11) (aa2 37) (nI 12) (nI 80) 0, tT (aa2 12) (aa2 38) (nI 5) (nI 1000) 0, tT (aa2 13) (aa2 39) (nI 5) (nI 112) 0, tT (aa2 14) (aa2 15) (nI 1) (nI 16) 0, tA g (aa2 15) 16 (fun _ => 0), tT (aa2 16) (aa2 17) (nI 2) (nI 8) 0, tA g (aa2 17) 16 (fun _ => 0), ((aa2 18), .inr (2, [.ref (aa2 19), .ref (aa2 22), .ref (aa2 20), .ref (aa2 23), .ref (aa2 21)])), tT (aa2 19) (aa2 40) (nI 12) (nI 80) 0, tT (aa2 20) (aa2 41) (nI 5) (nI 112) 0, tT (aa2 21) (aa2 42) (nI 2) (nI 8) 0, tT (aa2 24) (aa2 43) (nI 4) (nI 30) 0, ((aa2 25), .inr (4, [.ref (aa2 44), .ref (aa2 45), .ref (aa2 46), .ref (aa2 47), .ref (aa2 48), .int (-9), .int 0, .int 0, .int 0, .int 0, .int 0, .int 0])), ((aa2 26), .inr (4, [.ref (aa2 49), .ref (aa2 50), .ref (aa2 51), .ref (aa2 52), .ref (aa2 53), .int (-9), .int 0, .int 0, .int 0, .int 0, .int 0, .int 0]))] H := hP
  have hD : va_D A [(qq1, .inr (9, [.ref (aa2 0), .ref (aa2 2), .ref (aa2 5), .ref (aa2 27), .ref (aa2 28), .ref (aa2 29), .ref (aa2 30), .ref (aa2 24), .ref (aa2 31), .ref (aa2 32), .ref (aa2 25), .ref (aa2 26), .ref (aa2 33), .ref (aa2 34), .ref (aa2 18), .ref (aa2 10), .int 0])), tT (aa2 0) (aa2 1) (nI 1) (nI 1000) 0, tA g (aa2 1) 1000 (fun _ => 0), ((aa2 2), .inr (5, [.ref (aa2 3), .int 0])), tT (aa2 3) (aa2 4) (nI 3) (nI 1001) 0, tA g (aa2 4) 3003 (fun _ => 0), ((aa2 5), .inr (3, [.ref (aa2 3), .ref (aa2 6), .ref (aa2 7), .ref (aa2 8), .ref (aa2 10), .int 0, .int 0, .int 0, .int 0, .int (-9), .int 0, .int 0])), tT (aa2 6) (aa2 35) (nI 1) (nI 6) 0, tT (aa2 7) (aa2 36) (nI 1) (nI 6) 0, tT (aa2 8) (aa2 9) (nI 1) (nI 80) 0, tA g (aa2 9) 80 (fun _ => 0), ((aa2 10), .inr (2, [.ref (aa2 11), .ref (aa2 12), .ref (aa2 13), .ref (aa2 14), .ref (aa2 16)])), tT (aa2 11) (aa2 37) (nI 12) (nI 80) 0, tT (aa2 12) (aa2 38) (nI 5) (nI 1000) 0, tT (aa2 13) (aa2 39) (nI 5) (nI 112) 0, tT (aa2 14) (aa2 15) (nI 1) (nI 16) 0, tA g (aa2 15) 16 (fun _ => 0), tT (aa2 16) (aa2 17) (nI 2) (nI 8) 0, tA g (aa2 17) 16 (fun _ => 0), ((aa2 18), .inr (2, [.ref (aa2 19), .ref (aa2 22), .ref (aa2 20), .ref (aa2 23), .ref (aa2 21)])), tT (aa2 19) (aa2 40) (nI 12) (nI 80) 0, tT (aa2 20) (aa2 41) (nI 5) (nI 112) 0, tT (aa2 21) (aa2 42) (nI 2) (nI 8) 0, tT (aa2 24) (aa2 43) (nI 4) (nI 30) 0, ((aa2 25), .inr (4, [.ref (aa2 44), .ref (aa2 45), .ref (aa2 46), .ref (aa2 47), .ref (aa2 48), .int (-9), .int 0, .int 0, .int 0, .int 0, .int 0, .int 0])), ((aa2 26), .inr (4, [.ref (aa2 49), .ref (aa2 50), .ref (aa2 51), .ref (aa2 52), .ref (aa2 53), .int (-9), .int 0, .int 0, .int 0, .int 0, .int 0, .int 0]))] := hD
  refine lv_astore_n (lv' := [(1, .ref qq1), (0, .ref b)]) hx hb dL_law_7 rfl hl (by decide) rfl (fun ls hl => ?_)
  refine va_new (ci := 10) (fs := [.null, .null, .int 0, .int 0, .int 0, .int 0, .int 0, .int 0, .int 0, .int 0, .int 0, .null, .null, .null, .null, .null, .null, .null, .null, .null, .null, .null, .null, .null, .int 0, .int 0, .int 0, .int 0, .int 0, .int 0, .null, .null, .null, .int 0, .null, .null, .int 0, .int 0, .int 0, .null, .null, .null, .null, .int 0, .null, .null, .null, .null, .null, .int 0, .null, .null, .null, .null, .null, .null, .null, .null, .null, .null, .null, .int 0, .int 0, .int 0, .int 0, .int 0, .null, .null, .null, .null, .null, .null, .null, .null, .int 0, .null, .null, .null, .null, .int 0, .null, .null, .null, .int 0, .int 0, .int 0, .int 0, .int 0, .null, .null, .null, .null, .int 0, .int 0, .null, .int 0]) (C := RX10) (T := TX10) (N := 96) hx hb hts inlX10 tyX10 tyX10_ok hown (hts _ q3) (hts _ q4) (hts _ q5) hK hP hD hS hA rfl (lt_s (lt_s (lt_s (lt_s (lt_s (lt_s (lt_s (lt_s (lt_s (lt_s (lt_s (lt_s (lt_s (lt_s (lt_s (lt_s (lt_s (lt_s (lt_s (lt_s (lt_s (lt_s (lt_s (lt_s (lt_s (lt_s (lt_s (lt_s (lt_s (lt_s (lt_s (lt_s (lt_s (lt_s (lt_s (lt_s (lt_s (lt_s (lt_s (lt_s (lt_s (lt_s (lt_s (lt_s (lt_s (lt_s (lt_s (lt_s (lt_s (lt_s (lt_s (lt_s (lt_s (lt_s (lt_s (lt_s (lt_s (lt_s (lt_s (lt_s (lt_s (lt_s (lt_s (lt_s (lt_s (lt_s (lt_s (lt_s (lt_s (lt_s (lt_s (lt_s (lt_s (lt_s (lt_s (lt_s (lt_s (lt_s (lt_s (lt_s (lt_s (lt_s (lt_s (lt_s (lt_s (lt_s (lt_s (lt_s (lt_s (lt_s (lt_s (lt_s (lt_s (lt_s (lt_s (lt_s (lt_0) rfl) rfl) rfl) rfl) rfl) rfl) rfl) rfl) rfl) rfl) rfl) rfl) rfl) rfl) rfl) rfl) rfl) rfl) rfl) rfl) rfl) rfl) rfl) rfl) rfl) rfl) rfl) rfl) rfl) rfl) rfl) rfl) rfl) rfl) rfl) rfl) rfl) rfl) rfl) rfl) rfl) rfl) rfl) rfl) rfl) rfl) rfl) rfl) rfl) rfl) rfl) rfl) rfl) rfl) rfl) rfl) rfl) rfl) rfl) rfl) rfl) rfl) rfl) rfl) rfl) rfl) rfl) rfl) rfl) rfl) rfl) rfl) rfl) rfl) rfl) rfl) rfl) rfl) rfl) rfl) rfl) rfl) rfl) rfl) rfl) rfl) rfl) rfl) rfl) rfl) rfl) rfl) rfl) rfl) rfl) rfl) (Nat.le_of_ble_eq_true rfl) (Nat.le_of_ble_eq_true rfl) dL_law_8 (fun qq3 H hP hD hS => ?_)
  refine W.cs (cells' := 108) (slots' := 62729) rfl rfl ?_
  have hP : va_P D vwCl [(qq1, .inr (9, [.ref (aa2 0), .ref (aa2 2), .ref (aa2 5), .ref (aa2 27), .ref (aa2 28), .ref (aa2 29), .ref (aa2 30), .ref (aa2 24), .ref (aa2 31), .ref (aa2 32), .ref (aa2 25), .ref (aa2 26), .ref (aa2 33), .ref (aa2 34), .ref (aa2 18), .ref (aa2 10), .int 0])), tT (aa2 0) (aa2 1) (nI 1) (nI 1000) 0, tA g (aa2 1) 1000 (fun _ => 0), ((aa2 2), .inr (5, [.ref (aa2 3), .int 0])), tT (aa2 3) (aa2 4) (nI 3) (nI 1001) 0, tA g (aa2 4) 3003 (fun _ => 0), ((aa2 5), .inr (3, [.ref (aa2 3), .ref (aa2 6), .ref (aa2 7), .ref (aa2 8), .ref (aa2 10), .int 0, .int 0, .int 0, .int 0, .int (-9), .int 0, .int 0])), tT (aa2 6) (aa2 35) (nI 1) (nI 6) 0, tT (aa2 7) (aa2 36) (nI 1) (nI 6) 0, tT (aa2 8) (aa2 9) (nI 1) (nI 80) 0, tA g (aa2 9) 80 (fun _ => 0), ((aa2 10), .inr (2, [.ref (aa2 11), .ref (aa2 12), .ref (aa2 13), .ref (aa2 14), .ref (aa2 16)])), tT (aa2 11) (aa2 37) (nI 12) (nI 80) 0, tT (aa2 12) (aa2 38) (nI 5) (nI 1000) 0, tT (aa2 13) (aa2 39) (nI 5) (nI 112) 0, tT (aa2 14) (aa2 15) (nI 1) (nI 16) 0, tA g (aa2 15) 16 (fun _ => 0), tT (aa2 16) (aa2 17) (nI 2) (nI 8) 0, tA g (aa2 17) 16 (fun _ => 0), ((aa2 18), .inr (2, [.ref (aa2 19), .ref (aa2 22), .ref (aa2 20), .ref (aa2 23), .ref (aa2 21)])), tT (aa2 19) (aa2 40) (nI 12) (nI 80) 0, tT (aa2 20) (aa2 41) (nI 5) (nI 112) 0, tT (aa2 21) (aa2 42) (nI 2) (nI 8) 0, tT (aa2 24) (aa2 43) (nI 4) (nI 30) 0, ((aa2 25), .inr (4, [.ref (aa2 44), .ref (aa2 45), .ref (aa2 46), .ref (aa2 47), .ref (aa2 48), .int (-9), .int 0, .int 0, .int 0, .int 0, .int 0, .int 0])), ((aa2 26), .inr (4, [.ref (aa2 49), .ref (aa2 50), .ref (aa2 51), .ref (aa2 52), .ref (aa2 53), .int (-9), .int 0, .int 0, .int 0, .int 0, .int 0, .int 0])), (qq3, .inr (10, [.null, .null, .int 0, .int 0, .int 0, .int 0, .int 0, .int 0, .int 0, .int 0, .int 0, .null, .null, .null, .null, .null, .null, .null, .null, .null, .null, .null, .null, .null, .int 0, .int 0, .int 0, .int 0, .int 0, .int 0, .null, .null, .null, .int 0, .null, .null, .int 0, .int 0, .int 0, .null, .null, .null, .null, .int 0, .null, .null, .null, .null, .null, .int 0, .null, .null, .null, .null, .null, .null, .null, .null, .null, .null, .null, .int 0, .int 0, .int 0, .int 0, .int 0, .null, .null, .null, .null, .null, .null, .null, .null, .int 0, .null, .null, .null, .null, .int 0, .null, .null, .null, .int 0, .int 0, .int 0, .int 0, .int 0, .null, .null, .null, .null, .int 0, .int 0, .null, .int 0]))] H := hP
  have hD : va_D A [(qq1, .inr (9, [.ref (aa2 0), .ref (aa2 2), .ref (aa2 5), .ref (aa2 27), .ref (aa2 28), .ref (aa2 29), .ref (aa2 30), .ref (aa2 24), .ref (aa2 31), .ref (aa2 32), .ref (aa2 25), .ref (aa2 26), .ref (aa2 33), .ref (aa2 34), .ref (aa2 18), .ref (aa2 10), .int 0])), tT (aa2 0) (aa2 1) (nI 1) (nI 1000) 0, tA g (aa2 1) 1000 (fun _ => 0), ((aa2 2), .inr (5, [.ref (aa2 3), .int 0])), tT (aa2 3) (aa2 4) (nI 3) (nI 1001) 0, tA g (aa2 4) 3003 (fun _ => 0), ((aa2 5), .inr (3, [.ref (aa2 3), .ref (aa2 6), .ref (aa2 7), .ref (aa2 8), .ref (aa2 10), .int 0, .int 0, .int 0, .int 0, .int (-9), .int 0, .int 0])), tT (aa2 6) (aa2 35) (nI 1) (nI 6) 0, tT (aa2 7) (aa2 36) (nI 1) (nI 6) 0, tT (aa2 8) (aa2 9) (nI 1) (nI 80) 0, tA g (aa2 9) 80 (fun _ => 0), ((aa2 10), .inr (2, [.ref (aa2 11), .ref (aa2 12), .ref (aa2 13), .ref (aa2 14), .ref (aa2 16)])), tT (aa2 11) (aa2 37) (nI 12) (nI 80) 0, tT (aa2 12) (aa2 38) (nI 5) (nI 1000) 0, tT (aa2 13) (aa2 39) (nI 5) (nI 112) 0, tT (aa2 14) (aa2 15) (nI 1) (nI 16) 0, tA g (aa2 15) 16 (fun _ => 0), tT (aa2 16) (aa2 17) (nI 2) (nI 8) 0, tA g (aa2 17) 16 (fun _ => 0), ((aa2 18), .inr (2, [.ref (aa2 19), .ref (aa2 22), .ref (aa2 20), .ref (aa2 23), .ref (aa2 21)])), tT (aa2 19) (aa2 40) (nI 12) (nI 80) 0, tT (aa2 20) (aa2 41) (nI 5) (nI 112) 0, tT (aa2 21) (aa2 42) (nI 2) (nI 8) 0, tT (aa2 24) (aa2 43) (nI 4) (nI 30) 0, ((aa2 25), .inr (4, [.ref (aa2 44), .ref (aa2 45), .ref (aa2 46), .ref (aa2 47), .ref (aa2 48), .int (-9), .int 0, .int 0, .int 0, .int 0, .int 0, .int 0])), ((aa2 26), .inr (4, [.ref (aa2 49), .ref (aa2 50), .ref (aa2 51), .ref (aa2 52), .ref (aa2 53), .int (-9), .int 0, .int 0, .int 0, .int 0, .int 0, .int 0])), (qq3, .inr (10, [.null, .null, .int 0, .int 0, .int 0, .int 0, .int 0, .int 0, .int 0, .int 0, .int 0, .null, .null, .null, .null, .null, .null, .null, .null, .null, .null, .null, .null, .null, .int 0, .int 0, .int 0, .int 0, .int 0, .int 0, .null, .null, .null, .int 0, .null, .null, .int 0, .int 0, .int 0, .null, .null, .null, .null, .int 0, .null, .null, .null, .null, .null, .int 0, .null, .null, .null, .null, .null, .null, .null, .null, .null, .null, .null, .int 0, .int 0, .int 0, .int 0, .int 0, .null, .null, .null, .null, .null, .null, .null, .null, .int 0, .null, .null, .null, .null, .int 0, .null, .null, .null, .int 0, .int 0, .int 0, .int 0, .int 0, .null, .null, .null, .null, .int 0, .int 0, .null, .int 0]))] := hD
  refine lv_dup hx hb dL_law_11 rfl ?_
  refine vz_Iv (wr := [(qq1, .inr (9, [.ref (aa2 0), .ref (aa2 2), .ref (aa2 5), .ref (aa2 27), .ref (aa2 28), .ref (aa2 29), .ref (aa2 30), .ref (aa2 24), .ref (aa2 31), .ref (aa2 32), .ref (aa2 25), .ref (aa2 26), .ref (aa2 33), .ref (aa2 34), .ref (aa2 18), .ref (aa2 10), .int 0])), tT (aa2 0) (aa2 1) (nI 1) (nI 1000) 0, tA g (aa2 1) 1000 (fun _ => 0), ((aa2 2), .inr (5, [.ref (aa2 3), .int 0])), tT (aa2 3) (aa2 4) (nI 3) (nI 1001) 0, tA g (aa2 4) 3003 (fun _ => 0), ((aa2 5), .inr (3, [.ref (aa2 3), .ref (aa2 6), .ref (aa2 7), .ref (aa2 8), .ref (aa2 10), .int 0, .int 0, .int 0, .int 0, .int (-9), .int 0, .int 0])), tT (aa2 6) (aa2 35) (nI 1) (nI 6) 0, tT (aa2 7) (aa2 36) (nI 1) (nI 6) 0, tT (aa2 8) (aa2 9) (nI 1) (nI 80) 0, tA g (aa2 9) 80 (fun _ => 0), ((aa2 10), .inr (2, [.ref (aa2 11), .ref (aa2 12), .ref (aa2 13), .ref (aa2 14), .ref (aa2 16)])), tT (aa2 11) (aa2 37) (nI 12) (nI 80) 0, tT (aa2 12) (aa2 38) (nI 5) (nI 1000) 0, tT (aa2 13) (aa2 39) (nI 5) (nI 112) 0, tT (aa2 14) (aa2 15) (nI 1) (nI 16) 0, tA g (aa2 15) 16 (fun _ => 0), tT (aa2 16) (aa2 17) (nI 2) (nI 8) 0, tA g (aa2 17) 16 (fun _ => 0), ((aa2 18), .inr (2, [.ref (aa2 19), .ref (aa2 22), .ref (aa2 20), .ref (aa2 23), .ref (aa2 21)])), tT (aa2 19) (aa2 40) (nI 12) (nI 80) 0, tT (aa2 20) (aa2 41) (nI 5) (nI 112) 0, tT (aa2 21) (aa2 42) (nI 2) (nI 8) 0, tT (aa2 24) (aa2 43) (nI 4) (nI 30) 0, ((aa2 25), .inr (4, [.ref (aa2 44), .ref (aa2 45), .ref (aa2 46), .ref (aa2 47), .ref (aa2 48), .int (-9), .int 0, .int 0, .int 0, .int 0, .int 0, .int 0])), ((aa2 26), .inr (4, [.ref (aa2 49), .ref (aa2 50), .ref (aa2 51), .ref (aa2 52), .ref (aa2 53), .int (-9), .int 0, .int 0, .int 0, .int 0, .int 0, .int 0]))]) (As := []) (rest := [.ref qq3]) hx hb hml hown hts hK hA hP hD hS (c_m_init l D g qq3 H.size) ki_L_12 (⟨Nat.le_of_ble_eq_true rfl, Nat.le_of_ble_eq_true rfl⟩) [26] [0, 1, 2, 3, 4, 5, 6, 7, 8, 9, 10, 11, 12, 13, 14, 15, 16, 17, 18, 19, 20, 21, 22, 23, 24, 25] rfl rfl (by decide) hl.1 (Nat.le_of_ble_eq_true rfl) dL_law_12 (⟨Nat.le_of_ble_eq_true rfl, Nat.le_of_ble_eq_true rfl⟩) rfl (fun aa4 H locs _ _ hP hD hS => ?_)
  refine W.cs (cells' := 168) (slots' := 110802) rfl rfl ?_
  have hP : va_P D vwCl [(qq1, .inr (9, [.ref (aa2 0), .ref (aa2 2), .ref (aa2 5), .ref (aa2 27), .ref (aa2 28), .ref (aa2 29), .ref (aa2 30), .ref (aa2 24), .ref (aa2 31), .ref (aa2 32), .ref (aa2 25), .ref (aa2 26), .ref (aa2 33), .ref (aa2 34), .ref (aa2 18), .ref (aa2 10), .int 0])), tT (aa2 0) (aa2 1) (nI 1) (nI 1000) 0, tA g (aa2 1) 1000 (fun _ => 0), ((aa2 2), .inr (5, [.ref (aa2 3), .int 0])), tT (aa2 3) (aa2 4) (nI 3) (nI 1001) 0, tA g (aa2 4) 3003 (fun _ => 0), ((aa2 5), .inr (3, [.ref (aa2 3), .ref (aa2 6), .ref (aa2 7), .ref (aa2 8), .ref (aa2 10), .int 0, .int 0, .int 0, .int 0, .int (-9), .int 0, .int 0])), tT (aa2 6) (aa2 35) (nI 1) (nI 6) 0, tT (aa2 7) (aa2 36) (nI 1) (nI 6) 0, tT (aa2 8) (aa2 9) (nI 1) (nI 80) 0, tA g (aa2 9) 80 (fun _ => 0), ((aa2 10), .inr (2, [.ref (aa2 11), .ref (aa2 12), .ref (aa2 13), .ref (aa2 14), .ref (aa2 16)])), tT (aa2 11) (aa2 37) (nI 12) (nI 80) 0, tT (aa2 12) (aa2 38) (nI 5) (nI 1000) 0, tT (aa2 13) (aa2 39) (nI 5) (nI 112) 0, tT (aa2 14) (aa2 15) (nI 1) (nI 16) 0, tA g (aa2 15) 16 (fun _ => 0), tT (aa2 16) (aa2 17) (nI 2) (nI 8) 0, tA g (aa2 17) 16 (fun _ => 0), ((aa2 18), .inr (2, [.ref (aa2 19), .ref (aa2 22), .ref (aa2 20), .ref (aa2 23), .ref (aa2 21)])), tT (aa2 19) (aa2 40) (nI 12) (nI 80) 0, tT (aa2 20) (aa2 41) (nI 5) (nI 112) 0, tT (aa2 21) (aa2 42) (nI 2) (nI 8) 0, tT (aa2 24) (aa2 43) (nI 4) (nI 30) 0, ((aa2 25), .inr (4, [.ref (aa2 44), .ref (aa2 45), .ref (aa2 46), .ref (aa2 47), .ref (aa2 48), .int (-9), .int 0, .int 0, .int 0, .int 0, .int 0, .int 0])), ((aa2 26), .inr (4, [.ref (aa2 49), .ref (aa2 50), .ref (aa2 51), .ref (aa2 52), .ref (aa2 53), .int (-9), .int 0, .int 0, .int 0, .int 0, .int 0, .int 0])), (qq3, .inr (10, mF aa4 (fun _ => 0))), ((aa4 1), .inl (g 1, 1000, .inl (fun _ => 0))), tA g (aa4 3) 2 (fun _ => 0), tA g (aa4 10) 2 (fun _ => 0), tA g (aa4 12) 2 (fun _ => 0), tA g (aa4 14) 2 (fun _ => 0), tA g (aa4 13) 32 (fun _ => 0), ((aa4 28), .inl (g 3, 2, .inl (fun _ => 0)))] H := hP
  have hD : va_D A [(qq1, .inr (9, [.ref (aa2 0), .ref (aa2 2), .ref (aa2 5), .ref (aa2 27), .ref (aa2 28), .ref (aa2 29), .ref (aa2 30), .ref (aa2 24), .ref (aa2 31), .ref (aa2 32), .ref (aa2 25), .ref (aa2 26), .ref (aa2 33), .ref (aa2 34), .ref (aa2 18), .ref (aa2 10), .int 0])), tT (aa2 0) (aa2 1) (nI 1) (nI 1000) 0, tA g (aa2 1) 1000 (fun _ => 0), ((aa2 2), .inr (5, [.ref (aa2 3), .int 0])), tT (aa2 3) (aa2 4) (nI 3) (nI 1001) 0, tA g (aa2 4) 3003 (fun _ => 0), ((aa2 5), .inr (3, [.ref (aa2 3), .ref (aa2 6), .ref (aa2 7), .ref (aa2 8), .ref (aa2 10), .int 0, .int 0, .int 0, .int 0, .int (-9), .int 0, .int 0])), tT (aa2 6) (aa2 35) (nI 1) (nI 6) 0, tT (aa2 7) (aa2 36) (nI 1) (nI 6) 0, tT (aa2 8) (aa2 9) (nI 1) (nI 80) 0, tA g (aa2 9) 80 (fun _ => 0), ((aa2 10), .inr (2, [.ref (aa2 11), .ref (aa2 12), .ref (aa2 13), .ref (aa2 14), .ref (aa2 16)])), tT (aa2 11) (aa2 37) (nI 12) (nI 80) 0, tT (aa2 12) (aa2 38) (nI 5) (nI 1000) 0, tT (aa2 13) (aa2 39) (nI 5) (nI 112) 0, tT (aa2 14) (aa2 15) (nI 1) (nI 16) 0, tA g (aa2 15) 16 (fun _ => 0), tT (aa2 16) (aa2 17) (nI 2) (nI 8) 0, tA g (aa2 17) 16 (fun _ => 0), ((aa2 18), .inr (2, [.ref (aa2 19), .ref (aa2 22), .ref (aa2 20), .ref (aa2 23), .ref (aa2 21)])), tT (aa2 19) (aa2 40) (nI 12) (nI 80) 0, tT (aa2 20) (aa2 41) (nI 5) (nI 112) 0, tT (aa2 21) (aa2 42) (nI 2) (nI 8) 0, tT (aa2 24) (aa2 43) (nI 4) (nI 30) 0, ((aa2 25), .inr (4, [.ref (aa2 44), .ref (aa2 45), .ref (aa2 46), .ref (aa2 47), .ref (aa2 48), .int (-9), .int 0, .int 0, .int 0, .int 0, .int 0, .int 0])), ((aa2 26), .inr (4, [.ref (aa2 49), .ref (aa2 50), .ref (aa2 51), .ref (aa2 52), .ref (aa2 53), .int (-9), .int 0, .int 0, .int 0, .int 0, .int 0, .int 0])), (qq3, .inr (10, mF aa4 (fun _ => 0))), ((aa4 1), .inl (g 1, 1000, .inl (fun _ => 0))), tA g (aa4 3) 2 (fun _ => 0), tA g (aa4 10) 2 (fun _ => 0), tA g (aa4 12) 2 (fun _ => 0), tA g (aa4 14) 2 (fun _ => 0), tA g (aa4 13) 32 (fun _ => 0), ((aa4 28), .inl (g 3, 2, .inl (fun _ => 0)))] := hD
  refine lv_astore_n (lv' := [(2, .ref qq3), (1, .ref qq1), (0, .ref b)]) hx hb dL_law_15 rfl hl (by decide) rfl (fun ls hl => ?_)
  refine lv_iconst (v := 0) hx hb dL_law_16 (by decide) ?_
  refine lv_istore_n (lv' := [(3, .int 0), (2, .ref qq3), (1, .ref qq1), (0, .ref b)]) hx hb dL_law_17 rfl hl (by decide) rfl (fun ls hl => ?_)
  rcases Nat.lt_or_ge L 6 with hlt | hge
  · refine lv_iload_n hx hb dL_law_18 rfl (lv_at hl 0 rfl) ?_
    refine lv_aload_n hx hb dL_law_19 rfl (lv_at hl 3 rfl) ?_
    refine va_slen hx hb hX hbl hbA hS dL_law_20 ?_
    refine lv_bipush (v := 6) hx hb dL_law_21 (by decide) ?_
    refine lv_isub hx hb dL_law_23 ?_
    refine lv_icmp_gt (tgt := 738) hx hb dL_law_24 (by decide) (fun _ => ?_) (fun h9 => absurd (vz_short hlt) h9)
    refine lv_iconst (v := 1) hx hb dL_law_738 (by decide) ?_
    refine va_forget (fun q hq => hAe _ (hS.2.2 q hq)) ?_
    refine W.widen (k := 600000) (n := 7302250) (Nat.le_of_ble_eq_true rfl) (Nat.le_of_ble_eq_true rfl) ?_
    exact lw_ret hx hb hr hlocks dL_law_739
  · obtain rfl : L = 6 := by omega
    refine lv_iload_n hx hb dL_law_18 rfl (lv_at hl 0 rfl) ?_
    refine lv_aload_n hx hb dL_law_19 rfl (lv_at hl 3 rfl) ?_
    refine va_slen hx hb hX hbl hbA hS dL_law_20 ?_
    refine lv_topi (nm_r (e' := 6) (by decide) ?_)
    refine lv_bipush (v := 6) hx hb dL_law_21 (by decide) ?_
    refine lv_isub hx hb dL_law_23 ?_
    refine lv_topi (nm_r (e' := 0) (by decide) ?_)
    refine lv_icmp_gt (tgt := 738) hx hb dL_law_24 (by decide) (fun h9 => absurd h9 (by decide)) (fun _ => ?_)
    refine lv_aload_n hx hb dL_law_27 rfl (lv_at hl 3 rfl) ?_
    refine lv_iload_n hx hb dL_law_28 rfl (lv_at hl 0 rfl) ?_
    refine va_sld hx hb hX hbl hbA hS (vp_in_c (by decide)) dL_law_29 ?_
    refine lv_bipush (v := 15) hx hb dL_law_30 (by decide) ?_
    refine lv_iand hx hb dL_law_32 ?_
    obtain ⟨k, hk, ek⟩ := pk_andE (xs 0) (m := 15) 4 (by decide)
    refine lv_topi (nm_r (e' := nI k) ek ?_)
    have hk2 : k = 0 ∨ k = 1 ∨ k = 2 ∨ k = 3 ∨ k = 4 ∨ k = 5 ∨ k = 6 ∨ k = 7 ∨ k = 8 ∨ k = 9 ∨ k = 10 ∨ k = 11 ∨ k = 12 ∨ k = 13 ∨ k = 14 ∨ k = 15 := by omega
    rcases hk2 with rfl | rfl | rfl | rfl | rfl | rfl | rfl | rfl | rfl | rfl | rfl | rfl | rfl | rfl | rfl | rfl
    · refine lv_tableIn (off := 79) (tgt := 112) hx hb dL_law_33 (by decide) (by decide) (by decide) (by decide) ?_
      exact law_op0 C0 hAe hA hK hP hD hS hl
    · refine lv_tableIn (off := 142) (tgt := 175) hx hb dL_law_33 (by decide) (by decide) (by decide) (by decide) ?_
      exact law_op1 C0 hAe hA hK hP hD hS hl
    · refine lv_tableIn (off := 181) (tgt := 214) hx hb dL_law_33 (by decide) (by decide) (by decide) (by decide) ?_
      exact law_op2 C0 hAe hA hK hP hD hS hl
    · refine lv_tableIn (off := 194) (tgt := 227) hx hb dL_law_33 (by decide) (by decide) (by decide) (by decide) ?_
      exact law_op3 C0 hAe hA hK hP hD hS hl
    · refine lv_tableIn (off := 217) (tgt := 250) hx hb dL_law_33 (by decide) (by decide) (by decide) (by decide) ?_
      exact law_op4 C0 hAe hA hK hP hD hS hl
    · refine lv_tableIn (off := 270) (tgt := 303) hx hb dL_law_33 (by decide) (by decide) (by decide) (by decide) ?_
      exact law_op5 C0 hAe hA hK hP hD hS hl
    · refine lv_tableIn (off := 283) (tgt := 316) hx hb dL_law_33 (by decide) (by decide) (by decide) (by decide) ?_
      exact law_op6 C0 hAe hA hK hP hD hS hl
    · refine lv_tableIn (off := 362) (tgt := 395) hx hb dL_law_33 (by decide) (by decide) (by decide) (by decide) ?_
      exact law_op7 C0 hAe hA hK hP hD hS hl
    · refine lv_tableIn (off := 395) (tgt := 428) hx hb dL_law_33 (by decide) (by decide) (by decide) (by decide) ?_
      exact law_op8 C0 hAe hA hK hP hD hS hl
    · refine lv_tableIn (off := 428) (tgt := 461) hx hb dL_law_33 (by decide) (by decide) (by decide) (by decide) ?_
      exact law_op9 C0 hAe hA hK hP hD hS hl
    · refine lv_tableIn (off := 471) (tgt := 504) hx hb dL_law_33 (by decide) (by decide) (by decide) (by decide) ?_
      exact law_op10 C0 hAe hA hK hP hD hS hl
    · refine lv_tableIn (off := 514) (tgt := 547) hx hb dL_law_33 (by decide) (by decide) (by decide) (by decide) ?_
      exact law_op11 C0 hAe hA hK hP hD hS hl
    · refine lv_tableIn (off := 547) (tgt := 580) hx hb dL_law_33 (by decide) (by decide) (by decide) (by decide) ?_
      exact law_op12 C0 hAe hA hK hP hD hS hl
    · refine lv_tableIn (off := 580) (tgt := 613) hx hb dL_law_33 (by decide) (by decide) (by decide) (by decide) ?_
      exact law_op13 C0 hAe hA hK hP hD hS hl
    · refine lv_tableIn (off := 613) (tgt := 646) hx hb dL_law_33 (by decide) (by decide) (by decide) (by decide) ?_
      exact law_op14 C0 hAe hA hK hP hD hS hl
    · refine lv_tableIn (off := 656) (tgt := 689) hx hb dL_law_33 (by decide) (by decide) (by decide) (by decide) ?_
      exact law_op15 C0 hAe hA hK hP hD hS hl
