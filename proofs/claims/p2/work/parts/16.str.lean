/-! The String constants: what stands of them (zz), contracts over them. -/
abbrev zsK : Nat → Nat := fun i => [81, 83, 48].getD i 0
abbrev zsT : Nat → String := fun i => ["kmvr", "kind under method mark call row none return if else loop leave next throw wrap again guard with catch finally size ", "+-*/%()[]{}=<>,;"].getD i ""
abbrev zsL : List Nat := [4, 115, 16]
abbrev zsB : List (List Int32) := [[107, 109, 118, 114], [107, 105, 110, 100, 32, 117, 110, 100, 101, 114, 32, 109, 101, 116, 104, 111, 100, 32, 109, 97, 114, 107, 32, 99, 97, 108, 108, 32, 114, 111, 119, 32, 110, 111, 110, 101, 32, 114, 101, 116, 117, 114, 110, 32, 105, 102, 32, 101, 108, 115, 101, 32, 108, 111, 111, 112, 32, 108, 101, 97, 118, 101, 32, 110, 101, 120, 116, 32, 116, 104, 114, 111, 119, 32, 119, 114, 97, 112, 32, 97, 103, 97, 105, 110, 32, 103, 117, 97, 114, 100, 32, 119, 105, 116, 104, 32, 99, 97, 116, 99, 104, 32, 102, 105, 110, 97, 108, 108, 121, 32, 115, 105, 122, 101, 32], [43, 45, 42, 47, 37, 40, 41, 91, 93, 123, 125, 61, 60, 62, 44, 59]]
def zz (k v : Nat → Nat) (fo : Nat) (A : Nat → Prop) (U : State) : Prop := vk_S 3 zsL zsB k v A U U.heap ∧ va_Z "java/lang/String" "COMPACT_STRINGS" "Z" (.int 1) A U U.heap ∧ (∀ i, i < 3 → vk_R RX5 (zsK i) (zsT i) (k i) U) ∧ va_Zq "jdk/internal/util/Preconditions" "SIOOBE_FORMATTER" "Ljava/util/function/BiFunction;" A U U.heap
theorem zz_call {k v : Nat → Nat} {fo : Nat} {A A1 : Nat → Prop} {s U : State} {H : Heap} {locs : List Loc} (h : zz k v fo A s) (hS : va_S A s.heap H locs) (hU : U.heap = H) (hW : s.WarmedH U.vm) (hf : ∀ q, A1 q → A q) : zz k v fo A1 U := by
  subst hU
  exact ⟨vk_S.moved hW.alike ((h.1.kept hS.2.1).narrow hf), va_Z.moved hW.alike ((h.2.1.kept hS.2.1).narrow hf), fun i hi => (h.2.2.1 i hi).warm hW, va_Zq.moved hW.alike ((h.2.2.2.kept hS.2.1).narrow hf)⟩
def vy_Mi {S : Type} (l : Launch) (D : va_G) (T : vz_T) (y : MethodName) (b : ByteArray) (n f L mc ms : Nat) (ty : FieldType) (av : List Value) (sz : Nat) (ws : va_W) (k v : Nat → Nat) (fo : Nat) (post : Int32 → S → Prop) (w1 : S → va_W) : Prop :=
  Met l y (.code y b n (some ty) :: wsL_law) { frames := f, cells := mc, slots := ms, locals := L } (va_Pc av (fun U => vz_S D T sz ws U ∧ zz k v fo (va_A ws sz) U)) (va_Qi post (fun u => vz_B D T (va_A ws sz) (w1 u)) (va_A ws sz)) mc ms (va_A ws sz)
def vy_Mv {S : Type} (l : Launch) (D : va_G) (T : vz_T) (y : MethodName) (b : ByteArray) (n f L mc ms : Nat) (av : List Value) (sz : Nat) (ws : va_W) (k v : Nat → Nat) (fo : Nat) (post : S → Prop) (w1 : S → va_W) : Prop :=
  Met l y (.code y b n none :: wsL_law) { frames := f, cells := mc, slots := ms, locals := L } (va_Pc av (fun U => vz_S D T sz ws U ∧ zz k v fo (va_A ws sz) U)) (va_Qv post (fun u => vz_B D T (va_A ws sz) (w1 u)) (va_A ws sz)) mc ms (va_A ws sz)
theorem vy_blind {D : va_G} {T : vz_T} {sz : Nat} {ws : va_W} {av : List Value} {k v : Nat → Nat} {fo : Nat} : FrameBlind (va_Pc av (fun U => vz_S D T sz ws U ∧ zz k v fo (va_A ws sz) U)) := fun a U g mk q => by
  obtain ⟨q0, ⟨q1, qP, qK, qD⟩, qz⟩ := q
  exact ⟨q0, ⟨q1, qP, va_K.moved (u := U) (U := U.calling g mk a) (Vm.Alike.refl U.vm) qK, qD⟩, vk_S.moved (u := U) (U := U.calling g mk a) (Vm.Alike.refl U.vm) qz.1, va_Z.moved (u := U) (U := U.calling g mk a) (Vm.Alike.refl U.vm) qz.2.1, fun i hi => (qz.2.2.1 i hi).same (u := U) (U := U.calling g mk a) rfl, va_Zq.moved (u := U) (U := U.calling g mk a) (Vm.Alike.refl U.vm) qz.2.2.2⟩
theorem vy_pre {D : va_G} {T : vz_T} {s : State} {H : Heap} {ws : va_W} {A : Nat → Prop} {k v : Nat → Nat} {fo : Nat} {locs : List Loc} (hP : va_P D vwCl ws H) (hK : va_K D vwCl T s) (hD : va_D A ws) (hz : zz k v fo A s) (hS : va_S A s.heap H locs) (hf : ∀ q, va_A ws H.size q → A q) (av : List Value) : ∀ U : State, U.heap = H → s.WarmedH U.vm → va_Pc av (fun U => vz_S D T H.size ws U ∧ zz k v fo (va_A ws H.size) U) av.toArray U := fun U hU hW => ⟨rfl, (vz_pre hP hK hD av U hU hW).2, zz_call hz hS hU hW hf⟩
theorem vy_siQ {S : Type} {l : Launch} {D : va_G} {T : vz_T} {y : MethodName} {b : ByteArray} {n f L mc ms : Nat} {ty : FieldType} {av : List Value} {sz : Nat} {ws : va_W} {k9 v9 : Nat → Nat} {fo : Nat} {post : Int32 → S → Prop} {w1 : S → va_W} (hy : plainName y.cls = true) (hn : (lg_sl av).length ≤ n)
    (body : ∀ (p : Program) (e : Env) (s : State) (m : MethodId) (args : Array Value) (below : List Frame) (meth : Method) (c : Code), p.tables.exec = Jvm.exec → c.code = b → meth.sig.returnType = some ty → c.maxLocals = n → (∀ w ∈ wsL_law, w.before args s = true) → s.vm.findClass y.cls = some m.cls → meth.locks = false → meth.name = y.name → va_K D vwCl T s → s.heap.size = sz → ∀ A : Nat → Prop, (∀ q : Nat, s.heap.size ≤ q → A q) → zz k9 v9 fo A s → ∀ (H : Heap) (locs : List Loc), va_P D vwCl ws H → va_D A ws → va_S A s.heap H locs → ∀ ls : Array Slot, lv_has ls n (lv_args 0 av) → ∀ Q : State → Prop, Q = (MQ below (va_Qi post (fun u => vz_B D T A (w1 u)) A) args s mc ms A) →
      W p l e { frames := f, cells := mc, slots := ms, locals := L } s m args below meth c H locs 0 0 Q (F0 m 0 ls [])) : vy_Mi l D T y b n f L mc ms ty av sz ws k9 v9 fo post w1 := by
  refine Met.ofW (cc := b) (maxL := n) (ret := some ty) hy rfl ?_
  intro p e s m args below meth c s₁ B hml hv
  obtain ⟨rfl, ⟨hsz, hP, hK, hD0⟩, hz⟩ := hv
  have hts0 := atoms_spec (ws := .code y b n (some ty) :: wsL_law) B.pre
  have hl := lv_entry av (n := n) hn
  rw [lg_entry_eq]
  have hD := hD0.self (sz := s.heap.size)
  subst hsz
  exact body p e s m _ below meth c B.exec B.bytes B.returns hml (fun w h => hts0 w (List.mem_cons_of_mem _ h)) (findClass_of_methodNamed B.named) B.notSynchronized (name_of_methodNamed B.named B.method).1 hK rfl _ (fun q h => Or.inr h) hz _ _ hP hD va_S.rf _ hl _ rfl
theorem vy_svQ {S : Type} {l : Launch} {D : va_G} {T : vz_T} {y : MethodName} {b : ByteArray} {n f L mc ms : Nat} {av : List Value} {sz : Nat} {ws : va_W} {k9 v9 : Nat → Nat} {fo : Nat} {post : S → Prop} {w1 : S → va_W} (hy : plainName y.cls = true) (hn : (lg_sl av).length ≤ n)
    (body : ∀ (p : Program) (e : Env) (s : State) (m : MethodId) (args : Array Value) (below : List Frame) (meth : Method) (c : Code), p.tables.exec = Jvm.exec → c.code = b → meth.sig.returnType = none → c.maxLocals = n → (∀ w ∈ wsL_law, w.before args s = true) → s.vm.findClass y.cls = some m.cls → meth.locks = false → meth.name = y.name → va_K D vwCl T s → s.heap.size = sz → ∀ A : Nat → Prop, (∀ q : Nat, s.heap.size ≤ q → A q) → zz k9 v9 fo A s → ∀ (H : Heap) (locs : List Loc), va_P D vwCl ws H → va_D A ws → va_S A s.heap H locs → ∀ ls : Array Slot, lv_has ls n (lv_args 0 av) → ∀ Q : State → Prop, Q = (MQ below (va_Qv post (fun u => vz_B D T A (w1 u)) A) args s mc ms A) →
      W p l e { frames := f, cells := mc, slots := ms, locals := L } s m args below meth c H locs 0 0 Q (F0 m 0 ls [])) : vy_Mv l D T y b n f L mc ms av sz ws k9 v9 fo post w1 := by
  refine Met.ofW (cc := b) (maxL := n) (ret := none) hy rfl ?_
  intro p e s m args below meth c s₁ B hml hv
  obtain ⟨rfl, ⟨hsz, hP, hK, hD0⟩, hz⟩ := hv
  have hts0 := atoms_spec (ws := .code y b n (none) :: wsL_law) B.pre
  have hl := lv_entry av (n := n) hn
  rw [lg_entry_eq]
  have hD := hD0.self (sz := s.heap.size)
  subst hsz
  exact body p e s m _ below meth c B.exec B.bytes B.returns hml (fun w h => hts0 w (List.mem_cons_of_mem _ h)) (findClass_of_methodNamed B.named) B.notSynchronized (name_of_methodNamed B.named B.method).1 hK rfl _ (fun q h => Or.inr h) hz _ _ hP hD va_S.rf _ hl _ rfl
def vy_cs (own : String) (index : Nat) (y : MethodName) (b : ByteArray) (n : Nat) (ret : Option FieldType) (k : Nat) : Prop := Cond.methodLink own index y ∈ wsL_law ∧ Cond.static y ∈ wsL_law ∧ Cond.initialized y.cls ∈ wsL_law ∧ Cond.code y b n ret ∈ wsL_law ∧ (y.cls ≠ "java/lang/invoke/MethodHandle" ∧ y.cls ≠ "java/lang/invoke/VarHandle" ∧ (parseMethodDescriptor y.desc).map (fun d => d.parameters.length) = some k)
theorem vy_gs {own : String} {index : Nat} {y : MethodName} {b : ByteArray} {n : Nat} {ret : Option FieldType} {k : Nat} (h : vy_cs own index y b n ret k) : GoodIn wsL_law (va_wsS own index y (.code y b n ret :: wsL_law)) := by
  obtain ⟨h1, h2, h3, h5, -⟩ := h
  refine vz_gd fun w hw => ?_
  rcases List.mem_append.mp hw with hw | hw
  · simp only [List.mem_cons, List.not_mem_nil, or_false] at hw
    rcases hw with rfl | rfl | rfl
    · exact h1
    · exact h2
    · exact h3
  · exact (vz_gcode h5 w hw).1
theorem vz_nn {n : Nat} (h : n < 2 ^ 31) : ¬ nI n < 0 := by rw [Int32.lt_iff_toInt_lt, nI_toInt h]; have : (0 : Int32).toInt = 0 := rfl; omega
theorem vy_nc (y : UInt32) : narrow .char (.int (y % 65536).toInt32) = .int (y % 65536).toInt32 := by
  have h : y % 65536 % 65536 = y % 65536 := by rw [← UInt32.toNat_inj]; simp [UInt32.toNat_mod]
  simp [narrow, h]
theorem vy_in {i L : Int32} {N : Nat} (h1 : ¬ i < 0) (h2 : ¬ L ≤ i) (hL : L.toInt = N) : vp_in i N := by
  refine vp_in_iff.mpr ?_
  rw [Int32.lt_iff_toInt_lt] at h1; rw [Int32.le_iff_toInt_le] at h2
  have : (0 : Int32).toInt = 0 := rfl
  omega
section VY
variable {p : Program} {l : Launch} {e : Env} {R : Room} {s : State} {m : MethodId} {args : Array Value} {below : List Frame} {meth : Method} {c : Code} {H : Heap} {locs : List Loc} {cells slots : Nat} {Q : State → Prop}
variable {cc b' : ByteArray} {pc nL n' f L mc ms index : Nat} {ls : Array Slot} {As rest st0 : List Value} {D : va_G} {A : Nat → Prop} {b : Nat} {T : vz_T} {ws wc wr : va_W} {own : String} {y : MethodName} {ty : FieldType} {S : Type} {H0 : Heap}
variable {k9 v9 : Nat → Nat} {fo : Nat}
theorem vy_Vi {post : Int32 → S → Prop} {w1 : S → va_W} (hx : p.tables.exec = Jvm.exec) (hb : c.code = cc) (hml : c.maxLocals = nL) (hown : s.vm.findClass own = some m.cls) (hts : ∀ w ∈ wsL_law, w.before args s = true) (hK : va_K D vwCl T s) (hA : ∀ q : Nat, s.heap.size ≤ q → A q) (hP : va_P D vwCl ws H) (hD : va_D A ws) (hS : va_S A s.heap H locs) (hz : zz k9 v9 fo A s)
    (hM : vy_Mi l D T y b' n' f L mc ms ty (.ref b :: As) H.size wc k9 v9 fo post w1) (hc : vz_cv own index y b' n' (some ty) As.length) (hR : f + 1 ≤ R.frames ∧ 8 + (n' + 11) + L ≤ R.locals)
    {q0 ci : Nat} {fs : List Value} {q : vw_C} (he : ws[q0]? = some (b, .inr (ci, fs))) (hq : vwCl[ci]? = some q) (hqc : q.1 = y.cls) (isC isR : List Nat) (hC : isC.map (fun i => ws[i]?) = wc.map some) (hRr : isR.map (fun i => ws[i]?) = wr.map some) (hap : vz_ap isC isR = true)
    (hls : ls.size = nL) (hroom : (rest.map fun v => v.category).sum ≤ 8) (hdg : decode cc pc = .ok (.invokevirtual index, 3)) (hf : cells + mc ≤ R.cells ∧ slots + ms ≤ R.slots) (hst : st0 = As.reverse ++ .ref b :: rest)
    (kk : ∀ (r : Int32) (u : S) (H1 : Heap) (locs1 : List Loc), post r u → H.size ≤ H1.size → va_P D vwCl (wr ++ w1 u) H1 → va_D A (wr ++ w1 u) → va_S A s.heap H1 locs1 → W p l e R s m args below meth c H1 locs1 (cells + mc) (slots + ms) Q (F0 m (pc + 3) ls (.int r :: rest))) : W p l e R s m args below meth c H locs cells slots Q (F0 m pc ls st0) := by
  obtain ⟨n1, n2, n3⟩ := vz_ap_spec hap
  have hPc := vz_pickP hP isC hC
  have hDc := hD.sub isC n1 hC
  have hFc := va_free (wc := wc) hD hS hA isC hC
  refine va_calli (va_runV (As := As) (rest := rest) ⟨hx, hb, hml, hown, hts⟩ hM (cwV As.length hts (vz_gv hc) rfl rfl rfl ⟨rfl, hc.2.2.2.2.2⟩ hR) ⟨vy_blind, by rw [← hqc]; exact va_recv hK hP hq he, vy_pre hPc hK hDc hz hS hFc _⟩ rfl rfl hls hst (lv_room hroom) hdg hf) hS (fun q _ h => hFc q h) hFc (fun r u t H1 locs1 ht hvm hw hB hz1 hk1 hS1 => ?_)
  obtain ⟨hP1, hK1, hD1⟩ := hB
  rw [ht] at hP1
  obtain ⟨hP2, hD2⟩ := va_join hP hD isC isR hC hRr n2 n3 hk1 hFc hP1 hD1
  exact kk r u H1 locs1 hw hz1 hP2 hD2 hS1
theorem vy_Vv {post : S → Prop} {w1 : S → va_W} (hx : p.tables.exec = Jvm.exec) (hb : c.code = cc) (hml : c.maxLocals = nL) (hown : s.vm.findClass own = some m.cls) (hts : ∀ w ∈ wsL_law, w.before args s = true) (hK : va_K D vwCl T s) (hA : ∀ q : Nat, s.heap.size ≤ q → A q) (hP : va_P D vwCl ws H) (hD : va_D A ws) (hS : va_S A s.heap H locs) (hz : zz k9 v9 fo A s)
    (hM : vy_Mv l D T y b' n' f L mc ms (.ref b :: As) H.size wc k9 v9 fo post w1) (hc : vz_cv own index y b' n' none As.length) (hR : f + 1 ≤ R.frames ∧ 8 + (n' + 11) + L ≤ R.locals)
    {q0 ci : Nat} {fs : List Value} {q : vw_C} (he : ws[q0]? = some (b, .inr (ci, fs))) (hq : vwCl[ci]? = some q) (hqc : q.1 = y.cls) (isC isR : List Nat) (hC : isC.map (fun i => ws[i]?) = wc.map some) (hRr : isR.map (fun i => ws[i]?) = wr.map some) (hap : vz_ap isC isR = true)
    (hls : ls.size = nL) (hroom : (rest.map fun v => v.category).sum ≤ 8) (hdg : decode cc pc = .ok (.invokevirtual index, 3)) (hf : cells + mc ≤ R.cells ∧ slots + ms ≤ R.slots) (hst : st0 = As.reverse ++ .ref b :: rest)
    (kk : ∀ (u : S) (H1 : Heap) (locs1 : List Loc), post u → H.size ≤ H1.size → va_P D vwCl (wr ++ w1 u) H1 → va_D A (wr ++ w1 u) → va_S A s.heap H1 locs1 → W p l e R s m args below meth c H1 locs1 (cells + mc) (slots + ms) Q (F0 m (pc + 3) ls rest)) : W p l e R s m args below meth c H locs cells slots Q (F0 m pc ls st0) := by
  obtain ⟨n1, n2, n3⟩ := vz_ap_spec hap
  have hPc := vz_pickP hP isC hC
  have hDc := hD.sub isC n1 hC
  have hFc := va_free (wc := wc) hD hS hA isC hC
  refine va_callv (va_runV (As := As) (rest := rest) ⟨hx, hb, hml, hown, hts⟩ hM (cwV As.length hts (vz_gv hc) rfl rfl rfl ⟨rfl, hc.2.2.2.2.2⟩ hR) ⟨vy_blind, by rw [← hqc]; exact va_recv hK hP hq he, vy_pre hPc hK hDc hz hS hFc _⟩ rfl rfl hls hst (lv_room hroom) hdg hf) hS (fun q _ h => hFc q h) hFc (fun u t H1 locs1 ht hvm hw hB hz1 hk1 hS1 => ?_)
  obtain ⟨hP1, hK1, hD1⟩ := hB
  rw [ht] at hP1
  obtain ⟨hP2, hD2⟩ := va_join hP hD isC isR hC hRr n2 n3 hk1 hFc hP1 hD1
  exact kk u H1 locs1 hw hz1 hP2 hD2 hS1
theorem vy_Si {post : Int32 → S → Prop} {w1 : S → va_W} (hx : p.tables.exec = Jvm.exec) (hb : c.code = cc) (hml : c.maxLocals = nL) (hown : s.vm.findClass own = some m.cls) (hts : ∀ w ∈ wsL_law, w.before args s = true) (hK : va_K D vwCl T s) (hA : ∀ q : Nat, s.heap.size ≤ q → A q) (hP : va_P D vwCl ws H) (hD : va_D A ws) (hS : va_S A s.heap H locs) (hz : zz k9 v9 fo A s)
    (hM : vy_Mi l D T y b' n' f L mc ms ty As H.size wc k9 v9 fo post w1) (hc : vy_cs own index y b' n' (some ty) As.length) (hR : f + 1 ≤ R.frames ∧ 8 + (n' + 11) + L ≤ R.locals)
    (isC isR : List Nat) (hC : isC.map (fun i => ws[i]?) = wc.map some) (hRr : isR.map (fun i => ws[i]?) = wr.map some) (hap : vz_ap isC isR = true)
    (hls : ls.size = nL) (hroom : (rest.map fun v => v.category).sum ≤ 8) (hdg : decode cc pc = .ok (.invokestatic index, 3)) (hf : cells + mc ≤ R.cells ∧ slots + ms ≤ R.slots) (hst : st0 = As.reverse ++ rest)
    (kk : ∀ (r : Int32) (u : S) (H1 : Heap) (locs1 : List Loc), post r u → H.size ≤ H1.size → va_P D vwCl (wr ++ w1 u) H1 → va_D A (wr ++ w1 u) → va_S A s.heap H1 locs1 → W p l e R s m args below meth c H1 locs1 (cells + mc) (slots + ms) Q (F0 m (pc + 3) ls (.int r :: rest))) : W p l e R s m args below meth c H locs cells slots Q (F0 m pc ls st0) := by
  obtain ⟨n1, n2, n3⟩ := vz_ap_spec hap
  have hPc := vz_pickP hP isC hC
  have hDc := hD.sub isC n1 hC
  have hFc := va_free (wc := wc) hD hS hA isC hC
  refine va_calli (va_runS (As := As) (rest := rest) ⟨hx, hb, hml, hown, hts⟩ hM (va_cwS As.length hts (vy_gs hc) rfl rfl rfl hc.2.2.2.2 hR) ⟨vy_blind, vy_pre hPc hK hDc hz hS hFc _⟩ rfl rfl hls hst (lv_room hroom) hdg hf) hS (fun q _ h => hFc q h) hFc (fun r u t H1 locs1 ht hvm hw hB hz1 hk1 hS1 => ?_)
  obtain ⟨hP1, hK1, hD1⟩ := hB
  rw [ht] at hP1
  obtain ⟨hP2, hD2⟩ := va_join hP hD isC isR hC hRr n2 n3 hk1 hFc hP1 hD1
  exact kk r u H1 locs1 hw hz1 hP2 hD2 hS1
theorem vy_Sv {post : S → Prop} {w1 : S → va_W} (hx : p.tables.exec = Jvm.exec) (hb : c.code = cc) (hml : c.maxLocals = nL) (hown : s.vm.findClass own = some m.cls) (hts : ∀ w ∈ wsL_law, w.before args s = true) (hK : va_K D vwCl T s) (hA : ∀ q : Nat, s.heap.size ≤ q → A q) (hP : va_P D vwCl ws H) (hD : va_D A ws) (hS : va_S A s.heap H locs) (hz : zz k9 v9 fo A s)
    (hM : vy_Mv l D T y b' n' f L mc ms As H.size wc k9 v9 fo post w1) (hc : vy_cs own index y b' n' none As.length) (hR : f + 1 ≤ R.frames ∧ 8 + (n' + 11) + L ≤ R.locals)
    (isC isR : List Nat) (hC : isC.map (fun i => ws[i]?) = wc.map some) (hRr : isR.map (fun i => ws[i]?) = wr.map some) (hap : vz_ap isC isR = true)
    (hls : ls.size = nL) (hroom : (rest.map fun v => v.category).sum ≤ 8) (hdg : decode cc pc = .ok (.invokestatic index, 3)) (hf : cells + mc ≤ R.cells ∧ slots + ms ≤ R.slots) (hst : st0 = As.reverse ++ rest)
    (kk : ∀ (u : S) (H1 : Heap) (locs1 : List Loc), post u → H.size ≤ H1.size → va_P D vwCl (wr ++ w1 u) H1 → va_D A (wr ++ w1 u) → va_S A s.heap H1 locs1 → W p l e R s m args below meth c H1 locs1 (cells + mc) (slots + ms) Q (F0 m (pc + 3) ls rest)) : W p l e R s m args below meth c H locs cells slots Q (F0 m pc ls st0) := by
  obtain ⟨n1, n2, n3⟩ := vz_ap_spec hap
  have hPc := vz_pickP hP isC hC
  have hDc := hD.sub isC n1 hC
  have hFc := va_free (wc := wc) hD hS hA isC hC
  refine va_callv (va_runS (As := As) (rest := rest) ⟨hx, hb, hml, hown, hts⟩ hM (va_cwS As.length hts (vy_gs hc) rfl rfl rfl hc.2.2.2.2 hR) ⟨vy_blind, vy_pre hPc hK hDc hz hS hFc _⟩ rfl rfl hls hst (lv_room hroom) hdg hf) hS (fun q _ h => hFc q h) hFc (fun u t H1 locs1 ht hvm hw hB hz1 hk1 hS1 => ?_)
  obtain ⟨hP1, hK1, hD1⟩ := hB
  rw [ht] at hP1
  obtain ⟨hP2, hD2⟩ := va_join hP hD isC isR hC hRr n2 n3 hk1 hFc hP1 hD1
  exact kk u H1 locs1 hw hz1 hP2 hD2 hS1
theorem vy_Vi4 {bs bc br : List va_W} {b1 bs2 : S → List va_W} {post : Int32 → S → Prop} (hx : p.tables.exec = Jvm.exec) (hb : c.code = cc) (hml : c.maxLocals = nL) (hown : s.vm.findClass own = some m.cls) (hts : ∀ w ∈ wsL_law, w.before args s = true) (hK : va_K D vwCl T s) (hA : ∀ q : Nat, s.heap.size ≤ q → A q) (hP : va_P D vwCl (vz_w bs) H) (hD : va_D A (vz_w bs)) (hS : va_S A s.heap H locs) (hz : zz k9 v9 fo A s)
    (hM : vy_Mi l D T y b' n' f L mc ms ty (.ref b :: As) H.size (vz_w bc) k9 v9 fo post (fun u => vz_w (b1 u))) (hc : vz_cv own index y b' n' (some ty) As.length) (hR : f + 1 ≤ R.frames ∧ 8 + (n' + 11) + L ≤ R.locals)
    {q0 ci : Nat} {fs : List Value} {q : vw_C} (he : (vz_w bs)[q0]? = some (b, .inr (ci, fs))) (hq : vwCl[ci]? = some q) (hqc : q.1 = y.cls) (isC isR : List Nat) {n9 : Nat} (hn9 : bs.length = n9) (hp9 : (isC ++ isR).isPerm (List.range n9) = true) (hC : (isC ++ isR).map (fun i => bs[i]?) = (bc ++ br).map some) (hn8 : ∀ u, (bs2 u).length = n9) (hC2 : ∀ u, (isC ++ isR).map (fun i => (bs2 u)[i]?) = (b1 u ++ br).map some)
    (hls : ls.size = nL) (hroom : (rest.map fun v => v.category).sum ≤ 8) (hdg : decode cc pc = .ok (.invokevirtual index, 3)) (hf : cells + mc ≤ R.cells ∧ slots + ms ≤ R.slots) (hst : st0 = As.reverse ++ .ref b :: rest)
    (kk : ∀ (r : Int32) (u : S) (H1 : Heap) (locs1 : List Loc), post r u → H.size ≤ H1.size → va_P D vwCl (vz_w (bs2 u)) H1 → va_D A (vz_w (bs2 u)) → va_S A s.heap H1 locs1 → W p l e R s m args below meth c H1 locs1 (cells + mc) (slots + ms) Q (F0 m (pc + 3) ls (.int r :: rest))) : W p l e R s m args below meth c H locs cells slots Q (F0 m pc ls st0) := by
  have p1 : (vz_w bs).Perm (vz_w bc ++ vz_w br) := by rw [← List.flatten_append]; exact vz_bp hn9 hp9 hC
  have p2 : ∀ u, (vz_w br ++ vz_w (b1 u)).Perm (vz_w (bs2 u)) := fun u => by refine List.Perm.trans List.perm_append_comm ?_; rw [← List.flatten_append]; exact (vz_bp (hn8 u) hp9 (hC2 u)).symm
  obtain ⟨q1, he1⟩ := List.getElem?_of_mem (p1.mem_iff.mp (List.mem_of_getElem? he))
  exact vy_Vi (ws := vz_w bc ++ vz_w br) (wr := vz_w br) hx hb hml hown hts hK hA (vz_permP p1 hP) (vz_permD p1 hD) hS hz hM hc hR he1 hq hqc (List.range (vz_w bc).length) ((List.range (vz_w br).length).map (fun i => (vz_w bc).length + i)) (vz_cc _ _) (vz_rr _ _) (vz_apb _ _) hls hroom hdg hf hst (fun r u H1 locs1 hw hz1 hP2 hD2 hS1 => kk r u H1 locs1 hw hz1 (vz_permP (p2 u) hP2) (vz_permD (p2 u) hD2) hS1)
theorem vy_Vv4 {bs bc br : List va_W} {b1 bs2 : S → List va_W} {post : S → Prop} (hx : p.tables.exec = Jvm.exec) (hb : c.code = cc) (hml : c.maxLocals = nL) (hown : s.vm.findClass own = some m.cls) (hts : ∀ w ∈ wsL_law, w.before args s = true) (hK : va_K D vwCl T s) (hA : ∀ q : Nat, s.heap.size ≤ q → A q) (hP : va_P D vwCl (vz_w bs) H) (hD : va_D A (vz_w bs)) (hS : va_S A s.heap H locs) (hz : zz k9 v9 fo A s)
    (hM : vy_Mv l D T y b' n' f L mc ms (.ref b :: As) H.size (vz_w bc) k9 v9 fo post (fun u => vz_w (b1 u))) (hc : vz_cv own index y b' n' none As.length) (hR : f + 1 ≤ R.frames ∧ 8 + (n' + 11) + L ≤ R.locals)
    {q0 ci : Nat} {fs : List Value} {q : vw_C} (he : (vz_w bs)[q0]? = some (b, .inr (ci, fs))) (hq : vwCl[ci]? = some q) (hqc : q.1 = y.cls) (isC isR : List Nat) {n9 : Nat} (hn9 : bs.length = n9) (hp9 : (isC ++ isR).isPerm (List.range n9) = true) (hC : (isC ++ isR).map (fun i => bs[i]?) = (bc ++ br).map some) (hn8 : ∀ u, (bs2 u).length = n9) (hC2 : ∀ u, (isC ++ isR).map (fun i => (bs2 u)[i]?) = (b1 u ++ br).map some)
    (hls : ls.size = nL) (hroom : (rest.map fun v => v.category).sum ≤ 8) (hdg : decode cc pc = .ok (.invokevirtual index, 3)) (hf : cells + mc ≤ R.cells ∧ slots + ms ≤ R.slots) (hst : st0 = As.reverse ++ .ref b :: rest)
    (kk : ∀ (u : S) (H1 : Heap) (locs1 : List Loc), post u → H.size ≤ H1.size → va_P D vwCl (vz_w (bs2 u)) H1 → va_D A (vz_w (bs2 u)) → va_S A s.heap H1 locs1 → W p l e R s m args below meth c H1 locs1 (cells + mc) (slots + ms) Q (F0 m (pc + 3) ls rest)) : W p l e R s m args below meth c H locs cells slots Q (F0 m pc ls st0) := by
  have p1 : (vz_w bs).Perm (vz_w bc ++ vz_w br) := by rw [← List.flatten_append]; exact vz_bp hn9 hp9 hC
  have p2 : ∀ u, (vz_w br ++ vz_w (b1 u)).Perm (vz_w (bs2 u)) := fun u => by refine List.Perm.trans List.perm_append_comm ?_; rw [← List.flatten_append]; exact (vz_bp (hn8 u) hp9 (hC2 u)).symm
  obtain ⟨q1, he1⟩ := List.getElem?_of_mem (p1.mem_iff.mp (List.mem_of_getElem? he))
  exact vy_Vv (ws := vz_w bc ++ vz_w br) (wr := vz_w br) hx hb hml hown hts hK hA (vz_permP p1 hP) (vz_permD p1 hD) hS hz hM hc hR he1 hq hqc (List.range (vz_w bc).length) ((List.range (vz_w br).length).map (fun i => (vz_w bc).length + i)) (vz_cc _ _) (vz_rr _ _) (vz_apb _ _) hls hroom hdg hf hst (fun u H1 locs1 hw hz1 hP2 hD2 hS1 => kk u H1 locs1 hw hz1 (vz_permP (p2 u) hP2) (vz_permD (p2 u) hD2) hS1)
theorem vy_Si4 {bs bc br : List va_W} {b1 bs2 : S → List va_W} {post : Int32 → S → Prop} (hx : p.tables.exec = Jvm.exec) (hb : c.code = cc) (hml : c.maxLocals = nL) (hown : s.vm.findClass own = some m.cls) (hts : ∀ w ∈ wsL_law, w.before args s = true) (hK : va_K D vwCl T s) (hA : ∀ q : Nat, s.heap.size ≤ q → A q) (hP : va_P D vwCl (vz_w bs) H) (hD : va_D A (vz_w bs)) (hS : va_S A s.heap H locs) (hz : zz k9 v9 fo A s)
    (hM : vy_Mi l D T y b' n' f L mc ms ty As H.size (vz_w bc) k9 v9 fo post (fun u => vz_w (b1 u))) (hc : vy_cs own index y b' n' (some ty) As.length) (hR : f + 1 ≤ R.frames ∧ 8 + (n' + 11) + L ≤ R.locals)
    (isC isR : List Nat) {n9 : Nat} (hn9 : bs.length = n9) (hp9 : (isC ++ isR).isPerm (List.range n9) = true) (hC : (isC ++ isR).map (fun i => bs[i]?) = (bc ++ br).map some) (hn8 : ∀ u, (bs2 u).length = n9) (hC2 : ∀ u, (isC ++ isR).map (fun i => (bs2 u)[i]?) = (b1 u ++ br).map some)
    (hls : ls.size = nL) (hroom : (rest.map fun v => v.category).sum ≤ 8) (hdg : decode cc pc = .ok (.invokestatic index, 3)) (hf : cells + mc ≤ R.cells ∧ slots + ms ≤ R.slots) (hst : st0 = As.reverse ++ rest)
    (kk : ∀ (r : Int32) (u : S) (H1 : Heap) (locs1 : List Loc), post r u → H.size ≤ H1.size → va_P D vwCl (vz_w (bs2 u)) H1 → va_D A (vz_w (bs2 u)) → va_S A s.heap H1 locs1 → W p l e R s m args below meth c H1 locs1 (cells + mc) (slots + ms) Q (F0 m (pc + 3) ls (.int r :: rest))) : W p l e R s m args below meth c H locs cells slots Q (F0 m pc ls st0) := by
  have p1 : (vz_w bs).Perm (vz_w bc ++ vz_w br) := by rw [← List.flatten_append]; exact vz_bp hn9 hp9 hC
  have p2 : ∀ u, (vz_w br ++ vz_w (b1 u)).Perm (vz_w (bs2 u)) := fun u => by refine List.Perm.trans List.perm_append_comm ?_; rw [← List.flatten_append]; exact (vz_bp (hn8 u) hp9 (hC2 u)).symm
  exact vy_Si (ws := vz_w bc ++ vz_w br) (wr := vz_w br) hx hb hml hown hts hK hA (vz_permP p1 hP) (vz_permD p1 hD) hS hz hM hc hR (List.range (vz_w bc).length) ((List.range (vz_w br).length).map (fun i => (vz_w bc).length + i)) (vz_cc _ _) (vz_rr _ _) (vz_apb _ _) hls hroom hdg hf hst (fun r u H1 locs1 hw hz1 hP2 hD2 hS1 => kk r u H1 locs1 hw hz1 (vz_permP (p2 u) hP2) (vz_permD (p2 u) hD2) hS1)
theorem vy_Sv4 {bs bc br : List va_W} {b1 bs2 : S → List va_W} {post : S → Prop} (hx : p.tables.exec = Jvm.exec) (hb : c.code = cc) (hml : c.maxLocals = nL) (hown : s.vm.findClass own = some m.cls) (hts : ∀ w ∈ wsL_law, w.before args s = true) (hK : va_K D vwCl T s) (hA : ∀ q : Nat, s.heap.size ≤ q → A q) (hP : va_P D vwCl (vz_w bs) H) (hD : va_D A (vz_w bs)) (hS : va_S A s.heap H locs) (hz : zz k9 v9 fo A s)
    (hM : vy_Mv l D T y b' n' f L mc ms As H.size (vz_w bc) k9 v9 fo post (fun u => vz_w (b1 u))) (hc : vy_cs own index y b' n' none As.length) (hR : f + 1 ≤ R.frames ∧ 8 + (n' + 11) + L ≤ R.locals)
    (isC isR : List Nat) {n9 : Nat} (hn9 : bs.length = n9) (hp9 : (isC ++ isR).isPerm (List.range n9) = true) (hC : (isC ++ isR).map (fun i => bs[i]?) = (bc ++ br).map some) (hn8 : ∀ u, (bs2 u).length = n9) (hC2 : ∀ u, (isC ++ isR).map (fun i => (bs2 u)[i]?) = (b1 u ++ br).map some)
    (hls : ls.size = nL) (hroom : (rest.map fun v => v.category).sum ≤ 8) (hdg : decode cc pc = .ok (.invokestatic index, 3)) (hf : cells + mc ≤ R.cells ∧ slots + ms ≤ R.slots) (hst : st0 = As.reverse ++ rest)
    (kk : ∀ (u : S) (H1 : Heap) (locs1 : List Loc), post u → H.size ≤ H1.size → va_P D vwCl (vz_w (bs2 u)) H1 → va_D A (vz_w (bs2 u)) → va_S A s.heap H1 locs1 → W p l e R s m args below meth c H1 locs1 (cells + mc) (slots + ms) Q (F0 m (pc + 3) ls rest)) : W p l e R s m args below meth c H locs cells slots Q (F0 m pc ls st0) := by
  have p1 : (vz_w bs).Perm (vz_w bc ++ vz_w br) := by rw [← List.flatten_append]; exact vz_bp hn9 hp9 hC
  have p2 : ∀ u, (vz_w br ++ vz_w (b1 u)).Perm (vz_w (bs2 u)) := fun u => by refine List.Perm.trans List.perm_append_comm ?_; rw [← List.flatten_append]; exact (vz_bp (hn8 u) hp9 (hC2 u)).symm
  exact vy_Sv (ws := vz_w bc ++ vz_w br) (wr := vz_w br) hx hb hml hown hts hK hA (vz_permP p1 hP) (vz_permD p1 hD) hS hz hM hc hR (List.range (vz_w bc).length) ((List.range (vz_w br).length).map (fun i => (vz_w bc).length + i)) (vz_cc _ _) (vz_rr _ _) (vz_apb _ _) hls hroom hdg hf hst (fun u H1 locs1 hw hz1 hP2 hD2 hS1 => kk u H1 locs1 hw hz1 (vz_permP (p2 u) hP2) (vz_permD (p2 u) hD2) hS1)
theorem vy_Vs {post : Int32 → S → Prop} (hx : p.tables.exec = Jvm.exec) (hb : c.code = cc) (hml : c.maxLocals = nL) (hown : s.vm.findClass own = some m.cls) (hts : ∀ w ∈ wsL_law, w.before args s = true) (hK : va_K D vwCl T s) (hA : ∀ q : Nat, s.heap.size ≤ q → A q) (hP : va_P D vwCl ws H) (hD : va_D A ws) (hS : va_S A s.heap H locs) (hz : zz k9 v9 fo A s) {i9 : Nat} (hi9 : i9 < 3)
    (hM : vy_Mi l D T y b' n' f L mc ms ty (.ref (k9 i9) :: As) H.size (vz_w []) k9 v9 fo post (fun _ => vz_w [])) (hc : vz_cv own index y b' n' (some ty) As.length) (hR : f + 1 ≤ R.frames ∧ 8 + (n' + 11) + L ≤ R.locals)
    (hqc : y.cls = "java/lang/String") (hls : ls.size = nL) (hroom : (rest.map fun v => v.category).sum ≤ 8) (hdg : decode cc pc = .ok (.invokevirtual index, 3)) (hf : cells + mc ≤ R.cells ∧ slots + ms ≤ R.slots) (hst : st0 = As.reverse ++ .ref (k9 i9) :: rest)
    (kk : ∀ (r : Int32) (u : S) (H1 : Heap) (locs1 : List Loc), post r u → H.size ≤ H1.size → va_P D vwCl ws H1 → va_D A ws → va_S A s.heap H1 locs1 → W p l e R s m args below meth c H1 locs1 (cells + mc) (slots + ms) Q (F0 m (pc + 3) ls (.int r :: rest))) : W p l e R s m args below meth c H locs cells slots Q (F0 m pc ls st0) := by
  have hPc : va_P D vwCl (vz_w []) H := fun k q h => by cases h
  have hDc : va_D A (vz_w []) := hD.sub (ws' := []) [] rfl rfl
  have hFc := va_free (wc := vz_w []) hD hS hA [] rfl
  refine va_calli (va_runV (As := As) (rest := rest) ⟨hx, hb, hml, hown, hts⟩ hM (cwV As.length hts (vz_gv hc) rfl rfl rfl ⟨rfl, hc.2.2.2.2.2⟩ hR) ⟨vy_blind, by rw [hqc]; exact vk_recv hz.1 hi9 hS, vy_pre hPc hK hDc hz hS hFc _⟩ rfl rfl hls hst (lv_room hroom) hdg hf) hS (fun q _ h => hFc q h) hFc (fun r u t H1 locs1 ht hvm hw hB hz1 hk1 hS1 => ?_)
  obtain ⟨hP1, hK1, hD1⟩ := hB
  rw [ht] at hP1
  obtain ⟨hP2, hD2⟩ := vz_joinS hP hD [] rfl rfl rfl hk1 hP1
  exact kk r u H1 locs1 hw hz1 hP2 hD2 hS1
theorem vy_kret {post : Int32 → S → Prop} {w1 : S → va_W} {v : Int32} (hx : p.tables.exec = Jvm.exec) (hb : c.code = cc) (hr : meth.sig.returnType = some ty) (hlk : meth.locks = false) (hK : va_K D vwCl T s) (hP : va_P D vwCl ws H) (hD : va_D A ws) (hS : va_S A s.heap H locs) (u : S) (hp : post v u) (he : w1 u = ws) (h1 : cells ≤ mc) (h2 : slots ≤ ms) (hnr : narrow ty (.int v) = .int v) (hdg : decode cc pc = .ok (.ireturn, 1)) :
    W p l e R s m args below meth c H locs cells slots (MQ below (va_Qi post (fun u => vz_B D T A (w1 u)) A) args s mc ms A) (F0 m pc ls [.int v]) :=
  W.widen h1 h2 (W.zret hx hb hr hnr (fun t ht hW => ⟨⟨v, u, rfl, hp, by rw [ht, he]; exact hP, va_K.moved hW.alike hK, by rw [he]; exact hD⟩, hS.F ht⟩) hS.2.2 hdg hlk)
end VY
theorem dJ1_canEncode_9a6ad_0 : decode cJ1_canEncode_9a6ad 0 = .ok (.iload_n 0, 1) := by decide +kernel
theorem dJ1_canEncode_9a6ad_1 : decode cJ1_canEncode_9a6ad 1 = .ok (.ifCond .lt 14, 3) := by decide +kernel
theorem dJ1_canEncode_9a6ad_4 : decode cJ1_canEncode_9a6ad 4 = .ok (.iload_n 0, 1) := by decide +kernel
theorem dJ1_canEncode_9a6ad_5 : decode cJ1_canEncode_9a6ad 5 = .ok (.sipush 255, 3) := by decide +kernel
theorem dJ1_canEncode_9a6ad_8 : decode cJ1_canEncode_9a6ad 8 = .ok (.if_icmp .gt 7, 3) := by decide +kernel
theorem dJ1_canEncode_9a6ad_11 : decode cJ1_canEncode_9a6ad 11 = .ok (.iconst 1, 1) := by decide +kernel
theorem dJ1_canEncode_9a6ad_12 : decode cJ1_canEncode_9a6ad 12 = .ok (.goto 4, 3) := by decide +kernel
theorem dJ1_canEncode_9a6ad_15 : decode cJ1_canEncode_9a6ad 15 = .ok (.iconst 0, 1) := by decide +kernel
theorem dJ1_canEncode_9a6ad_16 : decode cJ1_canEncode_9a6ad 16 = .ok (.ireturn, 1) := by decide +kernel
set_option maxHeartbeats 8000000 in
set_option maxRecDepth 100000 in
theorem a_J_canEncode (l : Launch) (D : va_G) (g : Nat → ClassId)   (sz : Nat) (n1 : Int32) : vz_Mi l D (tyG g) yJ1_canEncode_9a6ad cJ1_canEncode_9a6ad 1 0 0 0 0 .boolean [.int n1] sz (vz_w []) (fun r (u : Unit) => (r = 0 ∨ r = 1)) (fun u => vz_w []) := by
  refine vz_siQ (by decide) (Nat.le_of_ble_eq_true rfl) (fun p e s m args below meth c hx hb hr hml hts hown hlk hin hK hsz A hA H locs hP hD hS ls hl Q hQ => ?_)
  have hl : lv_has ls 1 [(0, .int n1)] := hl
  have J16 : ∀ (y0_16 : Int32), (y0_16 = 0 ∨ y0_16 = 1) → ∀ (H : Heap) (locs : List Loc) (ls : Array Slot), va_P D vwCl (vz_w []) H → va_D A (vz_w []) → va_S A s.heap H locs → lv_has ls 1 [(0, .int n1)] → W p l e { frames := 0, cells := 0, slots := 0, locals := 0 } s m args below meth c H locs 0 0 Q (F0 m 16 ls [.int y0_16]) := by
    intro y0_16 hz_y0_16 H locs ls hP hD hS hl
    rw [hQ]
    exact vz_zret3 hx hb hr hlk hK hP hD hS () hz_y0_16 rfl (Nat.le_refl 0) (Nat.le_refl 0) (vz_nb hz_y0_16) dJ1_canEncode_9a6ad_16
  have J15 : ∀ (H : Heap) (locs : List Loc) (ls : Array Slot), va_P D vwCl (vz_w []) H → va_D A (vz_w []) → va_S A s.heap H locs → lv_has ls 1 [(0, .int n1)] → W p l e { frames := 0, cells := 0, slots := 0, locals := 0 } s m args below meth c H locs 0 0 Q (F0 m 15 ls []) := by
    intro H locs ls hP hD hS hl
    refine lv_iconst (v := 0) hx hb dJ1_canEncode_9a6ad_15 (by decide) ?_
    exact J16 0 (Or.inl rfl) H locs ls hP hD hS (lv_sub hl [0] rfl)
  refine lv_iload_n hx hb dJ1_canEncode_9a6ad_0 rfl (lv_at hl 0 rfl) ?_
  refine lv_if_lt (tgt := 15) hx hb dJ1_canEncode_9a6ad_1 (by decide) (fun kc1 => ?_) (fun kc1 => ?_)
  · exact J15 H locs ls hP hD hS (lv_sub hl [0] rfl)
  · refine lv_iload_n hx hb dJ1_canEncode_9a6ad_4 rfl (lv_at hl 0 rfl) ?_
    refine lv_sipush (v := 255) hx hb dJ1_canEncode_9a6ad_5 (by decide) ?_
    refine lv_icmp_gt (tgt := 15) hx hb dJ1_canEncode_9a6ad_8 (by decide) (fun kc2 => ?_) (fun kc2 => ?_)
    · exact J15 H locs ls hP hD hS (lv_sub hl [0] rfl)
    · refine lv_iconst (v := 1) hx hb dJ1_canEncode_9a6ad_11 (by decide) ?_
      refine lv_goto (tgt := 16) hx hb dJ1_canEncode_9a6ad_12 (by decide) ?_
      exact J16 1 (Or.inr rfl) H locs ls hP hD hS (lv_sub hl [0] rfl)
theorem q341 : Cond.fieldLink RJ0 38 "java/lang/String" "COMPACT_STRINGS" "Z" ∈ wsL_law := mT_3 (List.mem_of_getElem? (i := 21) rfl) rfl
theorem q342 : Cond.fieldLink RJ0 15 "java/lang/String" "coder" "B" ∈ wsL_law := mT_9 (List.mem_of_getElem? (i := 96) rfl) rfl
theorem dJ0_coder_7d493_0 : decode cJ0_coder_7d493 0 = .ok (.getstatic 38, 3) := by decide +kernel
theorem dJ0_coder_7d493_3 : decode cJ0_coder_7d493 3 = .ok (.ifCond .eq 10, 3) := by decide +kernel
theorem dJ0_coder_7d493_6 : decode cJ0_coder_7d493 6 = .ok (.aload_n 0, 1) := by decide +kernel
theorem dJ0_coder_7d493_7 : decode cJ0_coder_7d493 7 = .ok (.getfield 15, 3) := by decide +kernel
theorem dJ0_coder_7d493_10 : decode cJ0_coder_7d493 10 = .ok (.goto 4, 3) := by decide +kernel
theorem dJ0_coder_7d493_14 : decode cJ0_coder_7d493 14 = .ok (.ireturn, 1) := by decide +kernel
set_option maxHeartbeats 8000000 in
set_option maxRecDepth 100000 in
theorem a_J_coder0 (l : Launch) (D : va_G) (g : Nat → ClassId) (k9 v9 : Nat → Nat) (fo : Nat)   (sz : Nat)  : vy_Mi l D (tyG g) yJ0_coder_7d493 cJ0_coder_7d493 1 0 0 0 0 .byte [.ref (k9 0)] sz (vz_w []) k9 v9 fo (fun r (u : Unit) => (r = 0)) (fun u => vz_w []) := by
  refine vy_siQ (by decide) (Nat.le_of_ble_eq_true rfl) (fun p e s m args below meth c hx hb hr hml hts hown hlk hin hK hsz A hA hz H locs hP hD hS ls hl Q hQ => ?_)
  have hl : lv_has ls 1 [(0, .ref (k9 0))] := hl
  have J14 : ∀ (H : Heap) (locs : List Loc) (ls : Array Slot), va_P D vwCl (vz_w []) H → va_D A (vz_w []) → va_S A s.heap H locs → lv_has ls 1 [(0, .ref (k9 0))] → W p l e { frames := 0, cells := 0, slots := 0, locals := 0 } s m args below meth c H locs 0 0 Q (F0 m 14 ls [.int 0]) := by
    intro H locs ls hP hD hS hl
    rw [hQ]
    exact vy_kret hx hb hr hlk hK hP hD hS () (rfl) rfl (Nat.le_refl 0) (Nat.le_refl 0) (by decide) dJ0_coder_7d493_14
  refine va_gets (C := "java/lang/String") hx hb hz.2.1 hS hown (hts _ q341) (fun _ h => h) dJ0_coder_7d493_0 ?_
  refine lv_if_eq (tgt := 13) hx hb dJ0_coder_7d493_3 (by decide) (fun h9 => absurd h9 (by decide)) (fun _ => ?_)
  refine lv_aload_n hx hb dJ0_coder_7d493_6 rfl (lv_at hl 0 rfl) ?_
  refine vk_getf (o := "java/lang/String") hx hb (hz.1.1 0 (by decide)).2.1 hS hown (hts _ q342) (fun _ h => h) dJ0_coder_7d493_7 ?_
  refine lv_goto (tgt := 14) hx hb dJ0_coder_7d493_10 (by decide) ?_
  exact J14 H locs ls hP hD hS (lv_sub hl [0] rfl)
theorem q336 : Cond.fieldLink RJ0 9 "java/lang/String" "value" "[B" ∈ wsL_law := mT_9 (List.mem_of_getElem? (i := 97) rfl) rfl
theorem q347 : Cond.methodLink RJ0 335 yJ0_coder_7d493 ∈ wsL_law := mT_3 (List.mem_of_getElem? (i := 27) rfl) rfl
theorem q348 : Cond.instanceMethod yJ0_coder_7d493 ∈ wsL_law := mT_3 (List.mem_of_getElem? (i := 28) rfl) rfl
theorem q349 : Cond.selects RJ0 yJ0_coder_7d493 yJ0_coder_7d493 ∈ wsL_law := mT_3 (List.mem_of_getElem? (i := 29) rfl) rfl
theorem q330 : Cond.initialized RJ0 ∈ wsL_law := mT_1 (List.mem_of_getElem? (i := 13) rfl) rfl
theorem q350 : Cond.code yJ0_coder_7d493 cJ0_coder_7d493 1 (some .byte) ∈ wsL_law := mT_3 (List.mem_of_getElem? (i := 30) rfl) rfl
theorem kv_J0_335 : vz_cv RJ0 335 yJ0_coder_7d493 cJ0_coder_7d493 1 (some .byte) 0 := ⟨q347, q348, q349, q330, q350, by decide +kernel⟩
theorem dJ0_length_8abf5_0 : decode cJ0_length_8abf5 0 = .ok (.aload_n 0, 1) := by decide +kernel
theorem dJ0_length_8abf5_1 : decode cJ0_length_8abf5 1 = .ok (.getfield 9, 3) := by decide +kernel
theorem dJ0_length_8abf5_4 : decode cJ0_length_8abf5 4 = .ok (.arraylength, 1) := by decide +kernel
theorem dJ0_length_8abf5_5 : decode cJ0_length_8abf5 5 = .ok (.aload_n 0, 1) := by decide +kernel
theorem dJ0_length_8abf5_6 : decode cJ0_length_8abf5 6 = .ok (.invokevirtual 335, 3) := by decide +kernel
theorem dJ0_length_8abf5_9 : decode cJ0_length_8abf5 9 = .ok (.ishr, 1) := by decide +kernel
theorem dJ0_length_8abf5_10 : decode cJ0_length_8abf5 10 = .ok (.ireturn, 1) := by decide +kernel
set_option maxHeartbeats 8000000 in
set_option maxRecDepth 100000 in
theorem a_J_length0 (l : Launch) (D : va_G) (g : Nat → ClassId) (k9 v9 : Nat → Nat) (fo : Nat)   (sz : Nat)  : vy_Mi l D (tyG g) yJ0_length_8abf5 cJ0_length_8abf5 1 1 20 0 0 .int [.ref (k9 0)] sz (vz_w []) k9 v9 fo (fun r (u : Unit) => (r = 4)) (fun u => vz_w []) := by
  refine vy_siQ (by decide) (Nat.le_of_ble_eq_true rfl) (fun p e s m args below meth c hx hb hr hml hts hown hlk hin hK hsz A hA hz H locs hP hD hS ls hl Q hQ => ?_)
  have hl : lv_has ls 1 [(0, .ref (k9 0))] := hl
  refine lv_aload_n hx hb dJ0_length_8abf5_0 rfl (lv_at hl 0 rfl) ?_
  refine vk_getf (o := "java/lang/String") hx hb (hz.1.1 0 (by decide)).2.2.1 hS hown (hts _ q336) (fun _ h => h) dJ0_length_8abf5_1 ?_
  refine va_tlen (v := 4) hx hb (hz.1.1 0 (by decide)).2.2.2 hS (by decide) dJ0_length_8abf5_4 ?_
  refine lv_aload_n hx hb dJ0_length_8abf5_5 rfl (lv_at hl 0 rfl) ?_
  refine vy_Vs (i9 := 0) (As := []) (rest := [.int 4]) hx hb hml hown hts hK hA hP hD hS hz (by decide) (a_J_coder0 l D g k9 v9 fo H.size) kv_J0_335 ⟨Nat.le_of_ble_eq_true rfl, Nat.le_of_ble_eq_true rfl⟩ rfl hl.1 (Nat.le_of_ble_eq_true rfl) dJ0_length_8abf5_6 ⟨Nat.le_refl _, Nat.le_refl _⟩ rfl (fun v1 _ H locs hp2 _ hP hD hS => ?_)
  try dsimp only at hp2
  subst hp2
  refine lv_ishr hx hb dJ0_length_8abf5_9 ?_
  refine lv_topi (nm_r (e' := 4) (by decide) ?_)
  rw [hQ]
  exact vz_iret3 hx hb hr hlk hK hP hD hS () (rfl) rfl (Nat.le_refl 0) (Nat.le_refl 0) dJ0_length_8abf5_10
theorem dJ0_isLatin1_aae02_0 : decode cJ0_isLatin1_aae02 0 = .ok (.getstatic 38, 3) := by decide +kernel
theorem dJ0_isLatin1_aae02_3 : decode cJ0_isLatin1_aae02 3 = .ok (.ifCond .eq 14, 3) := by decide +kernel
theorem dJ0_isLatin1_aae02_6 : decode cJ0_isLatin1_aae02 6 = .ok (.aload_n 0, 1) := by decide +kernel
theorem dJ0_isLatin1_aae02_7 : decode cJ0_isLatin1_aae02 7 = .ok (.getfield 15, 3) := by decide +kernel
theorem dJ0_isLatin1_aae02_10 : decode cJ0_isLatin1_aae02 10 = .ok (.ifCond .ne 7, 3) := by decide +kernel
theorem dJ0_isLatin1_aae02_13 : decode cJ0_isLatin1_aae02 13 = .ok (.iconst 1, 1) := by decide +kernel
theorem dJ0_isLatin1_aae02_14 : decode cJ0_isLatin1_aae02 14 = .ok (.goto 4, 3) := by decide +kernel
theorem dJ0_isLatin1_aae02_18 : decode cJ0_isLatin1_aae02 18 = .ok (.ireturn, 1) := by decide +kernel
set_option maxHeartbeats 8000000 in
set_option maxRecDepth 100000 in
theorem a_J_isLatin0 (l : Launch) (D : va_G) (g : Nat → ClassId) (k9 v9 : Nat → Nat) (fo : Nat)   (sz : Nat)  : vy_Mi l D (tyG g) yJ0_isLatin1_aae02 cJ0_isLatin1_aae02 1 0 0 0 0 .boolean [.ref (k9 0)] sz (vz_w []) k9 v9 fo (fun r (u : Unit) => (r = 1)) (fun u => vz_w []) := by
  refine vy_siQ (by decide) (Nat.le_of_ble_eq_true rfl) (fun p e s m args below meth c hx hb hr hml hts hown hlk hin hK hsz A hA hz H locs hP hD hS ls hl Q hQ => ?_)
  have hl : lv_has ls 1 [(0, .ref (k9 0))] := hl
  have J18 : ∀ (H : Heap) (locs : List Loc) (ls : Array Slot), va_P D vwCl (vz_w []) H → va_D A (vz_w []) → va_S A s.heap H locs → lv_has ls 1 [(0, .ref (k9 0))] → W p l e { frames := 0, cells := 0, slots := 0, locals := 0 } s m args below meth c H locs 0 0 Q (F0 m 18 ls [.int 1]) := by
    intro H locs ls hP hD hS hl
    rw [hQ]
    exact vy_kret hx hb hr hlk hK hP hD hS () (rfl) rfl (Nat.le_refl 0) (Nat.le_refl 0) (by decide) dJ0_isLatin1_aae02_18
  refine va_gets (C := "java/lang/String") hx hb hz.2.1 hS hown (hts _ q341) (fun _ h => h) dJ0_isLatin1_aae02_0 ?_
  refine lv_if_eq (tgt := 17) hx hb dJ0_isLatin1_aae02_3 (by decide) (fun h9 => absurd h9 (by decide)) (fun _ => ?_)
  refine lv_aload_n hx hb dJ0_isLatin1_aae02_6 rfl (lv_at hl 0 rfl) ?_
  refine vk_getf (o := "java/lang/String") hx hb (hz.1.1 0 (by decide)).2.1 hS hown (hts _ q342) (fun _ h => h) dJ0_isLatin1_aae02_7 ?_
  refine lv_if_ne (tgt := 17) hx hb dJ0_isLatin1_aae02_10 (by decide) (fun h9 => absurd (by decide) h9) (fun _ => ?_)
  refine lv_iconst (v := 1) hx hb dJ0_isLatin1_aae02_13 (by decide) ?_
  refine lv_goto (tgt := 18) hx hb dJ0_isLatin1_aae02_14 (by decide) ?_
  exact J18 H locs ls hP hD hS (lv_sub hl [0] rfl)
theorem dJ1_indexOfChar_4cfef_0 : decode cJ1_indexOfChar_4cfef 0 = .ok (.iload_n 1, 1) := by decide +kernel
theorem dJ1_indexOfChar_4cfef_1 : decode cJ1_indexOfChar_4cfef 1 = .ok (.i2b, 1) := by decide +kernel
theorem dJ1_indexOfChar_4cfef_2 : decode cJ1_indexOfChar_4cfef 2 = .ok (.istore 4, 2) := by decide +kernel
theorem dJ1_indexOfChar_4cfef_4 : decode cJ1_indexOfChar_4cfef 4 = .ok (.iload_n 2, 1) := by decide +kernel
theorem dJ1_indexOfChar_4cfef_5 : decode cJ1_indexOfChar_4cfef 5 = .ok (.istore 5, 2) := by decide +kernel
theorem dJ1_indexOfChar_4cfef_7 : decode cJ1_indexOfChar_4cfef 7 = .ok (.iload 5, 2) := by decide +kernel
theorem dJ1_indexOfChar_4cfef_9 : decode cJ1_indexOfChar_4cfef 9 = .ok (.iload_n 3, 1) := by decide +kernel
theorem dJ1_indexOfChar_4cfef_10 : decode cJ1_indexOfChar_4cfef 10 = .ok (.if_icmp .ge 21, 3) := by decide +kernel
theorem dJ1_indexOfChar_4cfef_13 : decode cJ1_indexOfChar_4cfef 13 = .ok (.aload_n 0, 1) := by decide +kernel
theorem dJ1_indexOfChar_4cfef_14 : decode cJ1_indexOfChar_4cfef 14 = .ok (.iload 5, 2) := by decide +kernel
theorem dJ1_indexOfChar_4cfef_16 : decode cJ1_indexOfChar_4cfef 16 = .ok (.baload, 1) := by decide +kernel
theorem dJ1_indexOfChar_4cfef_17 : decode cJ1_indexOfChar_4cfef 17 = .ok (.iload 4, 2) := by decide +kernel
theorem dJ1_indexOfChar_4cfef_19 : decode cJ1_indexOfChar_4cfef 19 = .ok (.if_icmp .ne 6, 3) := by decide +kernel
theorem dJ1_indexOfChar_4cfef_22 : decode cJ1_indexOfChar_4cfef 22 = .ok (.iload 5, 2) := by decide +kernel
theorem dJ1_indexOfChar_4cfef_24 : decode cJ1_indexOfChar_4cfef 24 = .ok (.ireturn, 1) := by decide +kernel
theorem dJ1_indexOfChar_4cfef_25 : decode cJ1_indexOfChar_4cfef 25 = .ok (.iinc 5 1, 3) := by decide +kernel
theorem dJ1_indexOfChar_4cfef_28 : decode cJ1_indexOfChar_4cfef 28 = .ok (.goto (-21), 3) := by decide +kernel
theorem dJ1_indexOfChar_4cfef_31 : decode cJ1_indexOfChar_4cfef 31 = .ok (.iconst (-1), 1) := by decide +kernel
theorem dJ1_indexOfChar_4cfef_32 : decode cJ1_indexOfChar_4cfef 32 = .ok (.ireturn, 1) := by decide +kernel
set_option maxHeartbeats 8000000 in
set_option maxRecDepth 100000 in
theorem a_J_ixc0 (l : Launch) (D : va_G) (g : Nat → ClassId) (k9 v9 : Nat → Nat) (fo : Nat)   (sz : Nat) (n1 : Int32) : vy_Mi l D (tyG g) yJ1_indexOfChar_4cfef cJ1_indexOfChar_4cfef 6 0 0 0 0 .int [.ref (v9 0), .int n1, .int 0, .int 4] sz (vz_w []) k9 v9 fo (fun r (u : Unit) => True) (fun u => vz_w []) := by
  refine vy_siQ (by decide) (Nat.le_of_ble_eq_true rfl) (fun p e s m args below meth c hx hb hr hml hts hown hlk hin hK hsz A hA hz H locs hP hD hS ls hl Q hQ => ?_)
  have hl : lv_has ls 6 [(0, .ref (v9 0)), (1, .int n1), (2, .int 0), (3, .int 4)] := hl
  have J7 : ∀ (fu7 n7 : Nat), 4 - n7 < fu7 → n7 ≤ 4 → ∀ (x4_7 : Int32), ∀ (H : Heap) (locs : List Loc) (ls : Array Slot), va_P D vwCl (vz_w []) H → va_D A (vz_w []) → va_S A s.heap H locs → lv_has ls 6 [(0, .ref (v9 0)), (1, .int n1), (2, .int 0), (3, .int 4), (4, .int x4_7), (5, .int (nI n7))] → W p l e { frames := 0, cells := 0, slots := 0, locals := 0 } s m args below meth c H locs 0 0 Q (F0 m 7 ls []) := by
    intro fu7
    induction fu7 with
    | zero => intro n7 z; omega
    | succ fu7 ih7 =>
      intro n7 hf7 hb7 x4_7 H locs ls hP hD hS hl
      refine lv_iload hx hb dJ1_indexOfChar_4cfef_7 (lv_at hl 5 rfl) ?_
      refine lv_iload_n hx hb dJ1_indexOfChar_4cfef_9 rfl (lv_at hl 3 rfl) ?_
      refine lv_icmp_ge (tgt := 31) hx hb dJ1_indexOfChar_4cfef_10 (by decide) (fun kc1 => ?_) (fun kc1 => ?_)
      · refine lv_iconst (v := (-1)) hx hb dJ1_indexOfChar_4cfef_31 (by decide) ?_
        rw [hQ]
        exact vz_iret3 hx hb hr hlk hK hP hD hS () trivial rfl (Nat.le_refl 0) (Nat.le_refl 0) dJ1_indexOfChar_4cfef_32
      · have hn7 : n7 < 4 := vz_ltge (B := 4) (by omega) kc1
        refine lv_aload_n hx hb dJ1_indexOfChar_4cfef_13 rfl (lv_at hl 0 rfl) ?_
        refine lv_iload hx hb dJ1_indexOfChar_4cfef_14 (lv_at hl 5 rfl) ?_
        refine va_tb (v := .int ((zsB.getD 0 []).getD ((nI n7)).toNatClampNeg 0)) hx hb (hz.1.1 0 (by decide)).2.2.2 hS (vy_in (vz_nn (by omega)) kc1 rfl) rfl dJ1_indexOfChar_4cfef_16 ?_
        refine lv_iload hx hb dJ1_indexOfChar_4cfef_17 (lv_at hl 4 rfl) ?_
        refine lv_icmp_ne (tgt := 25) hx hb dJ1_indexOfChar_4cfef_19 (by decide) (fun kc2 => ?_) (fun kc2 => ?_)
        · refine lv_iinc (v := (nI (n7 + 1))) (lv' := [(5, .int (nI (n7 + 1))), (0, .ref (v9 0)), (1, .int n1), (2, .int 0), (3, .int 4), (4, .int x4_7)]) hx hb dJ1_indexOfChar_4cfef_25 hl (k := 5) rfl (nI_1 n7) (by decide) rfl (fun ls hl => ?_)
          refine lv_goto (tgt := 7) hx hb dJ1_indexOfChar_4cfef_28 (by decide) ?_
          exact ih7 (n7 + 1) (by omega) (by omega) x4_7 H locs ls hP hD hS (lv_sub hl [1, 2, 3, 4, 5, 0] rfl)
        · refine lv_iload hx hb dJ1_indexOfChar_4cfef_22 (lv_at hl 5 rfl) ?_
          rw [hQ]
          exact vz_iret3 hx hb hr hlk hK hP hD hS () trivial rfl (Nat.le_refl 0) (Nat.le_refl 0) dJ1_indexOfChar_4cfef_24
  refine lv_iload_n hx hb dJ1_indexOfChar_4cfef_0 rfl (lv_at hl 1 rfl) ?_
  refine lv_i2b (v := (Int8.toInt32 (Int32.toInt8 n1))) hx hb dJ1_indexOfChar_4cfef_1 rfl ?_
  refine lv_istore (lv' := [(4, .int (Int8.toInt32 (Int32.toInt8 n1))), (0, .ref (v9 0)), (1, .int n1), (2, .int 0), (3, .int 4)]) hx hb dJ1_indexOfChar_4cfef_2 hl (by decide) rfl (fun ls hl => ?_)
  refine lv_iload_n hx hb dJ1_indexOfChar_4cfef_4 rfl (lv_at hl 3 rfl) ?_
  refine lv_istore (lv' := [(5, .int 0), (4, .int (Int8.toInt32 (Int32.toInt8 n1))), (0, .ref (v9 0)), (1, .int n1), (2, .int 0), (3, .int 4)]) hx hb dJ1_indexOfChar_4cfef_5 hl (by decide) rfl (fun ls hl => ?_)
  exact J7 (5) 0 (by omega) (by omega) (Int8.toInt32 (Int32.toInt8 n1)) H locs ls hP hD hS (lv_sub hl [2, 3, 4, 5, 1, 0] rfl)
theorem q357 : Cond.methodLink RJ1 88 yJ1_canEncode_9a6ad ∈ wsL_law := mT_3 (List.mem_of_getElem? (i := 34) rfl) rfl
theorem q358 : Cond.static yJ1_canEncode_9a6ad ∈ wsL_law := mT_3 (List.mem_of_getElem? (i := 35) rfl) rfl
theorem q353 : Cond.initialized RJ1 ∈ wsL_law := mT_1 (List.mem_of_getElem? (i := 14) rfl) rfl
theorem q359 : Cond.code yJ1_canEncode_9a6ad cJ1_canEncode_9a6ad 1 (some .boolean) ∈ wsL_law := mT_3 (List.mem_of_getElem? (i := 36) rfl) rfl
theorem kt_J1_88 : vy_cs RJ1 88 yJ1_canEncode_9a6ad cJ1_canEncode_9a6ad 1 (some .boolean) 1 := ⟨q357, q358, q353, q359, by decide +kernel⟩
theorem ks_J1_88 : vz_cs RJ1 88 yJ1_canEncode_9a6ad cJ1_canEncode_9a6ad 1 (some .boolean) 1 := ⟨q357, q358, q353, q359, by decide +kernel⟩
theorem q355 : Cond.methodLink RJ1 92 Lib.Math.max.name ∈ wsL_law := mT_3 (List.mem_of_getElem? (i := 37) rfl) rfl
theorem q356 : Cond.methodLink RJ1 38 Lib.Math.min.name ∈ wsL_law := mT_3 (List.mem_of_getElem? (i := 38) rfl) rfl
theorem q360 : Cond.methodLink RJ1 95 yJ1_indexOfChar_4cfef ∈ wsL_law := mT_3 (List.mem_of_getElem? (i := 39) rfl) rfl
theorem q361 : Cond.static yJ1_indexOfChar_4cfef ∈ wsL_law := mT_3 (List.mem_of_getElem? (i := 40) rfl) rfl
theorem q362 : Cond.code yJ1_indexOfChar_4cfef cJ1_indexOfChar_4cfef 6 (some .int) ∈ wsL_law := mT_3 (List.mem_of_getElem? (i := 41) rfl) rfl
theorem kt_J1_95 : vy_cs RJ1 95 yJ1_indexOfChar_4cfef cJ1_indexOfChar_4cfef 6 (some .int) 4 := ⟨q360, q361, q353, q362, by decide +kernel⟩
theorem ks_J1_95 : vz_cs RJ1 95 yJ1_indexOfChar_4cfef cJ1_indexOfChar_4cfef 6 (some .int) 4 := ⟨q360, q361, q353, q362, by decide +kernel⟩
theorem dJ1_indexOf_4cfef_0 : decode cJ1_indexOf_4cfef 0 = .ok (.iload_n 1, 1) := by decide +kernel
theorem dJ1_indexOf_4cfef_1 : decode cJ1_indexOf_4cfef 1 = .ok (.invokestatic 88, 3) := by decide +kernel
theorem dJ1_indexOf_4cfef_4 : decode cJ1_indexOf_4cfef 4 = .ok (.ifCond .ne 5, 3) := by decide +kernel
theorem dJ1_indexOf_4cfef_7 : decode cJ1_indexOf_4cfef 7 = .ok (.iconst (-1), 1) := by decide +kernel
theorem dJ1_indexOf_4cfef_8 : decode cJ1_indexOf_4cfef 8 = .ok (.ireturn, 1) := by decide +kernel
theorem dJ1_indexOf_4cfef_9 : decode cJ1_indexOf_4cfef 9 = .ok (.iload_n 2, 1) := by decide +kernel
theorem dJ1_indexOf_4cfef_10 : decode cJ1_indexOf_4cfef 10 = .ok (.iconst 0, 1) := by decide +kernel
theorem dJ1_indexOf_4cfef_11 : decode cJ1_indexOf_4cfef 11 = .ok (.invokestatic 92, 3) := by decide +kernel
theorem dJ1_indexOf_4cfef_14 : decode cJ1_indexOf_4cfef 14 = .ok (.istore_n 2, 1) := by decide +kernel
theorem dJ1_indexOf_4cfef_15 : decode cJ1_indexOf_4cfef 15 = .ok (.iload_n 3, 1) := by decide +kernel
theorem dJ1_indexOf_4cfef_16 : decode cJ1_indexOf_4cfef 16 = .ok (.aload_n 0, 1) := by decide +kernel
theorem dJ1_indexOf_4cfef_17 : decode cJ1_indexOf_4cfef 17 = .ok (.arraylength, 1) := by decide +kernel
theorem dJ1_indexOf_4cfef_18 : decode cJ1_indexOf_4cfef 18 = .ok (.invokestatic 38, 3) := by decide +kernel
theorem dJ1_indexOf_4cfef_21 : decode cJ1_indexOf_4cfef 21 = .ok (.istore_n 3, 1) := by decide +kernel
theorem dJ1_indexOf_4cfef_22 : decode cJ1_indexOf_4cfef 22 = .ok (.iload_n 2, 1) := by decide +kernel
theorem dJ1_indexOf_4cfef_23 : decode cJ1_indexOf_4cfef 23 = .ok (.iload_n 3, 1) := by decide +kernel
theorem dJ1_indexOf_4cfef_24 : decode cJ1_indexOf_4cfef 24 = .ok (.if_icmp .lt 5, 3) := by decide +kernel
theorem dJ1_indexOf_4cfef_29 : decode cJ1_indexOf_4cfef 29 = .ok (.aload_n 0, 1) := by decide +kernel
theorem dJ1_indexOf_4cfef_30 : decode cJ1_indexOf_4cfef 30 = .ok (.iload_n 1, 1) := by decide +kernel
theorem dJ1_indexOf_4cfef_31 : decode cJ1_indexOf_4cfef 31 = .ok (.iload_n 2, 1) := by decide +kernel
theorem dJ1_indexOf_4cfef_32 : decode cJ1_indexOf_4cfef 32 = .ok (.iload_n 3, 1) := by decide +kernel
theorem dJ1_indexOf_4cfef_33 : decode cJ1_indexOf_4cfef 33 = .ok (.invokestatic 95, 3) := by decide +kernel
theorem dJ1_indexOf_4cfef_36 : decode cJ1_indexOf_4cfef 36 = .ok (.ireturn, 1) := by decide +kernel
set_option maxHeartbeats 8000000 in
set_option maxRecDepth 100000 in
theorem a_J_ixb0 (l : Launch) (D : va_G) (g : Nat → ClassId) (k9 v9 : Nat → Nat) (fo : Nat)   (sz : Nat) (n1 : Int32) : vy_Mi l D (tyG g) yJ1_indexOf_4cfef cJ1_indexOf_4cfef 4 1 25 0 0 .int [.ref (v9 0), .int n1, .int 0, .int 4] sz (vz_w []) k9 v9 fo (fun r (u : Unit) => True) (fun u => vz_w []) := by
  refine vy_siQ (by decide) (Nat.le_of_ble_eq_true rfl) (fun p e s m args below meth c hx hb hr hml hts hown hlk hin hK hsz A hA hz H locs hP hD hS ls hl Q hQ => ?_)
  have hl : lv_has ls 4 [(0, .ref (v9 0)), (1, .int n1), (2, .int 0), (3, .int 4)] := hl
  refine lv_iload_n hx hb dJ1_indexOf_4cfef_0 rfl (lv_at hl 1 rfl) ?_
  refine vz_Si3 (As := [.int n1]) (rest := []) hx hb hml hown hts hK hA hP hD hS (a_J_canEncode l D g H.size n1) ks_J1_88 ⟨Nat.le_of_ble_eq_true rfl, Nat.le_of_ble_eq_true rfl⟩  hl.1 (Nat.le_of_ble_eq_true rfl) dJ1_indexOf_4cfef_1 ⟨Nat.le_refl _, Nat.le_refl _⟩ rfl (fun v1 _ H locs hz2 _ hP hD hS => ?_)
  refine lv_if_ne (tgt := 9) hx hb dJ1_indexOf_4cfef_4 (by decide) (fun kc3 => ?_) (fun kc3 => ?_)
  · refine lv_iload_n hx hb dJ1_indexOf_4cfef_9 rfl (lv_at hl 2 rfl) ?_
    refine lv_iconst (v := 0) hx hb dJ1_indexOf_4cfef_10 (by decide) ?_
    refine va_mmax hx hb (hml.trans hl.1.symm) hown (hts _ q355) (hts _ q65) (hts _ q66) (hts _ q67) (Nat.le_of_ble_eq_true rfl) (Nat.le_of_ble_eq_true rfl) (Nat.le_of_ble_eq_true rfl) (Nat.le_of_ble_eq_true rfl) dJ1_indexOf_4cfef_11 ?_
    refine lv_topi (nm_r (e' := 0) (by decide) ?_)
    refine lv_istore_n (lv' := [(2, .int 0), (0, .ref (v9 0)), (1, .int n1), (3, .int 4)]) hx hb dJ1_indexOf_4cfef_14 rfl hl (by decide) rfl (fun ls hl => ?_)
    refine lv_iload_n hx hb dJ1_indexOf_4cfef_15 rfl (lv_at hl 3 rfl) ?_
    refine lv_aload_n hx hb dJ1_indexOf_4cfef_16 rfl (lv_at hl 1 rfl) ?_
    refine va_tlen (v := 4) hx hb (hz.1.1 0 (by decide)).2.2.2 hS (by decide) dJ1_indexOf_4cfef_17 ?_
    refine va_mmin hx hb (hml.trans hl.1.symm) hown (hts _ q356) (hts _ q146) (hts _ q66) (hts _ q147) (Nat.le_of_ble_eq_true rfl) (Nat.le_of_ble_eq_true rfl) (Nat.le_of_ble_eq_true rfl) (Nat.le_of_ble_eq_true rfl) dJ1_indexOf_4cfef_18 ?_
    refine lv_topi (nm_r (e' := 4) (by decide) ?_)
    refine lv_istore_n (lv' := [(3, .int 4), (2, .int 0), (0, .ref (v9 0)), (1, .int n1)]) hx hb dJ1_indexOf_4cfef_21 rfl hl (by decide) rfl (fun ls hl => ?_)
    refine lv_iload_n hx hb dJ1_indexOf_4cfef_22 rfl (lv_at hl 1 rfl) ?_
    refine lv_iload_n hx hb dJ1_indexOf_4cfef_23 rfl (lv_at hl 0 rfl) ?_
    refine lv_icmp_lt (tgt := 29) hx hb dJ1_indexOf_4cfef_24 (by decide) (fun _ => ?_) (fun h9 => absurd (by decide) h9)
    refine lv_aload_n hx hb dJ1_indexOf_4cfef_29 rfl (lv_at hl 2 rfl) ?_
    refine lv_iload_n hx hb dJ1_indexOf_4cfef_30 rfl (lv_at hl 3 rfl) ?_
    refine lv_iload_n hx hb dJ1_indexOf_4cfef_31 rfl (lv_at hl 1 rfl) ?_
    refine lv_iload_n hx hb dJ1_indexOf_4cfef_32 rfl (lv_at hl 0 rfl) ?_
    refine vy_Si4 (n9 := 0) (bs2 := fun u : Unit => []) (br := []) (As := [.ref (v9 0), .int n1, .int 0, .int 4]) (rest := []) hx hb hml hown hts hK hA hP hD hS hz (a_J_ixc0 l D g k9 v9 fo H.size n1) kt_J1_95 ⟨Nat.le_of_ble_eq_true rfl, Nat.le_of_ble_eq_true rfl⟩ [] [] rfl (by decide) rfl (fun _ => rfl) (fun _ => rfl) hl.1 (Nat.le_of_ble_eq_true rfl) dJ1_indexOf_4cfef_33 ⟨Nat.le_refl _, Nat.le_refl _⟩ rfl (fun v4 _ H locs _ _ hP hD hS => ?_)
    rw [hQ]
    exact vz_iret3 hx hb hr hlk hK hP hD hS () trivial rfl (Nat.le_refl 0) (Nat.le_refl 0) dJ1_indexOf_4cfef_36
  · refine lv_iconst (v := (-1)) hx hb dJ1_indexOf_4cfef_7 (by decide) ?_
    rw [hQ]
    exact vz_iret3 hx hb hr hlk hK hP hD hS () trivial rfl (Nat.le_refl 0) (Nat.le_refl 0) dJ1_indexOf_4cfef_8
theorem q337 : Cond.methodLink RJ0 492 yJ0_isLatin1_aae02 ∈ wsL_law := mT_3 (List.mem_of_getElem? (i := 17) rfl) rfl
theorem q338 : Cond.instanceMethod yJ0_isLatin1_aae02 ∈ wsL_law := mT_3 (List.mem_of_getElem? (i := 18) rfl) rfl
theorem q339 : Cond.selects RJ0 yJ0_isLatin1_aae02 yJ0_isLatin1_aae02 ∈ wsL_law := mT_3 (List.mem_of_getElem? (i := 19) rfl) rfl
theorem q340 : Cond.code yJ0_isLatin1_aae02 cJ0_isLatin1_aae02 1 (some .boolean) ∈ wsL_law := mT_3 (List.mem_of_getElem? (i := 20) rfl) rfl
theorem kv_J0_492 : vz_cv RJ0 492 yJ0_isLatin1_aae02 cJ0_isLatin1_aae02 1 (some .boolean) 0 := ⟨q337, q338, q339, q330, q340, by decide +kernel⟩
theorem q343 : Cond.methodLink RJ0 505 yJ0_length_8abf5 ∈ wsL_law := mT_3 (List.mem_of_getElem? (i := 23) rfl) rfl
theorem q344 : Cond.instanceMethod yJ0_length_8abf5 ∈ wsL_law := mT_3 (List.mem_of_getElem? (i := 24) rfl) rfl
theorem q345 : Cond.selects RJ0 yJ0_length_8abf5 yJ0_length_8abf5 ∈ wsL_law := mT_3 (List.mem_of_getElem? (i := 25) rfl) rfl
theorem q346 : Cond.code yJ0_length_8abf5 cJ0_length_8abf5 1 (some .int) ∈ wsL_law := mT_3 (List.mem_of_getElem? (i := 26) rfl) rfl
theorem kv_J0_505 : vz_cv RJ0 505 yJ0_length_8abf5 cJ0_length_8abf5 1 (some .int) 0 := ⟨q343, q344, q345, q330, q346, by decide +kernel⟩
theorem q351 : Cond.methodLink RJ0 637 yJ1_indexOf_4cfef ∈ wsL_law := mT_3 (List.mem_of_getElem? (i := 31) rfl) rfl
theorem q352 : Cond.static yJ1_indexOf_4cfef ∈ wsL_law := mT_3 (List.mem_of_getElem? (i := 32) rfl) rfl
theorem q354 : Cond.code yJ1_indexOf_4cfef cJ1_indexOf_4cfef 4 (some .int) ∈ wsL_law := mT_3 (List.mem_of_getElem? (i := 33) rfl) rfl
theorem kt_J0_637 : vy_cs RJ0 637 yJ1_indexOf_4cfef cJ1_indexOf_4cfef 4 (some .int) 4 := ⟨q351, q352, q353, q354, by decide +kernel⟩
theorem dJ0_indexOf_7cf53_0 : decode cJ0_indexOf_7cf53 0 = .ok (.aload_n 0, 1) := by decide +kernel
theorem dJ0_indexOf_7cf53_1 : decode cJ0_indexOf_7cf53 1 = .ok (.invokevirtual 492, 3) := by decide +kernel
theorem dJ0_indexOf_7cf53_4 : decode cJ0_indexOf_7cf53 4 = .ok (.ifCond .eq 19, 3) := by decide +kernel
theorem dJ0_indexOf_7cf53_7 : decode cJ0_indexOf_7cf53 7 = .ok (.aload_n 0, 1) := by decide +kernel
theorem dJ0_indexOf_7cf53_8 : decode cJ0_indexOf_7cf53 8 = .ok (.getfield 9, 3) := by decide +kernel
theorem dJ0_indexOf_7cf53_11 : decode cJ0_indexOf_7cf53 11 = .ok (.iload_n 1, 1) := by decide +kernel
theorem dJ0_indexOf_7cf53_12 : decode cJ0_indexOf_7cf53 12 = .ok (.iload_n 2, 1) := by decide +kernel
theorem dJ0_indexOf_7cf53_13 : decode cJ0_indexOf_7cf53 13 = .ok (.aload_n 0, 1) := by decide +kernel
theorem dJ0_indexOf_7cf53_14 : decode cJ0_indexOf_7cf53 14 = .ok (.invokevirtual 505, 3) := by decide +kernel
theorem dJ0_indexOf_7cf53_17 : decode cJ0_indexOf_7cf53 17 = .ok (.invokestatic 637, 3) := by decide +kernel
theorem dJ0_indexOf_7cf53_20 : decode cJ0_indexOf_7cf53 20 = .ok (.goto 16, 3) := by decide +kernel
theorem dJ0_indexOf_7cf53_36 : decode cJ0_indexOf_7cf53 36 = .ok (.ireturn, 1) := by decide +kernel
set_option maxHeartbeats 8000000 in
set_option maxRecDepth 100000 in
theorem a_J_ixa0 (l : Launch) (D : va_G) (g : Nat → ClassId) (k9 v9 : Nat → Nat) (fo : Nat)   (sz : Nat) (n1 : Int32) : vy_Mi l D (tyG g) yJ0_indexOf_7cf53 cJ0_indexOf_7cf53 3 2 48 0 0 .int [.ref (k9 0), .int n1, .int 0] sz (vz_w []) k9 v9 fo (fun r (u : Unit) => True) (fun u => vz_w []) := by
  refine vy_siQ (by decide) (Nat.le_of_ble_eq_true rfl) (fun p e s m args below meth c hx hb hr hml hts hown hlk hin hK hsz A hA hz H locs hP hD hS ls hl Q hQ => ?_)
  have hl : lv_has ls 3 [(0, .ref (k9 0)), (1, .int n1), (2, .int 0)] := hl
  have J36 : ∀ (y0_36 : Int32), ∀ (H : Heap) (locs : List Loc) (ls : Array Slot), va_P D vwCl (vz_w []) H → va_D A (vz_w []) → va_S A s.heap H locs → lv_has ls 3 [(0, .ref (k9 0)), (1, .int n1), (2, .int 0)] → W p l e { frames := 2, cells := 0, slots := 0, locals := 48 } s m args below meth c H locs 0 0 Q (F0 m 36 ls [.int y0_36]) := by
    intro y0_36 H locs ls hP hD hS hl
    rw [hQ]
    exact vz_iret3 hx hb hr hlk hK hP hD hS () trivial rfl (Nat.le_refl 0) (Nat.le_refl 0) dJ0_indexOf_7cf53_36
  refine lv_aload_n hx hb dJ0_indexOf_7cf53_0 rfl (lv_at hl 0 rfl) ?_
  refine vy_Vs (i9 := 0) (As := []) (rest := []) hx hb hml hown hts hK hA hP hD hS hz (by decide) (a_J_isLatin0 l D g k9 v9 fo H.size) kv_J0_492 ⟨Nat.le_of_ble_eq_true rfl, Nat.le_of_ble_eq_true rfl⟩ rfl hl.1 (Nat.le_of_ble_eq_true rfl) dJ0_indexOf_7cf53_1 ⟨Nat.le_refl _, Nat.le_refl _⟩ rfl (fun v1 _ H locs hp2 _ hP hD hS => ?_)
  try dsimp only at hp2
  subst hp2
  refine lv_if_eq (tgt := 23) hx hb dJ0_indexOf_7cf53_4 (by decide) (fun h9 => absurd h9 (by decide)) (fun _ => ?_)
  refine lv_aload_n hx hb dJ0_indexOf_7cf53_7 rfl (lv_at hl 0 rfl) ?_
  refine vk_getf (o := "java/lang/String") hx hb (hz.1.1 0 (by decide)).2.2.1 hS hown (hts _ q336) (fun _ h => h) dJ0_indexOf_7cf53_8 ?_
  refine lv_iload_n hx hb dJ0_indexOf_7cf53_11 rfl (lv_at hl 1 rfl) ?_
  refine lv_iload_n hx hb dJ0_indexOf_7cf53_12 rfl (lv_at hl 2 rfl) ?_
  refine lv_aload_n hx hb dJ0_indexOf_7cf53_13 rfl (lv_at hl 0 rfl) ?_
  refine vy_Vs (i9 := 0) (As := []) (rest := [.int 0, .int n1, .ref (v9 0)]) hx hb hml hown hts hK hA hP hD hS hz (by decide) (a_J_length0 l D g k9 v9 fo H.size) kv_J0_505 ⟨Nat.le_of_ble_eq_true rfl, Nat.le_of_ble_eq_true rfl⟩ rfl hl.1 (Nat.le_of_ble_eq_true rfl) dJ0_indexOf_7cf53_14 ⟨Nat.le_refl _, Nat.le_refl _⟩ rfl (fun v3 _ H locs hp4 _ hP hD hS => ?_)
  try dsimp only at hp4
  subst hp4
  refine vy_Si4 (n9 := 0) (bs2 := fun u : Unit => []) (br := []) (As := [.ref (v9 0), .int n1, .int 0, .int 4]) (rest := []) hx hb hml hown hts hK hA hP hD hS hz (a_J_ixb0 l D g k9 v9 fo H.size n1) kt_J0_637 ⟨Nat.le_of_ble_eq_true rfl, Nat.le_of_ble_eq_true rfl⟩ [] [] rfl (by decide) rfl (fun _ => rfl) (fun _ => rfl) hl.1 (Nat.le_of_ble_eq_true rfl) dJ0_indexOf_7cf53_17 ⟨Nat.le_refl _, Nat.le_refl _⟩ rfl (fun v5 _ H locs _ _ hP hD hS => ?_)
  refine lv_goto (tgt := 36) hx hb dJ0_indexOf_7cf53_20 (by decide) ?_
  exact J36 v5 H locs ls hP hD hS (lv_sub hl [0, 1, 2] rfl)
theorem q332 : Cond.methodLink RJ0 633 yJ0_indexOf_7cf53 ∈ wsL_law := mT_3 (List.mem_of_getElem? (i := 13) rfl) rfl
theorem q333 : Cond.instanceMethod yJ0_indexOf_7cf53 ∈ wsL_law := mT_3 (List.mem_of_getElem? (i := 14) rfl) rfl
theorem q334 : Cond.selects RJ0 yJ0_indexOf_7cf53 yJ0_indexOf_7cf53 ∈ wsL_law := mT_3 (List.mem_of_getElem? (i := 15) rfl) rfl
theorem q335 : Cond.code yJ0_indexOf_7cf53 cJ0_indexOf_7cf53 3 (some .int) ∈ wsL_law := mT_3 (List.mem_of_getElem? (i := 16) rfl) rfl
theorem kv_J0_633 : vz_cv RJ0 633 yJ0_indexOf_7cf53 cJ0_indexOf_7cf53 3 (some .int) 2 := ⟨q332, q333, q334, q330, q335, by decide +kernel⟩
theorem dJ0_indexOf_0f7a4_0 : decode cJ0_indexOf_0f7a4 0 = .ok (.aload_n 0, 1) := by decide +kernel
theorem dJ0_indexOf_0f7a4_1 : decode cJ0_indexOf_0f7a4 1 = .ok (.iload_n 1, 1) := by decide +kernel
theorem dJ0_indexOf_0f7a4_2 : decode cJ0_indexOf_0f7a4 2 = .ok (.iconst 0, 1) := by decide +kernel
theorem dJ0_indexOf_0f7a4_3 : decode cJ0_indexOf_0f7a4 3 = .ok (.invokevirtual 633, 3) := by decide +kernel
theorem dJ0_indexOf_0f7a4_6 : decode cJ0_indexOf_0f7a4 6 = .ok (.ireturn, 1) := by decide +kernel
set_option maxHeartbeats 8000000 in
set_option maxRecDepth 100000 in
theorem a_J_ix0 (l : Launch) (D : va_G) (g : Nat → ClassId) (k9 v9 : Nat → Nat) (fo : Nat)   (sz : Nat) (n1 : Int32) : vy_Mi l D (tyG g) yJ0_indexOf_0f7a4 cJ0_indexOf_0f7a4 2 3 70 0 0 .int [.ref (k9 0), .int n1] sz (vz_w []) k9 v9 fo (fun r (u : Unit) => True) (fun u => vz_w []) := by
  refine vy_siQ (by decide) (Nat.le_of_ble_eq_true rfl) (fun p e s m args below meth c hx hb hr hml hts hown hlk hin hK hsz A hA hz H locs hP hD hS ls hl Q hQ => ?_)
  have hl : lv_has ls 2 [(0, .ref (k9 0)), (1, .int n1)] := hl
  refine lv_aload_n hx hb dJ0_indexOf_0f7a4_0 rfl (lv_at hl 0 rfl) ?_
  refine lv_iload_n hx hb dJ0_indexOf_0f7a4_1 rfl (lv_at hl 1 rfl) ?_
  refine lv_iconst (v := 0) hx hb dJ0_indexOf_0f7a4_2 (by decide) ?_
  refine vy_Vs (i9 := 0) (As := [.int n1, .int 0]) (rest := []) hx hb hml hown hts hK hA hP hD hS hz (by decide) (a_J_ixa0 l D g k9 v9 fo H.size n1) kv_J0_633 ⟨Nat.le_of_ble_eq_true rfl, Nat.le_of_ble_eq_true rfl⟩ rfl hl.1 (Nat.le_of_ble_eq_true rfl) dJ0_indexOf_0f7a4_3 ⟨Nat.le_refl _, Nat.le_refl _⟩ rfl (fun v1 _ H locs _ _ hP hD hS => ?_)
  rw [hQ]
  exact vz_iret3 hx hb hr hlk hK hP hD hS () trivial rfl (Nat.le_refl 0) (Nat.le_refl 0) dJ0_indexOf_0f7a4_6
set_option maxHeartbeats 8000000 in
set_option maxRecDepth 100000 in
theorem a_J_coder1 (l : Launch) (D : va_G) (g : Nat → ClassId) (k9 v9 : Nat → Nat) (fo : Nat)   (sz : Nat)  : vy_Mi l D (tyG g) yJ0_coder_7d493 cJ0_coder_7d493 1 0 0 0 0 .byte [.ref (k9 1)] sz (vz_w []) k9 v9 fo (fun r (u : Unit) => (r = 0)) (fun u => vz_w []) := by
  refine vy_siQ (by decide) (Nat.le_of_ble_eq_true rfl) (fun p e s m args below meth c hx hb hr hml hts hown hlk hin hK hsz A hA hz H locs hP hD hS ls hl Q hQ => ?_)
  have hl : lv_has ls 1 [(0, .ref (k9 1))] := hl
  have J14 : ∀ (H : Heap) (locs : List Loc) (ls : Array Slot), va_P D vwCl (vz_w []) H → va_D A (vz_w []) → va_S A s.heap H locs → lv_has ls 1 [(0, .ref (k9 1))] → W p l e { frames := 0, cells := 0, slots := 0, locals := 0 } s m args below meth c H locs 0 0 Q (F0 m 14 ls [.int 0]) := by
    intro H locs ls hP hD hS hl
    rw [hQ]
    exact vy_kret hx hb hr hlk hK hP hD hS () (rfl) rfl (Nat.le_refl 0) (Nat.le_refl 0) (by decide) dJ0_coder_7d493_14
  refine va_gets (C := "java/lang/String") hx hb hz.2.1 hS hown (hts _ q341) (fun _ h => h) dJ0_coder_7d493_0 ?_
  refine lv_if_eq (tgt := 13) hx hb dJ0_coder_7d493_3 (by decide) (fun h9 => absurd h9 (by decide)) (fun _ => ?_)
  refine lv_aload_n hx hb dJ0_coder_7d493_6 rfl (lv_at hl 0 rfl) ?_
  refine vk_getf (o := "java/lang/String") hx hb (hz.1.1 1 (by decide)).2.1 hS hown (hts _ q342) (fun _ h => h) dJ0_coder_7d493_7 ?_
  refine lv_goto (tgt := 14) hx hb dJ0_coder_7d493_10 (by decide) ?_
  exact J14 H locs ls hP hD hS (lv_sub hl [0] rfl)
set_option maxHeartbeats 8000000 in
set_option maxRecDepth 100000 in
theorem a_J_length1 (l : Launch) (D : va_G) (g : Nat → ClassId) (k9 v9 : Nat → Nat) (fo : Nat)   (sz : Nat)  : vy_Mi l D (tyG g) yJ0_length_8abf5 cJ0_length_8abf5 1 1 20 0 0 .int [.ref (k9 1)] sz (vz_w []) k9 v9 fo (fun r (u : Unit) => (r = 115)) (fun u => vz_w []) := by
  refine vy_siQ (by decide) (Nat.le_of_ble_eq_true rfl) (fun p e s m args below meth c hx hb hr hml hts hown hlk hin hK hsz A hA hz H locs hP hD hS ls hl Q hQ => ?_)
  have hl : lv_has ls 1 [(0, .ref (k9 1))] := hl
  refine lv_aload_n hx hb dJ0_length_8abf5_0 rfl (lv_at hl 0 rfl) ?_
  refine vk_getf (o := "java/lang/String") hx hb (hz.1.1 1 (by decide)).2.2.1 hS hown (hts _ q336) (fun _ h => h) dJ0_length_8abf5_1 ?_
  refine va_tlen (v := 115) hx hb (hz.1.1 1 (by decide)).2.2.2 hS (by decide) dJ0_length_8abf5_4 ?_
  refine lv_aload_n hx hb dJ0_length_8abf5_5 rfl (lv_at hl 0 rfl) ?_
  refine vy_Vs (i9 := 1) (As := []) (rest := [.int 115]) hx hb hml hown hts hK hA hP hD hS hz (by decide) (a_J_coder1 l D g k9 v9 fo H.size) kv_J0_335 ⟨Nat.le_of_ble_eq_true rfl, Nat.le_of_ble_eq_true rfl⟩ rfl hl.1 (Nat.le_of_ble_eq_true rfl) dJ0_length_8abf5_6 ⟨Nat.le_refl _, Nat.le_refl _⟩ rfl (fun v1 _ H locs hp2 _ hP hD hS => ?_)
  try dsimp only at hp2
  subst hp2
  refine lv_ishr hx hb dJ0_length_8abf5_9 ?_
  refine lv_topi (nm_r (e' := 115) (by decide) ?_)
  rw [hQ]
  exact vz_iret3 hx hb hr hlk hK hP hD hS () (rfl) rfl (Nat.le_refl 0) (Nat.le_refl 0) dJ0_length_8abf5_10
set_option maxHeartbeats 8000000 in
set_option maxRecDepth 100000 in
theorem a_J_isLatin1 (l : Launch) (D : va_G) (g : Nat → ClassId) (k9 v9 : Nat → Nat) (fo : Nat)   (sz : Nat)  : vy_Mi l D (tyG g) yJ0_isLatin1_aae02 cJ0_isLatin1_aae02 1 0 0 0 0 .boolean [.ref (k9 1)] sz (vz_w []) k9 v9 fo (fun r (u : Unit) => (r = 1)) (fun u => vz_w []) := by
  refine vy_siQ (by decide) (Nat.le_of_ble_eq_true rfl) (fun p e s m args below meth c hx hb hr hml hts hown hlk hin hK hsz A hA hz H locs hP hD hS ls hl Q hQ => ?_)
  have hl : lv_has ls 1 [(0, .ref (k9 1))] := hl
  have J18 : ∀ (H : Heap) (locs : List Loc) (ls : Array Slot), va_P D vwCl (vz_w []) H → va_D A (vz_w []) → va_S A s.heap H locs → lv_has ls 1 [(0, .ref (k9 1))] → W p l e { frames := 0, cells := 0, slots := 0, locals := 0 } s m args below meth c H locs 0 0 Q (F0 m 18 ls [.int 1]) := by
    intro H locs ls hP hD hS hl
    rw [hQ]
    exact vy_kret hx hb hr hlk hK hP hD hS () (rfl) rfl (Nat.le_refl 0) (Nat.le_refl 0) (by decide) dJ0_isLatin1_aae02_18
  refine va_gets (C := "java/lang/String") hx hb hz.2.1 hS hown (hts _ q341) (fun _ h => h) dJ0_isLatin1_aae02_0 ?_
  refine lv_if_eq (tgt := 17) hx hb dJ0_isLatin1_aae02_3 (by decide) (fun h9 => absurd h9 (by decide)) (fun _ => ?_)
  refine lv_aload_n hx hb dJ0_isLatin1_aae02_6 rfl (lv_at hl 0 rfl) ?_
  refine vk_getf (o := "java/lang/String") hx hb (hz.1.1 1 (by decide)).2.1 hS hown (hts _ q342) (fun _ h => h) dJ0_isLatin1_aae02_7 ?_
  refine lv_if_ne (tgt := 17) hx hb dJ0_isLatin1_aae02_10 (by decide) (fun h9 => absurd (by decide) h9) (fun _ => ?_)
  refine lv_iconst (v := 1) hx hb dJ0_isLatin1_aae02_13 (by decide) ?_
  refine lv_goto (tgt := 18) hx hb dJ0_isLatin1_aae02_14 (by decide) ?_
  exact J18 H locs ls hP hD hS (lv_sub hl [0] rfl)
theorem dJ3_checkIndex_8e157_0 : decode cJ3_checkIndex_8e157 0 = .ok (.iload_n 0, 1) := by decide +kernel
theorem dJ3_checkIndex_8e157_1 : decode cJ3_checkIndex_8e157 1 = .ok (.ifCond .lt 8, 3) := by decide +kernel
theorem dJ3_checkIndex_8e157_4 : decode cJ3_checkIndex_8e157 4 = .ok (.iload_n 0, 1) := by decide +kernel
theorem dJ3_checkIndex_8e157_5 : decode cJ3_checkIndex_8e157 5 = .ok (.iload_n 1, 1) := by decide +kernel
theorem dJ3_checkIndex_8e157_6 : decode cJ3_checkIndex_8e157 6 = .ok (.if_icmp .lt 10, 3) := by decide +kernel
theorem dJ3_checkIndex_8e157_16 : decode cJ3_checkIndex_8e157 16 = .ok (.iload_n 0, 1) := by decide +kernel
theorem dJ3_checkIndex_8e157_17 : decode cJ3_checkIndex_8e157 17 = .ok (.ireturn, 1) := by decide +kernel
set_option maxHeartbeats 8000000 in
set_option maxRecDepth 100000 in
theorem a_J_checkIndex3 (l : Launch) (D : va_G) (g : Nat → ClassId) (k9 v9 : Nat → Nat) (fo fo2 : Nat)   (sz : Nat) (n1 : Int32) (h1 : ¬ n1 < 0) (h2 : ¬ 115 ≤ n1) : vy_Mi l D (tyG g) yJ3_checkIndex_8e157 cJ3_checkIndex_8e157 3 0 0 0 0 .int [.int n1, .int 115, .ref fo2] sz (vz_w []) k9 v9 fo (fun r (u : Unit) => True) (fun u => vz_w []) := by
  refine vy_siQ (by decide) (Nat.le_of_ble_eq_true rfl) (fun p e s m args below meth c hx hb hr hml hts hown hlk hin hK hsz A hA hz H locs hP hD hS ls hl Q hQ => ?_)
  have hl : lv_has ls 3 [(0, .int n1), (1, .int 115), (2, .ref fo2)] := hl
  have J16 : ∀ (H : Heap) (locs : List Loc) (ls : Array Slot), va_P D vwCl (vz_w []) H → va_D A (vz_w []) → va_S A s.heap H locs → lv_has ls 3 [(0, .int n1), (1, .int 115), (2, .ref fo2)] → W p l e { frames := 0, cells := 0, slots := 0, locals := 0 } s m args below meth c H locs 0 0 Q (F0 m 16 ls []) := by
    intro H locs ls hP hD hS hl
    refine lv_iload_n hx hb dJ3_checkIndex_8e157_16 rfl (lv_at hl 0 rfl) ?_
    rw [hQ]
    exact vz_iret3 hx hb hr hlk hK hP hD hS () trivial rfl (Nat.le_refl 0) (Nat.le_refl 0) dJ3_checkIndex_8e157_17
  refine lv_iload_n hx hb dJ3_checkIndex_8e157_0 rfl (lv_at hl 0 rfl) ?_
  refine lv_if_lt (tgt := 9) hx hb dJ3_checkIndex_8e157_1 (by decide) (fun h9 => absurd h9 (h1)) (fun _ => ?_)
  refine lv_iload_n hx hb dJ3_checkIndex_8e157_4 rfl (lv_at hl 0 rfl) ?_
  refine lv_iload_n hx hb dJ3_checkIndex_8e157_5 rfl (lv_at hl 1 rfl) ?_
  refine lv_icmp_lt (tgt := 16) hx hb dJ3_checkIndex_8e157_6 (by decide) (fun _ => ?_) (fun h9 => absurd (Int32.not_le.mp h2) h9)
  exact J16 H locs ls hP hD hS (lv_sub hl [0, 1, 2] rfl)
theorem q382 : Cond.fieldLink RJ0 1053 "jdk/internal/util/Preconditions" "SIOOBE_FORMATTER" "Ljava/util/function/BiFunction;" ∈ wsL_law := mT_3 (List.mem_of_getElem? (i := 60) rfl) rfl
set_option maxHeartbeats 8000000 in
set_option maxRecDepth 100000 in
theorem a_J_checkIndex3N (l : Launch) (D : va_G) (g : Nat → ClassId) (k9 v9 : Nat → Nat) (fo : Nat)   (sz : Nat) (n1 : Int32) (h1 : ¬ n1 < 0) (h2 : ¬ 115 ≤ n1) : vy_Mi l D (tyG g) yJ3_checkIndex_8e157 cJ3_checkIndex_8e157 3 0 0 0 0 .int [.int n1, .int 115, .null] sz (vz_w []) k9 v9 fo (fun r (u : Unit) => True) (fun u => vz_w []) := by
  refine vy_siQ (by decide) (Nat.le_of_ble_eq_true rfl) (fun p e s m args below meth c hx hb hr hml hts hown hlk hin hK hsz A hA hz H locs hP hD hS ls hl Q hQ => ?_)
  have hl : lv_has ls 3 [(0, .int n1), (1, .int 115), (2, .null)] := hl
  have J16 : ∀ (H : Heap) (locs : List Loc) (ls : Array Slot), va_P D vwCl (vz_w []) H → va_D A (vz_w []) → va_S A s.heap H locs → lv_has ls 3 [(0, .int n1), (1, .int 115), (2, .null)] → W p l e { frames := 0, cells := 0, slots := 0, locals := 0 } s m args below meth c H locs 0 0 Q (F0 m 16 ls []) := by
    intro H locs ls hP hD hS hl
    refine lv_iload_n hx hb dJ3_checkIndex_8e157_16 rfl (lv_at hl 0 rfl) ?_
    rw [hQ]
    exact vz_iret3 hx hb hr hlk hK hP hD hS () trivial rfl (Nat.le_refl 0) (Nat.le_refl 0) dJ3_checkIndex_8e157_17
  refine lv_iload_n hx hb dJ3_checkIndex_8e157_0 rfl (lv_at hl 0 rfl) ?_
  refine lv_if_lt (tgt := 9) hx hb dJ3_checkIndex_8e157_1 (by decide) (fun h9 => absurd h9 (h1)) (fun _ => ?_)
  refine lv_iload_n hx hb dJ3_checkIndex_8e157_4 rfl (lv_at hl 0 rfl) ?_
  refine lv_iload_n hx hb dJ3_checkIndex_8e157_5 rfl (lv_at hl 1 rfl) ?_
  refine lv_icmp_lt (tgt := 16) hx hb dJ3_checkIndex_8e157_6 (by decide) (fun _ => ?_) (fun h9 => absurd (Int32.not_le.mp h2) h9)
  exact J16 H locs ls hP hD hS (lv_sub hl [0, 1, 2] rfl)
theorem q425 : Cond.methodLink RJ0 1059 yJ3_checkIndex_8e157 ∈ wsL_law := mT_3 (List.mem_of_getElem? (i := 106) rfl) rfl
theorem q426 : Cond.static yJ3_checkIndex_8e157 ∈ wsL_law := mT_3 (List.mem_of_getElem? (i := 107) rfl) rfl
theorem q385 : Cond.initialized RJ3 ∈ wsL_law := mT_1 (List.mem_of_getElem? (i := 16) rfl) rfl
theorem q427 : Cond.code yJ3_checkIndex_8e157 cJ3_checkIndex_8e157 3 (some .int) ∈ wsL_law := mT_3 (List.mem_of_getElem? (i := 108) rfl) rfl
theorem kt_J0_1059 : vy_cs RJ0 1059 yJ3_checkIndex_8e157 cJ3_checkIndex_8e157 3 (some .int) 3 := ⟨q425, q426, q385, q427, by decide +kernel⟩
theorem dJ0_checkIndex_df160_0 : decode cJ0_checkIndex_df160 0 = .ok (.iload_n 0, 1) := by decide +kernel
theorem dJ0_checkIndex_df160_1 : decode cJ0_checkIndex_df160 1 = .ok (.iload_n 1, 1) := by decide +kernel
theorem dJ0_checkIndex_df160_2 : decode cJ0_checkIndex_df160 2 = .ok (.getstatic 1053, 3) := by decide +kernel
theorem dJ0_checkIndex_df160_5 : decode cJ0_checkIndex_df160 5 = .ok (.invokestatic 1059, 3) := by decide +kernel
theorem dJ0_checkIndex_df160_8 : decode cJ0_checkIndex_df160 8 = .ok (.pop, 1) := by decide +kernel
theorem dJ0_checkIndex_df160_9 : decode cJ0_checkIndex_df160 9 = .ok (.return_, 1) := by decide +kernel
set_option maxHeartbeats 8000000 in
set_option maxRecDepth 100000 in
theorem a_J_checkIndex (l : Launch) (D : va_G) (g : Nat → ClassId) (k9 v9 : Nat → Nat) (fo : Nat)   (sz : Nat) (n1 : Int32) (h1 : ¬ n1 < 0) (h2 : ¬ 115 ≤ n1) : vy_Mv l D (tyG g) yJ0_checkIndex_df160 cJ0_checkIndex_df160 2 1 22 0 0 [.int n1, .int 115] sz (vz_w []) k9 v9 fo (fun u : Unit => True) (fun u => vz_w []) := by
  refine vy_svQ (by decide) (Nat.le_of_ble_eq_true rfl) (fun p e s m args below meth c hx hb hr hml hts hown hlk hin hK hsz A hA hz H locs hP hD hS ls hl Q hQ => ?_)
  have hl : lv_has ls 2 [(0, .int n1), (1, .int 115)] := hl
  refine lv_iload_n hx hb dJ0_checkIndex_df160_0 rfl (lv_at hl 0 rfl) ?_
  refine lv_iload_n hx hb dJ0_checkIndex_df160_1 rfl (lv_at hl 1 rfl) ?_
  rcases hz.2.2.2 with hzq | ⟨fo2, hzq⟩
  · refine va_gets (C := "jdk/internal/util/Preconditions") hx hb hzq hS hown (hts _ q382) (fun _ h => h) dJ0_checkIndex_df160_2 ?_
    refine vy_Si4 (n9 := 0) (bs2 := fun u : Unit => []) (br := []) (As := [.int n1, .int 115, .null]) (rest := []) hx hb hml hown hts hK hA hP hD hS hz (a_J_checkIndex3N l D g k9 v9 fo H.size n1 (h1) (h2)) kt_J0_1059 ⟨Nat.le_of_ble_eq_true rfl, Nat.le_of_ble_eq_true rfl⟩ [] [] rfl (by decide) rfl (fun _ => rfl) (fun _ => rfl) hl.1 (Nat.le_of_ble_eq_true rfl) dJ0_checkIndex_df160_5 ⟨Nat.le_refl _, Nat.le_refl _⟩ rfl (fun v1 _ H locs _ _ hP hD hS => ?_)
    refine lv_pop hx hb dJ0_checkIndex_df160_8 rfl ?_
    rw [hQ]
    exact vz_vret3 hx hb hr hlk hK hP hD hS () trivial rfl (Nat.le_refl 0) (Nat.le_refl 0) dJ0_checkIndex_df160_9
  · refine va_gets (C := "jdk/internal/util/Preconditions") hx hb hzq hS hown (hts _ q382) (fun _ h => h) dJ0_checkIndex_df160_2 ?_
    refine vy_Si4 (n9 := 0) (bs2 := fun u : Unit => []) (br := []) (As := [.int n1, .int 115, .ref fo2]) (rest := []) hx hb hml hown hts hK hA hP hD hS hz (a_J_checkIndex3 l D g k9 v9 fo fo2 H.size n1 (h1) (h2)) kt_J0_1059 ⟨Nat.le_of_ble_eq_true rfl, Nat.le_of_ble_eq_true rfl⟩ [] [] rfl (by decide) rfl (fun _ => rfl) (fun _ => rfl) hl.1 (Nat.le_of_ble_eq_true rfl) dJ0_checkIndex_df160_5 ⟨Nat.le_refl _, Nat.le_refl _⟩ rfl (fun v1 _ H locs _ _ hP hD hS => ?_)
    refine lv_pop hx hb dJ0_checkIndex_df160_8 rfl ?_
    rw [hQ]
    exact vz_vret3 hx hb hr hlk hK hP hD hS () trivial rfl (Nat.le_refl 0) (Nat.le_refl 0) dJ0_checkIndex_df160_9
theorem q422 : Cond.methodLink RJ1 9 yJ0_checkIndex_df160 ∈ wsL_law := mT_3 (List.mem_of_getElem? (i := 103) rfl) rfl
theorem q423 : Cond.static yJ0_checkIndex_df160 ∈ wsL_law := mT_3 (List.mem_of_getElem? (i := 104) rfl) rfl
theorem q424 : Cond.code yJ0_checkIndex_df160 cJ0_checkIndex_df160 2 none ∈ wsL_law := mT_3 (List.mem_of_getElem? (i := 105) rfl) rfl
theorem kt_J1_9 : vy_cs RJ1 9 yJ0_checkIndex_df160 cJ0_checkIndex_df160 2 none 2 := ⟨q422, q423, q330, q424, by decide +kernel⟩
theorem dJ1_charAt_3b067_0 : decode cJ1_charAt_3b067 0 = .ok (.iload_n 1, 1) := by decide +kernel
theorem dJ1_charAt_3b067_1 : decode cJ1_charAt_3b067 1 = .ok (.aload_n 0, 1) := by decide +kernel
theorem dJ1_charAt_3b067_2 : decode cJ1_charAt_3b067 2 = .ok (.arraylength, 1) := by decide +kernel
theorem dJ1_charAt_3b067_3 : decode cJ1_charAt_3b067 3 = .ok (.invokestatic 9, 3) := by decide +kernel
theorem dJ1_charAt_3b067_6 : decode cJ1_charAt_3b067 6 = .ok (.aload_n 0, 1) := by decide +kernel
theorem dJ1_charAt_3b067_7 : decode cJ1_charAt_3b067 7 = .ok (.iload_n 1, 1) := by decide +kernel
theorem dJ1_charAt_3b067_8 : decode cJ1_charAt_3b067 8 = .ok (.baload, 1) := by decide +kernel
theorem dJ1_charAt_3b067_9 : decode cJ1_charAt_3b067 9 = .ok (.sipush 255, 3) := by decide +kernel
theorem dJ1_charAt_3b067_12 : decode cJ1_charAt_3b067 12 = .ok (.iand, 1) := by decide +kernel
theorem dJ1_charAt_3b067_13 : decode cJ1_charAt_3b067 13 = .ok (.i2c, 1) := by decide +kernel
theorem dJ1_charAt_3b067_14 : decode cJ1_charAt_3b067 14 = .ok (.ireturn, 1) := by decide +kernel
set_option maxHeartbeats 8000000 in
set_option maxRecDepth 100000 in
theorem a_J_charAt1 (l : Launch) (D : va_G) (g : Nat → ClassId) (k9 v9 : Nat → Nat) (fo : Nat)   (sz : Nat) (n1 : Int32) (h1 : ¬ n1 < 0) (h2 : ¬ 115 ≤ n1) : vy_Mi l D (tyG g) yJ1_charAt_3b067 cJ1_charAt_3b067 2 2 43 0 0 .char [.ref (v9 1), .int n1] sz (vz_w []) k9 v9 fo (fun r (u : Unit) => (narrow .char (.int r) = .int r)) (fun u => vz_w []) := by
  refine vy_siQ (by decide) (Nat.le_of_ble_eq_true rfl) (fun p e s m args below meth c hx hb hr hml hts hown hlk hin hK hsz A hA hz H locs hP hD hS ls hl Q hQ => ?_)
  have hl : lv_has ls 2 [(0, .ref (v9 1)), (1, .int n1)] := hl
  refine lv_iload_n hx hb dJ1_charAt_3b067_0 rfl (lv_at hl 1 rfl) ?_
  refine lv_aload_n hx hb dJ1_charAt_3b067_1 rfl (lv_at hl 0 rfl) ?_
  refine va_tlen (v := 115) hx hb (hz.1.1 1 (by decide)).2.2.2 hS (by decide) dJ1_charAt_3b067_2 ?_
  refine vy_Sv4 (n9 := 0) (bs2 := fun u : Unit => []) (br := []) (As := [.int n1, .int 115]) (rest := []) hx hb hml hown hts hK hA hP hD hS hz (a_J_checkIndex l D g k9 v9 fo H.size n1 (h1) (h2)) kt_J1_9 ⟨Nat.le_of_ble_eq_true rfl, Nat.le_of_ble_eq_true rfl⟩ [] [] rfl (by decide) rfl (fun _ => rfl) (fun _ => rfl) hl.1 (Nat.le_of_ble_eq_true rfl) dJ1_charAt_3b067_3 ⟨Nat.le_refl _, Nat.le_refl _⟩ rfl (fun _ H locs _ _ hP hD hS => ?_)
  refine lv_aload_n hx hb dJ1_charAt_3b067_6 rfl (lv_at hl 0 rfl) ?_
  refine lv_iload_n hx hb dJ1_charAt_3b067_7 rfl (lv_at hl 1 rfl) ?_
  refine va_tb (v := .int ((zsB.getD 1 []).getD (n1).toNatClampNeg 0)) hx hb (hz.1.1 1 (by decide)).2.2.2 hS (vy_in h1 h2 rfl) rfl dJ1_charAt_3b067_8 ?_
  refine lv_sipush (v := 255) hx hb dJ1_charAt_3b067_9 (by decide) ?_
  refine lv_iand hx hb dJ1_charAt_3b067_12 ?_
  refine lv_i2c (v := ((Int32.toUInt32 (((zsB.getD 1 []).getD (n1).toNatClampNeg 0) &&& 255)) % 65536).toInt32) hx hb dJ1_charAt_3b067_13 rfl ?_
  rw [hQ]
  exact vy_kret hx hb hr hlk hK hP hD hS () (vy_nc _) rfl (Nat.le_refl 0) (Nat.le_refl 0) (vy_nc _) dJ1_charAt_3b067_14
theorem q419 : Cond.methodLink RJ0 495 yJ1_charAt_3b067 ∈ wsL_law := mT_3 (List.mem_of_getElem? (i := 100) rfl) rfl
theorem q420 : Cond.static yJ1_charAt_3b067 ∈ wsL_law := mT_3 (List.mem_of_getElem? (i := 101) rfl) rfl
theorem q421 : Cond.code yJ1_charAt_3b067 cJ1_charAt_3b067 2 (some .char) ∈ wsL_law := mT_3 (List.mem_of_getElem? (i := 102) rfl) rfl
theorem kt_J0_495 : vy_cs RJ0 495 yJ1_charAt_3b067 cJ1_charAt_3b067 2 (some .char) 2 := ⟨q419, q420, q353, q421, by decide +kernel⟩
theorem dJ0_charAt_5068e_0 : decode cJ0_charAt_5068e 0 = .ok (.aload_n 0, 1) := by decide +kernel
theorem dJ0_charAt_5068e_1 : decode cJ0_charAt_5068e 1 = .ok (.invokevirtual 492, 3) := by decide +kernel
theorem dJ0_charAt_5068e_4 : decode cJ0_charAt_5068e 4 = .ok (.ifCond .eq 12, 3) := by decide +kernel
theorem dJ0_charAt_5068e_7 : decode cJ0_charAt_5068e 7 = .ok (.aload_n 0, 1) := by decide +kernel
theorem dJ0_charAt_5068e_8 : decode cJ0_charAt_5068e 8 = .ok (.getfield 9, 3) := by decide +kernel
theorem dJ0_charAt_5068e_11 : decode cJ0_charAt_5068e 11 = .ok (.iload_n 1, 1) := by decide +kernel
theorem dJ0_charAt_5068e_12 : decode cJ0_charAt_5068e 12 = .ok (.invokestatic 495, 3) := by decide +kernel
theorem dJ0_charAt_5068e_15 : decode cJ0_charAt_5068e 15 = .ok (.ireturn, 1) := by decide +kernel
set_option maxHeartbeats 8000000 in
set_option maxRecDepth 100000 in
theorem a_J_charAt (l : Launch) (D : va_G) (g : Nat → ClassId) (k9 v9 : Nat → Nat) (fo : Nat)   (sz : Nat) (n1 : Int32) (h1 : ¬ n1 < 0) (h2 : ¬ 115 ≤ n1) : vy_Mi l D (tyG g) yJ0_charAt_5068e cJ0_charAt_5068e 2 3 64 0 0 .char [.ref (k9 1), .int n1] sz (vz_w []) k9 v9 fo (fun r (u : Unit) => (narrow .char (.int r) = .int r)) (fun u => vz_w []) := by
  refine vy_siQ (by decide) (Nat.le_of_ble_eq_true rfl) (fun p e s m args below meth c hx hb hr hml hts hown hlk hin hK hsz A hA hz H locs hP hD hS ls hl Q hQ => ?_)
  have hl : lv_has ls 2 [(0, .ref (k9 1)), (1, .int n1)] := hl
  refine lv_aload_n hx hb dJ0_charAt_5068e_0 rfl (lv_at hl 0 rfl) ?_
  refine vy_Vs (i9 := 1) (As := []) (rest := []) hx hb hml hown hts hK hA hP hD hS hz (by decide) (a_J_isLatin1 l D g k9 v9 fo H.size) kv_J0_492 ⟨Nat.le_of_ble_eq_true rfl, Nat.le_of_ble_eq_true rfl⟩ rfl hl.1 (Nat.le_of_ble_eq_true rfl) dJ0_charAt_5068e_1 ⟨Nat.le_refl _, Nat.le_refl _⟩ rfl (fun v1 _ H locs hp2 _ hP hD hS => ?_)
  try dsimp only at hp2
  subst hp2
  refine lv_if_eq (tgt := 16) hx hb dJ0_charAt_5068e_4 (by decide) (fun h9 => absurd h9 (by decide)) (fun _ => ?_)
  refine lv_aload_n hx hb dJ0_charAt_5068e_7 rfl (lv_at hl 0 rfl) ?_
  refine vk_getf (o := "java/lang/String") hx hb (hz.1.1 1 (by decide)).2.2.1 hS hown (hts _ q336) (fun _ h => h) dJ0_charAt_5068e_8 ?_
  refine lv_iload_n hx hb dJ0_charAt_5068e_11 rfl (lv_at hl 1 rfl) ?_
  refine vy_Si4 (n9 := 0) (bs2 := fun u : Unit => []) (br := []) (As := [.ref (v9 1), .int n1]) (rest := []) hx hb hml hown hts hK hA hP hD hS hz (a_J_charAt1 l D g k9 v9 fo H.size n1 (h1) (h2)) kt_J0_495 ⟨Nat.le_of_ble_eq_true rfl, Nat.le_of_ble_eq_true rfl⟩ [] [] rfl (by decide) rfl (fun _ => rfl) (fun _ => rfl) hl.1 (Nat.le_of_ble_eq_true rfl) dJ0_charAt_5068e_12 ⟨Nat.le_refl _, Nat.le_refl _⟩ rfl (fun v3 _ H locs hp4 _ hP hD hS => ?_)
  rw [hQ]
  exact vy_kret hx hb hr hlk hK hP hD hS () (hp4) rfl (Nat.le_refl 0) (Nat.le_refl 0) (hp4) dJ0_charAt_5068e_15
set_option maxHeartbeats 8000000 in
set_option maxRecDepth 100000 in
theorem a_J_coder2 (l : Launch) (D : va_G) (g : Nat → ClassId) (k9 v9 : Nat → Nat) (fo : Nat)   (sz : Nat)  : vy_Mi l D (tyG g) yJ0_coder_7d493 cJ0_coder_7d493 1 0 0 0 0 .byte [.ref (k9 2)] sz (vz_w []) k9 v9 fo (fun r (u : Unit) => (r = 0)) (fun u => vz_w []) := by
  refine vy_siQ (by decide) (Nat.le_of_ble_eq_true rfl) (fun p e s m args below meth c hx hb hr hml hts hown hlk hin hK hsz A hA hz H locs hP hD hS ls hl Q hQ => ?_)
  have hl : lv_has ls 1 [(0, .ref (k9 2))] := hl
  have J14 : ∀ (H : Heap) (locs : List Loc) (ls : Array Slot), va_P D vwCl (vz_w []) H → va_D A (vz_w []) → va_S A s.heap H locs → lv_has ls 1 [(0, .ref (k9 2))] → W p l e { frames := 0, cells := 0, slots := 0, locals := 0 } s m args below meth c H locs 0 0 Q (F0 m 14 ls [.int 0]) := by
    intro H locs ls hP hD hS hl
    rw [hQ]
    exact vy_kret hx hb hr hlk hK hP hD hS () (rfl) rfl (Nat.le_refl 0) (Nat.le_refl 0) (by decide) dJ0_coder_7d493_14
  refine va_gets (C := "java/lang/String") hx hb hz.2.1 hS hown (hts _ q341) (fun _ h => h) dJ0_coder_7d493_0 ?_
  refine lv_if_eq (tgt := 13) hx hb dJ0_coder_7d493_3 (by decide) (fun h9 => absurd h9 (by decide)) (fun _ => ?_)
  refine lv_aload_n hx hb dJ0_coder_7d493_6 rfl (lv_at hl 0 rfl) ?_
  refine vk_getf (o := "java/lang/String") hx hb (hz.1.1 2 (by decide)).2.1 hS hown (hts _ q342) (fun _ h => h) dJ0_coder_7d493_7 ?_
  refine lv_goto (tgt := 14) hx hb dJ0_coder_7d493_10 (by decide) ?_
  exact J14 H locs ls hP hD hS (lv_sub hl [0] rfl)
set_option maxHeartbeats 8000000 in
set_option maxRecDepth 100000 in
theorem a_J_length2 (l : Launch) (D : va_G) (g : Nat → ClassId) (k9 v9 : Nat → Nat) (fo : Nat)   (sz : Nat)  : vy_Mi l D (tyG g) yJ0_length_8abf5 cJ0_length_8abf5 1 1 20 0 0 .int [.ref (k9 2)] sz (vz_w []) k9 v9 fo (fun r (u : Unit) => (r = 16)) (fun u => vz_w []) := by
  refine vy_siQ (by decide) (Nat.le_of_ble_eq_true rfl) (fun p e s m args below meth c hx hb hr hml hts hown hlk hin hK hsz A hA hz H locs hP hD hS ls hl Q hQ => ?_)
  have hl : lv_has ls 1 [(0, .ref (k9 2))] := hl
  refine lv_aload_n hx hb dJ0_length_8abf5_0 rfl (lv_at hl 0 rfl) ?_
  refine vk_getf (o := "java/lang/String") hx hb (hz.1.1 2 (by decide)).2.2.1 hS hown (hts _ q336) (fun _ h => h) dJ0_length_8abf5_1 ?_
  refine va_tlen (v := 16) hx hb (hz.1.1 2 (by decide)).2.2.2 hS (by decide) dJ0_length_8abf5_4 ?_
  refine lv_aload_n hx hb dJ0_length_8abf5_5 rfl (lv_at hl 0 rfl) ?_
  refine vy_Vs (i9 := 2) (As := []) (rest := [.int 16]) hx hb hml hown hts hK hA hP hD hS hz (by decide) (a_J_coder2 l D g k9 v9 fo H.size) kv_J0_335 ⟨Nat.le_of_ble_eq_true rfl, Nat.le_of_ble_eq_true rfl⟩ rfl hl.1 (Nat.le_of_ble_eq_true rfl) dJ0_length_8abf5_6 ⟨Nat.le_refl _, Nat.le_refl _⟩ rfl (fun v1 _ H locs hp2 _ hP hD hS => ?_)
  try dsimp only at hp2
  subst hp2
  refine lv_ishr hx hb dJ0_length_8abf5_9 ?_
  refine lv_topi (nm_r (e' := 16) (by decide) ?_)
  rw [hQ]
  exact vz_iret3 hx hb hr hlk hK hP hD hS () (rfl) rfl (Nat.le_refl 0) (Nat.le_refl 0) dJ0_length_8abf5_10
set_option maxHeartbeats 8000000 in
set_option maxRecDepth 100000 in
theorem a_J_isLatin2 (l : Launch) (D : va_G) (g : Nat → ClassId) (k9 v9 : Nat → Nat) (fo : Nat)   (sz : Nat)  : vy_Mi l D (tyG g) yJ0_isLatin1_aae02 cJ0_isLatin1_aae02 1 0 0 0 0 .boolean [.ref (k9 2)] sz (vz_w []) k9 v9 fo (fun r (u : Unit) => (r = 1)) (fun u => vz_w []) := by
  refine vy_siQ (by decide) (Nat.le_of_ble_eq_true rfl) (fun p e s m args below meth c hx hb hr hml hts hown hlk hin hK hsz A hA hz H locs hP hD hS ls hl Q hQ => ?_)
  have hl : lv_has ls 1 [(0, .ref (k9 2))] := hl
  have J18 : ∀ (H : Heap) (locs : List Loc) (ls : Array Slot), va_P D vwCl (vz_w []) H → va_D A (vz_w []) → va_S A s.heap H locs → lv_has ls 1 [(0, .ref (k9 2))] → W p l e { frames := 0, cells := 0, slots := 0, locals := 0 } s m args below meth c H locs 0 0 Q (F0 m 18 ls [.int 1]) := by
    intro H locs ls hP hD hS hl
    rw [hQ]
    exact vy_kret hx hb hr hlk hK hP hD hS () (rfl) rfl (Nat.le_refl 0) (Nat.le_refl 0) (by decide) dJ0_isLatin1_aae02_18
  refine va_gets (C := "java/lang/String") hx hb hz.2.1 hS hown (hts _ q341) (fun _ h => h) dJ0_isLatin1_aae02_0 ?_
  refine lv_if_eq (tgt := 17) hx hb dJ0_isLatin1_aae02_3 (by decide) (fun h9 => absurd h9 (by decide)) (fun _ => ?_)
  refine lv_aload_n hx hb dJ0_isLatin1_aae02_6 rfl (lv_at hl 0 rfl) ?_
  refine vk_getf (o := "java/lang/String") hx hb (hz.1.1 2 (by decide)).2.1 hS hown (hts _ q342) (fun _ h => h) dJ0_isLatin1_aae02_7 ?_
  refine lv_if_ne (tgt := 17) hx hb dJ0_isLatin1_aae02_10 (by decide) (fun h9 => absurd (by decide) h9) (fun _ => ?_)
  refine lv_iconst (v := 1) hx hb dJ0_isLatin1_aae02_13 (by decide) ?_
  refine lv_goto (tgt := 18) hx hb dJ0_isLatin1_aae02_14 (by decide) ?_
  exact J18 H locs ls hP hD hS (lv_sub hl [0] rfl)
set_option maxHeartbeats 8000000 in
set_option maxRecDepth 100000 in
theorem a_J_ixc2 (l : Launch) (D : va_G) (g : Nat → ClassId) (k9 v9 : Nat → Nat) (fo : Nat)   (sz : Nat) (n1 : Int32) : vy_Mi l D (tyG g) yJ1_indexOfChar_4cfef cJ1_indexOfChar_4cfef 6 0 0 0 0 .int [.ref (v9 2), .int n1, .int 0, .int 16] sz (vz_w []) k9 v9 fo (fun r (u : Unit) => True) (fun u => vz_w []) := by
  refine vy_siQ (by decide) (Nat.le_of_ble_eq_true rfl) (fun p e s m args below meth c hx hb hr hml hts hown hlk hin hK hsz A hA hz H locs hP hD hS ls hl Q hQ => ?_)
  have hl : lv_has ls 6 [(0, .ref (v9 2)), (1, .int n1), (2, .int 0), (3, .int 16)] := hl
  have J7 : ∀ (fu7 n7 : Nat), 16 - n7 < fu7 → n7 ≤ 16 → ∀ (x4_7 : Int32), ∀ (H : Heap) (locs : List Loc) (ls : Array Slot), va_P D vwCl (vz_w []) H → va_D A (vz_w []) → va_S A s.heap H locs → lv_has ls 6 [(0, .ref (v9 2)), (1, .int n1), (2, .int 0), (3, .int 16), (4, .int x4_7), (5, .int (nI n7))] → W p l e { frames := 0, cells := 0, slots := 0, locals := 0 } s m args below meth c H locs 0 0 Q (F0 m 7 ls []) := by
    intro fu7
    induction fu7 with
    | zero => intro n7 z; omega
    | succ fu7 ih7 =>
      intro n7 hf7 hb7 x4_7 H locs ls hP hD hS hl
      refine lv_iload hx hb dJ1_indexOfChar_4cfef_7 (lv_at hl 5 rfl) ?_
      refine lv_iload_n hx hb dJ1_indexOfChar_4cfef_9 rfl (lv_at hl 3 rfl) ?_
      refine lv_icmp_ge (tgt := 31) hx hb dJ1_indexOfChar_4cfef_10 (by decide) (fun kc1 => ?_) (fun kc1 => ?_)
      · refine lv_iconst (v := (-1)) hx hb dJ1_indexOfChar_4cfef_31 (by decide) ?_
        rw [hQ]
        exact vz_iret3 hx hb hr hlk hK hP hD hS () trivial rfl (Nat.le_refl 0) (Nat.le_refl 0) dJ1_indexOfChar_4cfef_32
      · have hn7 : n7 < 16 := vz_ltge (B := 16) (by omega) kc1
        refine lv_aload_n hx hb dJ1_indexOfChar_4cfef_13 rfl (lv_at hl 0 rfl) ?_
        refine lv_iload hx hb dJ1_indexOfChar_4cfef_14 (lv_at hl 5 rfl) ?_
        refine va_tb (v := .int ((zsB.getD 2 []).getD ((nI n7)).toNatClampNeg 0)) hx hb (hz.1.1 2 (by decide)).2.2.2 hS (vy_in (vz_nn (by omega)) kc1 rfl) rfl dJ1_indexOfChar_4cfef_16 ?_
        refine lv_iload hx hb dJ1_indexOfChar_4cfef_17 (lv_at hl 4 rfl) ?_
        refine lv_icmp_ne (tgt := 25) hx hb dJ1_indexOfChar_4cfef_19 (by decide) (fun kc2 => ?_) (fun kc2 => ?_)
        · refine lv_iinc (v := (nI (n7 + 1))) (lv' := [(5, .int (nI (n7 + 1))), (0, .ref (v9 2)), (1, .int n1), (2, .int 0), (3, .int 16), (4, .int x4_7)]) hx hb dJ1_indexOfChar_4cfef_25 hl (k := 5) rfl (nI_1 n7) (by decide) rfl (fun ls hl => ?_)
          refine lv_goto (tgt := 7) hx hb dJ1_indexOfChar_4cfef_28 (by decide) ?_
          exact ih7 (n7 + 1) (by omega) (by omega) x4_7 H locs ls hP hD hS (lv_sub hl [1, 2, 3, 4, 5, 0] rfl)
        · refine lv_iload hx hb dJ1_indexOfChar_4cfef_22 (lv_at hl 5 rfl) ?_
          rw [hQ]
          exact vz_iret3 hx hb hr hlk hK hP hD hS () trivial rfl (Nat.le_refl 0) (Nat.le_refl 0) dJ1_indexOfChar_4cfef_24
  refine lv_iload_n hx hb dJ1_indexOfChar_4cfef_0 rfl (lv_at hl 1 rfl) ?_
  refine lv_i2b (v := (Int8.toInt32 (Int32.toInt8 n1))) hx hb dJ1_indexOfChar_4cfef_1 rfl ?_
  refine lv_istore (lv' := [(4, .int (Int8.toInt32 (Int32.toInt8 n1))), (0, .ref (v9 2)), (1, .int n1), (2, .int 0), (3, .int 16)]) hx hb dJ1_indexOfChar_4cfef_2 hl (by decide) rfl (fun ls hl => ?_)
  refine lv_iload_n hx hb dJ1_indexOfChar_4cfef_4 rfl (lv_at hl 3 rfl) ?_
  refine lv_istore (lv' := [(5, .int 0), (4, .int (Int8.toInt32 (Int32.toInt8 n1))), (0, .ref (v9 2)), (1, .int n1), (2, .int 0), (3, .int 16)]) hx hb dJ1_indexOfChar_4cfef_5 hl (by decide) rfl (fun ls hl => ?_)
  exact J7 (17) 0 (by omega) (by omega) (Int8.toInt32 (Int32.toInt8 n1)) H locs ls hP hD hS (lv_sub hl [2, 3, 4, 5, 1, 0] rfl)
set_option maxHeartbeats 8000000 in
set_option maxRecDepth 100000 in
theorem a_J_ixb2 (l : Launch) (D : va_G) (g : Nat → ClassId) (k9 v9 : Nat → Nat) (fo : Nat)   (sz : Nat) (n1 : Int32) : vy_Mi l D (tyG g) yJ1_indexOf_4cfef cJ1_indexOf_4cfef 4 1 25 0 0 .int [.ref (v9 2), .int n1, .int 0, .int 16] sz (vz_w []) k9 v9 fo (fun r (u : Unit) => True) (fun u => vz_w []) := by
  refine vy_siQ (by decide) (Nat.le_of_ble_eq_true rfl) (fun p e s m args below meth c hx hb hr hml hts hown hlk hin hK hsz A hA hz H locs hP hD hS ls hl Q hQ => ?_)
  have hl : lv_has ls 4 [(0, .ref (v9 2)), (1, .int n1), (2, .int 0), (3, .int 16)] := hl
  refine lv_iload_n hx hb dJ1_indexOf_4cfef_0 rfl (lv_at hl 1 rfl) ?_
  refine vz_Si3 (As := [.int n1]) (rest := []) hx hb hml hown hts hK hA hP hD hS (a_J_canEncode l D g H.size n1) ks_J1_88 ⟨Nat.le_of_ble_eq_true rfl, Nat.le_of_ble_eq_true rfl⟩  hl.1 (Nat.le_of_ble_eq_true rfl) dJ1_indexOf_4cfef_1 ⟨Nat.le_refl _, Nat.le_refl _⟩ rfl (fun v1 _ H locs hz2 _ hP hD hS => ?_)
  refine lv_if_ne (tgt := 9) hx hb dJ1_indexOf_4cfef_4 (by decide) (fun kc3 => ?_) (fun kc3 => ?_)
  · refine lv_iload_n hx hb dJ1_indexOf_4cfef_9 rfl (lv_at hl 2 rfl) ?_
    refine lv_iconst (v := 0) hx hb dJ1_indexOf_4cfef_10 (by decide) ?_
    refine va_mmax hx hb (hml.trans hl.1.symm) hown (hts _ q355) (hts _ q65) (hts _ q66) (hts _ q67) (Nat.le_of_ble_eq_true rfl) (Nat.le_of_ble_eq_true rfl) (Nat.le_of_ble_eq_true rfl) (Nat.le_of_ble_eq_true rfl) dJ1_indexOf_4cfef_11 ?_
    refine lv_topi (nm_r (e' := 0) (by decide) ?_)
    refine lv_istore_n (lv' := [(2, .int 0), (0, .ref (v9 2)), (1, .int n1), (3, .int 16)]) hx hb dJ1_indexOf_4cfef_14 rfl hl (by decide) rfl (fun ls hl => ?_)
    refine lv_iload_n hx hb dJ1_indexOf_4cfef_15 rfl (lv_at hl 3 rfl) ?_
    refine lv_aload_n hx hb dJ1_indexOf_4cfef_16 rfl (lv_at hl 1 rfl) ?_
    refine va_tlen (v := 16) hx hb (hz.1.1 2 (by decide)).2.2.2 hS (by decide) dJ1_indexOf_4cfef_17 ?_
    refine va_mmin hx hb (hml.trans hl.1.symm) hown (hts _ q356) (hts _ q146) (hts _ q66) (hts _ q147) (Nat.le_of_ble_eq_true rfl) (Nat.le_of_ble_eq_true rfl) (Nat.le_of_ble_eq_true rfl) (Nat.le_of_ble_eq_true rfl) dJ1_indexOf_4cfef_18 ?_
    refine lv_topi (nm_r (e' := 16) (by decide) ?_)
    refine lv_istore_n (lv' := [(3, .int 16), (2, .int 0), (0, .ref (v9 2)), (1, .int n1)]) hx hb dJ1_indexOf_4cfef_21 rfl hl (by decide) rfl (fun ls hl => ?_)
    refine lv_iload_n hx hb dJ1_indexOf_4cfef_22 rfl (lv_at hl 1 rfl) ?_
    refine lv_iload_n hx hb dJ1_indexOf_4cfef_23 rfl (lv_at hl 0 rfl) ?_
    refine lv_icmp_lt (tgt := 29) hx hb dJ1_indexOf_4cfef_24 (by decide) (fun _ => ?_) (fun h9 => absurd (by decide) h9)
    refine lv_aload_n hx hb dJ1_indexOf_4cfef_29 rfl (lv_at hl 2 rfl) ?_
    refine lv_iload_n hx hb dJ1_indexOf_4cfef_30 rfl (lv_at hl 3 rfl) ?_
    refine lv_iload_n hx hb dJ1_indexOf_4cfef_31 rfl (lv_at hl 1 rfl) ?_
    refine lv_iload_n hx hb dJ1_indexOf_4cfef_32 rfl (lv_at hl 0 rfl) ?_
    refine vy_Si4 (n9 := 0) (bs2 := fun u : Unit => []) (br := []) (As := [.ref (v9 2), .int n1, .int 0, .int 16]) (rest := []) hx hb hml hown hts hK hA hP hD hS hz (a_J_ixc2 l D g k9 v9 fo H.size n1) kt_J1_95 ⟨Nat.le_of_ble_eq_true rfl, Nat.le_of_ble_eq_true rfl⟩ [] [] rfl (by decide) rfl (fun _ => rfl) (fun _ => rfl) hl.1 (Nat.le_of_ble_eq_true rfl) dJ1_indexOf_4cfef_33 ⟨Nat.le_refl _, Nat.le_refl _⟩ rfl (fun v4 _ H locs _ _ hP hD hS => ?_)
    rw [hQ]
    exact vz_iret3 hx hb hr hlk hK hP hD hS () trivial rfl (Nat.le_refl 0) (Nat.le_refl 0) dJ1_indexOf_4cfef_36
  · refine lv_iconst (v := (-1)) hx hb dJ1_indexOf_4cfef_7 (by decide) ?_
    rw [hQ]
    exact vz_iret3 hx hb hr hlk hK hP hD hS () trivial rfl (Nat.le_refl 0) (Nat.le_refl 0) dJ1_indexOf_4cfef_8
set_option maxHeartbeats 8000000 in
set_option maxRecDepth 100000 in
theorem a_J_ixa2 (l : Launch) (D : va_G) (g : Nat → ClassId) (k9 v9 : Nat → Nat) (fo : Nat)   (sz : Nat) (n1 : Int32) : vy_Mi l D (tyG g) yJ0_indexOf_7cf53 cJ0_indexOf_7cf53 3 2 48 0 0 .int [.ref (k9 2), .int n1, .int 0] sz (vz_w []) k9 v9 fo (fun r (u : Unit) => True) (fun u => vz_w []) := by
  refine vy_siQ (by decide) (Nat.le_of_ble_eq_true rfl) (fun p e s m args below meth c hx hb hr hml hts hown hlk hin hK hsz A hA hz H locs hP hD hS ls hl Q hQ => ?_)
  have hl : lv_has ls 3 [(0, .ref (k9 2)), (1, .int n1), (2, .int 0)] := hl
  have J36 : ∀ (y0_36 : Int32), ∀ (H : Heap) (locs : List Loc) (ls : Array Slot), va_P D vwCl (vz_w []) H → va_D A (vz_w []) → va_S A s.heap H locs → lv_has ls 3 [(0, .ref (k9 2)), (1, .int n1), (2, .int 0)] → W p l e { frames := 2, cells := 0, slots := 0, locals := 48 } s m args below meth c H locs 0 0 Q (F0 m 36 ls [.int y0_36]) := by
    intro y0_36 H locs ls hP hD hS hl
    rw [hQ]
    exact vz_iret3 hx hb hr hlk hK hP hD hS () trivial rfl (Nat.le_refl 0) (Nat.le_refl 0) dJ0_indexOf_7cf53_36
  refine lv_aload_n hx hb dJ0_indexOf_7cf53_0 rfl (lv_at hl 0 rfl) ?_
  refine vy_Vs (i9 := 2) (As := []) (rest := []) hx hb hml hown hts hK hA hP hD hS hz (by decide) (a_J_isLatin2 l D g k9 v9 fo H.size) kv_J0_492 ⟨Nat.le_of_ble_eq_true rfl, Nat.le_of_ble_eq_true rfl⟩ rfl hl.1 (Nat.le_of_ble_eq_true rfl) dJ0_indexOf_7cf53_1 ⟨Nat.le_refl _, Nat.le_refl _⟩ rfl (fun v1 _ H locs hp2 _ hP hD hS => ?_)
  try dsimp only at hp2
  subst hp2
  refine lv_if_eq (tgt := 23) hx hb dJ0_indexOf_7cf53_4 (by decide) (fun h9 => absurd h9 (by decide)) (fun _ => ?_)
  refine lv_aload_n hx hb dJ0_indexOf_7cf53_7 rfl (lv_at hl 0 rfl) ?_
  refine vk_getf (o := "java/lang/String") hx hb (hz.1.1 2 (by decide)).2.2.1 hS hown (hts _ q336) (fun _ h => h) dJ0_indexOf_7cf53_8 ?_
  refine lv_iload_n hx hb dJ0_indexOf_7cf53_11 rfl (lv_at hl 1 rfl) ?_
  refine lv_iload_n hx hb dJ0_indexOf_7cf53_12 rfl (lv_at hl 2 rfl) ?_
  refine lv_aload_n hx hb dJ0_indexOf_7cf53_13 rfl (lv_at hl 0 rfl) ?_
  refine vy_Vs (i9 := 2) (As := []) (rest := [.int 0, .int n1, .ref (v9 2)]) hx hb hml hown hts hK hA hP hD hS hz (by decide) (a_J_length2 l D g k9 v9 fo H.size) kv_J0_505 ⟨Nat.le_of_ble_eq_true rfl, Nat.le_of_ble_eq_true rfl⟩ rfl hl.1 (Nat.le_of_ble_eq_true rfl) dJ0_indexOf_7cf53_14 ⟨Nat.le_refl _, Nat.le_refl _⟩ rfl (fun v3 _ H locs hp4 _ hP hD hS => ?_)
  try dsimp only at hp4
  subst hp4
  refine vy_Si4 (n9 := 0) (bs2 := fun u : Unit => []) (br := []) (As := [.ref (v9 2), .int n1, .int 0, .int 16]) (rest := []) hx hb hml hown hts hK hA hP hD hS hz (a_J_ixb2 l D g k9 v9 fo H.size n1) kt_J0_637 ⟨Nat.le_of_ble_eq_true rfl, Nat.le_of_ble_eq_true rfl⟩ [] [] rfl (by decide) rfl (fun _ => rfl) (fun _ => rfl) hl.1 (Nat.le_of_ble_eq_true rfl) dJ0_indexOf_7cf53_17 ⟨Nat.le_refl _, Nat.le_refl _⟩ rfl (fun v5 _ H locs _ _ hP hD hS => ?_)
  refine lv_goto (tgt := 36) hx hb dJ0_indexOf_7cf53_20 (by decide) ?_
  exact J36 v5 H locs ls hP hD hS (lv_sub hl [0, 1, 2] rfl)
set_option maxHeartbeats 8000000 in
set_option maxRecDepth 100000 in
theorem a_J_ix2 (l : Launch) (D : va_G) (g : Nat → ClassId) (k9 v9 : Nat → Nat) (fo : Nat)   (sz : Nat) (n1 : Int32) : vy_Mi l D (tyG g) yJ0_indexOf_0f7a4 cJ0_indexOf_0f7a4 2 3 70 0 0 .int [.ref (k9 2), .int n1] sz (vz_w []) k9 v9 fo (fun r (u : Unit) => True) (fun u => vz_w []) := by
  refine vy_siQ (by decide) (Nat.le_of_ble_eq_true rfl) (fun p e s m args below meth c hx hb hr hml hts hown hlk hin hK hsz A hA hz H locs hP hD hS ls hl Q hQ => ?_)
  have hl : lv_has ls 2 [(0, .ref (k9 2)), (1, .int n1)] := hl
  refine lv_aload_n hx hb dJ0_indexOf_0f7a4_0 rfl (lv_at hl 0 rfl) ?_
  refine lv_iload_n hx hb dJ0_indexOf_0f7a4_1 rfl (lv_at hl 1 rfl) ?_
  refine lv_iconst (v := 0) hx hb dJ0_indexOf_0f7a4_2 (by decide) ?_
  refine vy_Vs (i9 := 2) (As := [.int n1, .int 0]) (rest := []) hx hb hml hown hts hK hA hP hD hS hz (by decide) (a_J_ixa2 l D g k9 v9 fo H.size n1) kv_J0_633 ⟨Nat.le_of_ble_eq_true rfl, Nat.le_of_ble_eq_true rfl⟩ rfl hl.1 (Nat.le_of_ble_eq_true rfl) dJ0_indexOf_0f7a4_3 ⟨Nat.le_refl _, Nat.le_refl _⟩ rfl (fun v1 _ H locs _ _ hP hD hS => ?_)
  rw [hQ]
  exact vz_iret3 hx hb hr hlk hK hP hD hS () trivial rfl (Nat.le_refl 0) (Nat.le_refl 0) dJ0_indexOf_0f7a4_6
theorem q414 : Cond.methodLink RX5 85 yJ0_length_8abf5 ∈ wsL_law := mT_3 (List.mem_of_getElem? (i := 95) rfl) rfl
theorem kv_X5_85 : vz_cv RX5 85 yJ0_length_8abf5 cJ0_length_8abf5 1 (some .int) 0 := ⟨q414, q344, q345, q330, q346, by decide +kernel⟩
theorem q415 : Cond.methodLink RX5 88 yJ0_charAt_5068e ∈ wsL_law := mT_3 (List.mem_of_getElem? (i := 96) rfl) rfl
theorem q416 : Cond.instanceMethod yJ0_charAt_5068e ∈ wsL_law := mT_3 (List.mem_of_getElem? (i := 97) rfl) rfl
theorem q417 : Cond.selects RJ0 yJ0_charAt_5068e yJ0_charAt_5068e ∈ wsL_law := mT_3 (List.mem_of_getElem? (i := 98) rfl) rfl
theorem q418 : Cond.code yJ0_charAt_5068e cJ0_charAt_5068e 2 (some .char) ∈ wsL_law := mT_3 (List.mem_of_getElem? (i := 99) rfl) rfl
theorem kv_X5_88 : vz_cv RX5 88 yJ0_charAt_5068e cJ0_charAt_5068e 2 (some .char) 1 := ⟨q415, q416, q417, q330, q418, by decide +kernel⟩
theorem dX5_spells_0 : decode cX5_spells 0 = .ok (.iload_n 2, 1) := by decide +kernel
theorem dX5_spells_1 : decode cX5_spells 1 = .ok (.istore 4, 2) := by decide +kernel
theorem dX5_spells_3 : decode cX5_spells 3 = .ok (.iload 4, 2) := by decide +kernel
theorem dX5_spells_5 : decode cX5_spells 5 = .ok (.iload_n 3, 1) := by decide +kernel
theorem dX5_spells_6 : decode cX5_spells 6 = .ok (.if_icmp .ge 47, 3) := by decide +kernel
theorem dX5_spells_9 : decode cX5_spells 9 = .ok (.iload 4, 2) := by decide +kernel
theorem dX5_spells_11 : decode cX5_spells 11 = .ok (.ifCond .lt 42, 3) := by decide +kernel
theorem dX5_spells_14 : decode cX5_spells 14 = .ok (.iload 4, 2) := by decide +kernel
theorem dX5_spells_16 : decode cX5_spells 16 = .ok (.ldc 83, 2) := by decide +kernel
theorem dX5_spells_18 : decode cX5_spells 18 = .ok (.invokevirtual 85, 3) := by decide +kernel
theorem dX5_spells_21 : decode cX5_spells 21 = .ok (.if_icmp .ge 32, 3) := by decide +kernel
theorem dX5_spells_24 : decode cX5_spells 24 = .ok (.ldc 83, 2) := by decide +kernel
theorem dX5_spells_26 : decode cX5_spells 26 = .ok (.iload 4, 2) := by decide +kernel
theorem dX5_spells_28 : decode cX5_spells 28 = .ok (.invokevirtual 88, 3) := by decide +kernel
theorem dX5_spells_31 : decode cX5_spells 31 = .ok (.aload_n 0, 1) := by decide +kernel
theorem dX5_spells_32 : decode cX5_spells 32 = .ok (.iload_n 1, 1) := by decide +kernel
theorem dX5_spells_33 : decode cX5_spells 33 = .ok (.iload 4, 2) := by decide +kernel
theorem dX5_spells_35 : decode cX5_spells 35 = .ok (.iadd, 1) := by decide +kernel
theorem dX5_spells_36 : decode cX5_spells 36 = .ok (.iload_n 2, 1) := by decide +kernel
theorem dX5_spells_37 : decode cX5_spells 37 = .ok (.isub, 1) := by decide +kernel
theorem dX5_spells_38 : decode cX5_spells 38 = .ok (.iconst 0, 1) := by decide +kernel
theorem dX5_spells_39 : decode cX5_spells 39 = .ok (.invokevirtual 30, 3) := by decide +kernel
theorem dX5_spells_42 : decode cX5_spells 42 = .ok (.if_icmp .eq 5, 3) := by decide +kernel
theorem dX5_spells_45 : decode cX5_spells 45 = .ok (.iconst 0, 1) := by decide +kernel
theorem dX5_spells_46 : decode cX5_spells 46 = .ok (.ireturn, 1) := by decide +kernel
theorem dX5_spells_47 : decode cX5_spells 47 = .ok (.iinc 4 1, 3) := by decide +kernel
theorem dX5_spells_50 : decode cX5_spells 50 = .ok (.goto (-47), 3) := by decide +kernel
theorem dX5_spells_53 : decode cX5_spells 53 = .ok (.iconst 1, 1) := by decide +kernel
theorem dX5_spells_54 : decode cX5_spells 54 = .ok (.ireturn, 1) := by decide +kernel
set_option maxHeartbeats 8000000 in
set_option maxRecDepth 100000 in
theorem a_S_spells (l : Launch) (D : va_G) (g : Nat → ClassId) (k9 v9 : Nat → Nat) (fo : Nat)   (sz : Nat) (xa : Nat → Nat) (xr : Nat → Nat) (xf : Nat → Nat → Int32) (n1 : Int32) (n2 : Int32) (n3 : Int32) (hw_x : ∀ k, xr k ≤ txW_lim k) : vy_Mi l D (tyG g) yX5_spells cX5_spells 5 4 85 0 0 .boolean [.ref (xa 0), .int n1, .int n2, .int n3] sz (vz_w [txW g xa xr xf]) k9 v9 fo (fun r (u : Unit) => (r = 0 ∨ r = 1)) (fun u => vz_w [txW g xa xr xf]) := by
  refine vy_siQ (by decide) (Nat.le_of_ble_eq_true rfl) (fun p e s m args below meth c hx hb hr hml hts hown hlk hin hK hsz A hA hz H locs hP hD hS ls hl Q hQ => ?_)
  have hl : lv_has ls 5 [(0, .ref (xa 0)), (1, .int n1), (2, .int n2), (3, .int n3)] := hl
  have J53 : ∀ (x4_53 : Int32), ∀ (H : Heap) (locs : List Loc) (ls : Array Slot), va_P D vwCl (vz_w [txW g xa xr xf]) H → va_D A (vz_w [txW g xa xr xf]) → va_S A s.heap H locs → lv_has ls 5 [(0, .ref (xa 0)), (1, .int n1), (2, .int n2), (3, .int n3), (4, .int x4_53)] → W p l e { frames := 4, cells := 0, slots := 0, locals := 85 } s m args below meth c H locs 0 0 Q (F0 m 53 ls []) := by
    intro x4_53 H locs ls hP hD hS hl
    refine lv_iconst (v := 1) hx hb dX5_spells_53 (by decide) ?_
    rw [hQ]
    exact vz_zret3 hx hb hr hlk hK hP hD hS () (Or.inr rfl) rfl (Nat.le_refl 0) (Nat.le_refl 0) (by decide) dX5_spells_54
  have J3 : ∀ fu3 : Nat, ∀ (x4_3 : Int32), (n3.toInt - x4_3.toInt).toNat < fu3 → ∀ (H : Heap) (locs : List Loc) (ls : Array Slot), va_P D vwCl (vz_w [txW g xa xr xf]) H → va_D A (vz_w [txW g xa xr xf]) → va_S A s.heap H locs → lv_has ls 5 [(0, .ref (xa 0)), (1, .int n1), (2, .int n2), (3, .int n3), (4, .int x4_3)] → W p l e { frames := 4, cells := 0, slots := 0, locals := 85 } s m args below meth c H locs 0 0 Q (F0 m 3 ls []) := by
    intro fu3
    induction fu3 with
    | zero => intro x4_3 hf3 H locs ls hP hD hS hl; exact absurd hf3 (Nat.not_lt_zero _)
    | succ fu3 ih3 =>
      intro x4_3 hf3 H locs ls hP hD hS hl
      refine lv_iload hx hb dX5_spells_3 (lv_at hl 4 rfl) ?_
      refine lv_iload_n hx hb dX5_spells_5 rfl (lv_at hl 3 rfl) ?_
      refine lv_icmp_ge (tgt := 53) hx hb dX5_spells_6 (by decide) (fun kc1 => ?_) (fun kc1 => ?_)
      · exact J53 x4_3 H locs ls hP hD hS (lv_sub hl [0, 1, 2, 3, 4] rfl)
      · have hn3 : (n3.toInt - (x4_3 + 1).toInt).toNat < fu3 := by have hq := vz_up kc1; omega
        refine lv_iload hx hb dX5_spells_9 (lv_at hl 4 rfl) ?_
        refine lv_if_lt (tgt := 53) hx hb dX5_spells_11 (by decide) (fun kc2 => ?_) (fun kc2 => ?_)
        · exact J53 x4_3 H locs ls hP hD hS (lv_sub hl [0, 1, 2, 3, 4] rfl)
        · refine lv_iload hx hb dX5_spells_14 (lv_at hl 4 rfl) ?_
          refine va_ldcS hx hb hown (hz.2.2.1 1 (by decide)) dX5_spells_16 ?_
          refine vy_Vs (i9 := 1) (As := []) (rest := [.int x4_3]) hx hb hml hown hts hK hA hP hD hS hz (by decide) (a_J_length1 l D g k9 v9 fo H.size) kv_X5_85 ⟨Nat.le_of_ble_eq_true rfl, Nat.le_of_ble_eq_true rfl⟩ rfl hl.1 (Nat.le_of_ble_eq_true rfl) dX5_spells_18 ⟨Nat.le_refl _, Nat.le_refl _⟩ rfl (fun v3 _ H locs hp4 _ hP hD hS => ?_)
          try dsimp only at hp4
          subst hp4
          refine lv_icmp_ge (tgt := 53) hx hb dX5_spells_21 (by decide) (fun kc5 => ?_) (fun kc5 => ?_)
          · exact J53 x4_3 H locs ls hP hD hS (lv_sub hl [0, 1, 2, 3, 4] rfl)
          · refine va_ldcS hx hb hown (hz.2.2.1 1 (by decide)) dX5_spells_24 ?_
            refine lv_iload hx hb dX5_spells_26 (lv_at hl 4 rfl) ?_
            refine vy_Vs (i9 := 1) (As := [.int x4_3]) (rest := []) hx hb hml hown hts hK hA hP hD hS hz (by decide) (a_J_charAt l D g k9 v9 fo H.size x4_3 (kc2) (kc5)) kv_X5_88 ⟨Nat.le_of_ble_eq_true rfl, Nat.le_of_ble_eq_true rfl⟩ rfl hl.1 (Nat.le_of_ble_eq_true rfl) dX5_spells_28 ⟨Nat.le_refl _, Nat.le_refl _⟩ rfl (fun v6 _ H locs hp7 _ hP hD hS => ?_)
            refine lv_aload_n hx hb dX5_spells_31 rfl (lv_at hl 0 rfl) ?_
            refine lv_iload_n hx hb dX5_spells_32 rfl (lv_at hl 1 rfl) ?_
            refine lv_iload hx hb dX5_spells_33 (lv_at hl 4 rfl) ?_
            refine lv_iadd hx hb dX5_spells_35 ?_
            refine lv_iload_n hx hb dX5_spells_36 rfl (lv_at hl 2 rfl) ?_
            refine lv_isub hx hb dX5_spells_37 ?_
            refine lv_iconst (v := 0) hx hb dX5_spells_38 (by decide) ?_
            refine vz_Vi3 (As := [.int ((n1 + x4_3) - n2), .int 0]) (rest := [.int v6]) hx hb hml hown hts hK hA hP hD hS (c_T_get l D g (xa 0) (xa 1) H.size 1 1000 (xr 0) 1000 (xf 0) ((n1 + x4_3) - n2) 0 ⟨rfl, by decide, by decide, by decide, by decide, hw_x 0⟩) kv_X5_30 ⟨Nat.le_of_ble_eq_true rfl, Nat.le_of_ble_eq_true rfl⟩ (q0 := 0) (ci := 6) rfl rfl rfl  hl.1 (Nat.le_of_ble_eq_true rfl) dX5_spells_39 ⟨Nat.le_refl _, Nat.le_refl _⟩ rfl (fun v8 _ H locs he9 _ hP hD hS => ?_)
            replace hP : va_P D vwCl (vz_w [txW g xa xr xf]) H := hP
            replace hD : va_D A (vz_w [txW g xa xr xf]) := hD
            refine lv_icmp_eq (tgt := 47) hx hb dX5_spells_42 (by decide) (fun kc10 => ?_) (fun kc10 => ?_)
            · refine lv_iinc (v := (x4_3 + 1)) (lv' := [(4, .int (x4_3 + 1)), (0, .ref (xa 0)), (1, .int n1), (2, .int n2), (3, .int n3)]) hx hb dX5_spells_47 hl (k := 4) rfl (rfl) (by decide) rfl (fun ls hl => ?_)
              refine lv_goto (tgt := 3) hx hb dX5_spells_50 (by decide) ?_
              exact ih3 (x4_3 + 1) hn3 H locs ls hP hD hS (lv_sub hl [1, 2, 3, 4, 0] rfl)
            · refine lv_iconst (v := 0) hx hb dX5_spells_45 (by decide) ?_
              rw [hQ]
              exact vz_zret3 hx hb hr hlk hK hP hD hS () (Or.inl rfl) rfl (Nat.le_refl 0) (Nat.le_refl 0) (by decide) dX5_spells_46
  refine lv_iload_n hx hb dX5_spells_0 rfl (lv_at hl 2 rfl) ?_
  refine lv_istore (lv' := [(4, .int n2), (0, .ref (xa 0)), (1, .int n1), (2, .int n2), (3, .int n3)]) hx hb dX5_spells_1 hl (by decide) rfl (fun ls hl => ?_)
  exact J3 (2 ^ 34) n2 (vz_mb _ _) H locs ls hP hD hS (lv_sub hl [1, 2, 3, 4, 0] rfl)
theorem q435 : Cond.methodLink RX5 92 yX5_spells ∈ wsL_law := mT_3 (List.mem_of_getElem? (i := 116) rfl) rfl
theorem q436 : Cond.static yX5_spells ∈ wsL_law := mT_3 (List.mem_of_getElem? (i := 117) rfl) rfl
theorem q437 : Cond.code yX5_spells cX5_spells 5 (some .boolean) ∈ wsL_law := mT_3 (List.mem_of_getElem? (i := 118) rfl) rfl
theorem kt_X5_92 : vy_cs RX5 92 yX5_spells cX5_spells 5 (some .boolean) 4 := ⟨q435, q436, q19, q437, by decide +kernel⟩
theorem ks_X5_92 : vz_cs RX5 92 yX5_spells cX5_spells 5 (some .boolean) 4 := ⟨q435, q436, q19, q437, by decide +kernel⟩
theorem dX5_wordNumber_0 : decode cX5_wordNumber 0 = .ok (.iconst 0, 1) := by decide +kernel
theorem dX5_wordNumber_1 : decode cX5_wordNumber 1 = .ok (.istore_n 3, 1) := by decide +kernel
theorem dX5_wordNumber_2 : decode cX5_wordNumber 2 = .ok (.iconst 0, 1) := by decide +kernel
theorem dX5_wordNumber_3 : decode cX5_wordNumber 3 = .ok (.istore 4, 2) := by decide +kernel
theorem dX5_wordNumber_5 : decode cX5_wordNumber 5 = .ok (.iconst 0, 1) := by decide +kernel
theorem dX5_wordNumber_6 : decode cX5_wordNumber 6 = .ok (.istore 5, 2) := by decide +kernel
theorem dX5_wordNumber_8 : decode cX5_wordNumber 8 = .ok (.iload 5, 2) := by decide +kernel
theorem dX5_wordNumber_10 : decode cX5_wordNumber 10 = .ok (.ldc 83, 2) := by decide +kernel
theorem dX5_wordNumber_12 : decode cX5_wordNumber 12 = .ok (.invokevirtual 85, 3) := by decide +kernel
theorem dX5_wordNumber_15 : decode cX5_wordNumber 15 = .ok (.if_icmp .ge 55, 3) := by decide +kernel
theorem dX5_wordNumber_18 : decode cX5_wordNumber 18 = .ok (.ldc 83, 2) := by decide +kernel
theorem dX5_wordNumber_20 : decode cX5_wordNumber 20 = .ok (.iload 5, 2) := by decide +kernel
theorem dX5_wordNumber_22 : decode cX5_wordNumber 22 = .ok (.invokevirtual 88, 3) := by decide +kernel
theorem dX5_wordNumber_25 : decode cX5_wordNumber 25 = .ok (.bipush 32, 2) := by decide +kernel
theorem dX5_wordNumber_27 : decode cX5_wordNumber 27 = .ok (.if_icmp .ne 37, 3) := by decide +kernel
theorem dX5_wordNumber_30 : decode cX5_wordNumber 30 = .ok (.iload 5, 2) := by decide +kernel
theorem dX5_wordNumber_32 : decode cX5_wordNumber 32 = .ok (.iload 4, 2) := by decide +kernel
theorem dX5_wordNumber_34 : decode cX5_wordNumber 34 = .ok (.isub, 1) := by decide +kernel
theorem dX5_wordNumber_35 : decode cX5_wordNumber 35 = .ok (.iload_n 2, 1) := by decide +kernel
theorem dX5_wordNumber_36 : decode cX5_wordNumber 36 = .ok (.iload_n 1, 1) := by decide +kernel
theorem dX5_wordNumber_37 : decode cX5_wordNumber 37 = .ok (.isub, 1) := by decide +kernel
theorem dX5_wordNumber_38 : decode cX5_wordNumber 38 = .ok (.if_icmp .ne 17, 3) := by decide +kernel
theorem dX5_wordNumber_41 : decode cX5_wordNumber 41 = .ok (.aload_n 0, 1) := by decide +kernel
theorem dX5_wordNumber_42 : decode cX5_wordNumber 42 = .ok (.iload_n 1, 1) := by decide +kernel
theorem dX5_wordNumber_43 : decode cX5_wordNumber 43 = .ok (.iload 4, 2) := by decide +kernel
theorem dX5_wordNumber_45 : decode cX5_wordNumber 45 = .ok (.iload 5, 2) := by decide +kernel
theorem dX5_wordNumber_47 : decode cX5_wordNumber 47 = .ok (.invokestatic 92, 3) := by decide +kernel
theorem dX5_wordNumber_50 : decode cX5_wordNumber 50 = .ok (.ifCond .eq 5, 3) := by decide +kernel
theorem dX5_wordNumber_53 : decode cX5_wordNumber 53 = .ok (.iload_n 3, 1) := by decide +kernel
theorem dX5_wordNumber_54 : decode cX5_wordNumber 54 = .ok (.ireturn, 1) := by decide +kernel
theorem dX5_wordNumber_55 : decode cX5_wordNumber 55 = .ok (.iinc 3 1, 3) := by decide +kernel
theorem dX5_wordNumber_58 : decode cX5_wordNumber 58 = .ok (.iload 5, 2) := by decide +kernel
theorem dX5_wordNumber_60 : decode cX5_wordNumber 60 = .ok (.iconst 1, 1) := by decide +kernel
theorem dX5_wordNumber_61 : decode cX5_wordNumber 61 = .ok (.iadd, 1) := by decide +kernel
theorem dX5_wordNumber_62 : decode cX5_wordNumber 62 = .ok (.istore 4, 2) := by decide +kernel
theorem dX5_wordNumber_64 : decode cX5_wordNumber 64 = .ok (.iinc 5 1, 3) := by decide +kernel
theorem dX5_wordNumber_67 : decode cX5_wordNumber 67 = .ok (.goto (-59), 3) := by decide +kernel
theorem dX5_wordNumber_70 : decode cX5_wordNumber 70 = .ok (.bipush (-9), 2) := by decide +kernel
theorem dX5_wordNumber_72 : decode cX5_wordNumber 72 = .ok (.ireturn, 1) := by decide +kernel
set_option maxHeartbeats 8000000 in
set_option maxRecDepth 100000 in
theorem a_S_wordNumber (l : Launch) (D : va_G) (g : Nat → ClassId) (k9 v9 : Nat → Nat) (fo : Nat)   (sz : Nat) (xa : Nat → Nat) (xr : Nat → Nat) (xf : Nat → Nat → Int32) (n1 : Int32) (n2 : Int32) (hw_x : ∀ k, xr k ≤ txW_lim k) : vy_Mi l D (tyG g) yX5_wordNumber cX5_wordNumber 6 5 109 0 0 .int [.ref (xa 0), .int n1, .int n2] sz (vz_w [txW g xa xr xf]) k9 v9 fo (fun r (u : Unit) => True) (fun u => vz_w [txW g xa xr xf]) := by
  refine vy_siQ (by decide) (Nat.le_of_ble_eq_true rfl) (fun p e s m args below meth c hx hb hr hml hts hown hlk hin hK hsz A hA hz H locs hP hD hS ls hl Q hQ => ?_)
  have hl : lv_has ls 6 [(0, .ref (xa 0)), (1, .int n1), (2, .int n2)] := hl
  have J8 : ∀ (fu8 n8 : Nat), 115 - n8 < fu8 → n8 ≤ 115 → ∀ (x3_8 : Int32), ∀ (x4_8 : Int32), ∀ (H : Heap) (locs : List Loc) (ls : Array Slot), va_P D vwCl (vz_w [txW g xa xr xf]) H → va_D A (vz_w [txW g xa xr xf]) → va_S A s.heap H locs → lv_has ls 6 [(0, .ref (xa 0)), (1, .int n1), (2, .int n2), (3, .int x3_8), (4, .int x4_8), (5, .int (nI n8))] → W p l e { frames := 5, cells := 0, slots := 0, locals := 109 } s m args below meth c H locs 0 0 Q (F0 m 8 ls []) := by
    intro fu8
    induction fu8 with
    | zero => intro n8 z; omega
    | succ fu8 ih8 =>
      intro n8 hf8 hb8 x3_8 x4_8 H locs ls hP hD hS hl
      have J64 : n8 < 115 → ∀ (x3_64 : Int32), ∀ (x4_64 : Int32), ∀ (H : Heap) (locs : List Loc) (ls : Array Slot), va_P D vwCl (vz_w [txW g xa xr xf]) H → va_D A (vz_w [txW g xa xr xf]) → va_S A s.heap H locs → lv_has ls 6 [(0, .ref (xa 0)), (1, .int n1), (2, .int n2), (3, .int x3_64), (4, .int x4_64), (5, .int (nI n8))] → W p l e { frames := 5, cells := 0, slots := 0, locals := 109 } s m args below meth c H locs 0 0 Q (F0 m 64 ls []) := by
        intro hn8 x3_64 x4_64 H locs ls hP hD hS hl
        refine lv_iinc (v := (nI (n8 + 1))) (lv' := [(5, .int (nI (n8 + 1))), (0, .ref (xa 0)), (1, .int n1), (2, .int n2), (3, .int x3_64), (4, .int x4_64)]) hx hb dX5_wordNumber_64 hl (k := 5) rfl (nI_1 n8) (by decide) rfl (fun ls hl => ?_)
        refine lv_goto (tgt := 8) hx hb dX5_wordNumber_67 (by decide) ?_
        exact ih8 (n8 + 1) (by omega) (by omega) x3_64 x4_64 H locs ls hP hD hS (lv_sub hl [1, 2, 3, 4, 5, 0] rfl)
      have J55 : n8 < 115 → ∀ (x3_55 : Int32), ∀ (x4_55 : Int32), ∀ (H : Heap) (locs : List Loc) (ls : Array Slot), va_P D vwCl (vz_w [txW g xa xr xf]) H → va_D A (vz_w [txW g xa xr xf]) → va_S A s.heap H locs → lv_has ls 6 [(0, .ref (xa 0)), (1, .int n1), (2, .int n2), (3, .int x3_55), (4, .int x4_55), (5, .int (nI n8))] → W p l e { frames := 5, cells := 0, slots := 0, locals := 109 } s m args below meth c H locs 0 0 Q (F0 m 55 ls []) := by
        intro hn8 x3_55 x4_55 H locs ls hP hD hS hl
        refine lv_iinc (v := (x3_55 + 1)) (lv' := [(3, .int (x3_55 + 1)), (0, .ref (xa 0)), (1, .int n1), (2, .int n2), (4, .int x4_55), (5, .int (nI n8))]) hx hb dX5_wordNumber_55 hl (k := 3) rfl (rfl) (by decide) rfl (fun ls hl => ?_)
        refine lv_iload hx hb dX5_wordNumber_58 (lv_at hl 5 rfl) ?_
        refine lv_iconst (v := 1) hx hb dX5_wordNumber_60 (by decide) ?_
        refine lv_iadd hx hb dX5_wordNumber_61 ?_
        refine lv_topi (nm_r (e' := (nI (n8 + 1))) (nI_1 n8) ?_)
        refine lv_istore (lv' := [(4, .int (nI (n8 + 1))), (3, .int (x3_55 + 1)), (0, .ref (xa 0)), (1, .int n1), (2, .int n2), (5, .int (nI n8))]) hx hb dX5_wordNumber_62 hl (by decide) rfl (fun ls hl => ?_)
        exact J64 hn8 (x3_55 + 1) (nI (n8 + 1)) H locs ls hP hD hS (lv_sub hl [2, 3, 4, 1, 0, 5] rfl)
      refine lv_iload hx hb dX5_wordNumber_8 (lv_at hl 5 rfl) ?_
      refine va_ldcS hx hb hown (hz.2.2.1 1 (by decide)) dX5_wordNumber_10 ?_
      refine vy_Vs (i9 := 1) (As := []) (rest := [.int (nI n8)]) hx hb hml hown hts hK hA hP hD hS hz (by decide) (a_J_length1 l D g k9 v9 fo H.size) kv_X5_85 ⟨Nat.le_of_ble_eq_true rfl, Nat.le_of_ble_eq_true rfl⟩ rfl hl.1 (Nat.le_of_ble_eq_true rfl) dX5_wordNumber_12 ⟨Nat.le_refl _, Nat.le_refl _⟩ rfl (fun v1 _ H locs hp2 _ hP hD hS => ?_)
      try dsimp only at hp2
      subst hp2
      refine lv_icmp_ge (tgt := 70) hx hb dX5_wordNumber_15 (by decide) (fun kc3 => ?_) (fun kc3 => ?_)
      · refine lv_bipush (v := (-9)) hx hb dX5_wordNumber_70 (by decide) ?_
        rw [hQ]
        exact vz_iret3 hx hb hr hlk hK hP hD hS () trivial rfl (Nat.le_refl 0) (Nat.le_refl 0) dX5_wordNumber_72
      · have hn8 : n8 < 115 := vz_ltge (B := 115) (by omega) kc3
        refine va_ldcS hx hb hown (hz.2.2.1 1 (by decide)) dX5_wordNumber_18 ?_
        refine lv_iload hx hb dX5_wordNumber_20 (lv_at hl 5 rfl) ?_
        refine vy_Vs (i9 := 1) (As := [.int (nI n8)]) (rest := []) hx hb hml hown hts hK hA hP hD hS hz (by decide) (a_J_charAt l D g k9 v9 fo H.size (nI n8) (vz_nn (by omega)) (kc3)) kv_X5_88 ⟨Nat.le_of_ble_eq_true rfl, Nat.le_of_ble_eq_true rfl⟩ rfl hl.1 (Nat.le_of_ble_eq_true rfl) dX5_wordNumber_22 ⟨Nat.le_refl _, Nat.le_refl _⟩ rfl (fun v4 _ H locs hp5 _ hP hD hS => ?_)
        refine lv_bipush (v := 32) hx hb dX5_wordNumber_25 (by decide) ?_
        refine lv_icmp_ne (tgt := 64) hx hb dX5_wordNumber_27 (by decide) (fun kc6 => ?_) (fun kc6 => ?_)
        · exact J64 hn8 x3_8 x4_8 H locs ls hP hD hS (lv_sub hl [0, 1, 2, 3, 4, 5] rfl)
        · refine lv_iload hx hb dX5_wordNumber_30 (lv_at hl 5 rfl) ?_
          refine lv_iload hx hb dX5_wordNumber_32 (lv_at hl 4 rfl) ?_
          refine lv_isub hx hb dX5_wordNumber_34 ?_
          refine lv_iload_n hx hb dX5_wordNumber_35 rfl (lv_at hl 2 rfl) ?_
          refine lv_iload_n hx hb dX5_wordNumber_36 rfl (lv_at hl 1 rfl) ?_
          refine lv_isub hx hb dX5_wordNumber_37 ?_
          refine lv_icmp_ne (tgt := 55) hx hb dX5_wordNumber_38 (by decide) (fun kc7 => ?_) (fun kc7 => ?_)
          · exact J55 hn8 x3_8 x4_8 H locs ls hP hD hS (lv_sub hl [0, 1, 2, 3, 4, 5] rfl)
          · refine lv_aload_n hx hb dX5_wordNumber_41 rfl (lv_at hl 0 rfl) ?_
            refine lv_iload_n hx hb dX5_wordNumber_42 rfl (lv_at hl 1 rfl) ?_
            refine lv_iload hx hb dX5_wordNumber_43 (lv_at hl 4 rfl) ?_
            refine lv_iload hx hb dX5_wordNumber_45 (lv_at hl 5 rfl) ?_
            refine vy_Si4 (n9 := 1) (bs2 := fun u : Unit => [txW g xa xr xf]) (br := []) (As := [.ref (xa 0), .int n1, .int x4_8, .int (nI n8)]) (rest := []) hx hb hml hown hts hK hA hP hD hS hz (a_S_spells l D g k9 v9 fo H.size xa xr xf n1 x4_8 (nI n8) hw_x) kt_X5_92 ⟨Nat.le_of_ble_eq_true rfl, Nat.le_of_ble_eq_true rfl⟩ [0] [] rfl (by decide) rfl (fun _ => rfl) (fun _ => rfl) hl.1 (Nat.le_of_ble_eq_true rfl) dX5_wordNumber_47 ⟨Nat.le_refl _, Nat.le_refl _⟩ rfl (fun v8 _ H locs hz9 _ hP hD hS => ?_)
            refine lv_if_eq (tgt := 55) hx hb dX5_wordNumber_50 (by decide) (fun kc10 => ?_) (fun kc10 => ?_)
            · exact J55 hn8 x3_8 x4_8 H locs ls hP hD hS (lv_sub hl [0, 1, 2, 3, 4, 5] rfl)
            · refine lv_iload_n hx hb dX5_wordNumber_53 rfl (lv_at hl 3 rfl) ?_
              rw [hQ]
              exact vz_iret3 hx hb hr hlk hK hP hD hS () trivial rfl (Nat.le_refl 0) (Nat.le_refl 0) dX5_wordNumber_54
  refine lv_iconst (v := 0) hx hb dX5_wordNumber_0 (by decide) ?_
  refine lv_istore_n (lv' := [(3, .int 0), (0, .ref (xa 0)), (1, .int n1), (2, .int n2)]) hx hb dX5_wordNumber_1 rfl hl (by decide) rfl (fun ls hl => ?_)
  refine lv_iconst (v := 0) hx hb dX5_wordNumber_2 (by decide) ?_
  refine lv_istore (lv' := [(4, .int 0), (3, .int 0), (0, .ref (xa 0)), (1, .int n1), (2, .int n2)]) hx hb dX5_wordNumber_3 hl (by decide) rfl (fun ls hl => ?_)
  refine lv_iconst (v := 0) hx hb dX5_wordNumber_5 (by decide) ?_
  refine lv_istore (lv' := [(5, .int 0), (4, .int 0), (3, .int 0), (0, .ref (xa 0)), (1, .int n1), (2, .int n2)]) hx hb dX5_wordNumber_6 hl (by decide) rfl (fun ls hl => ?_)
  exact J8 (116) 0 (by omega) (by omega) 0 0 H locs ls hP hD hS (lv_sub hl [3, 4, 5, 2, 1, 0] rfl)
theorem q327 : Cond.methodLink RX5 50 yJ0_indexOf_0f7a4 ∈ wsL_law := mT_3 (List.mem_of_getElem? (i := 9) rfl) rfl
theorem q328 : Cond.instanceMethod yJ0_indexOf_0f7a4 ∈ wsL_law := mT_3 (List.mem_of_getElem? (i := 10) rfl) rfl
theorem q329 : Cond.selects RJ0 yJ0_indexOf_0f7a4 yJ0_indexOf_0f7a4 ∈ wsL_law := mT_3 (List.mem_of_getElem? (i := 11) rfl) rfl
theorem q331 : Cond.code yJ0_indexOf_0f7a4 cJ0_indexOf_0f7a4 2 (some .int) ∈ wsL_law := mT_3 (List.mem_of_getElem? (i := 12) rfl) rfl
theorem kv_X5_50 : vz_cv RX5 50 yJ0_indexOf_0f7a4 cJ0_indexOf_0f7a4 2 (some .int) 1 := ⟨q327, q328, q329, q330, q331, by decide +kernel⟩
theorem dX5_name_0 : decode cX5_name 0 = .ok (.ldc 81, 2) := by decide +kernel
theorem dX5_name_2 : decode cX5_name 2 = .ok (.aload_n 1, 1) := by decide +kernel
theorem dX5_name_3 : decode cX5_name 3 = .ok (.aload_n 0, 1) := by decide +kernel
theorem dX5_name_4 : decode cX5_name 4 = .ok (.getfield 20, 3) := by decide +kernel
theorem dX5_name_7 : decode cX5_name 7 = .ok (.iconst 0, 1) := by decide +kernel
theorem dX5_name_8 : decode cX5_name 8 = .ok (.invokevirtual 30, 3) := by decide +kernel
theorem dX5_name_11 : decode cX5_name 11 = .ok (.i2c, 1) := by decide +kernel
theorem dX5_name_12 : decode cX5_name 12 = .ok (.invokevirtual 50, 3) := by decide +kernel
theorem dX5_name_15 : decode cX5_name 15 = .ok (.istore_n 2, 1) := by decide +kernel
theorem dX5_name_16 : decode cX5_name 16 = .ok (.aload_n 1, 1) := by decide +kernel
theorem dX5_name_17 : decode cX5_name 17 = .ok (.aload_n 0, 1) := by decide +kernel
theorem dX5_name_18 : decode cX5_name 18 = .ok (.getfield 20, 3) := by decide +kernel
theorem dX5_name_21 : decode cX5_name 21 = .ok (.iconst 1, 1) := by decide +kernel
theorem dX5_name_22 : decode cX5_name 22 = .ok (.iadd, 1) := by decide +kernel
theorem dX5_name_23 : decode cX5_name 23 = .ok (.invokestatic 67, 3) := by decide +kernel
theorem dX5_name_26 : decode cX5_name 26 = .ok (.istore_n 3, 1) := by decide +kernel
theorem dX5_name_27 : decode cX5_name 27 = .ok (.iload_n 2, 1) := by decide +kernel
theorem dX5_name_28 : decode cX5_name 28 = .ok (.ifCond .lt 17, 3) := by decide +kernel
theorem dX5_name_31 : decode cX5_name 31 = .ok (.iload_n 3, 1) := by decide +kernel
theorem dX5_name_32 : decode cX5_name 32 = .ok (.aload_n 0, 1) := by decide +kernel
theorem dX5_name_33 : decode cX5_name 33 = .ok (.getfield 20, 3) := by decide +kernel
theorem dX5_name_36 : decode cX5_name 36 = .ok (.isub, 1) := by decide +kernel
theorem dX5_name_37 : decode cX5_name 37 = .ok (.iconst 3, 1) := by decide +kernel
theorem dX5_name_38 : decode cX5_name 38 = .ok (.if_icmp .gt 7, 3) := by decide +kernel
theorem dX5_name_41 : decode cX5_name 41 = .ok (.iconst 1, 1) := by decide +kernel
theorem dX5_name_42 : decode cX5_name 42 = .ok (.goto 4, 3) := by decide +kernel
theorem dX5_name_45 : decode cX5_name 45 = .ok (.iconst 0, 1) := by decide +kernel
theorem dX5_name_46 : decode cX5_name 46 = .ok (.istore 4, 2) := by decide +kernel
theorem dX5_name_48 : decode cX5_name 48 = .ok (.aload_n 0, 1) := by decide +kernel
theorem dX5_name_49 : decode cX5_name 49 = .ok (.iload 4, 2) := by decide +kernel
theorem dX5_name_51 : decode cX5_name 51 = .ok (.ifCond .eq 9, 3) := by decide +kernel
theorem dX5_name_54 : decode cX5_name 54 = .ok (.iconst 3, 1) := by decide +kernel
theorem dX5_name_55 : decode cX5_name 55 = .ok (.iload_n 2, 1) := by decide +kernel
theorem dX5_name_56 : decode cX5_name 56 = .ok (.iadd, 1) := by decide +kernel
theorem dX5_name_57 : decode cX5_name 57 = .ok (.goto 4, 3) := by decide +kernel
theorem dX5_name_60 : decode cX5_name 60 = .ok (.iconst 1, 1) := by decide +kernel
theorem dX5_name_61 : decode cX5_name 61 = .ok (.iload 4, 2) := by decide +kernel
theorem dX5_name_63 : decode cX5_name 63 = .ok (.ifCond .eq 17, 3) := by decide +kernel
theorem dX5_name_66 : decode cX5_name 66 = .ok (.aload_n 1, 1) := by decide +kernel
theorem dX5_name_67 : decode cX5_name 67 = .ok (.aload_n 0, 1) := by decide +kernel
theorem dX5_name_68 : decode cX5_name 68 = .ok (.getfield 20, 3) := by decide +kernel
theorem dX5_name_71 : decode cX5_name 71 = .ok (.iconst 1, 1) := by decide +kernel
theorem dX5_name_72 : decode cX5_name 72 = .ok (.iadd, 1) := by decide +kernel
theorem dX5_name_73 : decode cX5_name 73 = .ok (.iload_n 3, 1) := by decide +kernel
theorem dX5_name_74 : decode cX5_name 74 = .ok (.invokestatic 71, 3) := by decide +kernel
theorem dX5_name_77 : decode cX5_name 77 = .ok (.goto 4, 3) := by decide +kernel
theorem dX5_name_80 : decode cX5_name 80 = .ok (.iconst 0, 1) := by decide +kernel
theorem dX5_name_81 : decode cX5_name 81 = .ok (.aload_n 0, 1) := by decide +kernel
theorem dX5_name_82 : decode cX5_name 82 = .ok (.getfield 20, 3) := by decide +kernel
theorem dX5_name_85 : decode cX5_name 85 = .ok (.invokevirtual 56, 3) := by decide +kernel
theorem dX5_name_88 : decode cX5_name 88 = .ok (.aload_n 0, 1) := by decide +kernel
theorem dX5_name_89 : decode cX5_name 89 = .ok (.iload_n 3, 1) := by decide +kernel
theorem dX5_name_90 : decode cX5_name 90 = .ok (.putfield 20, 3) := by decide +kernel
theorem dX5_name_93 : decode cX5_name 93 = .ok (.return_, 1) := by decide +kernel
set_option maxHeartbeats 8000000 in
set_option maxRecDepth 100000 in
theorem a_S_name (l : Launch) (D : va_G) (g : Nat → ClassId) (k9 v9 : Nat → Nat) (fo : Nat)   (sz : Nat) (h : Nat) (si : Nat → Int32) (ta : Nat → Nat) (tr : Nat → Nat) (tf_ : Nat → Nat → Int32) (xa : Nat → Nat) (xr : Nat → Nat) (xf : Nat → Nat → Int32) (hw_t : ∀ k, tr k ≤ tkW_lim k) (hw_x : ∀ k, xr k ≤ txW_lim k) : vy_Mv l D (tyG g) yX5_name cX5_name 5 4 91 0 0 [.ref h, .ref (xa 0)] sz (vz_w [scW h si (ta 0), tkW g ta tr tf_, txW g xa xr xf]) k9 v9 fo (fun u : (Nat → Int32) × (Nat → Nat) × (Nat → Nat → Int32) => (∀ k, u.2.1 k ≤ tkW_lim k)) (fun u => vz_w [scW h u.1 (ta 0), tkW g ta u.2.1 u.2.2, txW g xa xr xf]) := by
  refine vy_svQ (by decide) (Nat.le_of_ble_eq_true rfl) (fun p e s m args below meth c hx hb hr hml hts hown hlk hin hK hsz A hA hz H locs hP hD hS ls hl Q hQ => ?_)
  have hl : lv_has ls 5 [(0, .ref h), (1, .ref (xa 0))] := hl
  have J81 : ∀ (x2_81 : Int32), ∀ (x3_81 : Int32), ∀ (x4_81 : Int32), ∀ (y0_81 : Int32), ∀ (y1_81 : Int32), ∀ (si_81 : Nat → Int32), ∀ (tr_81 : Nat → Nat), ∀ (tf_81 : Nat → Nat → Int32), (x4_81 = 0 ∨ x4_81 = 1) → (∀ k, tr_81 k ≤ tkW_lim k) → ∀ (H : Heap) (locs : List Loc) (ls : Array Slot), va_P D vwCl (vz_w [scW h si_81 (ta 0), tkW g ta tr_81 tf_81, txW g xa xr xf]) H → va_D A (vz_w [scW h si_81 (ta 0), tkW g ta tr_81 tf_81, txW g xa xr xf]) → va_S A s.heap H locs → lv_has ls 5 [(0, .ref h), (1, .ref (xa 0)), (2, .int x2_81), (3, .int x3_81), (4, .int x4_81)] → W p l e { frames := 4, cells := 0, slots := 0, locals := 91 } s m args below meth c H locs 0 0 Q (F0 m 81 ls [.int y0_81, .int y1_81, .ref h]) := by
    intro x2_81 x3_81 x4_81 y0_81 y1_81 si_81 tr_81 tf_81 hz_x4_81 hw_t_81 H locs ls hP hD hS hl
    refine lv_aload_n hx hb dX5_name_81 rfl (lv_at hl 0 rfl) ?_
    refine va_get (D := D) (ci := 5) (v := .int (si_81 0)) (C := RX5) (T := TX5) (N := 2) hx hb hts inlX5 hown hK hP 0 rfl rfl 1 (by decide) (hts _ q79) (fun _ h => h) rfl dX5_name_82 ?_
    refine vz_Vv4 (n9 := 3) (bs2 := fun u : (Nat → Nat) × (Nat → Nat → Int32) => [scW h si_81 (ta 0), tkW g ta u.1 u.2, txW g xa xr xf]) (br := [txW g xa xr xf]) (As := [.int y1_81, .int y0_81, .int (si_81 0)]) (rest := []) hx hb hml hown hts hK hA hP hD hS (a_S_note l D g H.size h si_81 ta tr_81 tf_81 y1_81 y0_81 (si_81 0) hw_t_81) kv_X5_56 ⟨Nat.le_of_ble_eq_true rfl, Nat.le_of_ble_eq_true rfl⟩ (q0 := 0) (ci := 5) rfl rfl rfl [0, 1] [2] rfl (by decide) rfl (fun _ => rfl) (fun _ => rfl) hl.1 (Nat.le_of_ble_eq_true rfl) dX5_name_85 ⟨Nat.le_refl _, Nat.le_refl _⟩ rfl (fun ⟨tr_1, tf_2⟩ H locs hw_3 _ hP hD hS => ?_)
    try dsimp only at hw_3
    replace hP : va_P D vwCl (vz_w [scW h si_81 (ta 0), tkW g ta tr_1 tf_2, txW g xa xr xf]) H := hP
    replace hD : va_D A (vz_w [scW h si_81 (ta 0), tkW g ta tr_1 tf_2, txW g xa xr xf]) := hD
    refine lv_aload_n hx hb dX5_name_88 rfl (lv_at hl 0 rfl) ?_
    refine lv_iload_n hx hb dX5_name_89 rfl (lv_at hl 3 rfl) ?_
    refine va_put (D := D) (ci := 5) (v := .int x3_81) (ty := .int) (C := RX5) (T := TX5) (N := 2) hx hb hts inlX5 tyX5 tyX5_ok nmX5 hown hK hP hD hS 0 rfl rfl 1 (by decide) (hts _ q79) (fun _ h => h) rfl (by decide +kernel) rfl rfl (Nat.le_of_ble_eq_true rfl) dX5_name_90 (fun H locs hP hD hS => ?_)
    obtain ⟨si_4, hsi_4, hP, hD⟩ : ∃ si_4 : Nat → Int32, (si_4 = (upd si_81 0 x3_81)) ∧ va_P D vwCl (vz_w [scW h si_4 (ta 0), tkW g ta tr_1 tf_2, txW g xa xr xf]) H ∧ va_D A (vz_w [scW h si_4 (ta 0), tkW g ta tr_1 tf_2, txW g xa xr xf]) := ⟨(upd si_81 0 x3_81), rfl, hP, hD⟩
    rw [hQ]
    exact vz_vret3 hx hb hr hlk hK hP hD hS (si_4, tr_1, tf_2) hw_3 rfl (Nat.le_refl 0) (Nat.le_refl 0) dX5_name_93
  have J61 : ∀ (x2_61 : Int32), ∀ (x3_61 : Int32), ∀ (x4_61 : Int32), ∀ (y0_61 : Int32), ∀ (si_61 : Nat → Int32), ∀ (tr_61 : Nat → Nat), ∀ (tf_61 : Nat → Nat → Int32), (x4_61 = 0 ∨ x4_61 = 1) → (∀ k, tr_61 k ≤ tkW_lim k) → ∀ (H : Heap) (locs : List Loc) (ls : Array Slot), va_P D vwCl (vz_w [scW h si_61 (ta 0), tkW g ta tr_61 tf_61, txW g xa xr xf]) H → va_D A (vz_w [scW h si_61 (ta 0), tkW g ta tr_61 tf_61, txW g xa xr xf]) → va_S A s.heap H locs → lv_has ls 5 [(0, .ref h), (1, .ref (xa 0)), (2, .int x2_61), (3, .int x3_61), (4, .int x4_61)] → W p l e { frames := 4, cells := 0, slots := 0, locals := 91 } s m args below meth c H locs 0 0 Q (F0 m 61 ls [.int y0_61, .ref h]) := by
    intro x2_61 x3_61 x4_61 y0_61 si_61 tr_61 tf_61 hz_x4_61 hw_t_61 H locs ls hP hD hS hl
    refine lv_iload hx hb dX5_name_61 (lv_at hl 4 rfl) ?_
    refine lv_if_eq (tgt := 80) hx hb dX5_name_63 (by decide) (fun kc1 => ?_) (fun kc1 => ?_)
    · refine lv_iconst (v := 0) hx hb dX5_name_80 (by decide) ?_
      exact J81 x2_61 x3_61 x4_61 0 y0_61 si_61 tr_61 tf_61 hz_x4_61 hw_t_61 H locs ls hP hD hS (lv_sub hl [0, 1, 2, 3, 4] rfl)
    · refine lv_aload_n hx hb dX5_name_66 rfl (lv_at hl 1 rfl) ?_
      refine lv_aload_n hx hb dX5_name_67 rfl (lv_at hl 0 rfl) ?_
      refine va_get (D := D) (ci := 5) (v := .int (si_61 0)) (C := RX5) (T := TX5) (N := 2) hx hb hts inlX5 hown hK hP 0 rfl rfl 1 (by decide) (hts _ q79) (fun _ h => h) rfl dX5_name_68 ?_
      refine lv_iconst (v := 1) hx hb dX5_name_71 (by decide) ?_
      refine lv_iadd hx hb dX5_name_72 ?_
      refine lv_iload_n hx hb dX5_name_73 rfl (lv_at hl 3 rfl) ?_
      refine vz_Si4 (n9 := 3) (bs2 := fun u : Unit => [scW h si_61 (ta 0), tkW g ta tr_61 tf_61, txW g xa xr xf]) (br := [scW h si_61 (ta 0), tkW g ta tr_61 tf_61]) (As := [.ref (xa 0), .int ((si_61 0) + 1), .int x3_61]) (rest := [.int y0_61, .ref h]) hx hb hml hown hts hK hA hP hD hS (a_S_valueOf l D g H.size xa xr xf ((si_61 0) + 1) x3_61 hw_x) ks_X5_71 ⟨Nat.le_of_ble_eq_true rfl, Nat.le_of_ble_eq_true rfl⟩ [2] [0, 1] rfl (by decide) rfl (fun _ => rfl) (fun _ => rfl) hl.1 (Nat.le_of_ble_eq_true rfl) dX5_name_74 ⟨Nat.le_refl _, Nat.le_refl _⟩ rfl (fun v2 _ H locs _ _ hP hD hS => ?_)
      refine lv_goto (tgt := 81) hx hb dX5_name_77 (by decide) ?_
      exact J81 x2_61 x3_61 x4_61 v2 y0_61 si_61 tr_61 tf_61 hz_x4_61 hw_t_61 H locs ls hP hD hS (lv_sub hl [0, 1, 2, 3, 4] rfl)
  have J46 : ∀ (x2_46 : Int32), ∀ (x3_46 : Int32), ∀ (y0_46 : Int32), ∀ (si_46 : Nat → Int32), ∀ (tr_46 : Nat → Nat), ∀ (tf_46 : Nat → Nat → Int32), (y0_46 = 0 ∨ y0_46 = 1) → (∀ k, tr_46 k ≤ tkW_lim k) → ∀ (H : Heap) (locs : List Loc) (ls : Array Slot), va_P D vwCl (vz_w [scW h si_46 (ta 0), tkW g ta tr_46 tf_46, txW g xa xr xf]) H → va_D A (vz_w [scW h si_46 (ta 0), tkW g ta tr_46 tf_46, txW g xa xr xf]) → va_S A s.heap H locs → lv_has ls 5 [(0, .ref h), (1, .ref (xa 0)), (2, .int x2_46), (3, .int x3_46)] → W p l e { frames := 4, cells := 0, slots := 0, locals := 91 } s m args below meth c H locs 0 0 Q (F0 m 46 ls [.int y0_46]) := by
    intro x2_46 x3_46 y0_46 si_46 tr_46 tf_46 hz_y0_46 hw_t_46 H locs ls hP hD hS hl
    refine lv_istore (lv' := [(4, .int y0_46), (0, .ref h), (1, .ref (xa 0)), (2, .int x2_46), (3, .int x3_46)]) hx hb dX5_name_46 hl (by decide) rfl (fun ls hl => ?_)
    refine lv_aload_n hx hb dX5_name_48 rfl (lv_at hl 1 rfl) ?_
    refine lv_iload hx hb dX5_name_49 (lv_at hl 0 rfl) ?_
    refine lv_if_eq (tgt := 60) hx hb dX5_name_51 (by decide) (fun kc1 => ?_) (fun kc1 => ?_)
    · refine lv_iconst (v := 1) hx hb dX5_name_60 (by decide) ?_
      exact J61 x2_46 x3_46 y0_46 1 si_46 tr_46 tf_46 hz_y0_46 hw_t_46 H locs ls hP hD hS (lv_sub hl [1, 2, 3, 4, 0] rfl)
    · refine lv_iconst (v := 3) hx hb dX5_name_54 (by decide) ?_
      refine lv_iload_n hx hb dX5_name_55 rfl (lv_at hl 3 rfl) ?_
      refine lv_iadd hx hb dX5_name_56 ?_
      refine lv_goto (tgt := 61) hx hb dX5_name_57 (by decide) ?_
      exact J61 x2_46 x3_46 y0_46 (3 + x2_46) si_46 tr_46 tf_46 hz_y0_46 hw_t_46 H locs ls hP hD hS (lv_sub hl [1, 2, 3, 4, 0] rfl)
  have J45 : ∀ (x2_45 : Int32), ∀ (x3_45 : Int32), ∀ (si_45 : Nat → Int32), ∀ (tr_45 : Nat → Nat), ∀ (tf_45 : Nat → Nat → Int32), (∀ k, tr_45 k ≤ tkW_lim k) → ∀ (H : Heap) (locs : List Loc) (ls : Array Slot), va_P D vwCl (vz_w [scW h si_45 (ta 0), tkW g ta tr_45 tf_45, txW g xa xr xf]) H → va_D A (vz_w [scW h si_45 (ta 0), tkW g ta tr_45 tf_45, txW g xa xr xf]) → va_S A s.heap H locs → lv_has ls 5 [(0, .ref h), (1, .ref (xa 0)), (2, .int x2_45), (3, .int x3_45)] → W p l e { frames := 4, cells := 0, slots := 0, locals := 91 } s m args below meth c H locs 0 0 Q (F0 m 45 ls []) := by
    intro x2_45 x3_45 si_45 tr_45 tf_45 hw_t_45 H locs ls hP hD hS hl
    refine lv_iconst (v := 0) hx hb dX5_name_45 (by decide) ?_
    exact J46 x2_45 x3_45 0 si_45 tr_45 tf_45 (Or.inl rfl) hw_t_45 H locs ls hP hD hS (lv_sub hl [0, 1, 2, 3] rfl)
  refine va_ldcS hx hb hown (hz.2.2.1 0 (by decide)) dX5_name_0 ?_
  refine lv_aload_n hx hb dX5_name_2 rfl (lv_at hl 1 rfl) ?_
  refine lv_aload_n hx hb dX5_name_3 rfl (lv_at hl 0 rfl) ?_
  refine va_get (D := D) (ci := 5) (v := .int (si 0)) (C := RX5) (T := TX5) (N := 2) hx hb hts inlX5 hown hK hP 0 rfl rfl 1 (by decide) (hts _ q79) (fun _ h => h) rfl dX5_name_4 ?_
  refine lv_iconst (v := 0) hx hb dX5_name_7 (by decide) ?_
  refine vz_Vi2 (ws' := fun u : Unit => vz_w [scW h si (ta 0), tkW g ta tr tf_, txW g xa xr xf]) (As := [.int (si 0), .int 0]) (rest := [.ref (k9 0)]) hx hb hml hown hts hK hA hP hD hS (c_T_get l D g (xa 0) (xa 1) H.size 1 1000 (xr 0) 1000 (xf 0) (si 0) 0 ⟨rfl, by decide, by decide, by decide, by decide, hw_x 0⟩) kv_X5_30 ⟨Nat.le_of_ble_eq_true rfl, Nat.le_of_ble_eq_true rfl⟩ (q0 := 3) (ci := 6) rfl rfl rfl [3, 4] rfl (by decide) (fun _ => rfl) (fun _ => rfl) hl.1 (Nat.le_of_ble_eq_true rfl) dX5_name_8 ⟨Nat.le_refl _, Nat.le_refl _⟩ rfl (fun v1 _ H locs he2 _ hP hD hS => ?_)
  refine lv_i2c (v := ((Int32.toUInt32 v1) % 65536).toInt32) hx hb dX5_name_11 rfl ?_
  refine vy_Vs (i9 := 0) (As := [.int (((Int32.toUInt32 v1) % 65536).toInt32)]) (rest := []) hx hb hml hown hts hK hA hP hD hS hz (by decide) (a_J_ix0 l D g k9 v9 fo H.size (((Int32.toUInt32 v1) % 65536).toInt32)) kv_X5_50 ⟨Nat.le_of_ble_eq_true rfl, Nat.le_of_ble_eq_true rfl⟩ rfl hl.1 (Nat.le_of_ble_eq_true rfl) dX5_name_12 ⟨Nat.le_refl _, Nat.le_refl _⟩ rfl (fun v3 _ H locs _ _ hP hD hS => ?_)
  refine lv_istore_n (lv' := [(2, .int v3), (0, .ref h), (1, .ref (xa 0))]) hx hb dX5_name_15 rfl hl (by decide) rfl (fun ls hl => ?_)
  refine lv_aload_n hx hb dX5_name_16 rfl (lv_at hl 2 rfl) ?_
  refine lv_aload_n hx hb dX5_name_17 rfl (lv_at hl 1 rfl) ?_
  refine va_get (D := D) (ci := 5) (v := .int (si 0)) (C := RX5) (T := TX5) (N := 2) hx hb hts inlX5 hown hK hP 0 rfl rfl 1 (by decide) (hts _ q79) (fun _ h => h) rfl dX5_name_18 ?_
  refine lv_iconst (v := 1) hx hb dX5_name_21 (by decide) ?_
  refine lv_iadd hx hb dX5_name_22 ?_
  refine vz_Si4 (n9 := 3) (bs2 := fun u : Unit => [scW h si (ta 0), tkW g ta tr tf_, txW g xa xr xf]) (br := [scW h si (ta 0), tkW g ta tr tf_]) (As := [.ref (xa 0), .int ((si 0) + 1)]) (rest := []) hx hb hml hown hts hK hA hP hD hS (a_S_endOfDigits l D g H.size xa xr xf ((si 0) + 1) hw_x) ks_X5_67 ⟨Nat.le_of_ble_eq_true rfl, Nat.le_of_ble_eq_true rfl⟩ [2] [0, 1] rfl (by decide) rfl (fun _ => rfl) (fun _ => rfl) hl.1 (Nat.le_of_ble_eq_true rfl) dX5_name_23 ⟨Nat.le_refl _, Nat.le_refl _⟩ rfl (fun v4 _ H locs _ _ hP hD hS => ?_)
  refine lv_istore_n (lv' := [(3, .int v4), (2, .int v3), (0, .ref h), (1, .ref (xa 0))]) hx hb dX5_name_26 rfl hl (by decide) rfl (fun ls hl => ?_)
  refine lv_iload_n hx hb dX5_name_27 rfl (lv_at hl 1 rfl) ?_
  refine lv_if_lt (tgt := 45) hx hb dX5_name_28 (by decide) (fun kc5 => ?_) (fun kc5 => ?_)
  · exact J45 v3 v4 si tr tf_ hw_t H locs ls hP hD hS (lv_sub hl [2, 3, 1, 0] rfl)
  · refine lv_iload_n hx hb dX5_name_31 rfl (lv_at hl 0 rfl) ?_
    refine lv_aload_n hx hb dX5_name_32 rfl (lv_at hl 2 rfl) ?_
    refine va_get (D := D) (ci := 5) (v := .int (si 0)) (C := RX5) (T := TX5) (N := 2) hx hb hts inlX5 hown hK hP 0 rfl rfl 1 (by decide) (hts _ q79) (fun _ h => h) rfl dX5_name_33 ?_
    refine lv_isub hx hb dX5_name_36 ?_
    refine lv_iconst (v := 3) hx hb dX5_name_37 (by decide) ?_
    refine lv_icmp_gt (tgt := 45) hx hb dX5_name_38 (by decide) (fun kc6 => ?_) (fun kc6 => ?_)
    · exact J45 v3 v4 si tr tf_ hw_t H locs ls hP hD hS (lv_sub hl [2, 3, 1, 0] rfl)
    · refine lv_iconst (v := 1) hx hb dX5_name_41 (by decide) ?_
      refine lv_goto (tgt := 46) hx hb dX5_name_42 (by decide) ?_
      exact J46 v3 v4 1 si tr tf_ (Or.inr rfl) hw_t H locs ls hP hD hS (lv_sub hl [2, 3, 1, 0] rfl)
theorem q316 : Cond.methodLink RX5 42 yX5_isLetter ∈ wsL_law := mT_2 (List.mem_of_getElem? (i := 237) rfl) rfl
theorem q317 : Cond.static yX5_isLetter ∈ wsL_law := mT_2 (List.mem_of_getElem? (i := 238) rfl) rfl
theorem q318 : Cond.code yX5_isLetter cX5_isLetter 1 (some .boolean) ∈ wsL_law := mT_2 (List.mem_of_getElem? (i := 239) rfl) rfl
theorem kt_X5_42 : vy_cs RX5 42 yX5_isLetter cX5_isLetter 1 (some .boolean) 1 := ⟨q316, q317, q19, q318, by decide +kernel⟩
theorem ks_X5_42 : vz_cs RX5 42 yX5_isLetter cX5_isLetter 1 (some .boolean) 1 := ⟨q316, q317, q19, q318, by decide +kernel⟩
theorem q323 : Cond.methodLink RX5 75 yX5_name ∈ wsL_law := mT_3 (List.mem_of_getElem? (i := 4) rfl) rfl
theorem q324 : Cond.instanceMethod yX5_name ∈ wsL_law := mT_3 (List.mem_of_getElem? (i := 6) rfl) rfl
theorem q325 : Cond.selects RX5 yX5_name yX5_name ∈ wsL_law := mS_1 (q := (yX5_name, 2)) (List.mem_of_getElem? (i := 3) rfl) rfl
theorem q326 : Cond.code yX5_name cX5_name 5 none ∈ wsL_law := mT_3 (List.mem_of_getElem? (i := 7) rfl) rfl
theorem kv_X5_75 : vz_cv RX5 75 yX5_name cX5_name 5 none 1 := ⟨q323, q324, q325, q19, q326, by decide +kernel⟩
theorem q411 : Cond.methodLink RX5 78 yX5_wordNumber ∈ wsL_law := mT_3 (List.mem_of_getElem? (i := 91) rfl) rfl
theorem q412 : Cond.static yX5_wordNumber ∈ wsL_law := mT_3 (List.mem_of_getElem? (i := 92) rfl) rfl
theorem q413 : Cond.code yX5_wordNumber cX5_wordNumber 6 (some .int) ∈ wsL_law := mT_3 (List.mem_of_getElem? (i := 93) rfl) rfl
theorem kt_X5_78 : vy_cs RX5 78 yX5_wordNumber cX5_wordNumber 6 (some .int) 3 := ⟨q411, q412, q19, q413, by decide +kernel⟩
theorem ks_X5_78 : vz_cs RX5 78 yX5_wordNumber cX5_wordNumber 6 (some .int) 3 := ⟨q411, q412, q19, q413, by decide +kernel⟩
theorem dX5_letters_0 : decode cX5_letters 0 = .ok (.aload_n 0, 1) := by decide +kernel
theorem dX5_letters_1 : decode cX5_letters 1 = .ok (.getfield 20, 3) := by decide +kernel
theorem dX5_letters_4 : decode cX5_letters 4 = .ok (.istore_n 2, 1) := by decide +kernel
theorem dX5_letters_5 : decode cX5_letters 5 = .ok (.iload_n 2, 1) := by decide +kernel
theorem dX5_letters_6 : decode cX5_letters 6 = .ok (.aload_n 1, 1) := by decide +kernel
theorem dX5_letters_7 : decode cX5_letters 7 = .ok (.getfield 27, 3) := by decide +kernel
theorem dX5_letters_10 : decode cX5_letters 10 = .ok (.if_icmp .ge 21, 3) := by decide +kernel
theorem dX5_letters_13 : decode cX5_letters 13 = .ok (.aload_n 1, 1) := by decide +kernel
theorem dX5_letters_14 : decode cX5_letters 14 = .ok (.iload_n 2, 1) := by decide +kernel
theorem dX5_letters_15 : decode cX5_letters 15 = .ok (.iconst 0, 1) := by decide +kernel
theorem dX5_letters_16 : decode cX5_letters 16 = .ok (.invokevirtual 30, 3) := by decide +kernel
theorem dX5_letters_19 : decode cX5_letters 19 = .ok (.invokestatic 42, 3) := by decide +kernel
theorem dX5_letters_22 : decode cX5_letters 22 = .ok (.ifCond .eq 9, 3) := by decide +kernel
theorem dX5_letters_25 : decode cX5_letters 25 = .ok (.iinc 2 1, 3) := by decide +kernel
theorem dX5_letters_28 : decode cX5_letters 28 = .ok (.goto (-23), 3) := by decide +kernel
theorem dX5_letters_31 : decode cX5_letters 31 = .ok (.aload_n 1, 1) := by decide +kernel
theorem dX5_letters_32 : decode cX5_letters 32 = .ok (.iload_n 2, 1) := by decide +kernel
theorem dX5_letters_33 : decode cX5_letters 33 = .ok (.iconst 0, 1) := by decide +kernel
theorem dX5_letters_34 : decode cX5_letters 34 = .ok (.invokevirtual 30, 3) := by decide +kernel
theorem dX5_letters_37 : decode cX5_letters 37 = .ok (.invokestatic 34, 3) := by decide +kernel
theorem dX5_letters_40 : decode cX5_letters 40 = .ok (.ifCond .eq 6, 3) := by decide +kernel
theorem dX5_letters_43 : decode cX5_letters 43 = .ok (.iinc 2 (-1), 3) := by decide +kernel
theorem dX5_letters_46 : decode cX5_letters 46 = .ok (.iload_n 2, 1) := by decide +kernel
theorem dX5_letters_47 : decode cX5_letters 47 = .ok (.aload_n 0, 1) := by decide +kernel
theorem dX5_letters_48 : decode cX5_letters 48 = .ok (.getfield 20, 3) := by decide +kernel
theorem dX5_letters_51 : decode cX5_letters 51 = .ok (.if_icmp .gt 11, 3) := by decide +kernel
theorem dX5_letters_54 : decode cX5_letters 54 = .ok (.aload_n 0, 1) := by decide +kernel
theorem dX5_letters_55 : decode cX5_letters 55 = .ok (.aload_n 1, 1) := by decide +kernel
theorem dX5_letters_56 : decode cX5_letters 56 = .ok (.invokevirtual 75, 3) := by decide +kernel
theorem dX5_letters_59 : decode cX5_letters 59 = .ok (.goto 42, 3) := by decide +kernel
theorem dX5_letters_62 : decode cX5_letters 62 = .ok (.aload_n 1, 1) := by decide +kernel
theorem dX5_letters_63 : decode cX5_letters 63 = .ok (.aload_n 0, 1) := by decide +kernel
theorem dX5_letters_64 : decode cX5_letters 64 = .ok (.getfield 20, 3) := by decide +kernel
theorem dX5_letters_67 : decode cX5_letters 67 = .ok (.iload_n 2, 1) := by decide +kernel
theorem dX5_letters_68 : decode cX5_letters 68 = .ok (.invokestatic 78, 3) := by decide +kernel
theorem dX5_letters_71 : decode cX5_letters 71 = .ok (.istore_n 3, 1) := by decide +kernel
theorem dX5_letters_72 : decode cX5_letters 72 = .ok (.aload_n 0, 1) := by decide +kernel
theorem dX5_letters_73 : decode cX5_letters 73 = .ok (.iload_n 3, 1) := by decide +kernel
theorem dX5_letters_74 : decode cX5_letters 74 = .ok (.bipush (-9), 2) := by decide +kernel
theorem dX5_letters_76 : decode cX5_letters 76 = .ok (.if_icmp .ne 7, 3) := by decide +kernel
theorem dX5_letters_79 : decode cX5_letters 79 = .ok (.iconst 1, 1) := by decide +kernel
theorem dX5_letters_80 : decode cX5_letters 80 = .ok (.goto 8, 3) := by decide +kernel
theorem dX5_letters_83 : decode cX5_letters 83 = .ok (.sipush 128, 3) := by decide +kernel
theorem dX5_letters_86 : decode cX5_letters 86 = .ok (.iload_n 3, 1) := by decide +kernel
theorem dX5_letters_87 : decode cX5_letters 87 = .ok (.iadd, 1) := by decide +kernel
theorem dX5_letters_88 : decode cX5_letters 88 = .ok (.iconst 0, 1) := by decide +kernel
theorem dX5_letters_89 : decode cX5_letters 89 = .ok (.aload_n 0, 1) := by decide +kernel
theorem dX5_letters_90 : decode cX5_letters 90 = .ok (.getfield 20, 3) := by decide +kernel
theorem dX5_letters_93 : decode cX5_letters 93 = .ok (.invokevirtual 56, 3) := by decide +kernel
theorem dX5_letters_96 : decode cX5_letters 96 = .ok (.aload_n 0, 1) := by decide +kernel
theorem dX5_letters_97 : decode cX5_letters 97 = .ok (.iload_n 2, 1) := by decide +kernel
theorem dX5_letters_98 : decode cX5_letters 98 = .ok (.putfield 20, 3) := by decide +kernel
theorem dX5_letters_101 : decode cX5_letters 101 = .ok (.return_, 1) := by decide +kernel
set_option maxHeartbeats 8000000 in
set_option maxRecDepth 100000 in
theorem a_S_letters (l : Launch) (D : va_G) (g : Nat → ClassId) (k9 v9 : Nat → Nat) (fo : Nat)   (sz : Nat) (h : Nat) (si : Nat → Int32) (ta : Nat → Nat) (tr : Nat → Nat) (tf_ : Nat → Nat → Int32) (xa : Nat → Nat) (xr : Nat → Nat) (xf : Nat → Nat → Int32) (hw_t : ∀ k, tr k ≤ tkW_lim k) (hw_x : ∀ k, xr k ≤ txW_lim k) : vy_Mv l D (tyG g) yX5_letters cX5_letters 4 6 134 0 0 [.ref h, .ref (xa 0)] sz (vz_w [scW h si (ta 0), tkW g ta tr tf_, txW g xa xr xf]) k9 v9 fo (fun u : (Nat → Int32) × (Nat → Nat) × (Nat → Nat → Int32) => (∀ k, u.2.1 k ≤ tkW_lim k)) (fun u => vz_w [scW h u.1 (ta 0), tkW g ta u.2.1 u.2.2, txW g xa xr xf]) := by
  refine vy_svQ (by decide) (Nat.le_of_ble_eq_true rfl) (fun p e s m args below meth c hx hb hr hml hts hown hlk hin hK hsz A hA hz H locs hP hD hS ls hl Q hQ => ?_)
  have hl : lv_has ls 4 [(0, .ref h), (1, .ref (xa 0))] := hl
  have J101 : ∀ (x2_101 : Int32), ∀ (si_101 : Nat → Int32), ∀ (tr_101 : Nat → Nat), ∀ (tf_101 : Nat → Nat → Int32), (∀ k, tr_101 k ≤ tkW_lim k) → ∀ (H : Heap) (locs : List Loc) (ls : Array Slot), va_P D vwCl (vz_w [scW h si_101 (ta 0), tkW g ta tr_101 tf_101, txW g xa xr xf]) H → va_D A (vz_w [scW h si_101 (ta 0), tkW g ta tr_101 tf_101, txW g xa xr xf]) → va_S A s.heap H locs → lv_has ls 4 [(0, .ref h), (1, .ref (xa 0)), (2, .int x2_101)] → W p l e { frames := 6, cells := 0, slots := 0, locals := 134 } s m args below meth c H locs 0 0 Q (F0 m 101 ls []) := by
    intro x2_101 si_101 tr_101 tf_101 hw_t_101 H locs ls hP hD hS hl
    rw [hQ]
    exact vz_vret3 hx hb hr hlk hK hP hD hS (si_101, tr_101, tf_101) hw_t_101 rfl (Nat.le_refl 0) (Nat.le_refl 0) dX5_letters_101
  have J88 : ∀ (x2_88 : Int32), ∀ (x3_88 : Int32), ∀ (y0_88 : Int32), ∀ (si_88 : Nat → Int32), ∀ (tr_88 : Nat → Nat), ∀ (tf_88 : Nat → Nat → Int32), (∀ k, tr_88 k ≤ tkW_lim k) → ∀ (H : Heap) (locs : List Loc) (ls : Array Slot), va_P D vwCl (vz_w [scW h si_88 (ta 0), tkW g ta tr_88 tf_88, txW g xa xr xf]) H → va_D A (vz_w [scW h si_88 (ta 0), tkW g ta tr_88 tf_88, txW g xa xr xf]) → va_S A s.heap H locs → lv_has ls 4 [(0, .ref h), (1, .ref (xa 0)), (2, .int x2_88), (3, .int x3_88)] → W p l e { frames := 6, cells := 0, slots := 0, locals := 134 } s m args below meth c H locs 0 0 Q (F0 m 88 ls [.int y0_88, .ref h]) := by
    intro x2_88 x3_88 y0_88 si_88 tr_88 tf_88 hw_t_88 H locs ls hP hD hS hl
    refine lv_iconst (v := 0) hx hb dX5_letters_88 (by decide) ?_
    refine lv_aload_n hx hb dX5_letters_89 rfl (lv_at hl 0 rfl) ?_
    refine va_get (D := D) (ci := 5) (v := .int (si_88 0)) (C := RX5) (T := TX5) (N := 2) hx hb hts inlX5 hown hK hP 0 rfl rfl 1 (by decide) (hts _ q79) (fun _ h => h) rfl dX5_letters_90 ?_
    refine vz_Vv4 (n9 := 3) (bs2 := fun u : (Nat → Nat) × (Nat → Nat → Int32) => [scW h si_88 (ta 0), tkW g ta u.1 u.2, txW g xa xr xf]) (br := [txW g xa xr xf]) (As := [.int y0_88, .int 0, .int (si_88 0)]) (rest := []) hx hb hml hown hts hK hA hP hD hS (a_S_note l D g H.size h si_88 ta tr_88 tf_88 y0_88 0 (si_88 0) hw_t_88) kv_X5_56 ⟨Nat.le_of_ble_eq_true rfl, Nat.le_of_ble_eq_true rfl⟩ (q0 := 0) (ci := 5) rfl rfl rfl [0, 1] [2] rfl (by decide) rfl (fun _ => rfl) (fun _ => rfl) hl.1 (Nat.le_of_ble_eq_true rfl) dX5_letters_93 ⟨Nat.le_refl _, Nat.le_refl _⟩ rfl (fun ⟨tr_1, tf_2⟩ H locs hw_3 _ hP hD hS => ?_)
    try dsimp only at hw_3
    replace hP : va_P D vwCl (vz_w [scW h si_88 (ta 0), tkW g ta tr_1 tf_2, txW g xa xr xf]) H := hP
    replace hD : va_D A (vz_w [scW h si_88 (ta 0), tkW g ta tr_1 tf_2, txW g xa xr xf]) := hD
    refine lv_aload_n hx hb dX5_letters_96 rfl (lv_at hl 0 rfl) ?_
    refine lv_iload_n hx hb dX5_letters_97 rfl (lv_at hl 2 rfl) ?_
    refine va_put (D := D) (ci := 5) (v := .int x2_88) (ty := .int) (C := RX5) (T := TX5) (N := 2) hx hb hts inlX5 tyX5 tyX5_ok nmX5 hown hK hP hD hS 0 rfl rfl 1 (by decide) (hts _ q79) (fun _ h => h) rfl (by decide +kernel) rfl rfl (Nat.le_of_ble_eq_true rfl) dX5_letters_98 (fun H locs hP hD hS => ?_)
    obtain ⟨si_4, hsi_4, hP, hD⟩ : ∃ si_4 : Nat → Int32, (si_4 = (upd si_88 0 x2_88)) ∧ va_P D vwCl (vz_w [scW h si_4 (ta 0), tkW g ta tr_1 tf_2, txW g xa xr xf]) H ∧ va_D A (vz_w [scW h si_4 (ta 0), tkW g ta tr_1 tf_2, txW g xa xr xf]) := ⟨(upd si_88 0 x2_88), rfl, hP, hD⟩
    exact J101 x2_88 si_4 tr_1 tf_2 hw_3 H locs ls hP hD hS (lv_sub hl [0, 1, 2] rfl)
  have J46 : ∀ (x2_46 : Int32), ∀ (si_46 : Nat → Int32), ∀ (tr_46 : Nat → Nat), ∀ (tf_46 : Nat → Nat → Int32), (∀ k, tr_46 k ≤ tkW_lim k) → ∀ (H : Heap) (locs : List Loc) (ls : Array Slot), va_P D vwCl (vz_w [scW h si_46 (ta 0), tkW g ta tr_46 tf_46, txW g xa xr xf]) H → va_D A (vz_w [scW h si_46 (ta 0), tkW g ta tr_46 tf_46, txW g xa xr xf]) → va_S A s.heap H locs → lv_has ls 4 [(0, .ref h), (1, .ref (xa 0)), (2, .int x2_46)] → W p l e { frames := 6, cells := 0, slots := 0, locals := 134 } s m args below meth c H locs 0 0 Q (F0 m 46 ls []) := by
    intro x2_46 si_46 tr_46 tf_46 hw_t_46 H locs ls hP hD hS hl
    refine lv_iload_n hx hb dX5_letters_46 rfl (lv_at hl 2 rfl) ?_
    refine lv_aload_n hx hb dX5_letters_47 rfl (lv_at hl 0 rfl) ?_
    refine va_get (D := D) (ci := 5) (v := .int (si_46 0)) (C := RX5) (T := TX5) (N := 2) hx hb hts inlX5 hown hK hP 0 rfl rfl 1 (by decide) (hts _ q79) (fun _ h => h) rfl dX5_letters_48 ?_
    refine lv_icmp_gt (tgt := 62) hx hb dX5_letters_51 (by decide) (fun kc1 => ?_) (fun kc1 => ?_)
    · refine lv_aload_n hx hb dX5_letters_62 rfl (lv_at hl 1 rfl) ?_
      refine lv_aload_n hx hb dX5_letters_63 rfl (lv_at hl 0 rfl) ?_
      refine va_get (D := D) (ci := 5) (v := .int (si_46 0)) (C := RX5) (T := TX5) (N := 2) hx hb hts inlX5 hown hK hP 0 rfl rfl 1 (by decide) (hts _ q79) (fun _ h => h) rfl dX5_letters_64 ?_
      refine lv_iload_n hx hb dX5_letters_67 rfl (lv_at hl 2 rfl) ?_
      refine vy_Si4 (n9 := 3) (bs2 := fun u : Unit => [scW h si_46 (ta 0), tkW g ta tr_46 tf_46, txW g xa xr xf]) (br := [scW h si_46 (ta 0), tkW g ta tr_46 tf_46]) (As := [.ref (xa 0), .int (si_46 0), .int x2_46]) (rest := []) hx hb hml hown hts hK hA hP hD hS hz (a_S_wordNumber l D g k9 v9 fo H.size xa xr xf (si_46 0) x2_46 hw_x) kt_X5_78 ⟨Nat.le_of_ble_eq_true rfl, Nat.le_of_ble_eq_true rfl⟩ [2] [0, 1] rfl (by decide) rfl (fun _ => rfl) (fun _ => rfl) hl.1 (Nat.le_of_ble_eq_true rfl) dX5_letters_68 ⟨Nat.le_refl _, Nat.le_refl _⟩ rfl (fun v2 _ H locs _ _ hP hD hS => ?_)
      refine lv_istore_n (lv' := [(3, .int v2), (0, .ref h), (1, .ref (xa 0)), (2, .int x2_46)]) hx hb dX5_letters_71 rfl hl (by decide) rfl (fun ls hl => ?_)
      refine lv_aload_n hx hb dX5_letters_72 rfl (lv_at hl 1 rfl) ?_
      refine lv_iload_n hx hb dX5_letters_73 rfl (lv_at hl 0 rfl) ?_
      refine lv_bipush (v := (-9)) hx hb dX5_letters_74 (by decide) ?_
      refine lv_icmp_ne (tgt := 83) hx hb dX5_letters_76 (by decide) (fun kc3 => ?_) (fun kc3 => ?_)
      · refine lv_sipush (v := 128) hx hb dX5_letters_83 (by decide) ?_
        refine lv_iload_n hx hb dX5_letters_86 rfl (lv_at hl 0 rfl) ?_
        refine lv_iadd hx hb dX5_letters_87 ?_
        exact J88 x2_46 v2 (128 + v2) si_46 tr_46 tf_46 hw_t_46 H locs ls hP hD hS (lv_sub hl [1, 2, 3, 0] rfl)
      · refine lv_iconst (v := 1) hx hb dX5_letters_79 (by decide) ?_
        refine lv_goto (tgt := 88) hx hb dX5_letters_80 (by decide) ?_
        exact J88 x2_46 v2 1 si_46 tr_46 tf_46 hw_t_46 H locs ls hP hD hS (lv_sub hl [1, 2, 3, 0] rfl)
    · refine lv_aload_n hx hb dX5_letters_54 rfl (lv_at hl 0 rfl) ?_
      refine lv_aload_n hx hb dX5_letters_55 rfl (lv_at hl 1 rfl) ?_
      refine vy_Vv4 (n9 := 3) (bs2 := fun u : (Nat → Int32) × (Nat → Nat) × (Nat → Nat → Int32) => [scW h u.1 (ta 0), tkW g ta u.2.1 u.2.2, txW g xa xr xf]) (br := []) (As := [.ref (xa 0)]) (rest := []) hx hb hml hown hts hK hA hP hD hS hz (a_S_name l D g k9 v9 fo H.size h si_46 ta tr_46 tf_46 xa xr xf hw_t_46 hw_x) kv_X5_75 ⟨Nat.le_of_ble_eq_true rfl, Nat.le_of_ble_eq_true rfl⟩ (q0 := 0) (ci := 5) rfl rfl rfl [0, 1, 2] [] rfl (by decide) rfl (fun _ => rfl) (fun _ => rfl) hl.1 (Nat.le_of_ble_eq_true rfl) dX5_letters_56 ⟨Nat.le_refl _, Nat.le_refl _⟩ rfl (fun ⟨si_4, tr_5, tf_6⟩ H locs hw_7 _ hP hD hS => ?_)
      try dsimp only at hw_7
      replace hP : va_P D vwCl (vz_w [scW h si_4 (ta 0), tkW g ta tr_5 tf_6, txW g xa xr xf]) H := hP
      replace hD : va_D A (vz_w [scW h si_4 (ta 0), tkW g ta tr_5 tf_6, txW g xa xr xf]) := hD
      refine lv_goto (tgt := 101) hx hb dX5_letters_59 (by decide) ?_
      exact J101 x2_46 si_4 tr_5 tf_6 hw_7 H locs ls hP hD hS (lv_sub hl [0, 1, 2] rfl)
  have J31 : ∀ (x2_31 : Int32), ∀ (si_31 : Nat → Int32), ∀ (tr_31 : Nat → Nat), ∀ (tf_31 : Nat → Nat → Int32), (∀ k, tr_31 k ≤ tkW_lim k) → ∀ (H : Heap) (locs : List Loc) (ls : Array Slot), va_P D vwCl (vz_w [scW h si_31 (ta 0), tkW g ta tr_31 tf_31, txW g xa xr xf]) H → va_D A (vz_w [scW h si_31 (ta 0), tkW g ta tr_31 tf_31, txW g xa xr xf]) → va_S A s.heap H locs → lv_has ls 4 [(0, .ref h), (1, .ref (xa 0)), (2, .int x2_31)] → W p l e { frames := 6, cells := 0, slots := 0, locals := 134 } s m args below meth c H locs 0 0 Q (F0 m 31 ls []) := by
    intro x2_31 si_31 tr_31 tf_31 hw_t_31 H locs ls hP hD hS hl
    refine lv_aload_n hx hb dX5_letters_31 rfl (lv_at hl 1 rfl) ?_
    refine lv_iload_n hx hb dX5_letters_32 rfl (lv_at hl 2 rfl) ?_
    refine lv_iconst (v := 0) hx hb dX5_letters_33 (by decide) ?_
    refine vz_Vi2 (ws' := fun u : Unit => vz_w [scW h si_31 (ta 0), tkW g ta tr_31 tf_31, txW g xa xr xf]) (As := [.int x2_31, .int 0]) (rest := []) hx hb hml hown hts hK hA hP hD hS (c_T_get l D g (xa 0) (xa 1) H.size 1 1000 (xr 0) 1000 (xf 0) x2_31 0 ⟨rfl, by decide, by decide, by decide, by decide, hw_x 0⟩) kv_X5_30 ⟨Nat.le_of_ble_eq_true rfl, Nat.le_of_ble_eq_true rfl⟩ (q0 := 3) (ci := 6) rfl rfl rfl [3, 4] rfl (by decide) (fun _ => rfl) (fun _ => rfl) hl.1 (Nat.le_of_ble_eq_true rfl) dX5_letters_34 ⟨Nat.le_refl _, Nat.le_refl _⟩ rfl (fun v1 _ H locs he2 _ hP hD hS => ?_)
    refine vz_Si4 (n9 := 3) (bs2 := fun u : Unit => [scW h si_31 (ta 0), tkW g ta tr_31 tf_31, txW g xa xr xf]) (br := [scW h si_31 (ta 0), tkW g ta tr_31 tf_31, txW g xa xr xf]) (As := [.int v1]) (rest := []) hx hb hml hown hts hK hA hP hD hS (a_S_isDigit l D g H.size v1) ks_X5_34 ⟨Nat.le_of_ble_eq_true rfl, Nat.le_of_ble_eq_true rfl⟩ [] [0, 1, 2] rfl (by decide) rfl (fun _ => rfl) (fun _ => rfl) hl.1 (Nat.le_of_ble_eq_true rfl) dX5_letters_37 ⟨Nat.le_refl _, Nat.le_refl _⟩ rfl (fun v3 _ H locs hz4 _ hP hD hS => ?_)
    refine lv_if_eq (tgt := 46) hx hb dX5_letters_40 (by decide) (fun kc5 => ?_) (fun kc5 => ?_)
    · exact J46 x2_31 si_31 tr_31 tf_31 hw_t_31 H locs ls hP hD hS (lv_sub hl [0, 1, 2] rfl)
    · refine lv_iinc (v := (x2_31 + (-1))) (lv' := [(2, .int (x2_31 + (-1))), (0, .ref h), (1, .ref (xa 0))]) hx hb dX5_letters_43 hl (k := 2) rfl (rfl) (by decide) rfl (fun ls hl => ?_)
      exact J46 (x2_31 + (-1)) si_31 tr_31 tf_31 hw_t_31 H locs ls hP hD hS (lv_sub hl [1, 2, 0] rfl)
  have J5 : ∀ fu5 : Nat, ∀ (x2_5 : Int32), ∀ (si_5 : Nat → Int32), ∀ (tr_5 : Nat → Nat), ∀ (tf_5 : Nat → Nat → Int32), ((nI (xr 0)).toInt - x2_5.toInt).toNat < fu5 → (∀ k, tr_5 k ≤ tkW_lim k) → ∀ (H : Heap) (locs : List Loc) (ls : Array Slot), va_P D vwCl (vz_w [scW h si_5 (ta 0), tkW g ta tr_5 tf_5, txW g xa xr xf]) H → va_D A (vz_w [scW h si_5 (ta 0), tkW g ta tr_5 tf_5, txW g xa xr xf]) → va_S A s.heap H locs → lv_has ls 4 [(0, .ref h), (1, .ref (xa 0)), (2, .int x2_5)] → W p l e { frames := 6, cells := 0, slots := 0, locals := 134 } s m args below meth c H locs 0 0 Q (F0 m 5 ls []) := by
    intro fu5
    induction fu5 with
    | zero => intro x2_5 si_5 tr_5 tf_5 hf5 hw_t_5 H locs ls hP hD hS hl; exact absurd hf5 (Nat.not_lt_zero _)
    | succ fu5 ih5 =>
      intro x2_5 si_5 tr_5 tf_5 hf5 hw_t_5 H locs ls hP hD hS hl
      refine lv_iload_n hx hb dX5_letters_5 rfl (lv_at hl 2 rfl) ?_
      refine lv_aload_n hx hb dX5_letters_6 rfl (lv_at hl 1 rfl) ?_
      refine va_get (D := D) (ci := 6) (v := .int (nI (xr 0))) (C := RX6) (T := TX6) (N := 4) hx hb hts inlX6 hown hK hP 3 rfl rfl 3 (by decide) (hts _ q288) (fun _ h => h) rfl dX5_letters_7 ?_
      refine lv_icmp_ge (tgt := 31) hx hb dX5_letters_10 (by decide) (fun kc1 => ?_) (fun kc1 => ?_)
      · exact J31 x2_5 si_5 tr_5 tf_5 hw_t_5 H locs ls hP hD hS (lv_sub hl [0, 1, 2] rfl)
      · have hn5 : ((nI (xr 0)).toInt - (x2_5 + 1).toInt).toNat < fu5 := by have hq := vz_up kc1; omega
        refine lv_aload_n hx hb dX5_letters_13 rfl (lv_at hl 1 rfl) ?_
        refine lv_iload_n hx hb dX5_letters_14 rfl (lv_at hl 2 rfl) ?_
        refine lv_iconst (v := 0) hx hb dX5_letters_15 (by decide) ?_
        refine vz_Vi2 (ws' := fun u : Unit => vz_w [scW h si_5 (ta 0), tkW g ta tr_5 tf_5, txW g xa xr xf]) (As := [.int x2_5, .int 0]) (rest := []) hx hb hml hown hts hK hA hP hD hS (c_T_get l D g (xa 0) (xa 1) H.size 1 1000 (xr 0) 1000 (xf 0) x2_5 0 ⟨rfl, by decide, by decide, by decide, by decide, hw_x 0⟩) kv_X5_30 ⟨Nat.le_of_ble_eq_true rfl, Nat.le_of_ble_eq_true rfl⟩ (q0 := 3) (ci := 6) rfl rfl rfl [3, 4] rfl (by decide) (fun _ => rfl) (fun _ => rfl) hl.1 (Nat.le_of_ble_eq_true rfl) dX5_letters_16 ⟨Nat.le_refl _, Nat.le_refl _⟩ rfl (fun v2 _ H locs he3 _ hP hD hS => ?_)
        refine vz_Si4 (n9 := 3) (bs2 := fun u : Unit => [scW h si_5 (ta 0), tkW g ta tr_5 tf_5, txW g xa xr xf]) (br := [scW h si_5 (ta 0), tkW g ta tr_5 tf_5, txW g xa xr xf]) (As := [.int v2]) (rest := []) hx hb hml hown hts hK hA hP hD hS (a_S_isLetter l D g H.size v2) ks_X5_42 ⟨Nat.le_of_ble_eq_true rfl, Nat.le_of_ble_eq_true rfl⟩ [] [0, 1, 2] rfl (by decide) rfl (fun _ => rfl) (fun _ => rfl) hl.1 (Nat.le_of_ble_eq_true rfl) dX5_letters_19 ⟨Nat.le_refl _, Nat.le_refl _⟩ rfl (fun v4 _ H locs hz5 _ hP hD hS => ?_)
        refine lv_if_eq (tgt := 31) hx hb dX5_letters_22 (by decide) (fun kc6 => ?_) (fun kc6 => ?_)
        · exact J31 x2_5 si_5 tr_5 tf_5 hw_t_5 H locs ls hP hD hS (lv_sub hl [0, 1, 2] rfl)
        · refine lv_iinc (v := (x2_5 + 1)) (lv' := [(2, .int (x2_5 + 1)), (0, .ref h), (1, .ref (xa 0))]) hx hb dX5_letters_25 hl (k := 2) rfl (rfl) (by decide) rfl (fun ls hl => ?_)
          refine lv_goto (tgt := 5) hx hb dX5_letters_28 (by decide) ?_
          exact ih5 (x2_5 + 1) si_5 tr_5 tf_5 hn5 hw_t_5 H locs ls hP hD hS (lv_sub hl [1, 2, 0] rfl)
  refine lv_aload_n hx hb dX5_letters_0 rfl (lv_at hl 0 rfl) ?_
  refine va_get (D := D) (ci := 5) (v := .int (si 0)) (C := RX5) (T := TX5) (N := 2) hx hb hts inlX5 hown hK hP 0 rfl rfl 1 (by decide) (hts _ q79) (fun _ h => h) rfl dX5_letters_1 ?_
  refine lv_istore_n (lv' := [(2, .int (si 0)), (0, .ref h), (1, .ref (xa 0))]) hx hb dX5_letters_4 rfl hl (by decide) rfl (fun ls hl => ?_)
  exact J5 (2 ^ 34) (si 0) si tr tf_ (vz_mb _ _) hw_t H locs ls hP hD hS (lv_sub hl [1, 2, 0] rfl)
theorem q289 : Cond.methodLink RX5 24 yX6_reset ∈ wsL_law := mT_2 (List.mem_of_getElem? (i := 210) rfl) rfl
theorem kv_X5_24 : vz_cv RX5 24 yX6_reset cX6_reset 1 none 0 := ⟨q289, q290, q291, q15, q292, by decide +kernel⟩
theorem q300 : Cond.methodLink RX5 38 yX5_number ∈ wsL_law := mT_2 (List.mem_of_getElem? (i := 221) rfl) rfl
theorem q301 : Cond.instanceMethod yX5_number ∈ wsL_law := mT_2 (List.mem_of_getElem? (i := 223) rfl) rfl
theorem q302 : Cond.selects RX5 yX5_number yX5_number ∈ wsL_law := mS_1 (q := (yX5_number, 2)) (List.mem_of_getElem? (i := 0) rfl) rfl
theorem q303 : Cond.code yX5_number cX5_number 4 none ∈ wsL_law := mT_2 (List.mem_of_getElem? (i := 224) rfl) rfl
theorem kv_X5_38 : vz_cv RX5 38 yX5_number cX5_number 4 none 1 := ⟨q300, q301, q302, q19, q303, by decide +kernel⟩
theorem q319 : Cond.methodLink RX5 45 yX5_letters ∈ wsL_law := mT_3 (List.mem_of_getElem? (i := 0) rfl) rfl
theorem q320 : Cond.instanceMethod yX5_letters ∈ wsL_law := mT_3 (List.mem_of_getElem? (i := 2) rfl) rfl
theorem q321 : Cond.selects RX5 yX5_letters yX5_letters ∈ wsL_law := mS_1 (q := (yX5_letters, 2)) (List.mem_of_getElem? (i := 2) rfl) rfl
theorem q322 : Cond.code yX5_letters cX5_letters 4 none ∈ wsL_law := mT_3 (List.mem_of_getElem? (i := 3) rfl) rfl
theorem kv_X5_45 : vz_cv RX5 45 yX5_letters cX5_letters 4 none 1 := ⟨q319, q320, q321, q19, q322, by decide +kernel⟩
theorem dX5_scan_0 : decode cX5_scan 0 = .ok (.aload_n 0, 1) := by decide +kernel
theorem dX5_scan_1 : decode cX5_scan 1 = .ok (.getfield 14, 3) := by decide +kernel
theorem dX5_scan_4 : decode cX5_scan 4 = .ok (.invokevirtual 24, 3) := by decide +kernel
theorem dX5_scan_7 : decode cX5_scan 7 = .ok (.aload_n 0, 1) := by decide +kernel
theorem dX5_scan_8 : decode cX5_scan 8 = .ok (.iconst 0, 1) := by decide +kernel
theorem dX5_scan_9 : decode cX5_scan 9 = .ok (.putfield 20, 3) := by decide +kernel
theorem dX5_scan_12 : decode cX5_scan 12 = .ok (.iconst 0, 1) := by decide +kernel
theorem dX5_scan_13 : decode cX5_scan 13 = .ok (.istore_n 2, 1) := by decide +kernel
theorem dX5_scan_14 : decode cX5_scan 14 = .ok (.iload_n 2, 1) := by decide +kernel
theorem dX5_scan_15 : decode cX5_scan 15 = .ok (.sipush 1000, 3) := by decide +kernel
theorem dX5_scan_18 : decode cX5_scan 18 = .ok (.if_icmp .gt 119, 3) := by decide +kernel
theorem dX5_scan_21 : decode cX5_scan 21 = .ok (.aload_n 0, 1) := by decide +kernel
theorem dX5_scan_22 : decode cX5_scan 22 = .ok (.getfield 20, 3) := by decide +kernel
theorem dX5_scan_25 : decode cX5_scan 25 = .ok (.aload_n 1, 1) := by decide +kernel
theorem dX5_scan_26 : decode cX5_scan 26 = .ok (.getfield 27, 3) := by decide +kernel
theorem dX5_scan_29 : decode cX5_scan 29 = .ok (.if_icmp .ge 108, 3) := by decide +kernel
theorem dX5_scan_32 : decode cX5_scan 32 = .ok (.aload_n 1, 1) := by decide +kernel
theorem dX5_scan_33 : decode cX5_scan 33 = .ok (.aload_n 0, 1) := by decide +kernel
theorem dX5_scan_34 : decode cX5_scan 34 = .ok (.getfield 20, 3) := by decide +kernel
theorem dX5_scan_37 : decode cX5_scan 37 = .ok (.iconst 0, 1) := by decide +kernel
theorem dX5_scan_38 : decode cX5_scan 38 = .ok (.invokevirtual 30, 3) := by decide +kernel
theorem dX5_scan_41 : decode cX5_scan 41 = .ok (.istore_n 3, 1) := by decide +kernel
theorem dX5_scan_42 : decode cX5_scan 42 = .ok (.iload_n 3, 1) := by decide +kernel
theorem dX5_scan_43 : decode cX5_scan 43 = .ok (.bipush 32, 2) := by decide +kernel
theorem dX5_scan_45 : decode cX5_scan 45 = .ok (.if_icmp .eq 9, 3) := by decide +kernel
theorem dX5_scan_48 : decode cX5_scan 48 = .ok (.iload_n 3, 1) := by decide +kernel
theorem dX5_scan_49 : decode cX5_scan 49 = .ok (.bipush 10, 2) := by decide +kernel
theorem dX5_scan_51 : decode cX5_scan 51 = .ok (.if_icmp .ne 16, 3) := by decide +kernel
theorem dX5_scan_54 : decode cX5_scan 54 = .ok (.aload_n 0, 1) := by decide +kernel
theorem dX5_scan_55 : decode cX5_scan 55 = .ok (.dup, 1) := by decide +kernel
theorem dX5_scan_56 : decode cX5_scan 56 = .ok (.getfield 20, 3) := by decide +kernel
theorem dX5_scan_59 : decode cX5_scan 59 = .ok (.iconst 1, 1) := by decide +kernel
theorem dX5_scan_60 : decode cX5_scan 60 = .ok (.iadd, 1) := by decide +kernel
theorem dX5_scan_61 : decode cX5_scan 61 = .ok (.putfield 20, 3) := by decide +kernel
theorem dX5_scan_64 : decode cX5_scan 64 = .ok (.goto 67, 3) := by decide +kernel
theorem dX5_scan_67 : decode cX5_scan 67 = .ok (.iload_n 3, 1) := by decide +kernel
theorem dX5_scan_68 : decode cX5_scan 68 = .ok (.invokestatic 34, 3) := by decide +kernel
theorem dX5_scan_71 : decode cX5_scan 71 = .ok (.ifCond .eq 11, 3) := by decide +kernel
theorem dX5_scan_74 : decode cX5_scan 74 = .ok (.aload_n 0, 1) := by decide +kernel
theorem dX5_scan_75 : decode cX5_scan 75 = .ok (.aload_n 1, 1) := by decide +kernel
theorem dX5_scan_76 : decode cX5_scan 76 = .ok (.invokevirtual 38, 3) := by decide +kernel
theorem dX5_scan_79 : decode cX5_scan 79 = .ok (.goto 52, 3) := by decide +kernel
theorem dX5_scan_82 : decode cX5_scan 82 = .ok (.iload_n 3, 1) := by decide +kernel
theorem dX5_scan_83 : decode cX5_scan 83 = .ok (.invokestatic 42, 3) := by decide +kernel
theorem dX5_scan_86 : decode cX5_scan 86 = .ok (.ifCond .eq 11, 3) := by decide +kernel
theorem dX5_scan_89 : decode cX5_scan 89 = .ok (.aload_n 0, 1) := by decide +kernel
theorem dX5_scan_90 : decode cX5_scan 90 = .ok (.aload_n 1, 1) := by decide +kernel
theorem dX5_scan_91 : decode cX5_scan 91 = .ok (.invokevirtual 45, 3) := by decide +kernel
theorem dX5_scan_94 : decode cX5_scan 94 = .ok (.goto 37, 3) := by decide +kernel
theorem dX5_scan_97 : decode cX5_scan 97 = .ok (.aload_n 0, 1) := by decide +kernel
theorem dX5_scan_98 : decode cX5_scan 98 = .ok (.ldc 48, 2) := by decide +kernel
theorem dX5_scan_100 : decode cX5_scan 100 = .ok (.iload_n 3, 1) := by decide +kernel
theorem dX5_scan_101 : decode cX5_scan 101 = .ok (.i2c, 1) := by decide +kernel
theorem dX5_scan_102 : decode cX5_scan 102 = .ok (.invokevirtual 50, 3) := by decide +kernel
theorem dX5_scan_105 : decode cX5_scan 105 = .ok (.ifCond .lt 7, 3) := by decide +kernel
theorem dX5_scan_108 : decode cX5_scan 108 = .ok (.iload_n 3, 1) := by decide +kernel
theorem dX5_scan_109 : decode cX5_scan 109 = .ok (.goto 4, 3) := by decide +kernel
theorem dX5_scan_112 : decode cX5_scan 112 = .ok (.iconst 1, 1) := by decide +kernel
theorem dX5_scan_113 : decode cX5_scan 113 = .ok (.iconst 0, 1) := by decide +kernel
theorem dX5_scan_114 : decode cX5_scan 114 = .ok (.aload_n 0, 1) := by decide +kernel
theorem dX5_scan_115 : decode cX5_scan 115 = .ok (.getfield 20, 3) := by decide +kernel
theorem dX5_scan_118 : decode cX5_scan 118 = .ok (.invokevirtual 56, 3) := by decide +kernel
theorem dX5_scan_121 : decode cX5_scan 121 = .ok (.aload_n 0, 1) := by decide +kernel
theorem dX5_scan_122 : decode cX5_scan 122 = .ok (.dup, 1) := by decide +kernel
theorem dX5_scan_123 : decode cX5_scan 123 = .ok (.getfield 20, 3) := by decide +kernel
theorem dX5_scan_126 : decode cX5_scan 126 = .ok (.iconst 1, 1) := by decide +kernel
theorem dX5_scan_127 : decode cX5_scan 127 = .ok (.iadd, 1) := by decide +kernel
theorem dX5_scan_128 : decode cX5_scan 128 = .ok (.putfield 20, 3) := by decide +kernel
theorem dX5_scan_131 : decode cX5_scan 131 = .ok (.iinc 2 1, 3) := by decide +kernel
theorem dX5_scan_134 : decode cX5_scan 134 = .ok (.goto (-120), 3) := by decide +kernel
theorem dX5_scan_137 : decode cX5_scan 137 = .ok (.aload_n 0, 1) := by decide +kernel
theorem dX5_scan_138 : decode cX5_scan 138 = .ok (.iconst 0, 1) := by decide +kernel
theorem dX5_scan_139 : decode cX5_scan 139 = .ok (.iconst 0, 1) := by decide +kernel
theorem dX5_scan_140 : decode cX5_scan 140 = .ok (.aload_n 1, 1) := by decide +kernel
theorem dX5_scan_141 : decode cX5_scan 141 = .ok (.getfield 27, 3) := by decide +kernel
theorem dX5_scan_144 : decode cX5_scan 144 = .ok (.invokevirtual 56, 3) := by decide +kernel
theorem dX5_scan_147 : decode cX5_scan 147 = .ok (.return_, 1) := by decide +kernel
set_option maxHeartbeats 8000000 in
set_option maxRecDepth 100000 in
theorem a_S_scan (l : Launch) (D : va_G) (g : Nat → ClassId) (k9 v9 : Nat → Nat) (fo : Nat)   (sz : Nat) (h : Nat) (si : Nat → Int32) (ta : Nat → Nat) (tr : Nat → Nat) (tf_ : Nat → Nat → Int32) (xa : Nat → Nat) (xr : Nat → Nat) (xf : Nat → Nat → Int32) (hw_t : ∀ k, tr k ≤ tkW_lim k) (hw_x : ∀ k, xr k ≤ txW_lim k) : vy_Mv l D (tyG g) yX5_scan cX5_scan 4 7 157 0 0 [.ref h, .ref (xa 0)] sz (vz_w [scW h si (ta 0), tkW g ta tr tf_, txW g xa xr xf]) k9 v9 fo (fun u : (Nat → Int32) × (Nat → Nat) × (Nat → Nat → Int32) => (∀ k, u.2.1 k ≤ tkW_lim k)) (fun u => vz_w [scW h u.1 (ta 0), tkW g ta u.2.1 u.2.2, txW g xa xr xf]) := by
  refine vy_svQ (by decide) (Nat.le_of_ble_eq_true rfl) (fun p e s m args below meth c hx hb hr hml hts hown hlk hin hK hsz A hA hz H locs hP hD hS ls hl Q hQ => ?_)
  have hl : lv_has ls 4 [(0, .ref h), (1, .ref (xa 0))] := hl
  have J137 : ∀ (x2_137 : Int32), ∀ (si_137 : Nat → Int32), ∀ (tr_137 : Nat → Nat), ∀ (tf_137 : Nat → Nat → Int32), (∀ k, tr_137 k ≤ tkW_lim k) → ∀ (H : Heap) (locs : List Loc) (ls : Array Slot), va_P D vwCl (vz_w [scW h si_137 (ta 0), tkW g ta tr_137 tf_137, txW g xa xr xf]) H → va_D A (vz_w [scW h si_137 (ta 0), tkW g ta tr_137 tf_137, txW g xa xr xf]) → va_S A s.heap H locs → lv_has ls 4 [(0, .ref h), (1, .ref (xa 0)), (2, .int x2_137)] → W p l e { frames := 7, cells := 0, slots := 0, locals := 157 } s m args below meth c H locs 0 0 Q (F0 m 137 ls []) := by
    intro x2_137 si_137 tr_137 tf_137 hw_t_137 H locs ls hP hD hS hl
    refine lv_aload_n hx hb dX5_scan_137 rfl (lv_at hl 0 rfl) ?_
    refine lv_iconst (v := 0) hx hb dX5_scan_138 (by decide) ?_
    refine lv_iconst (v := 0) hx hb dX5_scan_139 (by decide) ?_
    refine lv_aload_n hx hb dX5_scan_140 rfl (lv_at hl 1 rfl) ?_
    refine va_get (D := D) (ci := 6) (v := .int (nI (xr 0))) (C := RX6) (T := TX6) (N := 4) hx hb hts inlX6 hown hK hP 3 rfl rfl 3 (by decide) (hts _ q288) (fun _ h => h) rfl dX5_scan_141 ?_
    refine vz_Vv4 (n9 := 3) (bs2 := fun u : (Nat → Nat) × (Nat → Nat → Int32) => [scW h si_137 (ta 0), tkW g ta u.1 u.2, txW g xa xr xf]) (br := [txW g xa xr xf]) (As := [.int 0, .int 0, .int (nI (xr 0))]) (rest := []) hx hb hml hown hts hK hA hP hD hS (a_S_note l D g H.size h si_137 ta tr_137 tf_137 0 0 (nI (xr 0)) hw_t_137) kv_X5_56 ⟨Nat.le_of_ble_eq_true rfl, Nat.le_of_ble_eq_true rfl⟩ (q0 := 0) (ci := 5) rfl rfl rfl [0, 1] [2] rfl (by decide) rfl (fun _ => rfl) (fun _ => rfl) hl.1 (Nat.le_of_ble_eq_true rfl) dX5_scan_144 ⟨Nat.le_refl _, Nat.le_refl _⟩ rfl (fun ⟨tr_1, tf_2⟩ H locs hw_3 _ hP hD hS => ?_)
    try dsimp only at hw_3
    replace hP : va_P D vwCl (vz_w [scW h si_137 (ta 0), tkW g ta tr_1 tf_2, txW g xa xr xf]) H := hP
    replace hD : va_D A (vz_w [scW h si_137 (ta 0), tkW g ta tr_1 tf_2, txW g xa xr xf]) := hD
    rw [hQ]
    exact vz_vret3 hx hb hr hlk hK hP hD hS (si_137, tr_1, tf_2) hw_3 rfl (Nat.le_refl 0) (Nat.le_refl 0) dX5_scan_147
  have J14 : ∀ (fu14 n14 : Nat), 1001 - n14 < fu14 → n14 ≤ 1001 → ∀ (si_14 : Nat → Int32), ∀ (tr_14 : Nat → Nat), ∀ (tf_14 : Nat → Nat → Int32), (∀ k, tr_14 k ≤ tkW_lim k) → ∀ (H : Heap) (locs : List Loc) (ls : Array Slot), va_P D vwCl (vz_w [scW h si_14 (ta 0), tkW g ta tr_14 tf_14, txW g xa xr xf]) H → va_D A (vz_w [scW h si_14 (ta 0), tkW g ta tr_14 tf_14, txW g xa xr xf]) → va_S A s.heap H locs → lv_has ls 4 [(0, .ref h), (1, .ref (xa 0)), (2, .int (nI n14))] → W p l e { frames := 7, cells := 0, slots := 0, locals := 157 } s m args below meth c H locs 0 0 Q (F0 m 14 ls []) := by
    intro fu14
    induction fu14 with
    | zero => intro n14 z; omega
    | succ fu14 ih14 =>
      intro n14 hf14 hb14 si_14 tr_14 tf_14 hw_t_14 H locs ls hP hD hS hl
      have J131 : n14 < 1001 → ∀ (x3_131 : Int32), ∀ (si_131 : Nat → Int32), ∀ (tr_131 : Nat → Nat), ∀ (tf_131 : Nat → Nat → Int32), (∀ k, tr_131 k ≤ tkW_lim k) → ∀ (H : Heap) (locs : List Loc) (ls : Array Slot), va_P D vwCl (vz_w [scW h si_131 (ta 0), tkW g ta tr_131 tf_131, txW g xa xr xf]) H → va_D A (vz_w [scW h si_131 (ta 0), tkW g ta tr_131 tf_131, txW g xa xr xf]) → va_S A s.heap H locs → lv_has ls 4 [(0, .ref h), (1, .ref (xa 0)), (2, .int (nI n14)), (3, .int x3_131)] → W p l e { frames := 7, cells := 0, slots := 0, locals := 157 } s m args below meth c H locs 0 0 Q (F0 m 131 ls []) := by
        intro hn14 x3_131 si_131 tr_131 tf_131 hw_t_131 H locs ls hP hD hS hl
        refine lv_iinc (v := (nI (n14 + 1))) (lv' := [(2, .int (nI (n14 + 1))), (0, .ref h), (1, .ref (xa 0)), (3, .int x3_131)]) hx hb dX5_scan_131 hl (k := 2) rfl (nI_1 n14) (by decide) rfl (fun ls hl => ?_)
        refine lv_goto (tgt := 14) hx hb dX5_scan_134 (by decide) ?_
        exact ih14 (n14 + 1) (by omega) (by omega) si_131 tr_131 tf_131 hw_t_131 H locs ls hP hD hS (lv_sub hl [1, 2, 0] rfl)
      have J113 : n14 < 1001 → ∀ (x3_113 : Int32), ∀ (y0_113 : Int32), ∀ (si_113 : Nat → Int32), ∀ (tr_113 : Nat → Nat), ∀ (tf_113 : Nat → Nat → Int32), (∀ k, tr_113 k ≤ tkW_lim k) → ∀ (H : Heap) (locs : List Loc) (ls : Array Slot), va_P D vwCl (vz_w [scW h si_113 (ta 0), tkW g ta tr_113 tf_113, txW g xa xr xf]) H → va_D A (vz_w [scW h si_113 (ta 0), tkW g ta tr_113 tf_113, txW g xa xr xf]) → va_S A s.heap H locs → lv_has ls 4 [(0, .ref h), (1, .ref (xa 0)), (2, .int (nI n14)), (3, .int x3_113)] → W p l e { frames := 7, cells := 0, slots := 0, locals := 157 } s m args below meth c H locs 0 0 Q (F0 m 113 ls [.int y0_113, .ref h]) := by
        intro hn14 x3_113 y0_113 si_113 tr_113 tf_113 hw_t_113 H locs ls hP hD hS hl
        refine lv_iconst (v := 0) hx hb dX5_scan_113 (by decide) ?_
        refine lv_aload_n hx hb dX5_scan_114 rfl (lv_at hl 0 rfl) ?_
        refine va_get (D := D) (ci := 5) (v := .int (si_113 0)) (C := RX5) (T := TX5) (N := 2) hx hb hts inlX5 hown hK hP 0 rfl rfl 1 (by decide) (hts _ q79) (fun _ h => h) rfl dX5_scan_115 ?_
        refine vz_Vv4 (n9 := 3) (bs2 := fun u : (Nat → Nat) × (Nat → Nat → Int32) => [scW h si_113 (ta 0), tkW g ta u.1 u.2, txW g xa xr xf]) (br := [txW g xa xr xf]) (As := [.int y0_113, .int 0, .int (si_113 0)]) (rest := []) hx hb hml hown hts hK hA hP hD hS (a_S_note l D g H.size h si_113 ta tr_113 tf_113 y0_113 0 (si_113 0) hw_t_113) kv_X5_56 ⟨Nat.le_of_ble_eq_true rfl, Nat.le_of_ble_eq_true rfl⟩ (q0 := 0) (ci := 5) rfl rfl rfl [0, 1] [2] rfl (by decide) rfl (fun _ => rfl) (fun _ => rfl) hl.1 (Nat.le_of_ble_eq_true rfl) dX5_scan_118 ⟨Nat.le_refl _, Nat.le_refl _⟩ rfl (fun ⟨tr_1, tf_2⟩ H locs hw_3 _ hP hD hS => ?_)
        try dsimp only at hw_3
        replace hP : va_P D vwCl (vz_w [scW h si_113 (ta 0), tkW g ta tr_1 tf_2, txW g xa xr xf]) H := hP
        replace hD : va_D A (vz_w [scW h si_113 (ta 0), tkW g ta tr_1 tf_2, txW g xa xr xf]) := hD
        refine lv_aload_n hx hb dX5_scan_121 rfl (lv_at hl 0 rfl) ?_
        refine lv_dup hx hb dX5_scan_122 rfl ?_
        refine va_get (D := D) (ci := 5) (v := .int (si_113 0)) (C := RX5) (T := TX5) (N := 2) hx hb hts inlX5 hown hK hP 0 rfl rfl 1 (by decide) (hts _ q79) (fun _ h => h) rfl dX5_scan_123 ?_
        refine lv_iconst (v := 1) hx hb dX5_scan_126 (by decide) ?_
        refine lv_iadd hx hb dX5_scan_127 ?_
        refine va_put (D := D) (ci := 5) (v := .int ((si_113 0) + 1)) (ty := .int) (C := RX5) (T := TX5) (N := 2) hx hb hts inlX5 tyX5 tyX5_ok nmX5 hown hK hP hD hS 0 rfl rfl 1 (by decide) (hts _ q79) (fun _ h => h) rfl (by decide +kernel) rfl rfl (Nat.le_of_ble_eq_true rfl) dX5_scan_128 (fun H locs hP hD hS => ?_)
        obtain ⟨si_4, hsi_4, hP, hD⟩ : ∃ si_4 : Nat → Int32, (si_4 = (upd si_113 0 ((si_113 0) + 1))) ∧ va_P D vwCl (vz_w [scW h si_4 (ta 0), tkW g ta tr_1 tf_2, txW g xa xr xf]) H ∧ va_D A (vz_w [scW h si_4 (ta 0), tkW g ta tr_1 tf_2, txW g xa xr xf]) := ⟨(upd si_113 0 ((si_113 0) + 1)), rfl, hP, hD⟩
        exact J131 hn14 x3_113 si_4 tr_1 tf_2 hw_3 H locs ls hP hD hS (lv_sub hl [0, 1, 2, 3] rfl)
      have J54 : n14 < 1001 → ∀ (x3_54 : Int32), ∀ (si_54 : Nat → Int32), ∀ (tr_54 : Nat → Nat), ∀ (tf_54 : Nat → Nat → Int32), (∀ k, tr_54 k ≤ tkW_lim k) → ∀ (H : Heap) (locs : List Loc) (ls : Array Slot), va_P D vwCl (vz_w [scW h si_54 (ta 0), tkW g ta tr_54 tf_54, txW g xa xr xf]) H → va_D A (vz_w [scW h si_54 (ta 0), tkW g ta tr_54 tf_54, txW g xa xr xf]) → va_S A s.heap H locs → lv_has ls 4 [(0, .ref h), (1, .ref (xa 0)), (2, .int (nI n14)), (3, .int x3_54)] → W p l e { frames := 7, cells := 0, slots := 0, locals := 157 } s m args below meth c H locs 0 0 Q (F0 m 54 ls []) := by
        intro hn14 x3_54 si_54 tr_54 tf_54 hw_t_54 H locs ls hP hD hS hl
        refine lv_aload_n hx hb dX5_scan_54 rfl (lv_at hl 0 rfl) ?_
        refine lv_dup hx hb dX5_scan_55 rfl ?_
        refine va_get (D := D) (ci := 5) (v := .int (si_54 0)) (C := RX5) (T := TX5) (N := 2) hx hb hts inlX5 hown hK hP 0 rfl rfl 1 (by decide) (hts _ q79) (fun _ h => h) rfl dX5_scan_56 ?_
        refine lv_iconst (v := 1) hx hb dX5_scan_59 (by decide) ?_
        refine lv_iadd hx hb dX5_scan_60 ?_
        refine va_put (D := D) (ci := 5) (v := .int ((si_54 0) + 1)) (ty := .int) (C := RX5) (T := TX5) (N := 2) hx hb hts inlX5 tyX5 tyX5_ok nmX5 hown hK hP hD hS 0 rfl rfl 1 (by decide) (hts _ q79) (fun _ h => h) rfl (by decide +kernel) rfl rfl (Nat.le_of_ble_eq_true rfl) dX5_scan_61 (fun H locs hP hD hS => ?_)
        obtain ⟨si_1, hsi_1, hP, hD⟩ : ∃ si_1 : Nat → Int32, (si_1 = (upd si_54 0 ((si_54 0) + 1))) ∧ va_P D vwCl (vz_w [scW h si_1 (ta 0), tkW g ta tr_54 tf_54, txW g xa xr xf]) H ∧ va_D A (vz_w [scW h si_1 (ta 0), tkW g ta tr_54 tf_54, txW g xa xr xf]) := ⟨(upd si_54 0 ((si_54 0) + 1)), rfl, hP, hD⟩
        refine lv_goto (tgt := 131) hx hb dX5_scan_64 (by decide) ?_
        exact J131 hn14 x3_54 si_1 tr_54 tf_54 hw_t_54 H locs ls hP hD hS (lv_sub hl [0, 1, 2, 3] rfl)
      refine lv_iload_n hx hb dX5_scan_14 rfl (lv_at hl 2 rfl) ?_
      refine lv_sipush (v := 1000) hx hb dX5_scan_15 (by decide) ?_
      refine lv_icmp_gt (tgt := 137) hx hb dX5_scan_18 (by decide) (fun kc1 => ?_) (fun kc1 => ?_)
      · exact J137 (nI n14) si_14 tr_14 tf_14 hw_t_14 H locs ls hP hD hS (lv_sub hl [0, 1, 2] rfl)
      · have hn14 : n14 < 1001 := vz_ltgt (B := 1000) (by decide) (by omega) kc1
        refine lv_aload_n hx hb dX5_scan_21 rfl (lv_at hl 0 rfl) ?_
        refine va_get (D := D) (ci := 5) (v := .int (si_14 0)) (C := RX5) (T := TX5) (N := 2) hx hb hts inlX5 hown hK hP 0 rfl rfl 1 (by decide) (hts _ q79) (fun _ h => h) rfl dX5_scan_22 ?_
        refine lv_aload_n hx hb dX5_scan_25 rfl (lv_at hl 1 rfl) ?_
        refine va_get (D := D) (ci := 6) (v := .int (nI (xr 0))) (C := RX6) (T := TX6) (N := 4) hx hb hts inlX6 hown hK hP 3 rfl rfl 3 (by decide) (hts _ q288) (fun _ h => h) rfl dX5_scan_26 ?_
        refine lv_icmp_ge (tgt := 137) hx hb dX5_scan_29 (by decide) (fun kc2 => ?_) (fun kc2 => ?_)
        · exact J137 (nI n14) si_14 tr_14 tf_14 hw_t_14 H locs ls hP hD hS (lv_sub hl [0, 1, 2] rfl)
        · refine lv_aload_n hx hb dX5_scan_32 rfl (lv_at hl 1 rfl) ?_
          refine lv_aload_n hx hb dX5_scan_33 rfl (lv_at hl 0 rfl) ?_
          refine va_get (D := D) (ci := 5) (v := .int (si_14 0)) (C := RX5) (T := TX5) (N := 2) hx hb hts inlX5 hown hK hP 0 rfl rfl 1 (by decide) (hts _ q79) (fun _ h => h) rfl dX5_scan_34 ?_
          refine lv_iconst (v := 0) hx hb dX5_scan_37 (by decide) ?_
          refine vz_Vi2 (ws' := fun u : Unit => vz_w [scW h si_14 (ta 0), tkW g ta tr_14 tf_14, txW g xa xr xf]) (As := [.int (si_14 0), .int 0]) (rest := []) hx hb hml hown hts hK hA hP hD hS (c_T_get l D g (xa 0) (xa 1) H.size 1 1000 (xr 0) 1000 (xf 0) (si_14 0) 0 ⟨rfl, by decide, by decide, by decide, by decide, hw_x 0⟩) kv_X5_30 ⟨Nat.le_of_ble_eq_true rfl, Nat.le_of_ble_eq_true rfl⟩ (q0 := 3) (ci := 6) rfl rfl rfl [3, 4] rfl (by decide) (fun _ => rfl) (fun _ => rfl) hl.1 (Nat.le_of_ble_eq_true rfl) dX5_scan_38 ⟨Nat.le_refl _, Nat.le_refl _⟩ rfl (fun v3 _ H locs he4 _ hP hD hS => ?_)
          refine lv_istore_n (lv' := [(3, .int v3), (0, .ref h), (1, .ref (xa 0)), (2, .int (nI n14))]) hx hb dX5_scan_41 rfl hl (by decide) rfl (fun ls hl => ?_)
          refine lv_iload_n hx hb dX5_scan_42 rfl (lv_at hl 0 rfl) ?_
          refine lv_bipush (v := 32) hx hb dX5_scan_43 (by decide) ?_
          refine lv_icmp_eq (tgt := 54) hx hb dX5_scan_45 (by decide) (fun kc5 => ?_) (fun kc5 => ?_)
          · exact J54 hn14 v3 si_14 tr_14 tf_14 hw_t_14 H locs ls hP hD hS (lv_sub hl [1, 2, 3, 0] rfl)
          · refine lv_iload_n hx hb dX5_scan_48 rfl (lv_at hl 0 rfl) ?_
            refine lv_bipush (v := 10) hx hb dX5_scan_49 (by decide) ?_
            refine lv_icmp_ne (tgt := 67) hx hb dX5_scan_51 (by decide) (fun kc6 => ?_) (fun kc6 => ?_)
            · refine lv_iload_n hx hb dX5_scan_67 rfl (lv_at hl 0 rfl) ?_
              refine vz_Si4 (n9 := 3) (bs2 := fun u : Unit => [scW h si_14 (ta 0), tkW g ta tr_14 tf_14, txW g xa xr xf]) (br := [scW h si_14 (ta 0), tkW g ta tr_14 tf_14, txW g xa xr xf]) (As := [.int v3]) (rest := []) hx hb hml hown hts hK hA hP hD hS (a_S_isDigit l D g H.size v3) ks_X5_34 ⟨Nat.le_of_ble_eq_true rfl, Nat.le_of_ble_eq_true rfl⟩ [] [0, 1, 2] rfl (by decide) rfl (fun _ => rfl) (fun _ => rfl) hl.1 (Nat.le_of_ble_eq_true rfl) dX5_scan_68 ⟨Nat.le_refl _, Nat.le_refl _⟩ rfl (fun v7 _ H locs hz8 _ hP hD hS => ?_)
              refine lv_if_eq (tgt := 82) hx hb dX5_scan_71 (by decide) (fun kc9 => ?_) (fun kc9 => ?_)
              · refine lv_iload_n hx hb dX5_scan_82 rfl (lv_at hl 0 rfl) ?_
                refine vz_Si4 (n9 := 3) (bs2 := fun u : Unit => [scW h si_14 (ta 0), tkW g ta tr_14 tf_14, txW g xa xr xf]) (br := [scW h si_14 (ta 0), tkW g ta tr_14 tf_14, txW g xa xr xf]) (As := [.int v3]) (rest := []) hx hb hml hown hts hK hA hP hD hS (a_S_isLetter l D g H.size v3) ks_X5_42 ⟨Nat.le_of_ble_eq_true rfl, Nat.le_of_ble_eq_true rfl⟩ [] [0, 1, 2] rfl (by decide) rfl (fun _ => rfl) (fun _ => rfl) hl.1 (Nat.le_of_ble_eq_true rfl) dX5_scan_83 ⟨Nat.le_refl _, Nat.le_refl _⟩ rfl (fun v10 _ H locs hz11 _ hP hD hS => ?_)
                refine lv_if_eq (tgt := 97) hx hb dX5_scan_86 (by decide) (fun kc12 => ?_) (fun kc12 => ?_)
                · refine lv_aload_n hx hb dX5_scan_97 rfl (lv_at hl 1 rfl) ?_
                  refine va_ldcS hx hb hown (hz.2.2.1 2 (by decide)) dX5_scan_98 ?_
                  refine lv_iload_n hx hb dX5_scan_100 rfl (lv_at hl 0 rfl) ?_
                  refine lv_i2c (v := ((Int32.toUInt32 v3) % 65536).toInt32) hx hb dX5_scan_101 rfl ?_
                  refine vy_Vs (i9 := 2) (As := [.int (((Int32.toUInt32 v3) % 65536).toInt32)]) (rest := [.ref h]) hx hb hml hown hts hK hA hP hD hS hz (by decide) (a_J_ix2 l D g k9 v9 fo H.size (((Int32.toUInt32 v3) % 65536).toInt32)) kv_X5_50 ⟨Nat.le_of_ble_eq_true rfl, Nat.le_of_ble_eq_true rfl⟩ rfl hl.1 (Nat.le_of_ble_eq_true rfl) dX5_scan_102 ⟨Nat.le_refl _, Nat.le_refl _⟩ rfl (fun v13 _ H locs _ _ hP hD hS => ?_)
                  refine lv_if_lt (tgt := 112) hx hb dX5_scan_105 (by decide) (fun kc14 => ?_) (fun kc14 => ?_)
                  · refine lv_iconst (v := 1) hx hb dX5_scan_112 (by decide) ?_
                    exact J113 hn14 v3 1 si_14 tr_14 tf_14 hw_t_14 H locs ls hP hD hS (lv_sub hl [1, 2, 3, 0] rfl)
                  · refine lv_iload_n hx hb dX5_scan_108 rfl (lv_at hl 0 rfl) ?_
                    refine lv_goto (tgt := 113) hx hb dX5_scan_109 (by decide) ?_
                    exact J113 hn14 v3 v3 si_14 tr_14 tf_14 hw_t_14 H locs ls hP hD hS (lv_sub hl [1, 2, 3, 0] rfl)
                · refine lv_aload_n hx hb dX5_scan_89 rfl (lv_at hl 1 rfl) ?_
                  refine lv_aload_n hx hb dX5_scan_90 rfl (lv_at hl 2 rfl) ?_
                  refine vy_Vv4 (n9 := 3) (bs2 := fun u : (Nat → Int32) × (Nat → Nat) × (Nat → Nat → Int32) => [scW h u.1 (ta 0), tkW g ta u.2.1 u.2.2, txW g xa xr xf]) (br := []) (As := [.ref (xa 0)]) (rest := []) hx hb hml hown hts hK hA hP hD hS hz (a_S_letters l D g k9 v9 fo H.size h si_14 ta tr_14 tf_14 xa xr xf hw_t_14 hw_x) kv_X5_45 ⟨Nat.le_of_ble_eq_true rfl, Nat.le_of_ble_eq_true rfl⟩ (q0 := 0) (ci := 5) rfl rfl rfl [0, 1, 2] [] rfl (by decide) rfl (fun _ => rfl) (fun _ => rfl) hl.1 (Nat.le_of_ble_eq_true rfl) dX5_scan_91 ⟨Nat.le_refl _, Nat.le_refl _⟩ rfl (fun ⟨si_15, tr_16, tf_17⟩ H locs hw_18 _ hP hD hS => ?_)
                  try dsimp only at hw_18
                  replace hP : va_P D vwCl (vz_w [scW h si_15 (ta 0), tkW g ta tr_16 tf_17, txW g xa xr xf]) H := hP
                  replace hD : va_D A (vz_w [scW h si_15 (ta 0), tkW g ta tr_16 tf_17, txW g xa xr xf]) := hD
                  refine lv_goto (tgt := 131) hx hb dX5_scan_94 (by decide) ?_
                  exact J131 hn14 v3 si_15 tr_16 tf_17 hw_18 H locs ls hP hD hS (lv_sub hl [1, 2, 3, 0] rfl)
              · refine lv_aload_n hx hb dX5_scan_74 rfl (lv_at hl 1 rfl) ?_
                refine lv_aload_n hx hb dX5_scan_75 rfl (lv_at hl 2 rfl) ?_
                refine vz_Vv3 (As := [.ref (xa 0)]) (rest := []) hx hb hml hown hts hK hA hP hD hS (a_S_number l D g H.size h si_14 ta tr_14 tf_14 xa xr xf hw_t_14 hw_x) kv_X5_38 ⟨Nat.le_of_ble_eq_true rfl, Nat.le_of_ble_eq_true rfl⟩ (q0 := 0) (ci := 5) rfl rfl rfl  hl.1 (Nat.le_of_ble_eq_true rfl) dX5_scan_76 ⟨Nat.le_refl _, Nat.le_refl _⟩ rfl (fun ⟨si_19, tr_20, tf_21⟩ H locs hw_22 _ hP hD hS => ?_)
                try dsimp only at hw_22
                replace hP : va_P D vwCl (vz_w [scW h si_19 (ta 0), tkW g ta tr_20 tf_21, txW g xa xr xf]) H := hP
                replace hD : va_D A (vz_w [scW h si_19 (ta 0), tkW g ta tr_20 tf_21, txW g xa xr xf]) := hD
                refine lv_goto (tgt := 131) hx hb dX5_scan_79 (by decide) ?_
                exact J131 hn14 v3 si_19 tr_20 tf_21 hw_22 H locs ls hP hD hS (lv_sub hl [1, 2, 3, 0] rfl)
            · exact J54 hn14 v3 si_14 tr_14 tf_14 hw_t_14 H locs ls hP hD hS (lv_sub hl [1, 2, 3, 0] rfl)
  refine lv_aload_n hx hb dX5_scan_0 rfl (lv_at hl 0 rfl) ?_
  refine va_get (D := D) (ci := 5) (v := .ref (ta 0)) (C := RX5) (T := TX5) (N := 2) hx hb hts inlX5 hown hK hP 0 rfl rfl 0 (by decide) (hts _ q78) (fun _ h => h) rfl dX5_scan_1 ?_
  refine vz_Vv2 (ws' := fun u : Unit => vz_w [scW h si (ta 0), tkW g ta (vz_un tr 0 0) tf_, txW g xa xr xf]) (As := []) (rest := []) hx hb hml hown hts hK hA hP hD hS (c_T_reset l D g (ta 0) (ta 1) H.size (nI 3) (nI 1001) (nI (tr 0))) kv_X5_24 ⟨Nat.le_of_ble_eq_true rfl, Nat.le_of_ble_eq_true rfl⟩ (q0 := 1) (ci := 6) rfl rfl rfl [1] rfl (by decide) (fun _ => rfl) (fun _ => rfl) hl.1 (Nat.le_of_ble_eq_true rfl) dX5_scan_4 ⟨Nat.le_refl _, Nat.le_refl _⟩ rfl (fun _ H locs _ _ hP hD hS => ?_)
  obtain ⟨tr_1, hw_tr_1, hP, hD⟩ : ∃ tr_1 : Nat → Nat, (∀ k, tr_1 k ≤ tkW_lim k) ∧ va_P D vwCl (vz_w [scW h si (ta 0), tkW g ta tr_1 tf_, txW g xa xr xf]) H ∧ va_D A (vz_w [scW h si (ta 0), tkW g ta tr_1 tf_, txW g xa xr xf]) := ⟨(vz_un tr 0 0), (vz_wf hw_t (t := 0) (v := 0) (Nat.zero_le _)), hP, hD⟩
  refine lv_aload_n hx hb dX5_scan_7 rfl (lv_at hl 0 rfl) ?_
  refine lv_iconst (v := 0) hx hb dX5_scan_8 (by decide) ?_
  refine va_put (D := D) (ci := 5) (v := .int 0) (ty := .int) (C := RX5) (T := TX5) (N := 2) hx hb hts inlX5 tyX5 tyX5_ok nmX5 hown hK hP hD hS 0 rfl rfl 1 (by decide) (hts _ q79) (fun _ h => h) rfl (by decide +kernel) rfl rfl (Nat.le_of_ble_eq_true rfl) dX5_scan_9 (fun H locs hP hD hS => ?_)
  obtain ⟨si_2, hsi_2, hP, hD⟩ : ∃ si_2 : Nat → Int32, (si_2 = (upd si 0 0)) ∧ va_P D vwCl (vz_w [scW h si_2 (ta 0), tkW g ta tr_1 tf_, txW g xa xr xf]) H ∧ va_D A (vz_w [scW h si_2 (ta 0), tkW g ta tr_1 tf_, txW g xa xr xf]) := ⟨(upd si 0 0), rfl, hP, hD⟩
  refine lv_iconst (v := 0) hx hb dX5_scan_12 (by decide) ?_
  refine lv_istore_n (lv' := [(2, .int 0), (0, .ref h), (1, .ref (xa 0))]) hx hb dX5_scan_13 rfl hl (by decide) rfl (fun ls hl => ?_)
  exact J14 (1002) 0 (by omega) (by omega) si_2 tr_1 tf_ hw_tr_1 H locs ls hP hD hS (lv_sub hl [1, 2, 0] rfl)
theorem q20 : Cond.fieldLink RX9 21 "WaysAtlas" "scanner" "LWaysAtlas$Scanner;" ∈ wsL_law := mT_2 (List.mem_of_getElem? (i := 139) rfl) rfl
theorem q16 : Cond.fieldLink RX9 14 "WaysAtlas" "text" "LWaysAtlas$Table;" ∈ wsL_law := mT_2 (List.mem_of_getElem? (i := 138) rfl) rfl
theorem q284 : Cond.methodLink RX9 129 yX5_scan ∈ wsL_law := mT_2 (List.mem_of_getElem? (i := 206) rfl) rfl
theorem q285 : Cond.instanceMethod yX5_scan ∈ wsL_law := mT_2 (List.mem_of_getElem? (i := 207) rfl) rfl
theorem q286 : Cond.selects RX5 yX5_scan yX5_scan ∈ wsL_law := mT_2 (List.mem_of_getElem? (i := 208) rfl) rfl
theorem q287 : Cond.code yX5_scan cX5_scan 4 none ∈ wsL_law := mT_2 (List.mem_of_getElem? (i := 209) rfl) rfl
theorem kv_X9_129 : vz_cv RX9 129 yX5_scan cX5_scan 4 none 1 := ⟨q284, q285, q286, q19, q287, by decide +kernel⟩
theorem q30 : Cond.fieldLink RX9 43 "WaysAtlas" "reader" "LWaysAtlas$Reader;" ∈ wsL_law := mT_2 (List.mem_of_getElem? (i := 140) rfl) rfl
theorem q25 : Cond.fieldLink RX9 32 "WaysAtlas" "spare" "LWaysAtlas$Program;" ∈ wsL_law := mT_2 (List.mem_of_getElem? (i := 153) rfl) rfl
theorem q439 : Cond.methodLink RX9 136 yX3_read ∈ wsL_law := mT_3 (List.mem_of_getElem? (i := 121) rfl) rfl
theorem q440 : Cond.instanceMethod yX3_read ∈ wsL_law := mT_3 (List.mem_of_getElem? (i := 122) rfl) rfl
theorem q441 : Cond.selects RX3 yX3_read yX3_read ∈ wsL_law := mT_3 (List.mem_of_getElem? (i := 123) rfl) rfl
theorem q442 : Cond.code yX3_read cX3_read 5 none ∈ wsL_law := mT_3 (List.mem_of_getElem? (i := 124) rfl) rfl
theorem kv_X9_136 : vz_cv RX9 136 yX3_read cX3_read 5 none 1 := ⟨q439, q440, q441, q28, q442, by decide +kernel⟩
theorem q280 : Cond.fieldLink RX9 139 "WaysAtlas$Reader" "fault" "I" ∈ wsL_law := mT_1 (List.mem_of_getElem? (i := 135) rfl) rfl
theorem q281 : Cond.fieldLink RX9 140 "WaysAtlas$Reader" "faultPlace" "I" ∈ wsL_law := mT_1 (List.mem_of_getElem? (i := 137) rfl) rfl
theorem q34 : Cond.fieldLink RX9 52 "WaysAtlas" "coder" "LWaysAtlas$Coder;" ∈ wsL_law := mT_2 (List.mem_of_getElem? (i := 141) rfl) rfl
theorem q610 : Cond.methodLink RX9 143 yX0_translate ∈ wsL_law := mT_4 (List.mem_of_getElem? (i := 40) rfl) rfl
theorem q611 : Cond.instanceMethod yX0_translate ∈ wsL_law := mT_4 (List.mem_of_getElem? (i := 41) rfl) rfl
theorem q612 : Cond.selects RX0 yX0_translate yX0_translate ∈ wsL_law := mT_4 (List.mem_of_getElem? (i := 42) rfl) rfl
theorem q613 : Cond.code yX0_translate cX0_translate 3 none ∈ wsL_law := mT_4 (List.mem_of_getElem? (i := 43) rfl) rfl
theorem kv_X9_143 : vz_cv RX9 143 yX0_translate cX0_translate 3 none 2 := ⟨q610, q611, q612, q33, q613, by decide +kernel⟩
theorem dX9_compile_0 : decode cX9_compile 0 = .ok (.aload_n 0, 1) := by decide +kernel
theorem dX9_compile_1 : decode cX9_compile 1 = .ok (.getfield 21, 3) := by decide +kernel
theorem dX9_compile_4 : decode cX9_compile 4 = .ok (.aload_n 0, 1) := by decide +kernel
theorem dX9_compile_5 : decode cX9_compile 5 = .ok (.getfield 14, 3) := by decide +kernel
theorem dX9_compile_8 : decode cX9_compile 8 = .ok (.invokevirtual 129, 3) := by decide +kernel
theorem dX9_compile_11 : decode cX9_compile 11 = .ok (.aload_n 0, 1) := by decide +kernel
theorem dX9_compile_12 : decode cX9_compile 12 = .ok (.getfield 14, 3) := by decide +kernel
theorem dX9_compile_15 : decode cX9_compile 15 = .ok (.invokevirtual 133, 3) := by decide +kernel
theorem dX9_compile_18 : decode cX9_compile 18 = .ok (.aload_n 0, 1) := by decide +kernel
theorem dX9_compile_19 : decode cX9_compile 19 = .ok (.getfield 43, 3) := by decide +kernel
theorem dX9_compile_22 : decode cX9_compile 22 = .ok (.aload_n 0, 1) := by decide +kernel
theorem dX9_compile_23 : decode cX9_compile 23 = .ok (.getfield 32, 3) := by decide +kernel
theorem dX9_compile_26 : decode cX9_compile 26 = .ok (.invokevirtual 136, 3) := by decide +kernel
theorem dX9_compile_29 : decode cX9_compile 29 = .ok (.aload_n 0, 1) := by decide +kernel
theorem dX9_compile_30 : decode cX9_compile 30 = .ok (.aload_n 0, 1) := by decide +kernel
theorem dX9_compile_31 : decode cX9_compile 31 = .ok (.getfield 43, 3) := by decide +kernel
theorem dX9_compile_34 : decode cX9_compile 34 = .ok (.getfield 139, 3) := by decide +kernel
theorem dX9_compile_37 : decode cX9_compile 37 = .ok (.putfield 114, 3) := by decide +kernel
theorem dX9_compile_40 : decode cX9_compile 40 = .ok (.aload_n 0, 1) := by decide +kernel
theorem dX9_compile_41 : decode cX9_compile 41 = .ok (.getfield 114, 3) := by decide +kernel
theorem dX9_compile_44 : decode cX9_compile 44 = .ok (.ifCond .eq 14, 3) := by decide +kernel
theorem dX9_compile_47 : decode cX9_compile 47 = .ok (.bipush (-100), 2) := by decide +kernel
theorem dX9_compile_49 : decode cX9_compile 49 = .ok (.aload_n 0, 1) := by decide +kernel
theorem dX9_compile_50 : decode cX9_compile 50 = .ok (.getfield 43, 3) := by decide +kernel
theorem dX9_compile_53 : decode cX9_compile 53 = .ok (.getfield 140, 3) := by decide +kernel
theorem dX9_compile_56 : decode cX9_compile 56 = .ok (.isub, 1) := by decide +kernel
theorem dX9_compile_57 : decode cX9_compile 57 = .ok (.ireturn, 1) := by decide +kernel
theorem dX9_compile_58 : decode cX9_compile 58 = .ok (.aload_n 0, 1) := by decide +kernel
theorem dX9_compile_59 : decode cX9_compile 59 = .ok (.getfield 28, 3) := by decide +kernel
theorem dX9_compile_62 : decode cX9_compile 62 = .ok (.astore_n 2, 1) := by decide +kernel
theorem dX9_compile_63 : decode cX9_compile 63 = .ok (.aload_n 0, 1) := by decide +kernel
theorem dX9_compile_64 : decode cX9_compile 64 = .ok (.aload_n 0, 1) := by decide +kernel
theorem dX9_compile_65 : decode cX9_compile 65 = .ok (.getfield 32, 3) := by decide +kernel
theorem dX9_compile_68 : decode cX9_compile 68 = .ok (.putfield 28, 3) := by decide +kernel
theorem dX9_compile_71 : decode cX9_compile 71 = .ok (.aload_n 0, 1) := by decide +kernel
theorem dX9_compile_72 : decode cX9_compile 72 = .ok (.aload_n 2, 1) := by decide +kernel
theorem dX9_compile_73 : decode cX9_compile 73 = .ok (.putfield 32, 3) := by decide +kernel
theorem dX9_compile_76 : decode cX9_compile 76 = .ok (.aload_n 0, 1) := by decide +kernel
theorem dX9_compile_77 : decode cX9_compile 77 = .ok (.getfield 52, 3) := by decide +kernel
theorem dX9_compile_80 : decode cX9_compile 80 = .ok (.aload_n 0, 1) := by decide +kernel
theorem dX9_compile_81 : decode cX9_compile 81 = .ok (.getfield 28, 3) := by decide +kernel
theorem dX9_compile_84 : decode cX9_compile 84 = .ok (.iload_n 1, 1) := by decide +kernel
theorem dX9_compile_85 : decode cX9_compile 85 = .ok (.invokevirtual 143, 3) := by decide +kernel
theorem dX9_compile_88 : decode cX9_compile 88 = .ok (.aload_n 0, 1) := by decide +kernel
theorem dX9_compile_89 : decode cX9_compile 89 = .ok (.getfield 56, 3) := by decide +kernel
theorem dX9_compile_92 : decode cX9_compile 92 = .ok (.invokevirtual 133, 3) := by decide +kernel
theorem dX9_compile_95 : decode cX9_compile 95 = .ok (.aload_n 0, 1) := by decide +kernel
theorem dX9_compile_96 : decode cX9_compile 96 = .ok (.getfield 68, 3) := by decide +kernel
theorem dX9_compile_99 : decode cX9_compile 99 = .ok (.bipush (-9), 2) := by decide +kernel
theorem dX9_compile_101 : decode cX9_compile 101 = .ok (.putfield 147, 3) := by decide +kernel
theorem dX9_compile_104 : decode cX9_compile 104 = .ok (.aload_n 0, 1) := by decide +kernel
theorem dX9_compile_105 : decode cX9_compile 105 = .ok (.getfield 72, 3) := by decide +kernel
theorem dX9_compile_108 : decode cX9_compile 108 = .ok (.bipush (-9), 2) := by decide +kernel
theorem dX9_compile_110 : decode cX9_compile 110 = .ok (.putfield 147, 3) := by decide +kernel
theorem dX9_compile_113 : decode cX9_compile 113 = .ok (.aload_n 0, 1) := by decide +kernel
theorem dX9_compile_114 : decode cX9_compile 114 = .ok (.getfield 28, 3) := by decide +kernel
theorem dX9_compile_117 : decode cX9_compile 117 = .ok (.getfield 150, 3) := by decide +kernel
theorem dX9_compile_120 : decode cX9_compile 120 = .ok (.getfield 118, 3) := by decide +kernel
theorem dX9_compile_123 : decode cX9_compile 123 = .ok (.ireturn, 1) := by decide +kernel
set_option maxHeartbeats 8000000 in
set_option maxRecDepth 100000 in
theorem a_X_compile (l : Launch) (D : va_G) (g : Nat → ClassId) (k9 v9 : Nat → Nat) (fo : Nat)   (sz : Nat) (h : Nat) (ai : Nat → Int32) (xa : Nat → Nat) (sh : Nat) (vh : Nat) (coh : Nat) (wh : Nat) (kh : Nat) (mh : Nat) (la : Nat → Nat) (ea : Nat → Nat) (ua : Nat → Nat) (c1h : Nat) (c2h : Nat) (c3h : Nat) (c4h : Nat) (ph : Nat) (qh : Nat) (xr : Nat → Nat) (xf : Nat → Nat → Int32) (si : Nat → Int32) (ta : Nat → Nat) (tr : Nat → Nat) (tf_ : Nat → Nat → Int32) (va : Nat → Nat) (vi : Nat → Int32) (vr : Nat → Nat) (vf : Nat → Nat → Int32) (vph : Nat) (ca : Nat → Nat) (ci : Nat → Int32) (cr : Nat → Nat) (cf : Nat → Nat → Int32) (da : Nat → Nat) (cph : Nat) (dr : Nat → Nat) (df : Nat → Nat → Int32) (pa : Nat → Nat) (pr : Nat → Nat) (pf : Nat → Nat → Int32) (qa : Nat → Nat) (qr : Nat → Nat) (qf : Nat → Nat → Int32) (lr : Nat → Nat) (lf : Nat → Nat → Int32) (c1a : Nat → Nat) (c1i : Nat → Int32) (c1r : Nat → Nat) (c1f : Nat → Nat → Int32) (c2a : Nat → Nat) (c2i : Nat → Int32) (c2r : Nat → Nat) (c2f : Nat → Nat → Int32) (n1 : Int32) (hw_x : ∀ k, xr k ≤ txW_lim k) (hw_t : ∀ k, tr k ≤ tkW_lim k) (hw_v : ∀ k, vr k ≤ rdW_lim k) (hw_c : ∀ k, cr k ≤ coW_lim k) (hw_d : ∀ k, dr k ≤ cdW_lim k) (hw_p : ∀ k, pr k ≤ pgW_lim k) (hw_q : ∀ k, qr k ≤ pgW_lim k) (hw_l : ∀ k, lr k ≤ (plW_lim 30) k) (hw_c1 : ∀ k, c1r k ≤ rcW_lim k) (hw_c2 : ∀ k, c2r k ≤ rcW_lim k) (hmx_l : 30 ≤ 30) (hz_n1 : n1 = 0 ∨ n1 = 1) : vy_Mi l D (tyG g) yX9_compile cX9_compile 3 232 7519 0 0 .int [.ref h, .int n1] sz (vz_w [maW h ai (xa 0) sh vh coh wh kh mh (la 0) (ea 0) (ua 0) c1h c2h c3h c4h ph qh, txW g xa xr xf, scW sh si (ta 0), tkW g ta tr tf_, rdW g vh va vi vr vf (ta 0) vph, coW g coh ca ci cr cf (da 0) (da 2) cph, cdW g da dr df, pgW g ph pa pr pf, pgW g qh qa qr qf, plW g la lr lf 30, rcW g c1h c1a c1i c1r c1f, rcW g c2h c2a c2i c2r c2f]) k9 v9 fo (fun r (u : (Nat → Int32) × Nat × Nat × (Nat → Nat) × (Nat → Int32) × (Nat → Nat) × (Nat → Nat → Int32) × (Nat → Int32) × (Nat → Nat) × (Nat → Nat → Int32) × Nat × (Nat → Int32) × (Nat → Nat) × (Nat → Nat → Int32) × Nat × (Nat → Nat) × (Nat → Nat → Int32) × (Nat → Nat) × (Nat → Nat → Int32) × (Nat → Nat) × (Nat → Int32) × (Nat → Int32)) => (∀ k, u.2.2.2.1 k ≤ txW_lim k) ∧ (∀ k, u.2.2.2.2.2.1 k ≤ tkW_lim k) ∧ (∀ k, u.2.2.2.2.2.2.2.2.1 k ≤ rdW_lim k) ∧ (∀ k, u.2.2.2.2.2.2.2.2.2.2.2.2.1 k ≤ coW_lim k) ∧ (∀ k, u.2.2.2.2.2.2.2.2.2.2.2.2.2.2.2.1 k ≤ cdW_lim k) ∧ (∀ k, u.2.2.2.2.2.2.2.2.2.2.2.2.2.2.2.2.2.1 k ≤ pgW_lim k) ∧ (∀ k, u.2.2.2.2.2.2.2.2.2.2.2.2.2.2.2.2.2.2.2.1 k ≤ (plW_lim 30) k) ∧ ((u.2.1 = ph ∧ u.2.2.1 = qh) ∨ (u.2.1 = qh ∧ u.2.2.1 = ph))) (fun u => vz_w [maW h u.1 (xa 0) sh vh coh wh kh mh (la 0) (ea 0) (ua 0) c1h c2h c3h c4h u.2.1 u.2.2.1, txW g xa u.2.2.2.1 xf, scW sh u.2.2.2.2.1 (ta 0), tkW g ta u.2.2.2.2.2.1 u.2.2.2.2.2.2.1, rdW g vh va u.2.2.2.2.2.2.2.1 u.2.2.2.2.2.2.2.2.1 u.2.2.2.2.2.2.2.2.2.1 (ta 0) u.2.2.2.2.2.2.2.2.2.2.1, coW g coh ca u.2.2.2.2.2.2.2.2.2.2.2.1 u.2.2.2.2.2.2.2.2.2.2.2.2.1 u.2.2.2.2.2.2.2.2.2.2.2.2.2.1 (da 0) (da 2) u.2.2.2.2.2.2.2.2.2.2.2.2.2.2.1, cdW g da u.2.2.2.2.2.2.2.2.2.2.2.2.2.2.2.1 u.2.2.2.2.2.2.2.2.2.2.2.2.2.2.2.2.1, pgW g ph pa pr pf, pgW g qh qa u.2.2.2.2.2.2.2.2.2.2.2.2.2.2.2.2.2.1 u.2.2.2.2.2.2.2.2.2.2.2.2.2.2.2.2.2.2.1, plW g la u.2.2.2.2.2.2.2.2.2.2.2.2.2.2.2.2.2.2.2.1 lf 30, rcW g c1h c1a u.2.2.2.2.2.2.2.2.2.2.2.2.2.2.2.2.2.2.2.2.1 c1r c1f, rcW g c2h c2a u.2.2.2.2.2.2.2.2.2.2.2.2.2.2.2.2.2.2.2.2.2 c2r c2f]) := by
  refine vy_siQ (by decide) (Nat.le_of_ble_eq_true rfl) (fun p e s m args below meth c hx hb hr hml hts hown hlk hin hK hsz A hA hz H locs hP hD hS ls hl Q hQ => ?_)
  have hl : lv_has ls 3 [(0, .ref h), (1, .int n1)] := hl
  refine lv_aload_n hx hb dX9_compile_0 rfl (lv_at hl 0 rfl) ?_
  refine va_get (D := D) (ci := 9) (v := .ref sh) (C := RX9) (T := TX9) (N := 17) hx hb hts inlX9 hown hK hP 0 rfl rfl 1 (by decide) (hts _ q20) (fun _ h => h) rfl dX9_compile_1 ?_
  refine lv_aload_n hx hb dX9_compile_4 rfl (lv_at hl 0 rfl) ?_
  refine va_get (D := D) (ci := 9) (v := .ref (xa 0)) (C := RX9) (T := TX9) (N := 17) hx hb hts inlX9 hown hK hP 0 rfl rfl 0 (by decide) (hts _ q16) (fun _ h => h) rfl dX9_compile_5 ?_
  refine vy_Vv4 (n9 := 12) (bs2 := fun u : (Nat → Int32) × (Nat → Nat) × (Nat → Nat → Int32) => [maW h ai (xa 0) sh vh coh wh kh mh (la 0) (ea 0) (ua 0) c1h c2h c3h c4h ph qh, txW g xa xr xf, scW sh u.1 (ta 0), tkW g ta u.2.1 u.2.2, rdW g vh va vi vr vf (ta 0) vph, coW g coh ca ci cr cf (da 0) (da 2) cph, cdW g da dr df, pgW g ph pa pr pf, pgW g qh qa qr qf, plW g la lr lf 30, rcW g c1h c1a c1i c1r c1f, rcW g c2h c2a c2i c2r c2f]) (br := [maW h ai (xa 0) sh vh coh wh kh mh (la 0) (ea 0) (ua 0) c1h c2h c3h c4h ph qh, rdW g vh va vi vr vf (ta 0) vph, coW g coh ca ci cr cf (da 0) (da 2) cph, cdW g da dr df, pgW g ph pa pr pf, pgW g qh qa qr qf, plW g la lr lf 30, rcW g c1h c1a c1i c1r c1f, rcW g c2h c2a c2i c2r c2f]) (As := [.ref (xa 0)]) (rest := []) hx hb hml hown hts hK hA hP hD hS hz (a_S_scan l D g k9 v9 fo H.size sh si ta tr tf_ xa xr xf hw_t hw_x) kv_X9_129 ⟨Nat.le_of_ble_eq_true rfl, Nat.le_of_ble_eq_true rfl⟩ (q0 := 3) (ci := 5) rfl rfl rfl [2, 3, 1] [0, 4, 5, 6, 7, 8, 9, 10, 11] rfl (by decide) rfl (fun _ => rfl) (fun _ => rfl) hl.1 (Nat.le_of_ble_eq_true rfl) dX9_compile_8 ⟨Nat.le_refl _, Nat.le_refl _⟩ rfl (fun ⟨si_1, tr_2, tf_3⟩ H locs hw_4 _ hP hD hS => ?_)
  try dsimp only at hw_4
  replace hP : va_P D vwCl (vz_w [maW h ai (xa 0) sh vh coh wh kh mh (la 0) (ea 0) (ua 0) c1h c2h c3h c4h ph qh, txW g xa xr xf, scW sh si_1 (ta 0), tkW g ta tr_2 tf_3, rdW g vh va vi vr vf (ta 0) vph, coW g coh ca ci cr cf (da 0) (da 2) cph, cdW g da dr df, pgW g ph pa pr pf, pgW g qh qa qr qf, plW g la lr lf 30, rcW g c1h c1a c1i c1r c1f, rcW g c2h c2a c2i c2r c2f]) H := hP
  replace hD : va_D A (vz_w [maW h ai (xa 0) sh vh coh wh kh mh (la 0) (ea 0) (ua 0) c1h c2h c3h c4h ph qh, txW g xa xr xf, scW sh si_1 (ta 0), tkW g ta tr_2 tf_3, rdW g vh va vi vr vf (ta 0) vph, coW g coh ca ci cr cf (da 0) (da 2) cph, cdW g da dr df, pgW g ph pa pr pf, pgW g qh qa qr qf, plW g la lr lf 30, rcW g c1h c1a c1i c1r c1f, rcW g c2h c2a c2i c2r c2f]) := hD
  refine lv_aload_n hx hb dX9_compile_11 rfl (lv_at hl 0 rfl) ?_
  refine va_get (D := D) (ci := 9) (v := .ref (xa 0)) (C := RX9) (T := TX9) (N := 17) hx hb hts inlX9 hown hK hP 0 rfl rfl 0 (by decide) (hts _ q16) (fun _ h => h) rfl dX9_compile_12 ?_
  refine vz_Vv2 (ws' := fun u : Unit => vz_w [maW h ai (xa 0) sh vh coh wh kh mh (la 0) (ea 0) (ua 0) c1h c2h c3h c4h ph qh, txW g xa (vz_un xr 0 0) xf, scW sh si_1 (ta 0), tkW g ta tr_2 tf_3, rdW g vh va vi vr vf (ta 0) vph, coW g coh ca ci cr cf (da 0) (da 2) cph, cdW g da dr df, pgW g ph pa pr pf, pgW g qh qa qr qf, plW g la lr lf 30, rcW g c1h c1a c1i c1r c1f, rcW g c2h c2a c2i c2r c2f]) (As := []) (rest := []) hx hb hml hown hts hK hA hP hD hS (c_T_reset l D g (xa 0) (xa 1) H.size (nI 1) (nI 1000) (nI (xr 0))) kv_X9_133 ⟨Nat.le_of_ble_eq_true rfl, Nat.le_of_ble_eq_true rfl⟩ (q0 := 1) (ci := 6) rfl rfl rfl [1] rfl (by decide) (fun _ => rfl) (fun _ => rfl) hl.1 (Nat.le_of_ble_eq_true rfl) dX9_compile_15 ⟨Nat.le_refl _, Nat.le_refl _⟩ rfl (fun _ H locs _ _ hP hD hS => ?_)
  obtain ⟨xr_5, hw_xr_5, hP, hD⟩ : ∃ xr_5 : Nat → Nat, (∀ k, xr_5 k ≤ txW_lim k) ∧ va_P D vwCl (vz_w [maW h ai (xa 0) sh vh coh wh kh mh (la 0) (ea 0) (ua 0) c1h c2h c3h c4h ph qh, txW g xa xr_5 xf, scW sh si_1 (ta 0), tkW g ta tr_2 tf_3, rdW g vh va vi vr vf (ta 0) vph, coW g coh ca ci cr cf (da 0) (da 2) cph, cdW g da dr df, pgW g ph pa pr pf, pgW g qh qa qr qf, plW g la lr lf 30, rcW g c1h c1a c1i c1r c1f, rcW g c2h c2a c2i c2r c2f]) H ∧ va_D A (vz_w [maW h ai (xa 0) sh vh coh wh kh mh (la 0) (ea 0) (ua 0) c1h c2h c3h c4h ph qh, txW g xa xr_5 xf, scW sh si_1 (ta 0), tkW g ta tr_2 tf_3, rdW g vh va vi vr vf (ta 0) vph, coW g coh ca ci cr cf (da 0) (da 2) cph, cdW g da dr df, pgW g ph pa pr pf, pgW g qh qa qr qf, plW g la lr lf 30, rcW g c1h c1a c1i c1r c1f, rcW g c2h c2a c2i c2r c2f]) := ⟨(vz_un xr 0 0), (vz_wf hw_x (t := 0) (v := 0) (Nat.zero_le _)), hP, hD⟩
  refine lv_aload_n hx hb dX9_compile_18 rfl (lv_at hl 0 rfl) ?_
  refine va_get (D := D) (ci := 9) (v := .ref vh) (C := RX9) (T := TX9) (N := 17) hx hb hts inlX9 hown hK hP 0 rfl rfl 2 (by decide) (hts _ q30) (fun _ h => h) rfl dX9_compile_19 ?_
  refine lv_aload_n hx hb dX9_compile_22 rfl (lv_at hl 0 rfl) ?_
  refine va_get (D := D) (ci := 9) (v := .ref qh) (C := RX9) (T := TX9) (N := 17) hx hb hts inlX9 hown hK hP 0 rfl rfl 15 (by decide) (hts _ q25) (fun _ h => h) rfl dX9_compile_23 ?_
  refine vz_Vv4 (n9 := 12) (bs2 := fun u : (Nat → Int32) × (Nat → Nat) × (Nat → Nat → Int32) × (Nat → Nat) × (Nat → Nat → Int32) => [maW h ai (xa 0) sh vh coh wh kh mh (la 0) (ea 0) (ua 0) c1h c2h c3h c4h ph qh, txW g xa xr_5 xf, scW sh si_1 (ta 0), tkW g ta tr_2 tf_3, rdW g vh va u.1 u.2.1 u.2.2.1 (ta 0) qh, coW g coh ca ci cr cf (da 0) (da 2) cph, cdW g da dr df, pgW g ph pa pr pf, pgW g qh qa u.2.2.2.1 u.2.2.2.2, plW g la lr lf 30, rcW g c1h c1a c1i c1r c1f, rcW g c2h c2a c2i c2r c2f]) (br := [maW h ai (xa 0) sh vh coh wh kh mh (la 0) (ea 0) (ua 0) c1h c2h c3h c4h ph qh, txW g xa xr_5 xf, scW sh si_1 (ta 0), coW g coh ca ci cr cf (da 0) (da 2) cph, cdW g da dr df, pgW g ph pa pr pf, plW g la lr lf 30, rcW g c1h c1a c1i c1r c1f, rcW g c2h c2a c2i c2r c2f]) (As := [.ref qh]) (rest := []) hx hb hml hown hts hK hA hP hD hS (a_D_read l D g H.size vh va vi vr vf ta vph tr_2 tf_3 qh qa qr qf hw_v hw_4 hw_q) kv_X9_136 ⟨Nat.le_of_ble_eq_true rfl, Nat.le_of_ble_eq_true rfl⟩ (q0 := 6) (ci := 3) rfl rfl rfl [4, 3, 8] [0, 1, 2, 5, 6, 7, 9, 10, 11] rfl (by decide) rfl (fun _ => rfl) (fun _ => rfl) hl.1 (Nat.le_of_ble_eq_true rfl) dX9_compile_26 ⟨Nat.le_refl _, Nat.le_refl _⟩ rfl (fun ⟨vi_6, vr_7, vf_8, qr_9, qf_10⟩ H locs ⟨hw_11, hw_12⟩ _ hP hD hS => ?_)
  try dsimp only at hw_11 hw_12
  replace hP : va_P D vwCl (vz_w [maW h ai (xa 0) sh vh coh wh kh mh (la 0) (ea 0) (ua 0) c1h c2h c3h c4h ph qh, txW g xa xr_5 xf, scW sh si_1 (ta 0), tkW g ta tr_2 tf_3, rdW g vh va vi_6 vr_7 vf_8 (ta 0) qh, coW g coh ca ci cr cf (da 0) (da 2) cph, cdW g da dr df, pgW g ph pa pr pf, pgW g qh qa qr_9 qf_10, plW g la lr lf 30, rcW g c1h c1a c1i c1r c1f, rcW g c2h c2a c2i c2r c2f]) H := hP
  replace hD : va_D A (vz_w [maW h ai (xa 0) sh vh coh wh kh mh (la 0) (ea 0) (ua 0) c1h c2h c3h c4h ph qh, txW g xa xr_5 xf, scW sh si_1 (ta 0), tkW g ta tr_2 tf_3, rdW g vh va vi_6 vr_7 vf_8 (ta 0) qh, coW g coh ca ci cr cf (da 0) (da 2) cph, cdW g da dr df, pgW g ph pa pr pf, pgW g qh qa qr_9 qf_10, plW g la lr lf 30, rcW g c1h c1a c1i c1r c1f, rcW g c2h c2a c2i c2r c2f]) := hD
  refine lv_aload_n hx hb dX9_compile_29 rfl (lv_at hl 0 rfl) ?_
  refine lv_aload_n hx hb dX9_compile_30 rfl (lv_at hl 0 rfl) ?_
  refine va_get (D := D) (ci := 9) (v := .ref vh) (C := RX9) (T := TX9) (N := 17) hx hb hts inlX9 hown hK hP 0 rfl rfl 2 (by decide) (hts _ q30) (fun _ h => h) rfl dX9_compile_31 ?_
  refine va_get (D := D) (ci := 3) (v := .int (vi_6 5)) (C := RX3) (T := TX3) (N := 12) hx hb hts inlX3 hown hK hP 6 rfl rfl 10 (by decide) (hts _ q280) (fun _ h => h) rfl dX9_compile_34 ?_
  refine va_put (D := D) (ci := 9) (v := .int (vi_6 5)) (ty := .int) (C := RX9) (T := TX9) (N := 17) hx hb hts inlX9 tyX9 tyX9_ok nmX9 hown hK hP hD hS 0 rfl rfl 16 (by decide) (hts _ q59) (fun _ h => h) rfl (by decide +kernel) rfl rfl (Nat.le_of_ble_eq_true rfl) dX9_compile_37 (fun H locs hP hD hS => ?_)
  obtain ⟨ai_13, hai_13, hP, hD⟩ : ∃ ai_13 : Nat → Int32, (ai_13 = (upd ai 0 (vi_6 5))) ∧ va_P D vwCl (vz_w [maW h ai_13 (xa 0) sh vh coh wh kh mh (la 0) (ea 0) (ua 0) c1h c2h c3h c4h ph qh, txW g xa xr_5 xf, scW sh si_1 (ta 0), tkW g ta tr_2 tf_3, rdW g vh va vi_6 vr_7 vf_8 (ta 0) qh, coW g coh ca ci cr cf (da 0) (da 2) cph, cdW g da dr df, pgW g ph pa pr pf, pgW g qh qa qr_9 qf_10, plW g la lr lf 30, rcW g c1h c1a c1i c1r c1f, rcW g c2h c2a c2i c2r c2f]) H ∧ va_D A (vz_w [maW h ai_13 (xa 0) sh vh coh wh kh mh (la 0) (ea 0) (ua 0) c1h c2h c3h c4h ph qh, txW g xa xr_5 xf, scW sh si_1 (ta 0), tkW g ta tr_2 tf_3, rdW g vh va vi_6 vr_7 vf_8 (ta 0) qh, coW g coh ca ci cr cf (da 0) (da 2) cph, cdW g da dr df, pgW g ph pa pr pf, pgW g qh qa qr_9 qf_10, plW g la lr lf 30, rcW g c1h c1a c1i c1r c1f, rcW g c2h c2a c2i c2r c2f]) := ⟨(upd ai 0 (vi_6 5)), rfl, hP, hD⟩
  refine lv_aload_n hx hb dX9_compile_40 rfl (lv_at hl 0 rfl) ?_
  refine va_get (D := D) (ci := 9) (v := .int (ai_13 0)) (C := RX9) (T := TX9) (N := 17) hx hb hts inlX9 hown hK hP 0 rfl rfl 16 (by decide) (hts _ q59) (fun _ h => h) rfl dX9_compile_41 ?_
  refine lv_if_eq (tgt := 58) hx hb dX9_compile_44 (by decide) (fun kc14 => ?_) (fun kc14 => ?_)
  · refine lv_aload_n hx hb dX9_compile_58 rfl (lv_at hl 0 rfl) ?_
    refine va_get (D := D) (ci := 9) (v := .ref ph) (C := RX9) (T := TX9) (N := 17) hx hb hts inlX9 hown hK hP 0 rfl rfl 14 (by decide) (hts _ q24) (fun _ h => h) rfl dX9_compile_59 ?_
    refine lv_astore_n (lv' := [(2, .ref ph), (0, .ref h), (1, .int n1)]) hx hb dX9_compile_62 rfl hl (by decide) rfl (fun ls hl => ?_)
    refine lv_aload_n hx hb dX9_compile_63 rfl (lv_at hl 1 rfl) ?_
    refine lv_aload_n hx hb dX9_compile_64 rfl (lv_at hl 1 rfl) ?_
    refine va_get (D := D) (ci := 9) (v := .ref qh) (C := RX9) (T := TX9) (N := 17) hx hb hts inlX9 hown hK hP 0 rfl rfl 15 (by decide) (hts _ q25) (fun _ h => h) rfl dX9_compile_65 ?_
    refine va_put (D := D) (ci := 9) (v := .ref qh) (ty := .object "WaysAtlas$Program") (C := RX9) (T := TX9) (N := 17) hx hb hts inlX9 tyX9 tyX9_ok nmX9 hown hK hP hD hS 0 rfl rfl 14 (by decide) (hts _ q24) (fun _ h => h) rfl (by decide +kernel) rfl rfl (Nat.le_of_ble_eq_true rfl) dX9_compile_68 (fun H locs hP hD hS => ?_)
    replace hP : va_P D vwCl (vz_w [maW h ai_13 (xa 0) sh vh coh wh kh mh (la 0) (ea 0) (ua 0) c1h c2h c3h c4h qh qh, txW g xa xr_5 xf, scW sh si_1 (ta 0), tkW g ta tr_2 tf_3, rdW g vh va vi_6 vr_7 vf_8 (ta 0) qh, coW g coh ca ci cr cf (da 0) (da 2) cph, cdW g da dr df, pgW g ph pa pr pf, pgW g qh qa qr_9 qf_10, plW g la lr lf 30, rcW g c1h c1a c1i c1r c1f, rcW g c2h c2a c2i c2r c2f]) H := hP
    replace hD : va_D A (vz_w [maW h ai_13 (xa 0) sh vh coh wh kh mh (la 0) (ea 0) (ua 0) c1h c2h c3h c4h qh qh, txW g xa xr_5 xf, scW sh si_1 (ta 0), tkW g ta tr_2 tf_3, rdW g vh va vi_6 vr_7 vf_8 (ta 0) qh, coW g coh ca ci cr cf (da 0) (da 2) cph, cdW g da dr df, pgW g ph pa pr pf, pgW g qh qa qr_9 qf_10, plW g la lr lf 30, rcW g c1h c1a c1i c1r c1f, rcW g c2h c2a c2i c2r c2f]) := hD
    refine lv_aload_n hx hb dX9_compile_71 rfl (lv_at hl 1 rfl) ?_
    refine lv_aload_n hx hb dX9_compile_72 rfl (lv_at hl 0 rfl) ?_
    refine va_put (D := D) (ci := 9) (v := .ref ph) (ty := .object "WaysAtlas$Program") (C := RX9) (T := TX9) (N := 17) hx hb hts inlX9 tyX9 tyX9_ok nmX9 hown hK hP hD hS 0 rfl rfl 15 (by decide) (hts _ q25) (fun _ h => h) rfl (by decide +kernel) rfl rfl (Nat.le_of_ble_eq_true rfl) dX9_compile_73 (fun H locs hP hD hS => ?_)
    replace hP : va_P D vwCl (vz_w [maW h ai_13 (xa 0) sh vh coh wh kh mh (la 0) (ea 0) (ua 0) c1h c2h c3h c4h qh ph, txW g xa xr_5 xf, scW sh si_1 (ta 0), tkW g ta tr_2 tf_3, rdW g vh va vi_6 vr_7 vf_8 (ta 0) qh, coW g coh ca ci cr cf (da 0) (da 2) cph, cdW g da dr df, pgW g ph pa pr pf, pgW g qh qa qr_9 qf_10, plW g la lr lf 30, rcW g c1h c1a c1i c1r c1f, rcW g c2h c2a c2i c2r c2f]) H := hP
    replace hD : va_D A (vz_w [maW h ai_13 (xa 0) sh vh coh wh kh mh (la 0) (ea 0) (ua 0) c1h c2h c3h c4h qh ph, txW g xa xr_5 xf, scW sh si_1 (ta 0), tkW g ta tr_2 tf_3, rdW g vh va vi_6 vr_7 vf_8 (ta 0) qh, coW g coh ca ci cr cf (da 0) (da 2) cph, cdW g da dr df, pgW g ph pa pr pf, pgW g qh qa qr_9 qf_10, plW g la lr lf 30, rcW g c1h c1a c1i c1r c1f, rcW g c2h c2a c2i c2r c2f]) := hD
    refine lv_aload_n hx hb dX9_compile_76 rfl (lv_at hl 1 rfl) ?_
    refine va_get (D := D) (ci := 9) (v := .ref coh) (C := RX9) (T := TX9) (N := 17) hx hb hts inlX9 hown hK hP 0 rfl rfl 3 (by decide) (hts _ q34) (fun _ h => h) rfl dX9_compile_77 ?_
    refine lv_aload_n hx hb dX9_compile_80 rfl (lv_at hl 1 rfl) ?_
    refine va_get (D := D) (ci := 9) (v := .ref qh) (C := RX9) (T := TX9) (N := 17) hx hb hts inlX9 hown hK hP 0 rfl rfl 14 (by decide) (hts _ q24) (fun _ h => h) rfl dX9_compile_81 ?_
    refine lv_iload_n hx hb dX9_compile_84 rfl (lv_at hl 2 rfl) ?_
    refine vz_Vv4 (n9 := 12) (bs2 := fun u : (Nat → Int32) × (Nat → Nat) × (Nat → Nat → Int32) × (Nat → Nat) × (Nat → Nat → Int32) × (Nat → Nat → Int32) => [maW h ai_13 (xa 0) sh vh coh wh kh mh (la 0) (ea 0) (ua 0) c1h c2h c3h c4h qh ph, txW g xa xr_5 xf, scW sh si_1 (ta 0), tkW g ta tr_2 tf_3, rdW g vh va vi_6 vr_7 vf_8 (ta 0) qh, coW g coh ca u.1 u.2.1 u.2.2.1 (da 0) (da 2) qh, cdW g da u.2.2.2.1 u.2.2.2.2.1, pgW g ph pa pr pf, pgW g qh qa qr_9 u.2.2.2.2.2, plW g la lr lf 30, rcW g c1h c1a c1i c1r c1f, rcW g c2h c2a c2i c2r c2f]) (br := [maW h ai_13 (xa 0) sh vh coh wh kh mh (la 0) (ea 0) (ua 0) c1h c2h c3h c4h qh ph, txW g xa xr_5 xf, scW sh si_1 (ta 0), tkW g ta tr_2 tf_3, rdW g vh va vi_6 vr_7 vf_8 (ta 0) qh, pgW g ph pa pr pf, plW g la lr lf 30, rcW g c1h c1a c1i c1r c1f, rcW g c2h c2a c2i c2r c2f]) (As := [.ref qh, .int n1]) (rest := []) hx hb hml hown hts hK hA hP hD hS (a_C_translate l D g H.size coh ca ci cr cf da cph dr df qh qa qr_9 qf_10 n1 hw_c hw_d hw_12 hz_n1) kv_X9_143 ⟨Nat.le_of_ble_eq_true rfl, Nat.le_of_ble_eq_true rfl⟩ (q0 := 13) (ci := 0) rfl rfl rfl [5, 6, 8] [0, 1, 2, 3, 4, 7, 9, 10, 11] rfl (by decide) rfl (fun _ => rfl) (fun _ => rfl) hl.1 (Nat.le_of_ble_eq_true rfl) dX9_compile_85 ⟨Nat.le_refl _, Nat.le_refl _⟩ rfl (fun ⟨ci_15, cr_16, cf_17, dr_18, df_19, qf_20⟩ H locs ⟨hw_21, hw_22⟩ _ hP hD hS => ?_)
    try dsimp only at hw_21 hw_22
    replace hP : va_P D vwCl (vz_w [maW h ai_13 (xa 0) sh vh coh wh kh mh (la 0) (ea 0) (ua 0) c1h c2h c3h c4h qh ph, txW g xa xr_5 xf, scW sh si_1 (ta 0), tkW g ta tr_2 tf_3, rdW g vh va vi_6 vr_7 vf_8 (ta 0) qh, coW g coh ca ci_15 cr_16 cf_17 (da 0) (da 2) qh, cdW g da dr_18 df_19, pgW g ph pa pr pf, pgW g qh qa qr_9 qf_20, plW g la lr lf 30, rcW g c1h c1a c1i c1r c1f, rcW g c2h c2a c2i c2r c2f]) H := hP
    replace hD : va_D A (vz_w [maW h ai_13 (xa 0) sh vh coh wh kh mh (la 0) (ea 0) (ua 0) c1h c2h c3h c4h qh ph, txW g xa xr_5 xf, scW sh si_1 (ta 0), tkW g ta tr_2 tf_3, rdW g vh va vi_6 vr_7 vf_8 (ta 0) qh, coW g coh ca ci_15 cr_16 cf_17 (da 0) (da 2) qh, cdW g da dr_18 df_19, pgW g ph pa pr pf, pgW g qh qa qr_9 qf_20, plW g la lr lf 30, rcW g c1h c1a c1i c1r c1f, rcW g c2h c2a c2i c2r c2f]) := hD
    refine lv_aload_n hx hb dX9_compile_88 rfl (lv_at hl 1 rfl) ?_
    refine va_get (D := D) (ci := 9) (v := .ref (la 0)) (C := RX9) (T := TX9) (N := 17) hx hb hts inlX9 hown hK hP 0 rfl rfl 7 (by decide) (hts _ q35) (fun _ h => h) rfl dX9_compile_89 ?_
    refine vz_Vv2 (ws' := fun u : Unit => vz_w [maW h ai_13 (xa 0) sh vh coh wh kh mh (la 0) (ea 0) (ua 0) c1h c2h c3h c4h qh ph, txW g xa xr_5 xf, scW sh si_1 (ta 0), tkW g ta tr_2 tf_3, rdW g vh va vi_6 vr_7 vf_8 (ta 0) qh, coW g coh ca ci_15 cr_16 cf_17 (da 0) (da 2) qh, cdW g da dr_18 df_19, pgW g ph pa pr pf, pgW g qh qa qr_9 qf_20, plW g la (vz_un lr 0 0) lf 30, rcW g c1h c1a c1i c1r c1f, rcW g c2h c2a c2i c2r c2f]) (As := []) (rest := []) hx hb hml hown hts hK hA hP hD hS (c_T_reset l D g (la 0) (la 1) H.size (nI 4) (nI 30) (nI (lr 0))) kv_X9_133 ⟨Nat.le_of_ble_eq_true rfl, Nat.le_of_ble_eq_true rfl⟩ (q0 := 42) (ci := 6) rfl rfl rfl [42] rfl (by decide) (fun _ => rfl) (fun _ => rfl) hl.1 (Nat.le_of_ble_eq_true rfl) dX9_compile_92 ⟨Nat.le_refl _, Nat.le_refl _⟩ rfl (fun _ H locs _ _ hP hD hS => ?_)
    obtain ⟨lr_23, hw_lr_23, hP, hD⟩ : ∃ lr_23 : Nat → Nat, (∀ k, lr_23 k ≤ (plW_lim 30) k) ∧ va_P D vwCl (vz_w [maW h ai_13 (xa 0) sh vh coh wh kh mh (la 0) (ea 0) (ua 0) c1h c2h c3h c4h qh ph, txW g xa xr_5 xf, scW sh si_1 (ta 0), tkW g ta tr_2 tf_3, rdW g vh va vi_6 vr_7 vf_8 (ta 0) qh, coW g coh ca ci_15 cr_16 cf_17 (da 0) (da 2) qh, cdW g da dr_18 df_19, pgW g ph pa pr pf, pgW g qh qa qr_9 qf_20, plW g la lr_23 lf 30, rcW g c1h c1a c1i c1r c1f, rcW g c2h c2a c2i c2r c2f]) H ∧ va_D A (vz_w [maW h ai_13 (xa 0) sh vh coh wh kh mh (la 0) (ea 0) (ua 0) c1h c2h c3h c4h qh ph, txW g xa xr_5 xf, scW sh si_1 (ta 0), tkW g ta tr_2 tf_3, rdW g vh va vi_6 vr_7 vf_8 (ta 0) qh, coW g coh ca ci_15 cr_16 cf_17 (da 0) (da 2) qh, cdW g da dr_18 df_19, pgW g ph pa pr pf, pgW g qh qa qr_9 qf_20, plW g la lr_23 lf 30, rcW g c1h c1a c1i c1r c1f, rcW g c2h c2a c2i c2r c2f]) := ⟨(vz_un lr 0 0), (vz_wf hw_l (t := 0) (v := 0) (Nat.zero_le _)), hP, hD⟩
    refine lv_aload_n hx hb dX9_compile_95 rfl (lv_at hl 1 rfl) ?_
    refine va_get (D := D) (ci := 9) (v := .ref c1h) (C := RX9) (T := TX9) (N := 17) hx hb hts inlX9 hown hK hP 0 rfl rfl 10 (by decide) (hts _ q41) (fun _ h => h) rfl dX9_compile_96 ?_
    refine lv_bipush (v := (-9)) hx hb dX9_compile_99 (by decide) ?_
    refine va_put (D := D) (ci := 4) (v := .int (-9)) (ty := .int) (C := RX4) (T := TX4) (N := 12) hx hb hts inlX4 tyX4 tyX4_ok nmX4 hown hK hP hD hS 44 rfl rfl 5 (by decide) (hts _ q282) (fun _ h => h) rfl (by decide +kernel) rfl rfl (Nat.le_of_ble_eq_true rfl) dX9_compile_101 (fun H locs hP hD hS => ?_)
    obtain ⟨c1i_24, hc1i_24, hP, hD⟩ : ∃ c1i_24 : Nat → Int32, (c1i_24 = (upd c1i 0 (-9))) ∧ va_P D vwCl (vz_w [maW h ai_13 (xa 0) sh vh coh wh kh mh (la 0) (ea 0) (ua 0) c1h c2h c3h c4h qh ph, txW g xa xr_5 xf, scW sh si_1 (ta 0), tkW g ta tr_2 tf_3, rdW g vh va vi_6 vr_7 vf_8 (ta 0) qh, coW g coh ca ci_15 cr_16 cf_17 (da 0) (da 2) qh, cdW g da dr_18 df_19, pgW g ph pa pr pf, pgW g qh qa qr_9 qf_20, plW g la lr_23 lf 30, rcW g c1h c1a c1i_24 c1r c1f, rcW g c2h c2a c2i c2r c2f]) H ∧ va_D A (vz_w [maW h ai_13 (xa 0) sh vh coh wh kh mh (la 0) (ea 0) (ua 0) c1h c2h c3h c4h qh ph, txW g xa xr_5 xf, scW sh si_1 (ta 0), tkW g ta tr_2 tf_3, rdW g vh va vi_6 vr_7 vf_8 (ta 0) qh, coW g coh ca ci_15 cr_16 cf_17 (da 0) (da 2) qh, cdW g da dr_18 df_19, pgW g ph pa pr pf, pgW g qh qa qr_9 qf_20, plW g la lr_23 lf 30, rcW g c1h c1a c1i_24 c1r c1f, rcW g c2h c2a c2i c2r c2f]) := ⟨(upd c1i 0 (-9)), rfl, hP, hD⟩
    refine lv_aload_n hx hb dX9_compile_104 rfl (lv_at hl 1 rfl) ?_
    refine va_get (D := D) (ci := 9) (v := .ref c2h) (C := RX9) (T := TX9) (N := 17) hx hb hts inlX9 hown hK hP 0 rfl rfl 11 (by decide) (hts _ q42) (fun _ h => h) rfl dX9_compile_105 ?_
    refine lv_bipush (v := (-9)) hx hb dX9_compile_108 (by decide) ?_
    refine va_put (D := D) (ci := 4) (v := .int (-9)) (ty := .int) (C := RX4) (T := TX4) (N := 12) hx hb hts inlX4 tyX4 tyX4_ok nmX4 hown hK hP hD hS 55 rfl rfl 5 (by decide) (hts _ q282) (fun _ h => h) rfl (by decide +kernel) rfl rfl (Nat.le_of_ble_eq_true rfl) dX9_compile_110 (fun H locs hP hD hS => ?_)
    obtain ⟨c2i_25, hc2i_25, hP, hD⟩ : ∃ c2i_25 : Nat → Int32, (c2i_25 = (upd c2i 0 (-9))) ∧ va_P D vwCl (vz_w [maW h ai_13 (xa 0) sh vh coh wh kh mh (la 0) (ea 0) (ua 0) c1h c2h c3h c4h qh ph, txW g xa xr_5 xf, scW sh si_1 (ta 0), tkW g ta tr_2 tf_3, rdW g vh va vi_6 vr_7 vf_8 (ta 0) qh, coW g coh ca ci_15 cr_16 cf_17 (da 0) (da 2) qh, cdW g da dr_18 df_19, pgW g ph pa pr pf, pgW g qh qa qr_9 qf_20, plW g la lr_23 lf 30, rcW g c1h c1a c1i_24 c1r c1f, rcW g c2h c2a c2i_25 c2r c2f]) H ∧ va_D A (vz_w [maW h ai_13 (xa 0) sh vh coh wh kh mh (la 0) (ea 0) (ua 0) c1h c2h c3h c4h qh ph, txW g xa xr_5 xf, scW sh si_1 (ta 0), tkW g ta tr_2 tf_3, rdW g vh va vi_6 vr_7 vf_8 (ta 0) qh, coW g coh ca ci_15 cr_16 cf_17 (da 0) (da 2) qh, cdW g da dr_18 df_19, pgW g ph pa pr pf, pgW g qh qa qr_9 qf_20, plW g la lr_23 lf 30, rcW g c1h c1a c1i_24 c1r c1f, rcW g c2h c2a c2i_25 c2r c2f]) := ⟨(upd c2i 0 (-9)), rfl, hP, hD⟩
    refine lv_aload_n hx hb dX9_compile_113 rfl (lv_at hl 1 rfl) ?_
    refine va_get (D := D) (ci := 9) (v := .ref qh) (C := RX9) (T := TX9) (N := 17) hx hb hts inlX9 hown hK hP 0 rfl rfl 14 (by decide) (hts _ q24) (fun _ h => h) rfl dX9_compile_114 ?_
    refine va_get (D := D) (ci := 2) (v := .ref (qa 0)) (C := RX2) (T := TX2) (N := 5) hx hb hts inlX2 hown hK hP 31 rfl rfl 0 (by decide) (hts _ q283) (fun _ h => h) rfl dX9_compile_117 ?_
    refine va_get (D := D) (ci := 6) (v := .int (nI (qr_9 0))) (C := RX6) (T := TX6) (N := 4) hx hb hts inlX6 hown hK hP 32 rfl rfl 3 (by decide) (hts _ q259) (fun _ h => h) rfl dX9_compile_120 ?_
    rw [hQ]
    exact vz_iret3 hx hb hr hlk hK hP hD hS (ai_13, qh, ph, xr_5, si_1, tr_2, tf_3, vi_6, vr_7, vf_8, qh, ci_15, cr_16, cf_17, qh, dr_18, df_19, qr_9, qf_20, lr_23, c1i_24, c2i_25) (⟨hw_xr_5, hw_4, hw_11, hw_21, hw_22, hw_12, hw_lr_23, (Or.inr ⟨rfl, rfl⟩)⟩) rfl (Nat.le_refl 0) (Nat.le_refl 0) dX9_compile_123
  · refine lv_bipush (v := (-100)) hx hb dX9_compile_47 (by decide) ?_
    refine lv_aload_n hx hb dX9_compile_49 rfl (lv_at hl 0 rfl) ?_
    refine va_get (D := D) (ci := 9) (v := .ref vh) (C := RX9) (T := TX9) (N := 17) hx hb hts inlX9 hown hK hP 0 rfl rfl 2 (by decide) (hts _ q30) (fun _ h => h) rfl dX9_compile_50 ?_
    refine va_get (D := D) (ci := 3) (v := .int (vi_6 6)) (C := RX3) (T := TX3) (N := 12) hx hb hts inlX3 hown hK hP 6 rfl rfl 11 (by decide) (hts _ q281) (fun _ h => h) rfl dX9_compile_53 ?_
    refine lv_isub hx hb dX9_compile_56 ?_
    rw [hQ]
    exact vz_iret3 hx hb hr hlk hK hP hD hS (ai_13, ph, qh, xr_5, si_1, tr_2, tf_3, vi_6, vr_7, vf_8, qh, ci, cr, cf, cph, dr, df, qr_9, qf_10, lr, c1i, c2i) (⟨hw_xr_5, hw_4, hw_11, hw_c, hw_d, hw_12, hw_l, (Or.inl ⟨rfl, rfl⟩)⟩) rfl (Nat.le_refl 0) (Nat.le_refl 0) dX9_compile_57
