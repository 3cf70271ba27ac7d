/-! A small layer over the kit: all methods' contracts rest on one list of words (wsL_law), worlds are lists of cells, int/byte/long/boolean arrays have one class each (g 0 .. g 3). -/
abbrev vz_T : Type := List (ClassId × FieldType)
abbrev tyG (g : Nat → ClassId) : vz_T := [(g 0, .int), (g 1, .byte), (g 2, .long), (g 3, .boolean)]
/-- a Table, and the array of its cells -/
abbrev tT (h q : Nat) (w m r : Int32) : Nat × va_E := (h, .inr (6, [.ref q, .int w, .int m, .int r]))
abbrev tA (g : Nat → ClassId) (q n : Nat) (f : Nat → Int32) : Nat × va_E := (q, .inl (g 0, n, .inl f))
def vz_B (D : va_G) (T : vz_T) (A : Nat → Prop) (ws : va_W) (t : State) : Prop := va_P D vwCl ws t.heap ∧ va_K D vwCl T t ∧ va_D A ws
def vz_S (D : va_G) (T : vz_T) (sz : Nat) (ws : va_W) (U : State) : Prop := U.heap.size = sz ∧ va_P D vwCl ws U.heap ∧ va_K D vwCl T U ∧ va_D (fun _ => True) ws
def vz_Mi {S : Type} (l : Launch) (D : va_G) (T : vz_T) (y : MethodName) (b : ByteArray) (n f L mc ms : Nat) (ty : FieldType) (av : List Value) (sz : Nat) (ws : va_W) (post : Int32 → S → Prop) (w1 : S → va_W) : Prop :=
  Met l y (.code y b n (some ty) :: wsL_law) { frames := f, cells := mc, slots := ms, locals := L } (va_Pc av (vz_S D T sz ws)) (va_Qi post (fun u => vz_B D T (va_A ws sz) (w1 u)) (va_A ws sz)) mc ms (va_A ws sz)
def vz_Mv {S : Type} (l : Launch) (D : va_G) (T : vz_T) (y : MethodName) (b : ByteArray) (n f L mc ms : Nat) (av : List Value) (sz : Nat) (ws : va_W) (post : S → Prop) (w1 : S → va_W) : Prop :=
  Met l y (.code y b n none :: wsL_law) { frames := f, cells := mc, slots := ms, locals := L } (va_Pc av (vz_S D T sz ws)) (va_Qv post (fun u => vz_B D T (va_A ws sz) (w1 u)) (va_A ws sz)) mc ms (va_A ws sz)
def vz_Mr {S : Type} (l : Launch) (D : va_G) (T : vz_T) (y : MethodName) (b : ByteArray) (n f L mc ms : Nat) (ty : FieldType) (av : List Value) (sz : Nat) (ws : va_W) (ra : S → Nat) (w1 : S → va_W) : Prop :=
  Met l y (.code y b n (some ty) :: wsL_law) { frames := f, cells := mc, slots := ms, locals := L } (va_Pc av (vz_S D T sz ws)) (va_Qr (fun _ : S => True) (fun u a t => a = ra u ∧ vz_B D T (va_A ws sz) (w1 u) t) (va_A ws sz)) mc ms (va_A ws sz)
theorem vz_pickP {D : va_G} {cl : List vw_C} {ws wc : va_W} {H : Heap} (h : va_P D cl ws H) (is : List Nat) (hC : is.map (fun i => ws[i]?) = wc.map some) : va_P D cl wc H := by
  intro k q hk
  have h1 : (is.map (fun i => ws[i]?))[k]? = some (some q) := by rw [hC, List.getElem?_map, hk]; rfl
  rw [List.getElem?_map] at h1
  cases hi : is[k]? with
  | none => rw [hi] at h1; cases h1
  | some i => rw [hi] at h1; exact h i q (Option.some.inj h1)
def vz_ap (isC isR : List Nat) : Bool := va_nd isC && va_nd isR && isR.all (fun i => !isC.contains i)
theorem vz_ap_spec {isC isR : List Nat} (h : vz_ap isC isR = true) : va_nd isC = true ∧ va_nd isR = true ∧ ∀ i ∈ isR, i ∉ isC := by
  simp only [vz_ap, Bool.and_eq_true] at h
  refine ⟨h.1.1, h.1.2, fun i hi hc => ?_⟩
  have h1 := List.all_eq_true.mp h.2 i hi
  simp at h1
  exact h1 hc
theorem vp_in_c {i : Int32} {n : Nat} (h : (0 ≤ i.toInt ∧ i.toInt < n)) : vp_in i n := vp_in_iff.mpr h
/-- what a call of a virtual method, a static one, a constructor wants of the words -/
def vz_cv (own : String) (index : Nat) (y : MethodName) (b : ByteArray) (n : Nat) (ret : Option FieldType) (k : Nat) : Prop := Cond.methodLink own index y ∈ wsL_law ∧ Cond.instanceMethod y ∈ wsL_law ∧ Cond.selects y.cls y y ∈ wsL_law ∧ Cond.initialized y.cls ∈ wsL_law ∧ Cond.code y b n ret ∈ wsL_law ∧ (y.cls ≠ "java/lang/invoke/MethodHandle" ∧ y.cls ≠ "java/lang/invoke/VarHandle" ∧ (parseMethodDescriptor y.desc).map (fun d => d.parameters.length) = some k)
def vz_cs (own : String) (index : Nat) (y : MethodName) (b : ByteArray) (n : Nat) (ret : Option FieldType) (k : Nat) : Prop := Cond.methodLink own index y ∈ wsL_law ∧ Cond.static y ∈ wsL_law ∧ Cond.initialized own ∈ wsL_law ∧ Cond.code y b n ret ∈ wsL_law ∧ (y.cls = own ∧ y.cls ≠ "java/lang/invoke/MethodHandle" ∧ y.cls ≠ "java/lang/invoke/VarHandle" ∧ (parseMethodDescriptor y.desc).map (fun d => d.parameters.length) = some k)
def vz_ci (own : String) (index : Nat) (y : MethodName) (b : ByteArray) (n : Nat) (k : Nat) : Prop := Cond.methodLink own index y ∈ wsL_law ∧ Cond.instanceMethod y ∈ wsL_law ∧ Cond.initialized y.cls ∈ wsL_law ∧ Cond.code y b n none ∈ wsL_law ∧ (y.name = "<init>" ∧ y.cls ≠ "java/lang/invoke/MethodHandle" ∧ y.cls ≠ "java/lang/invoke/VarHandle" ∧ (parseMethodDescriptor y.desc).map (fun d => d.parameters.length) = some k)
theorem vz_gd {ws : List Cond} (h : ∀ w ∈ ws, w ∈ wsL_law) : GoodIn wsL_law ws := fun w hw => ⟨h w hw, (gdL w (h w hw)).2⟩
theorem vz_gcode {y : MethodName} {b : ByteArray} {n : Nat} {ret : Option FieldType} (h : Cond.code y b n ret ∈ wsL_law) : GoodIn wsL_law (.code y b n ret :: wsL_law) := vz_gd fun w hw => by
  rcases List.mem_cons.mp hw with rfl | hw
  · exact h
  · exact hw
theorem vz_gv {own : String} {index : Nat} {y : MethodName} {b : ByteArray} {n : Nat} {ret : Option FieldType} {k : Nat} (h : vz_cv own index y b n ret k) : GoodIn wsL_law (wsV own index y.cls y (.code y b n ret :: wsL_law)) := by
  obtain ⟨h1, h2, h3, h4, h5, -⟩ := h
  refine vz_gd fun w hw => ?_
  rcases List.mem_append.mp hw with hw | hw
  · simp only [List.mem_cons, List.not_mem_nil, or_false] at hw
    rcases hw with rfl | rfl | rfl | rfl
    · exact h1
    · exact h2
    · exact h3
    · exact h4
  · exact (vz_gcode h5 w hw).1
theorem vz_gs {own : String} {index : Nat} {y : MethodName} {b : ByteArray} {n : Nat} {ret : Option FieldType} {k : Nat} (h : vz_cs own index y b n ret k) : GoodIn wsL_law (wsS own index y (.code y b n ret :: wsL_law)) := by
  obtain ⟨h1, h2, h3, h5, -⟩ := h
  refine vz_gd fun w hw => ?_
  rcases List.mem_append.mp hw with hw | hw
  · simp only [List.mem_cons, List.not_mem_nil, or_false] at hw
    rcases hw with rfl | rfl | rfl
    · exact h1
    · exact h2
    · exact h3
  · exact (vz_gcode h5 w hw).1
theorem vz_blind {D : va_G} {T : vz_T} {sz : Nat} {ws : va_W} {av : List Value} : FrameBlind (va_Pc av (vz_S D T sz ws)) := fun a U g mk q => by
  obtain ⟨q0, q1, qP, qK, qD⟩ := q
  exact ⟨q0, q1, qP, va_K.moved (u := U) (U := U.calling g mk a) (Vm.Alike.refl U.vm) qK, qD⟩
theorem vz_pre {D : va_G} {T : vz_T} {s : State} {H : Heap} {ws : va_W} {A : Nat → Prop} (hP : va_P D vwCl ws H) (hK : va_K D vwCl T s) (hD : va_D A ws) (av : List Value) : ∀ U : State, U.heap = H → s.WarmedH U.vm → va_Pc av (vz_S D T H.size ws) av.toArray U := fun U hU hW => ⟨rfl, by rw [hU], by rw [hU]; exact hP, va_K.moved hW.alike hK, hD.weaken (fun _ _ _ _ => trivial)⟩
section VZ
variable {p : Program} {l : Launch} {e : Env} {R : Room} {s : State} {m : MethodId} {args : Array Value} {below : List Frame} {meth : Method} {c : Code} {H : Heap} {locs : List Loc} {cells slots : Nat} {Q : State → Prop}
variable {cc b' : ByteArray} {pc nL n' f L mc ms index : Nat} {ls : Array Slot} {As rest st0 : List Value} {D : va_G} {A : Nat → Prop} {b : Nat} {T : vz_T} {ws wc wr : va_W} {own : String} {y : MethodName} {ty : FieldType} {S : Type} {H0 : Heap}
theorem vz_Vi {post : Int32 → S → Prop} {w1 : S → va_W} (hx : p.tables.exec = Jvm.exec) (hb : c.code = cc) (hml : c.maxLocals = nL) (hown : s.vm.findClass own = some m.cls) (hts : ∀ w ∈ wsL_law, w.before args s = true) (hK : va_K D vwCl T s) (hA : ∀ q : Nat, H0.size ≤ q → A q) (hP : va_P D vwCl ws H) (hD : va_D A ws) (hS : va_S A H0 H locs)
    (hM : vz_Mi l D T y b' n' f L mc ms ty (.ref b :: As) H.size wc post w1) (hc : vz_cv own index y b' n' (some ty) As.length) (hR : f + 1 ≤ R.frames ∧ 8 + (n' + 11) + L ≤ R.locals)
    {q0 ci : Nat} {fs : List Value} {q : vw_C} (he : ws[q0]? = some (b, .inr (ci, fs))) (hq : vwCl[ci]? = some q) (hqc : q.1 = y.cls) (isC isR : List Nat) (hC : isC.map (fun i => ws[i]?) = wc.map some) (hRr : isR.map (fun i => ws[i]?) = wr.map some) (hap : vz_ap isC isR = true)
    (hls : ls.size = nL) (hroom : (rest.map fun v => v.category).sum ≤ 8) (hdg : decode cc pc = .ok (.invokevirtual index, 3)) (hf : cells + mc ≤ R.cells ∧ slots + ms ≤ R.slots) (hst : st0 = As.reverse ++ .ref b :: rest)
    (kk : ∀ (r : Int32) (u : S) (H1 : Heap) (locs1 : List Loc), post r u → H.size ≤ H1.size → va_P D vwCl (wr ++ w1 u) H1 → va_D A (wr ++ w1 u) → va_S A H0 H1 locs1 → W p l e R s m args below meth c H1 locs1 (cells + mc) (slots + ms) Q (F0 m (pc + 3) ls (.int r :: rest))) : W p l e R s m args below meth c H locs cells slots Q (F0 m pc ls st0) := by
  obtain ⟨n1, n2, n3⟩ := vz_ap_spec hap
  have hPc := vz_pickP hP isC hC
  have hDc := hD.sub isC n1 hC
  have hFc := va_free (wc := wc) hD hS hA isC hC
  refine va_calli (va_runV (As := As) (rest := rest) ⟨hx, hb, hml, hown, hts⟩ hM (cwV As.length hts (vz_gv hc) rfl rfl rfl ⟨rfl, hc.2.2.2.2.2⟩ hR) ⟨vz_blind, by rw [← hqc]; exact va_recv hK hP hq he, vz_pre hPc hK hDc _⟩ rfl rfl hls hst (lv_room hroom) hdg hf) hS (fun q _ h => hFc q h) hFc (fun r u t H1 locs1 ht hvm hw hB hz1 hk1 hS1 => ?_)
  obtain ⟨hP1, hK1, hD1⟩ := hB
  rw [ht] at hP1
  obtain ⟨hP2, hD2⟩ := va_join hP hD isC isR hC hRr n2 n3 hk1 hFc hP1 hD1
  exact kk r u H1 locs1 hw hz1 hP2 hD2 hS1
theorem vz_Vv {post : S → Prop} {w1 : S → va_W} (hx : p.tables.exec = Jvm.exec) (hb : c.code = cc) (hml : c.maxLocals = nL) (hown : s.vm.findClass own = some m.cls) (hts : ∀ w ∈ wsL_law, w.before args s = true) (hK : va_K D vwCl T s) (hA : ∀ q : Nat, H0.size ≤ q → A q) (hP : va_P D vwCl ws H) (hD : va_D A ws) (hS : va_S A H0 H locs)
    (hM : vz_Mv l D T y b' n' f L mc ms (.ref b :: As) H.size wc post w1) (hc : vz_cv own index y b' n' none As.length) (hR : f + 1 ≤ R.frames ∧ 8 + (n' + 11) + L ≤ R.locals)
    {q0 ci : Nat} {fs : List Value} {q : vw_C} (he : ws[q0]? = some (b, .inr (ci, fs))) (hq : vwCl[ci]? = some q) (hqc : q.1 = y.cls) (isC isR : List Nat) (hC : isC.map (fun i => ws[i]?) = wc.map some) (hRr : isR.map (fun i => ws[i]?) = wr.map some) (hap : vz_ap isC isR = true)
    (hls : ls.size = nL) (hroom : (rest.map fun v => v.category).sum ≤ 8) (hdg : decode cc pc = .ok (.invokevirtual index, 3)) (hf : cells + mc ≤ R.cells ∧ slots + ms ≤ R.slots) (hst : st0 = As.reverse ++ .ref b :: rest)
    (kk : ∀ (u : S) (H1 : Heap) (locs1 : List Loc), post u → H.size ≤ H1.size → va_P D vwCl (wr ++ w1 u) H1 → va_D A (wr ++ w1 u) → va_S A H0 H1 locs1 → W p l e R s m args below meth c H1 locs1 (cells + mc) (slots + ms) Q (F0 m (pc + 3) ls rest)) : W p l e R s m args below meth c H locs cells slots Q (F0 m pc ls st0) := by
  obtain ⟨n1, n2, n3⟩ := vz_ap_spec hap
  have hPc := vz_pickP hP isC hC
  have hDc := hD.sub isC n1 hC
  have hFc := va_free (wc := wc) hD hS hA isC hC
  refine va_callv (va_runV (As := As) (rest := rest) ⟨hx, hb, hml, hown, hts⟩ hM (cwV As.length hts (vz_gv hc) rfl rfl rfl ⟨rfl, hc.2.2.2.2.2⟩ hR) ⟨vz_blind, by rw [← hqc]; exact va_recv hK hP hq he, vz_pre hPc hK hDc _⟩ rfl rfl hls hst (lv_room hroom) hdg hf) hS (fun q _ h => hFc q h) hFc (fun u t H1 locs1 ht hvm hw hB hz1 hk1 hS1 => ?_)
  obtain ⟨hP1, hK1, hD1⟩ := hB
  rw [ht] at hP1
  obtain ⟨hP2, hD2⟩ := va_join hP hD isC isR hC hRr n2 n3 hk1 hFc hP1 hD1
  exact kk u H1 locs1 hw hz1 hP2 hD2 hS1
theorem vz_Vr {ra : S → Nat} {w1 : S → va_W} (hx : p.tables.exec = Jvm.exec) (hb : c.code = cc) (hml : c.maxLocals = nL) (hown : s.vm.findClass own = some m.cls) (hts : ∀ w ∈ wsL_law, w.before args s = true) (hK : va_K D vwCl T s) (hA : ∀ q : Nat, H0.size ≤ q → A q) (hP : va_P D vwCl ws H) (hD : va_D A ws) (hS : va_S A H0 H locs)
    (hM : vz_Mr l D T y b' n' f L mc ms ty (.ref b :: As) H.size wc ra w1) (hc : vz_cv own index y b' n' (some ty) As.length) (hR : f + 1 ≤ R.frames ∧ 8 + (n' + 11) + L ≤ R.locals)
    {q0 ci : Nat} {fs : List Value} {q : vw_C} (he : ws[q0]? = some (b, .inr (ci, fs))) (hq : vwCl[ci]? = some q) (hqc : q.1 = y.cls) (isC isR : List Nat) (hC : isC.map (fun i => ws[i]?) = wc.map some) (hRr : isR.map (fun i => ws[i]?) = wr.map some) (hap : vz_ap isC isR = true)
    (hls : ls.size = nL) (hroom : (rest.map fun v => v.category).sum ≤ 8) (hdg : decode cc pc = .ok (.invokevirtual index, 3)) (hf : cells + mc ≤ R.cells ∧ slots + ms ≤ R.slots) (hst : st0 = As.reverse ++ .ref b :: rest)
    (kk : ∀ (u : S) (a : Nat) (H1 : Heap) (locs1 : List Loc), a = ra u → H.size ≤ H1.size → va_P D vwCl (wr ++ w1 u) H1 → va_D A (wr ++ w1 u) → va_S A H0 H1 locs1 → W p l e R s m args below meth c H1 locs1 (cells + mc) (slots + ms) Q (F0 m (pc + 3) ls (.ref a :: rest))) : W p l e R s m args below meth c H locs cells slots Q (F0 m pc ls st0) := by
  obtain ⟨n1, n2, n3⟩ := vz_ap_spec hap
  have hPc := vz_pickP hP isC hC
  have hDc := hD.sub isC n1 hC
  have hFc := va_free (wc := wc) hD hS hA isC hC
  refine va_callr (va_runV (As := As) (rest := rest) ⟨hx, hb, hml, hown, hts⟩ hM (cwV As.length hts (vz_gv hc) rfl rfl rfl ⟨rfl, hc.2.2.2.2.2⟩ hR) ⟨vz_blind, by rw [← hqc]; exact va_recv hK hP hq he, vz_pre hPc hK hDc _⟩ rfl rfl hls hst (lv_room hroom) hdg hf) hS (fun q _ h => hFc q h) hFc (fun u a t H1 locs1 ht hvm hw hB hz1 hk1 hS1 => ?_)
  obtain ⟨ha, hP1, hK1, hD1⟩ := hB
  rw [ht] at hP1
  obtain ⟨hP2, hD2⟩ := va_join hP hD isC isR hC hRr n2 n3 hk1 hFc hP1 hD1
  exact kk u a H1 locs1 ha hz1 hP2 hD2 hS1
theorem vz_Iv {post : S → Prop} {w1 : S → va_W} (hx : p.tables.exec = Jvm.exec) (hb : c.code = cc) (hml : c.maxLocals = nL) (hown : s.vm.findClass own = some m.cls) (hts : ∀ w ∈ wsL_law, w.before args s = true) (hK : va_K D vwCl T s) (hA : ∀ q : Nat, H0.size ≤ q → A q) (hP : va_P D vwCl ws H) (hD : va_D A ws) (hS : va_S A H0 H locs)
    (hM : vz_Mv l D T y b' n' f L mc ms (.ref b :: As) H.size wc post w1) (hc : vz_ci own index y b' n' As.length) (hR : f + 1 ≤ R.frames ∧ 8 + (n' + 11) + L ≤ R.locals)
    (isC isR : List Nat) (hC : isC.map (fun i => ws[i]?) = wc.map some) (hRr : isR.map (fun i => ws[i]?) = wr.map some) (hap : vz_ap isC isR = true)
    (hls : ls.size = nL) (hroom : (rest.map fun v => v.category).sum ≤ 8) (hdg : decode cc pc = .ok (.invokespecial index, 3)) (hf : cells + mc ≤ R.cells ∧ slots + ms ≤ R.slots) (hst : st0 = As.reverse ++ .ref b :: rest)
    (kk : ∀ (u : S) (H1 : Heap) (locs1 : List Loc), post u → H.size ≤ H1.size → va_P D vwCl (wr ++ w1 u) H1 → va_D A (wr ++ w1 u) → va_S A H0 H1 locs1 → W p l e R s m args below meth c H1 locs1 (cells + mc) (slots + ms) Q (F0 m (pc + 3) ls rest)) : W p l e R s m args below meth c H locs cells slots Q (F0 m pc ls st0) := by
  obtain ⟨n1, n2, n3⟩ := vz_ap_spec hap
  have hPc := vz_pickP hP isC hC
  have hDc := hD.sub isC n1 hC
  have hFc := va_free (wc := wc) hD hS hA isC hC
  obtain ⟨c1, c2, c3, c4, c5, c6⟩ := hc
  refine va_callv (va_runI (As := As) (rest := rest) ⟨hx, hb, hml, hown, hts⟩ hM (cwI As.length hts (vz_gcode c4) rfl rfl rfl (hts _ c3) (hts _ c1) (hts _ c2) c5 c6 hR) ⟨vz_blind, vz_pre hPc hK hDc _⟩ rfl rfl hls hst (lv_room hroom) hdg hf) hS (fun q _ h => hFc q h) hFc (fun u t H1 locs1 ht hvm hw hB hz1 hk1 hS1 => ?_)
  obtain ⟨hP1, hK1, hD1⟩ := hB
  rw [ht] at hP1
  obtain ⟨hP2, hD2⟩ := va_join hP hD isC isR hC hRr n2 n3 hk1 hFc hP1 hD1
  exact kk u H1 locs1 hw hz1 hP2 hD2 hS1
theorem vz_Si {post : Int32 → S → Prop} {w1 : S → va_W} (hx : p.tables.exec = Jvm.exec) (hb : c.code = cc) (hml : c.maxLocals = nL) (hown : s.vm.findClass own = some m.cls) (hts : ∀ w ∈ wsL_law, w.before args s = true) (hK : va_K D vwCl T s) (hA : ∀ q : Nat, H0.size ≤ q → A q) (hP : va_P D vwCl ws H) (hD : va_D A ws) (hS : va_S A H0 H locs)
    (hM : vz_Mi l D T y b' n' f L mc ms ty As H.size wc post w1) (hc : vz_cs own index y b' n' (some ty) As.length) (hR : f + 1 ≤ R.frames ∧ 8 + (n' + 11) + L ≤ R.locals)
    (isC isR : List Nat) (hC : isC.map (fun i => ws[i]?) = wc.map some) (hRr : isR.map (fun i => ws[i]?) = wr.map some) (hap : vz_ap isC isR = true)
    (hls : ls.size = nL) (hroom : (rest.map fun v => v.category).sum ≤ 8) (hdg : decode cc pc = .ok (.invokestatic index, 3)) (hf : cells + mc ≤ R.cells ∧ slots + ms ≤ R.slots) (hst : st0 = As.reverse ++ rest)
    (kk : ∀ (r : Int32) (u : S) (H1 : Heap) (locs1 : List Loc), post r u → H.size ≤ H1.size → va_P D vwCl (wr ++ w1 u) H1 → va_D A (wr ++ w1 u) → va_S A H0 H1 locs1 → W p l e R s m args below meth c H1 locs1 (cells + mc) (slots + ms) Q (F0 m (pc + 3) ls (.int r :: rest))) : W p l e R s m args below meth c H locs cells slots Q (F0 m pc ls st0) := by
  obtain ⟨n1, n2, n3⟩ := vz_ap_spec hap
  have hPc := vz_pickP hP isC hC
  have hDc := hD.sub isC n1 hC
  have hFc := va_free (wc := wc) hD hS hA isC hC
  refine va_calli (va_runS (As := As) (rest := rest) ⟨hx, hb, hml, hown, hts⟩ hM (cwS As.length hts (vz_gs hc) rfl rfl rfl hc.2.2.2.2 hR) ⟨vz_blind, vz_pre hPc hK hDc _⟩ rfl rfl hls hst (lv_room hroom) hdg hf) hS (fun q _ h => hFc q h) hFc (fun r u t H1 locs1 ht hvm hw hB hz1 hk1 hS1 => ?_)
  obtain ⟨hP1, hK1, hD1⟩ := hB
  rw [ht] at hP1
  obtain ⟨hP2, hD2⟩ := va_join hP hD isC isR hC hRr n2 n3 hk1 hFc hP1 hD1
  exact kk r u H1 locs1 hw hz1 hP2 hD2 hS1
/-- a new array of numbers: its class is the one that the tables have -/
theorem vz_newa {tys : vz_T} {cl : List vw_C} (t0 : Nat) (hx : p.tables.exec = Jvm.exec) (hb : c.code = cc) {atype : ArrayType} {ty : FieldType} {cA : ClassId} (harr : (Cond.arrayClass (newarray.typeOf atype)).before args s = true) (hty : newarray.typeOf atype = ty) (ht : tys[t0]? = some (cA, ty)) (hra : ∀ (U : State) (x : ClassId), va_RA U x ty → U.vm.findClass ("[" ++ ty.toString) = some x) (hK : va_K D cl tys s) (hP : va_P D cl ws H) (hD : va_D A ws) (hS : va_S A H0 H locs) (hA : ∀ q, H0.size ≤ q → A q)
    {n : Int32} {N' : Nat} {a0 : vp_A} (ha : ∀ cA : ClassId, vp_cell cA a0 = arrV cA N' (fun _ => defaultValue ty)) (hn : ¬ n < 0) (hN : n.toNatClampNeg = N') (hbytes : N' * componentBytes ty ≤ 536870912) (hcells : cells + 1 ≤ R.cells) (hslots : slots + N' ≤ R.slots) (hdg : decode cc pc = .ok (.newarray atype, 2))
    (kk : ∀ (q : Nat) (H1 : Heap), va_P D cl (ws ++ [(q, .inl (cA, a0))]) H1 → va_D A (ws ++ [(q, .inl (cA, a0))]) → va_S A H0 H1 locs → W p l e R s m args below meth c H1 locs (cells + 1) (slots + N') Q (F0 m (pc + 2) ls (.ref q :: rest))) : W p l e R s m args below meth c H locs cells slots Q (F0 m pc ls (.int n :: rest)) := by
  refine va_newa hx hb harr hty hK hP hD hS hA ha hn hN hbytes hcells hslots hdg (fun q cA2 H1 hK2 hP2 hD2 hS2 => ?_)
  have e1 : (tys ++ [(cA2, ty)])[tys.length]? = some (cA2, ty) := by simp
  have h1 := hra s cA2 (hK2.2 _ _ e1).2
  have h2 := hra s cA (hK.2 _ _ ht).2
  have h3 : cA2 = cA := Option.some.inj (h1.symm.trans h2)
  subst h3
  exact kk q H1 hP2 hD2 hS2
theorem vz_iret {post : Int32 → S → Prop} {w1 : S → va_W} {v : Int32} (hx : p.tables.exec = Jvm.exec) (hb : c.code = cc) (hr : meth.sig.returnType = some .int) (hlk : meth.locks = false) (hK : va_K D vwCl T s) (hP : va_P D vwCl ws H) (hD : va_D A ws) (hS : va_S A s.heap H locs) (u : S) (hp : post v u) (is : List Nat) (hi : is.map (fun i => ws[i]?) = (w1 u).map some) (hn : va_nd is = true) (h1 : cells ≤ mc) (h2 : slots ≤ ms) (hdg : decode cc pc = .ok (.ireturn, 1)) :
    W p l e R s m args below meth c H locs cells slots (MQ below (va_Qi post (fun u => vz_B D T A (w1 u)) A) args s mc ms A) (F0 m pc ls [.int v]) :=
  W.widen h1 h2 (W.iret hx hb hr (fun t ht hW => ⟨⟨v, u, rfl, hp, by rw [ht]; exact vz_pickP hP is hi, va_K.moved hW.alike hK, hD.sub is hn hi⟩, hS.F ht⟩) hS.2.2 hdg hlk)
theorem vz_zret {post : Int32 → S → Prop} {w1 : S → va_W} {v : Int32} (hx : p.tables.exec = Jvm.exec) (hb : c.code = cc) (hr : meth.sig.returnType = some .boolean) (hlk : meth.locks = false) (hK : va_K D vwCl T s) (hP : va_P D vwCl ws H) (hD : va_D A ws) (hS : va_S A s.heap H locs) (u : S) (hp : post v u) (is : List Nat) (hi : is.map (fun i => ws[i]?) = (w1 u).map some) (hn : va_nd is = true) (h1 : cells ≤ mc) (h2 : slots ≤ ms) (hnr : narrow .boolean (.int v) = .int v) (hdg : decode cc pc = .ok (.ireturn, 1)) :
    W p l e R s m args below meth c H locs cells slots (MQ below (va_Qi post (fun u => vz_B D T A (w1 u)) A) args s mc ms A) (F0 m pc ls [.int v]) :=
  W.widen h1 h2 (W.zret hx hb hr hnr (fun t ht hW => ⟨⟨v, u, rfl, hp, by rw [ht]; exact vz_pickP hP is hi, va_K.moved hW.alike hK, hD.sub is hn hi⟩, hS.F ht⟩) hS.2.2 hdg hlk)
theorem vz_vret {post : S → Prop} {w1 : S → va_W} (hx : p.tables.exec = Jvm.exec) (hb : c.code = cc) (hr : meth.sig.returnType = none) (hlk : meth.locks = false) (hK : va_K D vwCl T s) (hP : va_P D vwCl ws H) (hD : va_D A ws) (hS : va_S A s.heap H locs) (u : S) (hp : post u) (is : List Nat) (hi : is.map (fun i => ws[i]?) = (w1 u).map some) (hn : va_nd is = true) (h1 : cells ≤ mc) (h2 : slots ≤ ms) (hdg : decode cc pc = .ok (.return_, 1)) :
    W p l e R s m args below meth c H locs cells slots (MQ below (va_Qv post (fun u => vz_B D T A (w1 u)) A) args s mc ms A) (F0 m pc ls []) :=
  W.widen h1 h2 (W.vret hx hb hr (fun t ht hW => ⟨⟨u, rfl, hp, by rw [ht]; exact vz_pickP hP is hi, va_K.moved hW.alike hK, hD.sub is hn hi⟩, hS.F ht⟩) hS.2.2 hdg hlk)
theorem vz_rret {ra : S → Nat} {w1 : S → va_W} {a : Nat} {rt : FieldType} (hx : p.tables.exec = Jvm.exec) (hb : c.code = cc) (hr : meth.sig.returnType = some rt) (hlk : meth.locks = false) (hK : va_K D vwCl T s) (hP : va_P D vwCl ws H) (hD : va_D A ws) (hS : va_S A s.heap H locs) (u : S) (hp : a = ra u) (is : List Nat) (hi : is.map (fun i => ws[i]?) = (w1 u).map some) (hn : va_nd is = true) (h1 : cells ≤ mc) (h2 : slots ≤ ms) (hty : ∃ n, rt = .object n) (hdg : decode cc pc = .ok (.areturn, 1)) :
    W p l e R s m args below meth c H locs cells slots (MQ below (va_Qr (fun _ : S => True) (fun u a t => a = ra u ∧ vz_B D T A (w1 u) t) A) args s mc ms A) (F0 m pc ls [.ref a]) :=
  W.widen h1 h2 (W.aret hx hb hr (Or.inl hty) (Or.inr ⟨a, rfl⟩) (fun t ht hW => ⟨⟨u, a, rfl, trivial, hp, by rw [ht]; exact vz_pickP hP is hi, va_K.moved hW.alike hK, hD.sub is hn hi⟩, hS.F ht⟩) hS.2.2 hdg hlk)
end VZ
theorem vz_si {S : Type} {l : Launch} {D : va_G} {T : vz_T} {y : MethodName} {b : ByteArray} {n f L mc ms : Nat} {ty : FieldType} {av : List Value} {sz : Nat} {ws : va_W} {post : Int32 → S → Prop} {w1 : S → va_W} (hy : plainName y.cls = true) (hn : (lg_sl av).length ≤ n)
    (body : ∀ (p : Program) (e : Env) (s : State) (m : MethodId) (args : Array Value) (below : List Frame) (meth : Method) (c : Code), p.tables.exec = Jvm.exec → c.code = b → meth.sig.returnType = some ty → c.maxLocals = n → (∀ w ∈ wsL_law, w.before args s = true) → s.vm.findClass y.cls = some m.cls → meth.locks = false → meth.name = y.name → va_K D vwCl T s → s.heap.size = sz → ∀ A : Nat → Prop, (∀ q : Nat, s.heap.size ≤ q → A q) → ∀ (H : Heap) (locs : List Loc), va_P D vwCl ws H → va_D A ws → va_S A s.heap H locs → ∀ ls : Array Slot, lv_has ls n (lv_args 0 av) →
      W p l e { frames := f, cells := mc, slots := ms, locals := L } s m args below meth c H locs 0 0 (MQ below (va_Qi post (fun u => vz_B D T A (w1 u)) A) args s mc ms A) (F0 m 0 ls [])) : vz_Mi l D T y b n f L mc ms ty av sz ws post w1 := by
  refine Met.ofW (cc := b) (maxL := n) (ret := some ty) hy rfl ?_
  intro p e s m args below meth c s₁ B hml hv
  obtain ⟨rfl, hsz, hP, hK, hD0⟩ := hv
  have hts0 := atoms_spec (ws := .code y b n (some ty) :: wsL_law) B.pre
  have hl := lv_entry av (n := n) hn
  rw [lg_entry_eq]
  have hD := hD0.self (sz := s.heap.size)
  subst hsz
  exact body p e s m _ below meth c B.exec B.bytes B.returns hml (fun w h => hts0 w (List.mem_cons_of_mem _ h)) (findClass_of_methodNamed B.named) B.notSynchronized (name_of_methodNamed B.named B.method).1 hK rfl _ (fun q h => Or.inr h) _ _ hP hD va_S.rf _ hl
theorem vz_sv {S : Type} {l : Launch} {D : va_G} {T : vz_T} {y : MethodName} {b : ByteArray} {n f L mc ms : Nat} {av : List Value} {sz : Nat} {ws : va_W} {post : S → Prop} {w1 : S → va_W} (hy : plainName y.cls = true) (hn : (lg_sl av).length ≤ n)
    (body : ∀ (p : Program) (e : Env) (s : State) (m : MethodId) (args : Array Value) (below : List Frame) (meth : Method) (c : Code), p.tables.exec = Jvm.exec → c.code = b → meth.sig.returnType = none → c.maxLocals = n → (∀ w ∈ wsL_law, w.before args s = true) → s.vm.findClass y.cls = some m.cls → meth.locks = false → meth.name = y.name → va_K D vwCl T s → s.heap.size = sz → ∀ A : Nat → Prop, (∀ q : Nat, s.heap.size ≤ q → A q) → ∀ (H : Heap) (locs : List Loc), va_P D vwCl ws H → va_D A ws → va_S A s.heap H locs → ∀ ls : Array Slot, lv_has ls n (lv_args 0 av) →
      W p l e { frames := f, cells := mc, slots := ms, locals := L } s m args below meth c H locs 0 0 (MQ below (va_Qv post (fun u => vz_B D T A (w1 u)) A) args s mc ms A) (F0 m 0 ls [])) : vz_Mv l D T y b n f L mc ms av sz ws post w1 := by
  refine Met.ofW (cc := b) (maxL := n) (ret := none) hy rfl ?_
  intro p e s m args below meth c s₁ B hml hv
  obtain ⟨rfl, hsz, hP, hK, hD0⟩ := hv
  have hts0 := atoms_spec (ws := .code y b n none :: wsL_law) B.pre
  have hl := lv_entry av (n := n) hn
  rw [lg_entry_eq]
  have hD := hD0.self (sz := s.heap.size)
  subst hsz
  exact body p e s m _ below meth c B.exec B.bytes B.returns hml (fun w h => hts0 w (List.mem_cons_of_mem _ h)) (findClass_of_methodNamed B.named) B.notSynchronized (name_of_methodNamed B.named B.method).1 hK rfl _ (fun q h => Or.inr h) _ _ hP hD va_S.rf _ hl
theorem vz_sr {S : Type} {l : Launch} {D : va_G} {T : vz_T} {y : MethodName} {b : ByteArray} {n f L mc ms : Nat} {ty : FieldType} {av : List Value} {sz : Nat} {ws : va_W} {ra : S → Nat} {w1 : S → va_W} (hy : plainName y.cls = true) (hn : (lg_sl av).length ≤ n)
    (body : ∀ (p : Program) (e : Env) (s : State) (m : MethodId) (args : Array Value) (below : List Frame) (meth : Method) (c : Code), p.tables.exec = Jvm.exec → c.code = b → meth.sig.returnType = some ty → c.maxLocals = n → (∀ w ∈ wsL_law, w.before args s = true) → s.vm.findClass y.cls = some m.cls → meth.locks = false → meth.name = y.name → va_K D vwCl T s → s.heap.size = sz → ∀ A : Nat → Prop, (∀ q : Nat, s.heap.size ≤ q → A q) → ∀ (H : Heap) (locs : List Loc), va_P D vwCl ws H → va_D A ws → va_S A s.heap H locs → ∀ ls : Array Slot, lv_has ls n (lv_args 0 av) →
      W p l e { frames := f, cells := mc, slots := ms, locals := L } s m args below meth c H locs 0 0 (MQ below (va_Qr (fun _ : S => True) (fun u a t => a = ra u ∧ vz_B D T A (w1 u) t) A) args s mc ms A) (F0 m 0 ls [])) : vz_Mr l D T y b n f L mc ms ty av sz ws ra w1 := by
  refine Met.ofW (cc := b) (maxL := n) (ret := some ty) hy rfl ?_
  intro p e s m args below meth c s₁ B hml hv
  obtain ⟨rfl, hsz, hP, hK, hD0⟩ := hv
  have hts0 := atoms_spec (ws := .code y b n (some ty) :: wsL_law) B.pre
  have hl := lv_entry av (n := n) hn
  rw [lg_entry_eq]
  have hD := hD0.self (sz := s.heap.size)
  subst hsz
  exact body p e s m _ below meth c B.exec B.bytes B.returns hml (fun w h => hts0 w (List.mem_cons_of_mem _ h)) (findClass_of_methodNamed B.named) B.notSynchronized (name_of_methodNamed B.named B.method).1 hK rfl _ (fun q h => Or.inr h) _ _ hP hD va_S.rf _ hl
