theorem vz_rg (ws : va_W) : (List.range ws.length).map (fun i => ws[i]?) = ws.map some := by
  refine List.ext_getElem? (fun k => ?_)
  rw [List.getElem?_map, List.getElem?_map]
  by_cases hk : k < ws.length
  · rw [List.getElem?_range hk, List.getElem?_eq_getElem hk]; simp [hk]
  · rw [List.getElem?_eq_none (by simpa using hk), List.getElem?_eq_none (by simpa using hk)]; rfl
theorem vz_ndn : ∀ is : List Nat, is.Nodup → va_nd is = true
  | [], _ => rfl
  | i :: is, h => by
    rw [List.nodup_cons] at h
    simp only [va_nd, Bool.and_eq_true, decide_eq_true_eq]
    exact ⟨h.1, vz_ndn is h.2⟩
theorem vz_rga (n : Nat) : vz_ap (List.range n) [] = true := by
  simp only [vz_ap, Bool.and_eq_true]
  exact ⟨⟨vz_ndn _ List.nodup_range, rfl⟩, rfl⟩
section VZ3
variable {p : Program} {l : Launch} {e : Env} {R : Room} {s : State} {m : MethodId} {args : Array Value} {below : List Frame} {meth : Method} {c : Code} {H : Heap} {locs : List Loc} {cells slots : Nat} {Q : State → Prop}
variable {cc b' : ByteArray} {pc nL n' f L mc ms index : Nat} {ls : Array Slot} {As rest st0 : List Value} {D : va_G} {A : Nat → Prop} {b : Nat} {T : vz_T} {ws wc wr : va_W} {own : String} {y : MethodName} {ty : FieldType} {S : Type} {H0 : Heap}
theorem vz_Vi3 {post : Int32 → S → Prop} {w1 : S → va_W} (hx : p.tables.exec = Jvm.exec) (hb : c.code = cc) (hml : c.maxLocals = nL) (hown : s.vm.findClass own = some m.cls) (hts : ∀ w ∈ wsL_law, w.before args s = true) (hK : va_K D vwCl T s) (hA : ∀ q : Nat, H0.size ≤ q → A q) (hP : va_P D vwCl ws H) (hD : va_D A ws) (hS : va_S A H0 H locs)
    (hM : vz_Mi l D T y b' n' f L mc ms ty (.ref b :: As) H.size ws post w1) (hc : vz_cv own index y b' n' (some ty) As.length) (hR : f + 1 ≤ R.frames ∧ 8 + (n' + 11) + L ≤ R.locals)
    {q0 ci : Nat} {fs : List Value} {q : vw_C} (he : ws[q0]? = some (b, .inr (ci, fs))) (hq : vwCl[ci]? = some q) (hqc : q.1 = y.cls)
    (hls : ls.size = nL) (hroom : (rest.map fun v => v.category).sum ≤ 8) (hdg : decode cc pc = .ok (.invokevirtual index, 3)) (hf : cells + mc ≤ R.cells ∧ slots + ms ≤ R.slots) (hst : st0 = As.reverse ++ .ref b :: rest)
    (kk : ∀ (r : Int32) (u : S) (H1 : Heap) (locs1 : List Loc), post r u → H.size ≤ H1.size → va_P D vwCl (w1 u) H1 → va_D A (w1 u) → va_S A H0 H1 locs1 → W p l e R s m args below meth c H1 locs1 (cells + mc) (slots + ms) Q (F0 m (pc + 3) ls (.int r :: rest))) : W p l e R s m args below meth c H locs cells slots Q (F0 m pc ls st0) := by
  exact vz_Vi (wr := []) hx hb hml hown hts hK hA hP hD hS hM hc hR he hq hqc (List.range ws.length) [] (vz_rg ws) rfl (vz_rga _) hls hroom hdg hf hst kk
theorem vz_Vv3 {post : S → Prop} {w1 : S → va_W} (hx : p.tables.exec = Jvm.exec) (hb : c.code = cc) (hml : c.maxLocals = nL) (hown : s.vm.findClass own = some m.cls) (hts : ∀ w ∈ wsL_law, w.before args s = true) (hK : va_K D vwCl T s) (hA : ∀ q : Nat, H0.size ≤ q → A q) (hP : va_P D vwCl ws H) (hD : va_D A ws) (hS : va_S A H0 H locs)
    (hM : vz_Mv l D T y b' n' f L mc ms (.ref b :: As) H.size ws post w1) (hc : vz_cv own index y b' n' none As.length) (hR : f + 1 ≤ R.frames ∧ 8 + (n' + 11) + L ≤ R.locals)
    {q0 ci : Nat} {fs : List Value} {q : vw_C} (he : ws[q0]? = some (b, .inr (ci, fs))) (hq : vwCl[ci]? = some q) (hqc : q.1 = y.cls)
    (hls : ls.size = nL) (hroom : (rest.map fun v => v.category).sum ≤ 8) (hdg : decode cc pc = .ok (.invokevirtual index, 3)) (hf : cells + mc ≤ R.cells ∧ slots + ms ≤ R.slots) (hst : st0 = As.reverse ++ .ref b :: rest)
    (kk : ∀ (u : S) (H1 : Heap) (locs1 : List Loc), post u → H.size ≤ H1.size → va_P D vwCl (w1 u) H1 → va_D A (w1 u) → va_S A H0 H1 locs1 → W p l e R s m args below meth c H1 locs1 (cells + mc) (slots + ms) Q (F0 m (pc + 3) ls rest)) : W p l e R s m args below meth c H locs cells slots Q (F0 m pc ls st0) := by
  exact vz_Vv (wr := []) hx hb hml hown hts hK hA hP hD hS hM hc hR he hq hqc (List.range ws.length) [] (vz_rg ws) rfl (vz_rga _) hls hroom hdg hf hst kk
theorem vz_Vr3 {ra : S → Nat} {w1 : S → va_W} (hx : p.tables.exec = Jvm.exec) (hb : c.code = cc) (hml : c.maxLocals = nL) (hown : s.vm.findClass own = some m.cls) (hts : ∀ w ∈ wsL_law, w.before args s = true) (hK : va_K D vwCl T s) (hA : ∀ q : Nat, H0.size ≤ q → A q) (hP : va_P D vwCl ws H) (hD : va_D A ws) (hS : va_S A H0 H locs)
    (hM : vz_Mr l D T y b' n' f L mc ms ty (.ref b :: As) H.size ws ra w1) (hc : vz_cv own index y b' n' (some ty) As.length) (hR : f + 1 ≤ R.frames ∧ 8 + (n' + 11) + L ≤ R.locals)
    {q0 ci : Nat} {fs : List Value} {q : vw_C} (he : ws[q0]? = some (b, .inr (ci, fs))) (hq : vwCl[ci]? = some q) (hqc : q.1 = y.cls)
    (hls : ls.size = nL) (hroom : (rest.map fun v => v.category).sum ≤ 8) (hdg : decode cc pc = .ok (.invokevirtual index, 3)) (hf : cells + mc ≤ R.cells ∧ slots + ms ≤ R.slots) (hst : st0 = As.reverse ++ .ref b :: rest)
    (kk : ∀ (u : S) (a : Nat) (H1 : Heap) (locs1 : List Loc), a = ra u → H.size ≤ H1.size → va_P D vwCl (w1 u) H1 → va_D A (w1 u) → va_S A H0 H1 locs1 → W p l e R s m args below meth c H1 locs1 (cells + mc) (slots + ms) Q (F0 m (pc + 3) ls (.ref a :: rest))) : W p l e R s m args below meth c H locs cells slots Q (F0 m pc ls st0) := by
  exact vz_Vr (wr := []) hx hb hml hown hts hK hA hP hD hS hM hc hR he hq hqc (List.range ws.length) [] (vz_rg ws) rfl (vz_rga _) hls hroom hdg hf hst kk
theorem vz_Iv3 {post : S → Prop} {w1 : S → va_W} (hx : p.tables.exec = Jvm.exec) (hb : c.code = cc) (hml : c.maxLocals = nL) (hown : s.vm.findClass own = some m.cls) (hts : ∀ w ∈ wsL_law, w.before args s = true) (hK : va_K D vwCl T s) (hA : ∀ q : Nat, H0.size ≤ q → A q) (hP : va_P D vwCl ws H) (hD : va_D A ws) (hS : va_S A H0 H locs)
    (hM : vz_Mv l D T y b' n' f L mc ms (.ref b :: As) H.size ws post w1) (hc : vz_ci own index y b' n' As.length) (hR : f + 1 ≤ R.frames ∧ 8 + (n' + 11) + L ≤ R.locals)
   
    (hls : ls.size = nL) (hroom : (rest.map fun v => v.category).sum ≤ 8) (hdg : decode cc pc = .ok (.invokespecial index, 3)) (hf : cells + mc ≤ R.cells ∧ slots + ms ≤ R.slots) (hst : st0 = As.reverse ++ .ref b :: rest)
    (kk : ∀ (u : S) (H1 : Heap) (locs1 : List Loc), post u → H.size ≤ H1.size → va_P D vwCl (w1 u) H1 → va_D A (w1 u) → va_S A H0 H1 locs1 → W p l e R s m args below meth c H1 locs1 (cells + mc) (slots + ms) Q (F0 m (pc + 3) ls rest)) : W p l e R s m args below meth c H locs cells slots Q (F0 m pc ls st0) := by
  exact vz_Iv (wr := []) hx hb hml hown hts hK hA hP hD hS hM hc hR (List.range ws.length) [] (vz_rg ws) rfl (vz_rga _) hls hroom hdg hf hst kk
theorem vz_Si3 {post : Int32 → S → Prop} {w1 : S → va_W} (hx : p.tables.exec = Jvm.exec) (hb : c.code = cc) (hml : c.maxLocals = nL) (hown : s.vm.findClass own = some m.cls) (hts : ∀ w ∈ wsL_law, w.before args s = true) (hK : va_K D vwCl T s) (hA : ∀ q : Nat, H0.size ≤ q → A q) (hP : va_P D vwCl ws H) (hD : va_D A ws) (hS : va_S A H0 H locs)
    (hM : vz_Mi l D T y b' n' f L mc ms ty As H.size ws post w1) (hc : vz_cs own index y b' n' (some ty) As.length) (hR : f + 1 ≤ R.frames ∧ 8 + (n' + 11) + L ≤ R.locals)
   
    (hls : ls.size = nL) (hroom : (rest.map fun v => v.category).sum ≤ 8) (hdg : decode cc pc = .ok (.invokestatic index, 3)) (hf : cells + mc ≤ R.cells ∧ slots + ms ≤ R.slots) (hst : st0 = As.reverse ++ rest)
    (kk : ∀ (r : Int32) (u : S) (H1 : Heap) (locs1 : List Loc), post r u → H.size ≤ H1.size → va_P D vwCl (w1 u) H1 → va_D A (w1 u) → va_S A H0 H1 locs1 → W p l e R s m args below meth c H1 locs1 (cells + mc) (slots + ms) Q (F0 m (pc + 3) ls (.int r :: rest))) : W p l e R s m args below meth c H locs cells slots Q (F0 m pc ls st0) := by
  exact vz_Si (wr := []) hx hb hml hown hts hK hA hP hD hS hM hc hR (List.range ws.length) [] (vz_rg ws) rfl (vz_rga _) hls hroom hdg hf hst kk
theorem vz_iret3 {post : Int32 → S → Prop} {w1 : S → va_W} {v : Int32} (hx : p.tables.exec = Jvm.exec) (hb : c.code = cc) (hr : meth.sig.returnType = some .int) (hlk : meth.locks = false) (hK : va_K D vwCl T s) (hP : va_P D vwCl ws H) (hD : va_D A ws) (hS : va_S A s.heap H locs) (u : S) (hp : post v u) (he : w1 u = ws) (h1 : cells ≤ mc) (h2 : slots ≤ ms) (hdg : decode cc pc = .ok (.ireturn, 1)) :
    W p l e R s m args below meth c H locs cells slots (MQ below (va_Qi post (fun u => vz_B D T A (w1 u)) A) args s mc ms A) (F0 m pc ls [.int v]) :=
  vz_iret hx hb hr hlk hK hP hD hS u hp (List.range ws.length) (by rw [he]; exact vz_rg ws) (vz_ndn _ List.nodup_range) h1 h2 hdg
theorem vz_vret3 {post : S → Prop} {w1 : S → va_W} (hx : p.tables.exec = Jvm.exec) (hb : c.code = cc) (hr : meth.sig.returnType = none) (hlk : meth.locks = false) (hK : va_K D vwCl T s) (hP : va_P D vwCl ws H) (hD : va_D A ws) (hS : va_S A s.heap H locs) (u : S) (hp : post u) (he : w1 u = ws) (h1 : cells ≤ mc) (h2 : slots ≤ ms) (hdg : decode cc pc = .ok (.return_, 1)) :
    W p l e R s m args below meth c H locs cells slots (MQ below (va_Qv post (fun u => vz_B D T A (w1 u)) A) args s mc ms A) (F0 m pc ls []) :=
  vz_vret hx hb hr hlk hK hP hD hS u hp (List.range ws.length) (by rw [he]; exact vz_rg ws) (vz_ndn _ List.nodup_range) h1 h2 hdg
theorem vz_rret3 {ra : S → Nat} {w1 : S → va_W} {a : Nat} {rt : FieldType} (hx : p.tables.exec = Jvm.exec) (hb : c.code = cc) (hr : meth.sig.returnType = some rt) (hlk : meth.locks = false) (hK : va_K D vwCl T s) (hP : va_P D vwCl ws H) (hD : va_D A ws) (hS : va_S A s.heap H locs) (u : S) (hp : a = ra u) (he : w1 u = ws) (h1 : cells ≤ mc) (h2 : slots ≤ ms) (hty : ∃ n, rt = .object n) (hdg : decode cc pc = .ok (.areturn, 1)) :
    W p l e R s m args below meth c H locs cells slots (MQ below (va_Qr (fun _ : S => True) (fun u a t => a = ra u ∧ vz_B D T A (w1 u) t) A) args s mc ms A) (F0 m pc ls [.ref a]) :=
  vz_rret hx hb hr hlk hK hP hD hS u hp (List.range ws.length) (by rw [he]; exact vz_rg ws) (vz_ndn _ List.nodup_range) h1 h2 hty hdg
theorem vz_zret3 {post : Int32 → S → Prop} {w1 : S → va_W} {v : Int32} (hx : p.tables.exec = Jvm.exec) (hb : c.code = cc) (hr : meth.sig.returnType = some .boolean) (hlk : meth.locks = false) (hK : va_K D vwCl T s) (hP : va_P D vwCl ws H) (hD : va_D A ws) (hS : va_S A s.heap H locs) (u : S) (hp : post v u) (he : w1 u = ws) (h1 : cells ≤ mc) (h2 : slots ≤ ms) (hnr : narrow .boolean (.int v) = .int v) (hdg : decode cc pc = .ok (.ireturn, 1)) :
    W p l e R s m args below meth c H locs cells slots (MQ below (va_Qi post (fun u => vz_B D T A (w1 u)) A) args s mc ms A) (F0 m pc ls [.int v]) :=
  vz_zret hx hb hr hlk hK hP hD hS u hp (List.range ws.length) (by rw [he]; exact vz_rg ws) (vz_ndn _ List.nodup_range) h1 h2 hnr hdg
end VZ3
