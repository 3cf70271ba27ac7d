/-! Calls that put the callee's cells back where they stood. -/
def vz_sb : va_W → List Nat → va_W → va_W
  | ws, i :: is, q :: qs => vz_sb (ws.set i q) is qs
  | ws, _, _ => ws
theorem vz_sb_get : ∀ (is : List Nat) (wn ws : va_W) (k : Nat), va_nd is = true → is.length = wn.length → (∀ i ∈ is, i < ws.length) → (∃ j : Nat, is[j]? = some k ∧ (vz_sb ws is wn)[k]? = wn[j]?) ∨ (k ∉ is ∧ (vz_sb ws is wn)[k]? = ws[k]?)
  | [], wn, ws, k, _, _, _ => by
    refine Or.inr ⟨by simp, ?_⟩
    cases wn <;> rfl
  | i :: is, [], ws, k, _, h, _ => by simp at h
  | i :: is, q :: qs, ws, k, hn, hl, hlt => by
    simp only [va_nd, Bool.and_eq_true, decide_eq_true_eq] at hn
    have ih := vz_sb_get is qs (ws.set i q) k hn.2 (by simpa using hl) (fun j hj => by rw [List.length_set]; exact hlt j (List.mem_cons_of_mem _ hj))
    have e0 : vz_sb ws (i :: is) (q :: qs) = vz_sb (ws.set i q) is qs := rfl
    rw [e0]
    rcases ih with ⟨j, h1, h2⟩ | ⟨h1, h2⟩
    · exact Or.inl ⟨j + 1, by simpa using h1, by simpa using h2⟩
    · by_cases hk : i = k
      · subst hk
        refine Or.inl ⟨0, rfl, ?_⟩
        rw [h2, List.getElem?_set_self (hlt i List.mem_cons_self)]
        rfl
      · refine Or.inr ⟨fun hm => ?_, ?_⟩
        · rcases List.mem_cons.mp hm with h | h
          · exact hk h.symm
          · exact h1 h
        · rw [h2, List.getElem?_set_ne hk]
theorem vz_joinS {A0 : Nat → Prop} {D : va_G} {cl : List vw_C} {ws wc w1 : va_W} {H H1 : Heap} (hP : va_P D cl ws H) (hD : va_D A0 ws) (isC : List Nat) (hC : isC.map (fun i => ws[i]?) = wc.map some) (hn : va_nd isC = true) (hw : w1.map (fun q => q.1) = wc.map (fun q => q.1))
    (hk : ∀ q : Nat, q < H.size → ¬ va_A wc H.size q → H1[q]? = H[q]?) (hP1 : va_P D cl w1 H1) : va_P D cl (vz_sb ws isC w1) H1 ∧ va_D A0 (vz_sb ws isC w1) := by
  have hlen : isC.length = wc.length := by have := congrArg List.length hC; simpa using this
  have hlw : w1.length = wc.length := by have := congrArg List.length hw; simpa using this
  have at' : ∀ (k i : Nat), isC[k]? = some i → ∃ q : Nat × va_E, wc[k]? = some q ∧ ws[i]? = some q := by
    intro k i hk2
    have h1 : (isC.map (fun i => ws[i]?))[k]? = (wc.map some)[k]? := by rw [hC]
    rw [List.getElem?_map, List.getElem?_map, hk2] at h1
    cases hq : wc[k]? with
    | none => rw [hq] at h1; cases h1
    | some q => rw [hq] at h1; exact ⟨q, rfl, Option.some.inj h1⟩
  have hlt : ∀ i ∈ isC, i < ws.length := by
    intro i hi
    obtain ⟨k, hk2⟩ := List.getElem?_of_mem hi
    obtain ⟨q, -, h2⟩ := at' k i hk2
    exact (List.getElem?_eq_some_iff.mp h2).1
  have fst1 : ∀ (j : Nat) (q : Nat × va_E), w1[j]? = some q → ∃ q' : Nat × va_E, wc[j]? = some q' ∧ q'.1 = q.1 := by
    intro j q hj
    have h1 : (w1.map (fun q => q.1))[j]? = (wc.map (fun q => q.1))[j]? := by rw [hw]
    rw [List.getElem?_map, List.getElem?_map, hj] at h1
    cases hq : wc[j]? with
    | none => rw [hq] at h1; cases h1
    | some q' => rw [hq] at h1; exact ⟨q', rfl, (Option.some.inj h1).symm⟩
  have place : ∀ (k : Nat) (q : Nat × va_E), (vz_sb ws isC w1)[k]? = some q → ∃ q' : Nat × va_E, ws[k]? = some q' ∧ q'.1 = q.1 := by
    intro k q hq
    rcases vz_sb_get isC w1 ws k hn (by rw [hlen, hlw]) hlt with ⟨j, h1, h2⟩ | ⟨-, h2⟩
    · rw [h2] at hq
      obtain ⟨q', h3, h4⟩ := fst1 j q hq
      obtain ⟨q2, h5, h6⟩ := at' j k h1
      rw [h3] at h5
      cases h5
      exact ⟨q', h6, h4⟩
    · rw [h2] at hq
      exact ⟨q, hq, rfl⟩
  refine ⟨fun k q hq => ?_, fun i j x y hx hy hxy => ?_, fun k q hq => ?_⟩
  · rcases vz_sb_get isC w1 ws k hn (by rw [hlen, hlw]) hlt with ⟨j, h1, h2⟩ | ⟨h1, h2⟩
    · rw [h2] at hq
      exact hP1 j q hq
    · rw [h2] at hq
      have hl := (hP k q hq).lt
      refine (hP k q hq).kept (hk q.1 hl (fun h => ?_))
      rcases h with ⟨k2, e, h⟩ | h
      · cases hi : isC[k2]? with
        | none =>
          have z1 := (List.getElem?_eq_some_iff.mp h).1
          have z2 := List.getElem?_eq_none_iff.mp hi
          omega
        | some i =>
          obtain ⟨q3, h5, h6⟩ := at' k2 i hi
          rw [h] at h5
          cases h5
          have := hD.1 k i q (q.1, e) hq h6 rfl
          subst this
          exact h1 (List.mem_of_getElem? hi)
      · omega
  · obtain ⟨x', h1, h2⟩ := place i x hx
    obtain ⟨y', h3, h4⟩ := place j y hy
    exact hD.1 i j x' y' h1 h3 (by rw [h2, h4]; exact hxy)
  · obtain ⟨q', h1, h2⟩ := place k q hq
    rw [← h2]
    exact hD.2 k q' h1
section VZ2
variable {p : Program} {l : Launch} {e : Env} {R : Room} {s : State} {m : MethodId} {args : Array Value} {below : List Frame} {meth : Method} {c : Code} {H : Heap} {locs : List Loc} {cells slots : Nat} {Q : State → Prop}
variable {cc b' : ByteArray} {pc nL n' f L mc ms index : Nat} {ls : Array Slot} {As rest st0 : List Value} {D : va_G} {A : Nat → Prop} {b : Nat} {T : vz_T} {ws wc : va_W} {own : String} {y : MethodName} {ty : FieldType} {S : Type} {H0 : Heap}
theorem vz_Vi2 {post : Int32 → S → Prop} {w1 ws' : S → va_W} (hx : p.tables.exec = Jvm.exec) (hb : c.code = cc) (hml : c.maxLocals = nL) (hown : s.vm.findClass own = some m.cls) (hts : ∀ w ∈ wsL_law, w.before args s = true) (hK : va_K D vwCl T s) (hA : ∀ q : Nat, H0.size ≤ q → A q) (hP : va_P D vwCl ws H) (hD : va_D A ws) (hS : va_S A H0 H locs)
    (hM : vz_Mi l D T y b' n' f L mc ms ty (.ref b :: As) H.size wc post w1) (hc : vz_cv own index y b' n' (some ty) As.length) (hR : f + 1 ≤ R.frames ∧ 8 + (n' + 11) + L ≤ R.locals)
    {q0 ci : Nat} {fs : List Value} {q : vw_C} (he : ws[q0]? = some (b, .inr (ci, fs))) (hq : vwCl[ci]? = some q) (hqc : q.1 = y.cls) (isC : List Nat) (hC : isC.map (fun i => ws[i]?) = wc.map some) (hn : va_nd isC = true) (hw : ∀ u, (w1 u).map (fun q => q.1) = wc.map (fun q => q.1)) (he2 : ∀ u, vz_sb ws isC (w1 u) = ws' u)
    (hls : ls.size = nL) (hroom : (rest.map fun v => v.category).sum ≤ 8) (hdg : decode cc pc = .ok (.invokevirtual index, 3)) (hf : cells + mc ≤ R.cells ∧ slots + ms ≤ R.slots) (hst : st0 = As.reverse ++ .ref b :: rest)
    (kk : ∀ (r : Int32) (u : S) (H1 : Heap) (locs1 : List Loc), post r u → H.size ≤ H1.size → va_P D vwCl (ws' u) H1 → va_D A (ws' u) → va_S A H0 H1 locs1 → W p l e R s m args below meth c H1 locs1 (cells + mc) (slots + ms) Q (F0 m (pc + 3) ls (.int r :: rest))) : W p l e R s m args below meth c H locs cells slots Q (F0 m pc ls st0) := by
  have hPc := vz_pickP hP isC hC
  have hDc := hD.sub isC hn hC
  have hFc := va_free (wc := wc) hD hS hA isC hC
  refine va_calli (va_runV (As := As) (rest := rest) ⟨hx, hb, hml, hown, hts⟩ hM (cwV As.length hts (vz_gv hc) rfl rfl rfl ⟨rfl, hc.2.2.2.2.2⟩ hR) ⟨vz_blind, by rw [← hqc]; exact va_recv hK hP hq he, vz_pre hPc hK hDc _⟩ rfl rfl hls hst (lv_room hroom) hdg hf) hS (fun q _ h => hFc q h) hFc (fun r u t H1 locs1 ht hvm hw2 hB hz1 hk1 hS1 => ?_)
  obtain ⟨hP1, hK1, hD1⟩ := hB
  rw [ht] at hP1
  obtain ⟨hP2, hD2⟩ := vz_joinS hP hD isC hC hn (hw u) hk1 hP1
  rw [he2] at hP2 hD2
  exact kk r u H1 locs1 hw2 hz1 hP2 hD2 hS1
theorem vz_Vv2 {post : S → Prop} {w1 ws' : S → va_W} (hx : p.tables.exec = Jvm.exec) (hb : c.code = cc) (hml : c.maxLocals = nL) (hown : s.vm.findClass own = some m.cls) (hts : ∀ w ∈ wsL_law, w.before args s = true) (hK : va_K D vwCl T s) (hA : ∀ q : Nat, H0.size ≤ q → A q) (hP : va_P D vwCl ws H) (hD : va_D A ws) (hS : va_S A H0 H locs)
    (hM : vz_Mv l D T y b' n' f L mc ms (.ref b :: As) H.size wc post w1) (hc : vz_cv own index y b' n' none As.length) (hR : f + 1 ≤ R.frames ∧ 8 + (n' + 11) + L ≤ R.locals)
    {q0 ci : Nat} {fs : List Value} {q : vw_C} (he : ws[q0]? = some (b, .inr (ci, fs))) (hq : vwCl[ci]? = some q) (hqc : q.1 = y.cls) (isC : List Nat) (hC : isC.map (fun i => ws[i]?) = wc.map some) (hn : va_nd isC = true) (hw : ∀ u, (w1 u).map (fun q => q.1) = wc.map (fun q => q.1)) (he2 : ∀ u, vz_sb ws isC (w1 u) = ws' u)
    (hls : ls.size = nL) (hroom : (rest.map fun v => v.category).sum ≤ 8) (hdg : decode cc pc = .ok (.invokevirtual index, 3)) (hf : cells + mc ≤ R.cells ∧ slots + ms ≤ R.slots) (hst : st0 = As.reverse ++ .ref b :: rest)
    (kk : ∀ (u : S) (H1 : Heap) (locs1 : List Loc), post u → H.size ≤ H1.size → va_P D vwCl (ws' u) H1 → va_D A (ws' u) → va_S A H0 H1 locs1 → W p l e R s m args below meth c H1 locs1 (cells + mc) (slots + ms) Q (F0 m (pc + 3) ls rest)) : W p l e R s m args below meth c H locs cells slots Q (F0 m pc ls st0) := by
  have hPc := vz_pickP hP isC hC
  have hDc := hD.sub isC hn hC
  have hFc := va_free (wc := wc) hD hS hA isC hC
  refine va_callv (va_runV (As := As) (rest := rest) ⟨hx, hb, hml, hown, hts⟩ hM (cwV As.length hts (vz_gv hc) rfl rfl rfl ⟨rfl, hc.2.2.2.2.2⟩ hR) ⟨vz_blind, by rw [← hqc]; exact va_recv hK hP hq he, vz_pre hPc hK hDc _⟩ rfl rfl hls hst (lv_room hroom) hdg hf) hS (fun q _ h => hFc q h) hFc (fun u t H1 locs1 ht hvm hw2 hB hz1 hk1 hS1 => ?_)
  obtain ⟨hP1, hK1, hD1⟩ := hB
  rw [ht] at hP1
  obtain ⟨hP2, hD2⟩ := vz_joinS hP hD isC hC hn (hw u) hk1 hP1
  rw [he2] at hP2 hD2
  exact kk u H1 locs1 hw2 hz1 hP2 hD2 hS1
theorem vz_Vr2 {ra : S → Nat} {w1 ws' : S → va_W} (hx : p.tables.exec = Jvm.exec) (hb : c.code = cc) (hml : c.maxLocals = nL) (hown : s.vm.findClass own = some m.cls) (hts : ∀ w ∈ wsL_law, w.before args s = true) (hK : va_K D vwCl T s) (hA : ∀ q : Nat, H0.size ≤ q → A q) (hP : va_P D vwCl ws H) (hD : va_D A ws) (hS : va_S A H0 H locs)
    (hM : vz_Mr l D T y b' n' f L mc ms ty (.ref b :: As) H.size wc ra w1) (hc : vz_cv own index y b' n' (some ty) As.length) (hR : f + 1 ≤ R.frames ∧ 8 + (n' + 11) + L ≤ R.locals)
    {q0 ci : Nat} {fs : List Value} {q : vw_C} (he : ws[q0]? = some (b, .inr (ci, fs))) (hq : vwCl[ci]? = some q) (hqc : q.1 = y.cls) (isC : List Nat) (hC : isC.map (fun i => ws[i]?) = wc.map some) (hn : va_nd isC = true) (hw : ∀ u, (w1 u).map (fun q => q.1) = wc.map (fun q => q.1)) (he2 : ∀ u, vz_sb ws isC (w1 u) = ws' u)
    (hls : ls.size = nL) (hroom : (rest.map fun v => v.category).sum ≤ 8) (hdg : decode cc pc = .ok (.invokevirtual index, 3)) (hf : cells + mc ≤ R.cells ∧ slots + ms ≤ R.slots) (hst : st0 = As.reverse ++ .ref b :: rest)
    (kk : ∀ (u : S) (a : Nat) (H1 : Heap) (locs1 : List Loc), a = ra u → H.size ≤ H1.size → va_P D vwCl (ws' u) H1 → va_D A (ws' u) → va_S A H0 H1 locs1 → W p l e R s m args below meth c H1 locs1 (cells + mc) (slots + ms) Q (F0 m (pc + 3) ls (.ref a :: rest))) : W p l e R s m args below meth c H locs cells slots Q (F0 m pc ls st0) := by
  have hPc := vz_pickP hP isC hC
  have hDc := hD.sub isC hn hC
  have hFc := va_free (wc := wc) hD hS hA isC hC
  refine va_callr (va_runV (As := As) (rest := rest) ⟨hx, hb, hml, hown, hts⟩ hM (cwV As.length hts (vz_gv hc) rfl rfl rfl ⟨rfl, hc.2.2.2.2.2⟩ hR) ⟨vz_blind, by rw [← hqc]; exact va_recv hK hP hq he, vz_pre hPc hK hDc _⟩ rfl rfl hls hst (lv_room hroom) hdg hf) hS (fun q _ h => hFc q h) hFc (fun u a t H1 locs1 ht hvm hw2 hB hz1 hk1 hS1 => ?_)
  obtain ⟨ha, hP1, hK1, hD1⟩ := hB
  rw [ht] at hP1
  obtain ⟨hP2, hD2⟩ := vz_joinS hP hD isC hC hn (hw u) hk1 hP1
  rw [he2] at hP2 hD2
  exact kk u a H1 locs1 ha hz1 hP2 hD2 hS1
theorem vz_Si2 {post : Int32 → S → Prop} {w1 ws' : S → va_W} (hx : p.tables.exec = Jvm.exec) (hb : c.code = cc) (hml : c.maxLocals = nL) (hown : s.vm.findClass own = some m.cls) (hts : ∀ w ∈ wsL_law, w.before args s = true) (hK : va_K D vwCl T s) (hA : ∀ q : Nat, H0.size ≤ q → A q) (hP : va_P D vwCl ws H) (hD : va_D A ws) (hS : va_S A H0 H locs)
    (hM : vz_Mi l D T y b' n' f L mc ms ty As H.size wc post w1) (hc : vz_cs own index y b' n' (some ty) As.length) (hR : f + 1 ≤ R.frames ∧ 8 + (n' + 11) + L ≤ R.locals)
    (isC : List Nat) (hC : isC.map (fun i => ws[i]?) = wc.map some) (hn : va_nd isC = true) (hw : ∀ u, (w1 u).map (fun q => q.1) = wc.map (fun q => q.1)) (he2 : ∀ u, vz_sb ws isC (w1 u) = ws' u)
    (hls : ls.size = nL) (hroom : (rest.map fun v => v.category).sum ≤ 8) (hdg : decode cc pc = .ok (.invokestatic index, 3)) (hf : cells + mc ≤ R.cells ∧ slots + ms ≤ R.slots) (hst : st0 = As.reverse ++ rest)
    (kk : ∀ (r : Int32) (u : S) (H1 : Heap) (locs1 : List Loc), post r u → H.size ≤ H1.size → va_P D vwCl (ws' u) H1 → va_D A (ws' u) → va_S A H0 H1 locs1 → W p l e R s m args below meth c H1 locs1 (cells + mc) (slots + ms) Q (F0 m (pc + 3) ls (.int r :: rest))) : W p l e R s m args below meth c H locs cells slots Q (F0 m pc ls st0) := by
  have hPc := vz_pickP hP isC hC
  have hDc := hD.sub isC hn hC
  have hFc := va_free (wc := wc) hD hS hA isC hC
  refine va_calli (va_runS (As := As) (rest := rest) ⟨hx, hb, hml, hown, hts⟩ hM (cwS As.length hts (vz_gs hc) rfl rfl rfl hc.2.2.2.2 hR) ⟨vz_blind, vz_pre hPc hK hDc _⟩ rfl rfl hls hst (lv_room hroom) hdg hf) hS (fun q _ h => hFc q h) hFc (fun r u t H1 locs1 ht hvm hw2 hB hz1 hk1 hS1 => ?_)
  obtain ⟨hP1, hK1, hD1⟩ := hB
  rw [ht] at hP1
  obtain ⟨hP2, hD2⟩ := vz_joinS hP hD isC hC hn (hw u) hk1 hP1
  rw [he2] at hP2 hD2
  exact kk r u H1 locs1 hw2 hz1 hP2 hD2 hS1
theorem vz_Sv2 {post : S → Prop} {w1 ws' : S → va_W} (hx : p.tables.exec = Jvm.exec) (hb : c.code = cc) (hml : c.maxLocals = nL) (hown : s.vm.findClass own = some m.cls) (hts : ∀ w ∈ wsL_law, w.before args s = true) (hK : va_K D vwCl T s) (hA : ∀ q : Nat, H0.size ≤ q → A q) (hP : va_P D vwCl ws H) (hD : va_D A ws) (hS : va_S A H0 H locs)
    (hM : vz_Mv l D T y b' n' f L mc ms As H.size wc post w1) (hc : vz_cs own index y b' n' none As.length) (hR : f + 1 ≤ R.frames ∧ 8 + (n' + 11) + L ≤ R.locals)
    (isC : List Nat) (hC : isC.map (fun i => ws[i]?) = wc.map some) (hn : va_nd isC = true) (hw : ∀ u, (w1 u).map (fun q => q.1) = wc.map (fun q => q.1)) (he2 : ∀ u, vz_sb ws isC (w1 u) = ws' u)
    (hls : ls.size = nL) (hroom : (rest.map fun v => v.category).sum ≤ 8) (hdg : decode cc pc = .ok (.invokestatic index, 3)) (hf : cells + mc ≤ R.cells ∧ slots + ms ≤ R.slots) (hst : st0 = As.reverse ++ rest)
    (kk : ∀ (u : S) (H1 : Heap) (locs1 : List Loc), post u → H.size ≤ H1.size → va_P D vwCl (ws' u) H1 → va_D A (ws' u) → va_S A H0 H1 locs1 → W p l e R s m args below meth c H1 locs1 (cells + mc) (slots + ms) Q (F0 m (pc + 3) ls rest)) : W p l e R s m args below meth c H locs cells slots Q (F0 m pc ls st0) := by
  have hPc := vz_pickP hP isC hC
  have hDc := hD.sub isC hn hC
  have hFc := va_free (wc := wc) hD hS hA isC hC
  refine va_callv (va_runS (As := As) (rest := rest) ⟨hx, hb, hml, hown, hts⟩ hM (cwS As.length hts (vz_gs hc) rfl rfl rfl hc.2.2.2.2 hR) ⟨vz_blind, vz_pre hPc hK hDc _⟩ rfl rfl hls hst (lv_room hroom) hdg hf) hS (fun q _ h => hFc q h) hFc (fun u t H1 locs1 ht hvm hw2 hB hz1 hk1 hS1 => ?_)
  obtain ⟨hP1, hK1, hD1⟩ := hB
  rw [ht] at hP1
  obtain ⟨hP2, hD2⟩ := vz_joinS hP hD isC hC hn (hw u) hk1 hP1
  rw [he2] at hP2 hD2
  exact kk u H1 locs1 hw2 hz1 hP2 hD2 hS1
theorem vz_Iv2 {post : S → Prop} {w1 ws' : S → va_W} (hx : p.tables.exec = Jvm.exec) (hb : c.code = cc) (hml : c.maxLocals = nL) (hown : s.vm.findClass own = some m.cls) (hts : ∀ w ∈ wsL_law, w.before args s = true) (hK : va_K D vwCl T s) (hA : ∀ q : Nat, H0.size ≤ q → A q) (hP : va_P D vwCl ws H) (hD : va_D A ws) (hS : va_S A H0 H locs)
    (hM : vz_Mv l D T y b' n' f L mc ms (.ref b :: As) H.size wc post w1) (hc : vz_ci own index y b' n' As.length) (hR : f + 1 ≤ R.frames ∧ 8 + (n' + 11) + L ≤ R.locals)
    (isC : List Nat) (hC : isC.map (fun i => ws[i]?) = wc.map some) (hn : va_nd isC = true) (hw : ∀ u, (w1 u).map (fun q => q.1) = wc.map (fun q => q.1)) (he2 : ∀ u, vz_sb ws isC (w1 u) = ws' u)
    (hls : ls.size = nL) (hroom : (rest.map fun v => v.category).sum ≤ 8) (hdg : decode cc pc = .ok (.invokespecial index, 3)) (hf : cells + mc ≤ R.cells ∧ slots + ms ≤ R.slots) (hst : st0 = As.reverse ++ .ref b :: rest)
    (kk : ∀ (u : S) (H1 : Heap) (locs1 : List Loc), post u → H.size ≤ H1.size → va_P D vwCl (ws' u) H1 → va_D A (ws' u) → va_S A H0 H1 locs1 → W p l e R s m args below meth c H1 locs1 (cells + mc) (slots + ms) Q (F0 m (pc + 3) ls rest)) : W p l e R s m args below meth c H locs cells slots Q (F0 m pc ls st0) := by
  have hPc := vz_pickP hP isC hC
  have hDc := hD.sub isC hn hC
  have hFc := va_free (wc := wc) hD hS hA isC hC
  obtain ⟨c1, c2, c3, c4, c5, c6⟩ := hc
  refine va_callv (va_runI (As := As) (rest := rest) ⟨hx, hb, hml, hown, hts⟩ hM (cwI As.length hts (vz_gcode c4) rfl rfl rfl (hts _ c3) (hts _ c1) (hts _ c2) c5 c6 hR) ⟨vz_blind, vz_pre hPc hK hDc _⟩ rfl rfl hls hst (lv_room hroom) hdg hf) hS (fun q _ h => hFc q h) hFc (fun u t H1 locs1 ht hvm hw2 hB hz1 hk1 hS1 => ?_)
  obtain ⟨hP1, hK1, hD1⟩ := hB
  rw [ht] at hP1
  obtain ⟨hP2, hD2⟩ := vz_joinS hP hD isC hC hn (hw u) hk1 hP1
  rw [he2] at hP2 hD2
  exact kk u H1 locs1 hw2 hz1 hP2 hD2 hS1
/-- a switch over a table of numbers, all ways -/
theorem vz_tsw (hx : p.tables.exec = Jvm.exec) (hb : c.code = cc) {dflt lo hi : Int} {offs : Array Int} {len : Nat} {x : Int32} {td : Nat} (hdg : decode cc pc = .ok (.tableswitch dflt lo hi offs, len)) (ht : (pc : Int) + dflt = (td : Int)) (tg : List Nat) (hg : offs.toList.map (fun o => (pc : Int) + o) = tg.map (fun t : Nat => (t : Int))) (hh : (tg.length : Int) = hi - lo + 1)
    (kd : (x.toInt < lo ∨ hi < x.toInt) → W p l e R s m args below meth c H locs cells slots Q (F0 m td ls rest)) (kk : ∀ k t : Nat, tg[k]? = some t → x.toInt = lo + (k : Int) → W p l e R s m args below meth c H locs cells slots Q (F0 m t ls rest)) : W p l e R s m args below meth c H locs cells slots Q (F0 m pc ls (.int x :: rest)) := by
  by_cases h1 : x.toInt < lo
  · exact lv_tableOut hx hb hdg (Or.inl h1) ht (kd (Or.inl h1))
  · by_cases h2 : hi < x.toInt
    · exact lv_tableOut hx hb hdg (Or.inr h2) ht (kd (Or.inr h2))
    · have hk : (x.toInt - lo).toNat < tg.length := by omega
      have e1 : (offs.toList.map (fun o => (pc : Int) + o))[(x.toInt - lo).toNat]? = (tg.map (fun t : Nat => (t : Int)))[(x.toInt - lo).toNat]? := by rw [hg]
      rw [List.getElem?_map, List.getElem?_map, List.getElem?_eq_getElem hk, Array.getElem?_toList] at e1
      cases ho : offs[(x.toInt - lo).toNat]? with
      | none => rw [ho] at e1; cases e1
      | some o =>
        rw [ho] at e1
        exact lv_tableIn hx hb hdg h1 h2 ho (Option.some.inj e1) (kk (x.toInt - lo).toNat _ (List.getElem?_eq_getElem hk) (by omega))
theorem vz_lso {x d : Int} : ∀ ps : List (Int × Int), (∀ q ∈ ps, q.1 ≠ x) ∧ Op.lookupswitch.offset ps d x = d ∨ ∃ q ∈ ps, q.1 = x ∧ Op.lookupswitch.offset ps d x = q.2
  | [] => Or.inl ⟨fun _ h => (by cases h), rfl⟩
  | (a, o) :: r => by
    rw [Op.lookupswitch.offset_cons]
    by_cases h : a = x
    · rw [if_pos h]; exact Or.inr ⟨(a, o), List.mem_cons_self, h, rfl⟩
    · rw [if_neg h]
      rcases vz_lso (x := x) (d := d) r with ⟨h1, h2⟩ | ⟨q, h1, h2, h3⟩
      · refine Or.inl ⟨fun q hq => ?_, h2⟩
        rcases List.mem_cons.mp hq with rfl | hq
        · exact h
        · exact h1 q hq
      · exact Or.inr ⟨q, List.mem_cons_of_mem _ h1, h2, h3⟩
/-- a switch over a list of numbers, all ways -/
theorem vz_lsw (hx : p.tables.exec = Jvm.exec) (hb : c.code = cc) {dflt : Int} {ps : Array (Int × Int)} {len : Nat} {x : Int32} {td : Nat} (hdg : decode cc pc = .ok (.lookupswitch dflt ps, len)) (hp : (ps.toList.zip (ps.toList.drop 1)).all (fun (a, next) => a.1 < next.1) = true) (ht : (pc : Int) + dflt = (td : Int)) (tg : List (Int × Nat)) (hg : ps.toList.map (fun o => (o.1, (pc : Int) + o.2)) = tg.map (fun t => (t.1, (t.2 : Int))))
    (kd : (∀ q ∈ tg, q.1 ≠ x.toInt) → W p l e R s m args below meth c H locs cells slots Q (F0 m td ls rest)) (kk : ∀ (k : Nat) (t : Int × Nat), tg[k]? = some t → x.toInt = t.1 → W p l e R s m args below meth c H locs cells slots Q (F0 m t.2 ls rest)) : W p l e R s m args below meth c H locs cells slots Q (F0 m pc ls (.int x :: rest)) := by
  rcases vz_lso (x := x.toInt) (d := dflt) ps.toList with ⟨h1, h2⟩ | ⟨q, h1, h2, h3⟩
  · refine lv_lookup hx hb hdg hp h2 ht (kd (fun q hq e2 => ?_))
    have : (q.1, (q.2 : Int)) ∈ ps.toList.map (fun o => (o.1, (pc : Int) + o.2)) := by rw [hg]; exact List.mem_map.mpr ⟨q, hq, rfl⟩
    obtain ⟨o, h3, h4⟩ := List.mem_map.mp this
    have h5 : o.1 = q.1 := congrArg Prod.fst h4
    exact h1 o h3 (h5.trans e2)
  · obtain ⟨k, hk⟩ := List.getElem?_of_mem h1
    have e1 : (ps.toList.map (fun o => (o.1, (pc : Int) + o.2)))[k]? = (tg.map (fun t => (t.1, (t.2 : Int))))[k]? := by rw [hg]
    rw [List.getElem?_map, List.getElem?_map, hk] at e1
    cases ht2 : tg[k]? with
    | none => rw [ht2] at e1; cases e1
    | some t =>
      rw [ht2] at e1
      have e2 := Option.some.inj e1
      have e3 : q.1 = t.1 := congrArg Prod.fst e2
      have e4 : (pc : Int) + q.2 = (t.2 : Int) := congrArg Prod.snd e2
      exact lv_lookup hx hb hdg hp h3 e4 (kk k t ht2 (h2.symm.trans e3))
end VZ2
theorem vz_bm {z : Int} (h1 : -2147483648 ≤ z) (h2 : z ≤ 2147483647) : z.bmod 4294967296 = z := Int.bmod_eq_of_le (by omega) (by omega)
theorem vz_up {x y : Int32} (h : ¬ y ≤ x) : (x + 1).toInt = x.toInt + 1 ∧ x.toInt < y.toInt := by
  have h1 : x.toInt < y.toInt := by rw [Int32.le_iff_toInt_le] at h; omega
  have h2 := y.toInt_lt
  have h3 := x.le_toInt
  refine ⟨?_, h1⟩
  rw [Int32.toInt_add]
  exact vz_bm (by have : (1 : Int32).toInt = 1 := rfl; omega) (by have : (1 : Int32).toInt = 1 := rfl; omega)
theorem vz_dn {x : Int32} (h : ¬ x < 0) : (x + (-1)).toInt = x.toInt - 1 ∧ 0 ≤ x.toInt := by
  have h1 : 0 ≤ x.toInt := by rw [Int32.lt_iff_toInt_lt] at h; have : (0 : Int32).toInt = 0 := rfl; omega
  have h2 := x.toInt_lt
  refine ⟨?_, h1⟩
  rw [Int32.toInt_add]
  exact vz_bm (by have : (-1 : Int32).toInt = -1 := rfl; omega) (by have : (-1 : Int32).toInt = -1 := rfl; omega)
