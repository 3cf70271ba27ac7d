/-! Worlds as lists of blocks. -/
abbrev vz_w (bs : List va_W) : va_W := bs.flatten
theorem vz_permP {D : va_G} {cl : List vw_C} {ws ws' : va_W} {H : Heap} (h : ws.Perm ws') (hP : va_P D cl ws H) : va_P D cl ws' H := fun k q hk => by
  obtain ⟨j, hj⟩ := List.getElem?_of_mem (h.mem_iff.mpr (List.mem_of_getElem? hk))
  exact hP j q hj
theorem vz_DN {A : Nat → Prop} {ws : va_W} : va_D A ws ↔ (ws.map (fun q => q.1)).Nodup ∧ ∀ q ∈ ws, A q.1 := by
  constructor
  · intro h
    refine ⟨?_, fun q hq => ?_⟩
    · rw [List.Nodup, List.pairwise_iff_getElem]
      intro i j hi hj hij e
      rw [List.getElem_map, List.getElem_map] at e
      have := h.1 i j _ _ (List.getElem?_eq_getElem (by simpa using hi)) (List.getElem?_eq_getElem (by simpa using hj)) e
      omega
    · obtain ⟨k, hk⟩ := List.getElem?_of_mem hq
      exact h.2 k q hk
  · intro h
    refine ⟨fun i j x y hi hj e => ?_, fun k q hk => h.2 q (List.mem_of_getElem? hk)⟩
    have h1 := h.1
    rw [List.Nodup, List.pairwise_iff_getElem] at h1
    obtain ⟨li, ei⟩ := List.getElem?_eq_some_iff.mp hi
    obtain ⟨lj, ej⟩ := List.getElem?_eq_some_iff.mp hj
    rcases Nat.lt_trichotomy i j with z | z | z
    · exact absurd (by rw [List.getElem_map, List.getElem_map, ei, ej]; exact e) (h1 i j (by simpa using li) (by simpa using lj) z)
    · exact z
    · exact absurd (by rw [List.getElem_map, List.getElem_map, ei, ej]; exact e.symm) (h1 j i (by simpa using lj) (by simpa using li) z)
theorem vz_permD {A : Nat → Prop} {ws ws' : va_W} (h : ws.Perm ws') (hD : va_D A ws) : va_D A ws' := by
  rw [vz_DN] at hD ⊢
  exact ⟨(h.map _).nodup_iff.mp hD.1, fun q hq => hD.2 q (h.mem_iff.mpr hq)⟩
theorem vz_bp {bs b2 : List va_W} {is : List Nat} {n : Nat} (hn : bs.length = n) (hp : is.isPerm (List.range n) = true) (he : is.map (fun i => bs[i]?) = b2.map some) : (vz_w bs).Perm (vz_w b2) := by
  have e1 : bs = (List.range n).map (fun i => bs.getD i []) := by
    refine List.ext_getElem? (fun k => ?_)
    rw [List.getElem?_map]
    by_cases hk : k < n
    · rw [List.getElem?_range hk, List.getElem?_eq_getElem (by omega)]; simp [List.getD, hn, hk]
    · rw [List.getElem?_eq_none (by omega), List.getElem?_eq_none (by simpa using hk)]; rfl
  have e2 : b2 = is.map (fun i => bs.getD i []) := by
    refine List.ext_getElem? (fun k => ?_)
    have h1 : (is.map (fun i => bs[i]?))[k]? = (b2.map some)[k]? := by rw [he]
    rw [List.getElem?_map, List.getElem?_map] at h1
    rw [List.getElem?_map]
    cases hk : is[k]? with
    | none => rw [hk] at h1; cases hb : b2[k]? with
      | none => rfl
      | some q => rw [hb] at h1; cases h1
    | some j =>
      rw [hk] at h1
      cases hb : b2[k]? with
      | none => rw [hb] at h1; cases h1
      | some q => rw [hb] at h1; have := Option.some.inj h1; simp [List.getD, this]
  rw [e2]
  refine List.Perm.trans ?_ ((List.isPerm_iff.mp hp).symm.map _).flatten
  rw [← e1]
theorem vz_cc (a b : va_W) : (List.range a.length).map (fun i => (a ++ b)[i]?) = a.map some := by
  refine Eq.trans (List.map_congr_left (fun i hi => ?_)) (vz_rg a)
  exact List.getElem?_append_left (List.mem_range.mp hi)
theorem vz_rr (a b : va_W) : ((List.range b.length).map (fun i => a.length + i)).map (fun i => (a ++ b)[i]?) = b.map some := by
  rw [List.map_map]
  refine Eq.trans (List.map_congr_left (fun i hi => ?_)) (vz_rg b)
  show (a ++ b)[a.length + i]? = b[i]?
  rw [List.getElem?_append_right (by omega)]
  congr 1
  omega
theorem vz_apb (m k : Nat) : vz_ap (List.range m) ((List.range k).map (fun i => m + i)) = true := by
  simp only [vz_ap, Bool.and_eq_true]
  refine ⟨⟨vz_ndn _ List.nodup_range, vz_ndn _ ?_⟩, ?_⟩
  · rw [List.Nodup, List.pairwise_map]
    exact List.nodup_range.imp (fun h e => h (by omega))
  · rw [List.all_eq_true]
    intro x hx
    obtain ⟨j, -, rfl⟩ := List.mem_map.mp hx
    simp
section VZ4
variable {p : Program} {l : Launch} {e : Env} {R : Room} {s : State} {m : MethodId} {args : Array Value} {below : List Frame} {meth : Method} {c : Code} {H : Heap} {locs : List Loc} {cells slots : Nat} {Q : State → Prop}
variable {cc b' : ByteArray} {pc nL n' f L mc ms index : Nat} {ls : Array Slot} {As rest st0 : List Value} {D : va_G} {A : Nat → Prop} {b : Nat} {T : vz_T} {ws wc wr : va_W} {own : String} {y : MethodName} {ty : FieldType} {S : Type} {H0 : Heap}
theorem vz_Vi4 {bs bc br : List va_W} {b1 bs2 : S → List va_W} {post : Int32 → S → Prop} (hx : p.tables.exec = Jvm.exec) (hb : c.code = cc) (hml : c.maxLocals = nL) (hown : s.vm.findClass own = some m.cls) (hts : ∀ w ∈ wsL_law, w.before args s = true) (hK : va_K D vwCl T s) (hA : ∀ q : Nat, H0.size ≤ q → A q) (hP : va_P D vwCl (vz_w bs) H) (hD : va_D A (vz_w bs)) (hS : va_S A H0 H locs)
    (hM : vz_Mi l D T y b' n' f L mc ms ty (.ref b :: As) H.size (vz_w bc) post (fun u => vz_w (b1 u))) (hc : vz_cv own index y b' n' (some ty) As.length) (hR : f + 1 ≤ R.frames ∧ 8 + (n' + 11) + L ≤ R.locals)
    {q0 ci : Nat} {fs : List Value} {q : vw_C} (he : (vz_w bs)[q0]? = some (b, .inr (ci, fs))) (hq : vwCl[ci]? = some q) (hqc : q.1 = y.cls) (isC isR : List Nat) {n9 : Nat} (hn9 : bs.length = n9) (hp9 : (isC ++ isR).isPerm (List.range n9) = true) (hC : (isC ++ isR).map (fun i => bs[i]?) = (bc ++ br).map some) (hn8 : ∀ u, (bs2 u).length = n9) (hC2 : ∀ u, (isC ++ isR).map (fun i => (bs2 u)[i]?) = (b1 u ++ br).map some)
    (hls : ls.size = nL) (hroom : (rest.map fun v => v.category).sum ≤ 8) (hdg : decode cc pc = .ok (.invokevirtual index, 3)) (hf : cells + mc ≤ R.cells ∧ slots + ms ≤ R.slots) (hst : st0 = As.reverse ++ .ref b :: rest)
    (kk : ∀ (r : Int32) (u : S) (H1 : Heap) (locs1 : List Loc), post r u → H.size ≤ H1.size → va_P D vwCl (vz_w (bs2 u)) H1 → va_D A (vz_w (bs2 u)) → va_S A H0 H1 locs1 → W p l e R s m args below meth c H1 locs1 (cells + mc) (slots + ms) Q (F0 m (pc + 3) ls (.int r :: rest))) : W p l e R s m args below meth c H locs cells slots Q (F0 m pc ls st0) := by
  have p1 : (vz_w bs).Perm (vz_w bc ++ vz_w br) := by rw [← List.flatten_append]; exact vz_bp hn9 hp9 hC
  have p2 : ∀ u, (vz_w br ++ vz_w (b1 u)).Perm (vz_w (bs2 u)) := fun u => by refine List.Perm.trans List.perm_append_comm ?_; rw [← List.flatten_append]; exact (vz_bp (hn8 u) hp9 (hC2 u)).symm
  obtain ⟨q1, he1⟩ := List.getElem?_of_mem (p1.mem_iff.mp (List.mem_of_getElem? he))
  exact vz_Vi (ws := vz_w bc ++ vz_w br) (wr := vz_w br) hx hb hml hown hts hK hA (vz_permP p1 hP) (vz_permD p1 hD) hS hM hc hR he1 hq hqc (List.range (vz_w bc).length) ((List.range (vz_w br).length).map (fun i => (vz_w bc).length + i)) (vz_cc _ _) (vz_rr _ _) (vz_apb _ _) hls hroom hdg hf hst (fun r u H1 locs1 hw hz hP2 hD2 hS1 => kk r u H1 locs1 hw hz (vz_permP (p2 u) hP2) (vz_permD (p2 u) hD2) hS1)
theorem vz_Vv4 {bs bc br : List va_W} {b1 bs2 : S → List va_W} {post : S → Prop} (hx : p.tables.exec = Jvm.exec) (hb : c.code = cc) (hml : c.maxLocals = nL) (hown : s.vm.findClass own = some m.cls) (hts : ∀ w ∈ wsL_law, w.before args s = true) (hK : va_K D vwCl T s) (hA : ∀ q : Nat, H0.size ≤ q → A q) (hP : va_P D vwCl (vz_w bs) H) (hD : va_D A (vz_w bs)) (hS : va_S A H0 H locs)
    (hM : vz_Mv l D T y b' n' f L mc ms (.ref b :: As) H.size (vz_w bc) post (fun u => vz_w (b1 u))) (hc : vz_cv own index y b' n' none As.length) (hR : f + 1 ≤ R.frames ∧ 8 + (n' + 11) + L ≤ R.locals)
    {q0 ci : Nat} {fs : List Value} {q : vw_C} (he : (vz_w bs)[q0]? = some (b, .inr (ci, fs))) (hq : vwCl[ci]? = some q) (hqc : q.1 = y.cls) (isC isR : List Nat) {n9 : Nat} (hn9 : bs.length = n9) (hp9 : (isC ++ isR).isPerm (List.range n9) = true) (hC : (isC ++ isR).map (fun i => bs[i]?) = (bc ++ br).map some) (hn8 : ∀ u, (bs2 u).length = n9) (hC2 : ∀ u, (isC ++ isR).map (fun i => (bs2 u)[i]?) = (b1 u ++ br).map some)
    (hls : ls.size = nL) (hroom : (rest.map fun v => v.category).sum ≤ 8) (hdg : decode cc pc = .ok (.invokevirtual index, 3)) (hf : cells + mc ≤ R.cells ∧ slots + ms ≤ R.slots) (hst : st0 = As.reverse ++ .ref b :: rest)
    (kk : ∀ (u : S) (H1 : Heap) (locs1 : List Loc), post u → H.size ≤ H1.size → va_P D vwCl (vz_w (bs2 u)) H1 → va_D A (vz_w (bs2 u)) → va_S A H0 H1 locs1 → W p l e R s m args below meth c H1 locs1 (cells + mc) (slots + ms) Q (F0 m (pc + 3) ls rest)) : W p l e R s m args below meth c H locs cells slots Q (F0 m pc ls st0) := by
  have p1 : (vz_w bs).Perm (vz_w bc ++ vz_w br) := by rw [← List.flatten_append]; exact vz_bp hn9 hp9 hC
  have p2 : ∀ u, (vz_w br ++ vz_w (b1 u)).Perm (vz_w (bs2 u)) := fun u => by refine List.Perm.trans List.perm_append_comm ?_; rw [← List.flatten_append]; exact (vz_bp (hn8 u) hp9 (hC2 u)).symm
  obtain ⟨q1, he1⟩ := List.getElem?_of_mem (p1.mem_iff.mp (List.mem_of_getElem? he))
  exact vz_Vv (ws := vz_w bc ++ vz_w br) (wr := vz_w br) hx hb hml hown hts hK hA (vz_permP p1 hP) (vz_permD p1 hD) hS hM hc hR he1 hq hqc (List.range (vz_w bc).length) ((List.range (vz_w br).length).map (fun i => (vz_w bc).length + i)) (vz_cc _ _) (vz_rr _ _) (vz_apb _ _) hls hroom hdg hf hst (fun u H1 locs1 hw hz hP2 hD2 hS1 => kk u H1 locs1 hw hz (vz_permP (p2 u) hP2) (vz_permD (p2 u) hD2) hS1)
theorem vz_Vr4 {bs bc br : List va_W} {b1 bs2 : S → List va_W} {ra : S → Nat} (hx : p.tables.exec = Jvm.exec) (hb : c.code = cc) (hml : c.maxLocals = nL) (hown : s.vm.findClass own = some m.cls) (hts : ∀ w ∈ wsL_law, w.before args s = true) (hK : va_K D vwCl T s) (hA : ∀ q : Nat, H0.size ≤ q → A q) (hP : va_P D vwCl (vz_w bs) H) (hD : va_D A (vz_w bs)) (hS : va_S A H0 H locs)
    (hM : vz_Mr l D T y b' n' f L mc ms ty (.ref b :: As) H.size (vz_w bc) ra (fun u => vz_w (b1 u))) (hc : vz_cv own index y b' n' (some ty) As.length) (hR : f + 1 ≤ R.frames ∧ 8 + (n' + 11) + L ≤ R.locals)
    {q0 ci : Nat} {fs : List Value} {q : vw_C} (he : (vz_w bs)[q0]? = some (b, .inr (ci, fs))) (hq : vwCl[ci]? = some q) (hqc : q.1 = y.cls) (isC isR : List Nat) {n9 : Nat} (hn9 : bs.length = n9) (hp9 : (isC ++ isR).isPerm (List.range n9) = true) (hC : (isC ++ isR).map (fun i => bs[i]?) = (bc ++ br).map some) (hn8 : ∀ u, (bs2 u).length = n9) (hC2 : ∀ u, (isC ++ isR).map (fun i => (bs2 u)[i]?) = (b1 u ++ br).map some)
    (hls : ls.size = nL) (hroom : (rest.map fun v => v.category).sum ≤ 8) (hdg : decode cc pc = .ok (.invokevirtual index, 3)) (hf : cells + mc ≤ R.cells ∧ slots + ms ≤ R.slots) (hst : st0 = As.reverse ++ .ref b :: rest)
    (kk : ∀ (u : S) (a : Nat) (H1 : Heap) (locs1 : List Loc), a = ra u → H.size ≤ H1.size → va_P D vwCl (vz_w (bs2 u)) H1 → va_D A (vz_w (bs2 u)) → va_S A H0 H1 locs1 → W p l e R s m args below meth c H1 locs1 (cells + mc) (slots + ms) Q (F0 m (pc + 3) ls (.ref a :: rest))) : W p l e R s m args below meth c H locs cells slots Q (F0 m pc ls st0) := by
  have p1 : (vz_w bs).Perm (vz_w bc ++ vz_w br) := by rw [← List.flatten_append]; exact vz_bp hn9 hp9 hC
  have p2 : ∀ u, (vz_w br ++ vz_w (b1 u)).Perm (vz_w (bs2 u)) := fun u => by refine List.Perm.trans List.perm_append_comm ?_; rw [← List.flatten_append]; exact (vz_bp (hn8 u) hp9 (hC2 u)).symm
  obtain ⟨q1, he1⟩ := List.getElem?_of_mem (p1.mem_iff.mp (List.mem_of_getElem? he))
  exact vz_Vr (ws := vz_w bc ++ vz_w br) (wr := vz_w br) hx hb hml hown hts hK hA (vz_permP p1 hP) (vz_permD p1 hD) hS hM hc hR he1 hq hqc (List.range (vz_w bc).length) ((List.range (vz_w br).length).map (fun i => (vz_w bc).length + i)) (vz_cc _ _) (vz_rr _ _) (vz_apb _ _) hls hroom hdg hf hst (fun u a H1 locs1 hw hz hP2 hD2 hS1 => kk u a H1 locs1 hw hz (vz_permP (p2 u) hP2) (vz_permD (p2 u) hD2) hS1)
theorem vz_Iv4 {bs bc br : List va_W} {b1 bs2 : S → List va_W} {post : S → Prop} (hx : p.tables.exec = Jvm.exec) (hb : c.code = cc) (hml : c.maxLocals = nL) (hown : s.vm.findClass own = some m.cls) (hts : ∀ w ∈ wsL_law, w.before args s = true) (hK : va_K D vwCl T s) (hA : ∀ q : Nat, H0.size ≤ q → A q) (hP : va_P D vwCl (vz_w bs) H) (hD : va_D A (vz_w bs)) (hS : va_S A H0 H locs)
    (hM : vz_Mv l D T y b' n' f L mc ms (.ref b :: As) H.size (vz_w bc) post (fun u => vz_w (b1 u))) (hc : vz_ci own index y b' n' As.length) (hR : f + 1 ≤ R.frames ∧ 8 + (n' + 11) + L ≤ R.locals)
    (isC isR : List Nat) {n9 : Nat} (hn9 : bs.length = n9) (hp9 : (isC ++ isR).isPerm (List.range n9) = true) (hC : (isC ++ isR).map (fun i => bs[i]?) = (bc ++ br).map some) (hn8 : ∀ u, (bs2 u).length = n9) (hC2 : ∀ u, (isC ++ isR).map (fun i => (bs2 u)[i]?) = (b1 u ++ br).map some)
    (hls : ls.size = nL) (hroom : (rest.map fun v => v.category).sum ≤ 8) (hdg : decode cc pc = .ok (.invokespecial index, 3)) (hf : cells + mc ≤ R.cells ∧ slots + ms ≤ R.slots) (hst : st0 = As.reverse ++ .ref b :: rest)
    (kk : ∀ (u : S) (H1 : Heap) (locs1 : List Loc), post u → H.size ≤ H1.size → va_P D vwCl (vz_w (bs2 u)) H1 → va_D A (vz_w (bs2 u)) → va_S A H0 H1 locs1 → W p l e R s m args below meth c H1 locs1 (cells + mc) (slots + ms) Q (F0 m (pc + 3) ls rest)) : W p l e R s m args below meth c H locs cells slots Q (F0 m pc ls st0) := by
  have p1 : (vz_w bs).Perm (vz_w bc ++ vz_w br) := by rw [← List.flatten_append]; exact vz_bp hn9 hp9 hC
  have p2 : ∀ u, (vz_w br ++ vz_w (b1 u)).Perm (vz_w (bs2 u)) := fun u => by refine List.Perm.trans List.perm_append_comm ?_; rw [← List.flatten_append]; exact (vz_bp (hn8 u) hp9 (hC2 u)).symm
  exact vz_Iv (ws := vz_w bc ++ vz_w br) (wr := vz_w br) hx hb hml hown hts hK hA (vz_permP p1 hP) (vz_permD p1 hD) hS hM hc hR (List.range (vz_w bc).length) ((List.range (vz_w br).length).map (fun i => (vz_w bc).length + i)) (vz_cc _ _) (vz_rr _ _) (vz_apb _ _) hls hroom hdg hf hst (fun u H1 locs1 hw hz hP2 hD2 hS1 => kk u H1 locs1 hw hz (vz_permP (p2 u) hP2) (vz_permD (p2 u) hD2) hS1)
theorem vz_Si4 {bs bc br : List va_W} {b1 bs2 : S → List va_W} {post : Int32 → S → Prop} (hx : p.tables.exec = Jvm.exec) (hb : c.code = cc) (hml : c.maxLocals = nL) (hown : s.vm.findClass own = some m.cls) (hts : ∀ w ∈ wsL_law, w.before args s = true) (hK : va_K D vwCl T s) (hA : ∀ q : Nat, H0.size ≤ q → A q) (hP : va_P D vwCl (vz_w bs) H) (hD : va_D A (vz_w bs)) (hS : va_S A H0 H locs)
    (hM : vz_Mi l D T y b' n' f L mc ms ty As H.size (vz_w bc) post (fun u => vz_w (b1 u))) (hc : vz_cs own index y b' n' (some ty) As.length) (hR : f + 1 ≤ R.frames ∧ 8 + (n' + 11) + L ≤ R.locals)
    (isC isR : List Nat) {n9 : Nat} (hn9 : bs.length = n9) (hp9 : (isC ++ isR).isPerm (List.range n9) = true) (hC : (isC ++ isR).map (fun i => bs[i]?) = (bc ++ br).map some) (hn8 : ∀ u, (bs2 u).length = n9) (hC2 : ∀ u, (isC ++ isR).map (fun i => (bs2 u)[i]?) = (b1 u ++ br).map some)
    (hls : ls.size = nL) (hroom : (rest.map fun v => v.category).sum ≤ 8) (hdg : decode cc pc = .ok (.invokestatic index, 3)) (hf : cells + mc ≤ R.cells ∧ slots + ms ≤ R.slots) (hst : st0 = As.reverse ++ rest)
    (kk : ∀ (r : Int32) (u : S) (H1 : Heap) (locs1 : List Loc), post r u → H.size ≤ H1.size → va_P D vwCl (vz_w (bs2 u)) H1 → va_D A (vz_w (bs2 u)) → va_S A H0 H1 locs1 → W p l e R s m args below meth c H1 locs1 (cells + mc) (slots + ms) Q (F0 m (pc + 3) ls (.int r :: rest))) : W p l e R s m args below meth c H locs cells slots Q (F0 m pc ls st0) := by
  have p1 : (vz_w bs).Perm (vz_w bc ++ vz_w br) := by rw [← List.flatten_append]; exact vz_bp hn9 hp9 hC
  have p2 : ∀ u, (vz_w br ++ vz_w (b1 u)).Perm (vz_w (bs2 u)) := fun u => by refine List.Perm.trans List.perm_append_comm ?_; rw [← List.flatten_append]; exact (vz_bp (hn8 u) hp9 (hC2 u)).symm
  exact vz_Si (ws := vz_w bc ++ vz_w br) (wr := vz_w br) hx hb hml hown hts hK hA (vz_permP p1 hP) (vz_permD p1 hD) hS hM hc hR (List.range (vz_w bc).length) ((List.range (vz_w br).length).map (fun i => (vz_w bc).length + i)) (vz_cc _ _) (vz_rr _ _) (vz_apb _ _) hls hroom hdg hf hst (fun r u H1 locs1 hw hz hP2 hD2 hS1 => kk r u H1 locs1 hw hz (vz_permP (p2 u) hP2) (vz_permD (p2 u) hD2) hS1)
end VZ4
