/-! Worlds as blocks of cells with any numbers in them: what is kept is the shape alone (a Table never has more rows than it may). -/
def vz_un (r : Nat → Nat) (t v : Nat) : Nat → Nat := fun k => if k = t then v else r k
def vz_uf (f : Nat → Nat → Int32) (t : Nat) (v : Nat → Int32) : Nat → Nat → Int32 := fun k => if k = t then v else f k
theorem vz_wf {r L : Nat → Nat} (h : ∀ k, r k ≤ L k) {t v : Nat} (hv : v ≤ L t) : ∀ k, vz_un r t v k ≤ L k := by
  intro k
  unfold vz_un
  by_cases hk : k = t
  · rw [if_pos hk, hk]; exact hv
  · rw [if_neg hk]; exact h k
theorem vz_nb {v : Int32} (h : v = 0 ∨ v = 1) : narrow .boolean (.int v) = .int v := by
  rcases h with rfl | rfl <;> decide
theorem vz_ltge {n B : Nat} (hn : n < 2 ^ 31) (h : ¬ nI B ≤ nI n) : n < B := by
  rcases Nat.lt_or_ge n B with z | z
  · exact z
  · exact absurd (nI_le z hn) h
theorem vz_ltgt {n B : Nat} (hB : B < 2 ^ 31) (hn : n < 2 ^ 31) (h : ¬ nI B < nI n) : n < B + 1 := by
  rcases Nat.lt_or_ge B n with z | z
  · exact absurd (nI_lt z hn) h
  · omega
theorem vz_siQ {S : Type} {l : Launch} {D : va_G} {T : vz_T} {y : MethodName} {b : ByteArray} {n f L mc ms : Nat} {ty : FieldType} {av : List Value} {sz : Nat} {ws : va_W} {post : Int32 → S → Prop} {w1 : S → va_W} (hy : plainName y.cls = true) (hn : (lg_sl av).length ≤ n)
    (body : ∀ (p : Program) (e : Env) (s : State) (m : MethodId) (args : Array Value) (below : List Frame) (meth : Method) (c : Code), p.tables.exec = Jvm.exec → c.code = b → meth.sig.returnType = some ty → c.maxLocals = n → (∀ w ∈ wsL_law, w.before args s = true) → s.vm.findClass y.cls = some m.cls → meth.locks = false → meth.name = y.name → va_K D vwCl T s → s.heap.size = sz → ∀ A : Nat → Prop, (∀ q : Nat, s.heap.size ≤ q → A q) → ∀ (H : Heap) (locs : List Loc), va_P D vwCl ws H → va_D A ws → va_S A s.heap H locs → ∀ ls : Array Slot, lv_has ls n (lv_args 0 av) → ∀ Q : State → Prop, Q = (MQ below (va_Qi post (fun u => vz_B D T A (w1 u)) A) args s mc ms A) →
      W p l e { frames := f, cells := mc, slots := ms, locals := L } s m args below meth c H locs 0 0 Q (F0 m 0 ls [])) : vz_Mi l D T y b n f L mc ms ty av sz ws post w1 :=
  vz_si hy hn (fun p e s m args below meth c h1 h2 h3 h4 h5 h6 h7 h8 h9 h10 A h11 H locs h12 h13 h14 ls h15 => body p e s m args below meth c h1 h2 h3 h4 h5 h6 h7 h8 h9 h10 A h11 H locs h12 h13 h14 ls h15 _ rfl)
theorem vz_svQ {S : Type} {l : Launch} {D : va_G} {T : vz_T} {y : MethodName} {b : ByteArray} {n f L mc ms : Nat} {av : List Value} {sz : Nat} {ws : va_W} {post : S → Prop} {w1 : S → va_W} (hy : plainName y.cls = true) (hn : (lg_sl av).length ≤ n)
    (body : ∀ (p : Program) (e : Env) (s : State) (m : MethodId) (args : Array Value) (below : List Frame) (meth : Method) (c : Code), p.tables.exec = Jvm.exec → c.code = b → meth.sig.returnType = none → c.maxLocals = n → (∀ w ∈ wsL_law, w.before args s = true) → s.vm.findClass y.cls = some m.cls → meth.locks = false → meth.name = y.name → va_K D vwCl T s → s.heap.size = sz → ∀ A : Nat → Prop, (∀ q : Nat, s.heap.size ≤ q → A q) → ∀ (H : Heap) (locs : List Loc), va_P D vwCl ws H → va_D A ws → va_S A s.heap H locs → ∀ ls : Array Slot, lv_has ls n (lv_args 0 av) → ∀ Q : State → Prop, Q = (MQ below (va_Qv post (fun u => vz_B D T A (w1 u)) A) args s mc ms A) →
      W p l e { frames := f, cells := mc, slots := ms, locals := L } s m args below meth c H locs 0 0 Q (F0 m 0 ls [])) : vz_Mv l D T y b n f L mc ms av sz ws post w1 :=
  vz_sv hy hn (fun p e s m args below meth c h1 h2 h3 h4 h5 h6 h7 h8 h9 h10 A h11 H locs h12 h13 h14 ls h15 => body p e s m args below meth c h1 h2 h3 h4 h5 h6 h7 h8 h9 h10 A h11 H locs h12 h13 h14 ls h15 _ rfl)
theorem vz_srQ {S : Type} {l : Launch} {D : va_G} {T : vz_T} {y : MethodName} {b : ByteArray} {n f L mc ms : Nat} {ty : FieldType} {av : List Value} {sz : Nat} {ws : va_W} {ra : S → Nat} {w1 : S → va_W} (hy : plainName y.cls = true) (hn : (lg_sl av).length ≤ n)
    (body : ∀ (p : Program) (e : Env) (s : State) (m : MethodId) (args : Array Value) (below : List Frame) (meth : Method) (c : Code), p.tables.exec = Jvm.exec → c.code = b → meth.sig.returnType = some ty → c.maxLocals = n → (∀ w ∈ wsL_law, w.before args s = true) → s.vm.findClass y.cls = some m.cls → meth.locks = false → meth.name = y.name → va_K D vwCl T s → s.heap.size = sz → ∀ A : Nat → Prop, (∀ q : Nat, s.heap.size ≤ q → A q) → ∀ (H : Heap) (locs : List Loc), va_P D vwCl ws H → va_D A ws → va_S A s.heap H locs → ∀ ls : Array Slot, lv_has ls n (lv_args 0 av) → ∀ Q : State → Prop, Q = (MQ below (va_Qr (fun _ : S => True) (fun u a t => a = ra u ∧ vz_B D T A (w1 u) t) A) args s mc ms A) →
      W p l e { frames := f, cells := mc, slots := ms, locals := L } s m args below meth c H locs 0 0 Q (F0 m 0 ls [])) : vz_Mr l D T y b n f L mc ms ty av sz ws ra w1 :=
  vz_sr hy hn (fun p e s m args below meth c h1 h2 h3 h4 h5 h6 h7 h8 h9 h10 A h11 H locs h12 h13 h14 ls h15 => body p e s m args below meth c h1 h2 h3 h4 h5 h6 h7 h8 h9 h10 A h11 H locs h12 h13 h14 ls h15 _ rfl)
abbrev pgW (g : Nat → ClassId) (h : Nat) (a : Nat → Nat) (r : Nat → Nat) (f : Nat → Nat → Int32) : va_W := [(h, .inr (2, [.ref (a 0), .ref (a 2), .ref (a 4), .ref (a 6), .ref (a 8)])), tT (a 0) (a 1) (nI 12) (nI 80) (nI (r 0)), tA g (a 1) 960 (f 0), tT (a 2) (a 3) (nI 5) (nI 1000) (nI (r 1)), tA g (a 3) 5000 (f 1), tT (a 4) (a 5) (nI 5) (nI 112) (nI (r 2)), tA g (a 5) 560 (f 2), tT (a 6) (a 7) (nI 1) (nI 16) (nI (r 3)), tA g (a 7) 16 (f 3), tT (a 8) (a 9) (nI 2) (nI 8) (nI (r 4)), tA g (a 9) 16 (f 4)]
abbrev pgW_lim : Nat → Nat := fun k => [80, 1000, 112, 16, 8].getD k 0
abbrev tkW (g : Nat → ClassId) (a : Nat → Nat) (r : Nat → Nat) (f : Nat → Nat → Int32) : va_W := [tT (a 0) (a 1) (nI 3) (nI 1001) (nI (r 0)), tA g (a 1) 3003 (f 0)]
abbrev tkW_lim : Nat → Nat := fun k => [1001].getD k 0
abbrev txW (g : Nat → ClassId) (a : Nat → Nat) (r : Nat → Nat) (f : Nat → Nat → Int32) : va_W := [tT (a 0) (a 1) (nI 1) (nI 1000) (nI (r 0)), tA g (a 1) 1000 (f 0)]
abbrev txW_lim : Nat → Nat := fun k => [1000].getD k 0
abbrev scW (h : Nat) (i : Nat → Int32) (tk : Nat) : va_W := [(h, .inr (5, [.ref tk, .int (i 0)]))]
abbrev rdW (g : Nat → ClassId) (h : Nat) (a : Nat → Nat) (i : Nat → Int32) (r : Nat → Nat) (f : Nat → Nat → Int32) (tk : Nat) (ph : Nat) : va_W := [(h, .inr (3, [.ref tk, .ref (a 0), .ref (a 2), .ref (a 4), .ref ph, .int (i 0), .int (i 1), .int (i 2), .int (i 3), .int (i 4), .int (i 5), .int (i 6)])), tT (a 0) (a 1) (nI 1) (nI 6) (nI (r 0)), tA g (a 1) 6 (f 0), tT (a 2) (a 3) (nI 1) (nI 6) (nI (r 1)), tA g (a 3) 6 (f 1), tT (a 4) (a 5) (nI 1) (nI 80) (nI (r 2)), tA g (a 5) 80 (f 2)]
abbrev rdW_lim : Nat → Nat := fun k => [6, 6, 80].getD k 0
abbrev coW (g : Nat → ClassId) (h : Nat) (a : Nat → Nat) (i : Nat → Int32) (r : Nat → Nat) (f : Nat → Nat → Int32) (cd : Nat) (hd : Nat) (ph : Nat) : va_W := [(h, .inr (0, [.ref cd, .ref hd, .ref (a 0), .ref ph, .int (i 0), .int (i 1), .int (i 2), .int (i 3)])), tT (a 0) (a 1) (nI 6) (nI 64) (nI (r 0)), tA g (a 1) 384 (f 0)]
abbrev coW_lim : Nat → Nat := fun k => [64].getD k 0
abbrev cdW (g : Nat → ClassId) (a : Nat → Nat) (r : Nat → Nat) (f : Nat → Nat → Int32) : va_W := [tT (a 0) (a 1) (nI 4) (nI 4500) (nI (r 0)), tA g (a 1) 18000 (f 0), tT (a 2) (a 3) (nI 3) (nI 500) (nI (r 1)), tA g (a 3) 1500 (f 1)]
abbrev cdW_lim : Nat → Nat := fun k => [4500, 500].getD k 0
abbrev rcW (g : Nat → ClassId) (h : Nat) (a : Nat → Nat) (i : Nat → Int32) (r : Nat → Nat) (f : Nat → Nat → Int32) : va_W := [(h, .inr (4, [.ref (a 0), .ref (a 2), .ref (a 4), .ref (a 6), .ref (a 8), .int (i 0), .int (i 1), .int (i 2), .int (i 3), .int (i 4), .int (i 5), .int (i 6)])), tT (a 0) (a 1) (nI 1) (nI 400) (nI (r 0)), tA g (a 1) 400 (f 0), tT (a 2) (a 3) (nI 7) (nI 400) (nI (r 1)), tA g (a 3) 2800 (f 1), tT (a 4) (a 5) (nI 3) (nI 401) (nI (r 2)), tA g (a 5) 1203 (f 2), tT (a 6) (a 7) (nI 1) (nI 400) (nI (r 3)), tA g (a 7) 400 (f 3), tT (a 8) (a 9) (nI 1) (nI 80) (nI (r 4)), tA g (a 9) 80 (f 4)]
abbrev rcW_lim : Nat → Nat := fun k => [400, 400, 401, 400, 80].getD k 0
abbrev woW (g : Nat → ClassId) (h : Nat) (a : Nat → Nat) (i : Nat → Int32) (r : Nat → Nat) (f : Nat → Nat → Int32) (ph : Nat) (rh : Nat) (pl : Nat) : va_W := [(h, .inr (8, [.ref (a 0), .ref (a 2), .ref (a 4), .ref (a 6), .ref (a 8), .ref ph, .ref rh, .ref pl, .int (i 0), .int (i 1), .int (i 2)])), tT (a 0) (a 1) (nI 3) (nI 60) (nI (r 0)), tA g (a 1) 180 (f 0), tT (a 2) (a 3) (nI 12) (nI 12) (nI (r 1)), tA g (a 3) 144 (f 1), tT (a 4) (a 5) (nI 11) (nI 72) (nI (r 2)), tA g (a 5) 792 (f 2), tT (a 6) (a 7) (nI 9) (nI 400) (nI (r 3)), tA g (a 7) 3600 (f 3), tT (a 8) (a 9) (nI 7) (nI 80) (nI (r 4)), tA g (a 9) 560 (f 4)]
abbrev woW_lim : Nat → Nat := fun k => [60, 12, 72, 400, 80].getD k 0
abbrev wkW (h : Nat) (i : Nat → Int32) (wh : Nat) : va_W := [(h, .inr (7, [.ref wh, .int (i 0), .int (i 1), .int (i 2), .int (i 3), .int (i 4), .int (i 5)]))]
abbrev mcW (g : Nat → ClassId) (h : Nat) (a : Nat → Nat) (i : Nat → Int32) (r : Nat → Nat) (f : Nat → Nat → Int32) (wh : Nat) (cd : Nat) (hd : Nat) : va_W := [(h, .inr (1, [.ref wh, .ref cd, .ref hd, .ref (a 0), .int (i 0), .int (i 1), .int (i 2)])), tT (a 0) (a 1) (nI 1) (nI 64) (nI (r 0)), tA g (a 1) 64 (f 0)]
abbrev mcW_lim : Nat → Nat := fun k => [64].getD k 0
