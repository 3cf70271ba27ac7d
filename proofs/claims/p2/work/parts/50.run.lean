/-- the program that runs are of: its shape, with its numbers and its depths -/
def WLX (st ek ev fo co ck cb bo ab sts cat met kin : Nat → Int32) (d ns bl nc nm nk en : Nat) (gS gB : vgG) : Prop := (∀ s, s < ns → WFS (fun A => ∃ a : Nat, a < nk ∧ A = nI a) (fun A => ∃ a : Nat, a < nm ∧ A = nI a) False ek ev (1100 * d) en ns bl gS gB (gS s) (csh d st s)) ∧ WFB (fun A => ∃ a : Nat, a < nk ∧ A = nI a) False (gsh 400 d fo) (gsh 160 d co) (gsh 160 d ck) (gsh 160 d cb) (gsh 8 d bo) (gsh 16 d ab) ns bl nc nm nk gS gB ∧ en ≤ 1100 ∧ 7 ≤ nk ∧ sts d = nI ns ∧ cat d = nI nc ∧ met d = nI nm ∧ kin d = nI nk
theorem WLX_of {st ek ev fo co ck cb bo ab sts cat met kin : Nat → Int32} {d : Nat} (h : WLV st ek ev fo co ck cb bo ab sts cat met kin d) : ∃ ns bl nc nm nk en gS gB, WLX st ek ev fo co ck cb bo ab sts cat met kin d ns bl nc nm nk en gS gB := by
  obtain ⟨ns, bl, nc, nm, nk, en, ⟨gS, gB, h1, h2⟩, h3⟩ := h
  exact ⟨ns, bl, nc, nm, nk, en, gS, gB, h1, h2, h3⟩
def KOK (nk : Nat) (x : Int32) : Prop := ∃ a : Nat, a < nk ∧ x = nI a
def TI (told : Nat → Int32) (w c3 c4 c6 : Nat) : Prop := told (10 * w + 3) = nI c3 ∧ told (10 * w + 4) = nI c4 ∧ told (10 * w + 6) = nI c6 ∧ (told (10 * w + 2) = -9 ∨ ∃ f : Nat, f ≤ 400 ∧ told (10 * w + 2) = nI f)
def TR (told : Nat → Int32) (sl c4 B : Nat) : Prop := c4 ≤ B ∧ (∃ c3 c6 : Nat, c3 ≤ B ∧ c6 ≤ B ∧ TI told sl c3 c4 c6) ∧ ∀ w, w < 3 → w ≠ sl → ∃ c3 d4 c6 : Nat, c3 ≤ 400 ∧ d4 ≤ 400 ∧ c6 ≤ 400 ∧ TI told w c3 d4 c6
def UN (x : Int32) (f c : Nat) : Prop := x = -9 ∨ ∃ y : Nat, f < y ∧ y < c ∧ x = nI y
def UNS (uf un : Nat → Int32) (sl n c : Nat) : Prop := ∀ f, f < n → UN (uf (420 * sl + f)) f c ∧ UN (un (420 * sl + f)) f c
def FK (fkd : Nat → Int32) (sl c4 nk : Nat) : Prop := ∀ f, f < c4 → KOK nk (fkd (420 * sl + f))
def UW (uw : Nat → Int32) : Prop := ∀ j, j < 1260 → ∃ u : Nat, u ≤ 12 ∧ uw j = nI u
def FB (told fkd uf un uw : Nat → Int32) (sl c4 nk B : Nat) : Prop := TR told sl c4 B ∧ FK fkd sl c4 nk ∧ UNS uf un sl c4 c4 ∧ UW uw
theorem TI_congr {told t2 : Nat → Int32} {w c3 c4 c6 : Nat} (h : TI told w c3 c4 c6) (e3 : t2 (10 * w + 3) = told (10 * w + 3)) (e4 : t2 (10 * w + 4) = told (10 * w + 4)) (e6 : t2 (10 * w + 6) = told (10 * w + 6)) (e2 : t2 (10 * w + 2) = told (10 * w + 2)) : TI t2 w c3 c4 c6 := ⟨e3.trans h.1, e4.trans h.2.1, e6.trans h.2.2.1, by rw [e2]; exact h.2.2.2⟩
theorem TR_cong {told t2 : Nat → Int32} {sl c4 B k : Nat} (h : TR told sl c4 B) (hk : k < 10 ∧ k ≠ 3 ∧ k ≠ 4 ∧ (k ≠ 6 ∧ k ≠ 2)) (e : ∀ j, j ≠ 10 * sl + k → t2 j = told j) : TR t2 sl c4 B := by
  obtain ⟨h1, ⟨c3, c6, a1, a2, a3⟩, h3⟩ := h
  refine ⟨h1, ⟨c3, c6, a1, a2, TI_congr a3 (e _ (by omega)) (e _ (by omega)) (e _ (by omega)) (e _ (by omega))⟩, fun w hw hne => ?_⟩
  obtain ⟨d3, d4, d6, b1, b2, b3, b4⟩ := h3 w hw hne
  exact ⟨d3, d4, d6, b1, b2, b3, TI_congr b4 (e _ (by omega)) (e _ (by omega)) (e _ (by omega)) (e _ (by omega))⟩
theorem TR_mono {told : Nat → Int32} {sl c4 B B2 : Nat} (h : TR told sl c4 B) (hb : B ≤ B2) : TR told sl c4 B2 := by
  obtain ⟨h1, ⟨c3, c6, a1, a2, a3⟩, h3⟩ := h
  exact ⟨by omega, ⟨c3, c6, by omega, by omega, a3⟩, h3⟩
theorem TR_4 {told : Nat → Int32} {sl c4 B : Nat} (h : TR told sl c4 B) : TR (upd told (10 * sl + 4) (nI (c4 + 1))) sl (c4 + 1) (B + 1) := by
  obtain ⟨h1, ⟨c3, c6, a1, a2, a3, a4, a5, a6⟩, h3⟩ := h
  refine ⟨by omega, ⟨c3, c6, by omega, by omega, ?_, upd_at, ?_, ?_⟩, fun w hw hne => ?_⟩
  · rw [upd_ne (by omega)]; exact a3
  · rw [upd_ne (by omega)]; exact a5
  · rw [upd_ne (by omega)]; exact a6
  · obtain ⟨d3, d4, d6, b1, b2, b3, b4⟩ := h3 w hw hne
    exact ⟨d3, d4, d6, b1, b2, b3, TI_congr b4 (upd_ne (by omega)) (upd_ne (by omega)) (upd_ne (by omega)) (upd_ne (by omega))⟩
theorem TR_3 {told : Nat → Int32} {sl c4 B : Nat} (h : TR told sl c4 B) : ∃ c3 : Nat, c3 ≤ B ∧ told (10 * sl + 3) = nI c3 ∧ TR (upd told (10 * sl + 3) (nI (c3 + 1))) sl c4 (B + 1) := by
  obtain ⟨h1, ⟨c3, c6, a1, a2, a3, a4, a5, a6⟩, h3⟩ := h
  refine ⟨c3, a1, a3, by omega, ⟨c3 + 1, c6, by omega, by omega, upd_at, ?_, ?_, ?_⟩, fun w hw hne => ?_⟩
  · rw [upd_ne (by omega)]; exact a4
  · rw [upd_ne (by omega)]; exact a5
  · rw [upd_ne (by omega)]; exact a6
  · obtain ⟨d3, d4, d6, b1, b2, b3, b4⟩ := h3 w hw hne
    exact ⟨d3, d4, d6, b1, b2, b3, TI_congr b4 (upd_ne (by omega)) (upd_ne (by omega)) (upd_ne (by omega)) (upd_ne (by omega))⟩
theorem TR_6 {told : Nat → Int32} {sl c4 B : Nat} (h : TR told sl c4 B) : ∃ c6 : Nat, c6 ≤ B ∧ told (10 * sl + 6) = nI c6 ∧ TR (upd told (10 * sl + 6) (nI (c6 + 1))) sl c4 (B + 1) := by
  obtain ⟨h1, ⟨c3, c6, a1, a2, a3, a4, a5, a6⟩, h3⟩ := h
  refine ⟨c6, a2, a5, by omega, ⟨c3, c6 + 1, by omega, by omega, ?_, ?_, upd_at, ?_⟩, fun w hw hne => ?_⟩
  · rw [upd_ne (by omega)]; exact a3
  · rw [upd_ne (by omega)]; exact a4
  · rw [upd_ne (by omega)]; exact a6
  · obtain ⟨d3, d4, d6, b1, b2, b3, b4⟩ := h3 w hw hne
    exact ⟨d3, d4, d6, b1, b2, b3, TI_congr b4 (upd_ne (by omega)) (upd_ne (by omega)) (upd_ne (by omega)) (upd_ne (by omega))⟩
theorem TR_64 {told : Nat → Int32} {sl c4 c6 B : Nat} (h : TR told sl c4 B) (h6 : c6 ≤ B) : TR (upd (upd told (10 * sl + 6) (nI (c6 + 1))) (10 * sl + 4) (nI (c4 + 1))) sl (c4 + 1) (B + 1) := by
  obtain ⟨h1, ⟨c3, d6, a1, a2, a3, a4, a5, a6⟩, h3⟩ := h
  refine ⟨by omega, ⟨c3, c6 + 1, by omega, by omega, ?_, upd_at, ?_, ?_⟩, fun w hw hne => ?_⟩
  · rw [upd_ne (by omega), upd_ne (by omega)]; exact a3
  · rw [upd_ne (by omega)]; exact upd_at
  · rw [upd_ne (by omega), upd_ne (by omega)]; exact a6
  · obtain ⟨d3, d4, e6, b1, b2, b3, b4⟩ := h3 w hw hne
    refine ⟨d3, d4, e6, b1, b2, b3, TI_congr b4 ?_ ?_ ?_ ?_⟩ <;> rw [upd_ne (by omega), upd_ne (by omega)]
theorem TR_2 {told : Nat → Int32} {sl c4 B : Nat} {x : Int32} (h : TR told sl c4 B) (hx : x = -9 ∨ ∃ f : Nat, f ≤ 400 ∧ x = nI f) : TR (upd told (10 * sl + 2) x) sl c4 B := by
  obtain ⟨h1, ⟨c3, c6, a1, a2, a3, a4, a5, a6⟩, h3⟩ := h
  refine ⟨h1, ⟨c3, c6, a1, a2, ?_, ?_, ?_, ?_⟩, fun w hw hne => ?_⟩
  · rw [upd_ne (by omega)]; exact a3
  · rw [upd_ne (by omega)]; exact a4
  · rw [upd_ne (by omega)]; exact a5
  · rw [upd_at]; exact hx
  · obtain ⟨d3, d4, d6, b1, b2, b3, b4⟩ := h3 w hw hne
    exact ⟨d3, d4, d6, b1, b2, b3, TI_congr b4 (upd_ne (by omega)) (upd_ne (by omega)) (upd_ne (by omega)) (upd_ne (by omega))⟩
theorem TR_at4 {told : Nat → Int32} {sl c4 B : Nat} (h : TR told sl c4 B) : told (10 * sl + 4) = nI c4 := by
  obtain ⟨h1, ⟨c3, c6, a1, a2, a3, a4, a5, a6⟩, h3⟩ := h
  exact a4
theorem UN_mono {x : Int32} {f c c2 : Nat} (h : UN x f c) (hc : c ≤ c2) : UN x f c2 := by
  rcases h with h | ⟨y, h1, h2, h3⟩
  · exact Or.inl h
  · exact Or.inr ⟨y, h1, by omega, h3⟩
theorem UNS_app {uf un : Nat → Int32} {sl c : Nat} (h : UNS uf un sl c c) (e1 : uf (420 * sl + c) = -9) (e2 : un (420 * sl + c) = -9) : UNS uf un sl (c + 1) (c + 1) := by
  intro f hf
  by_cases hq : f = c
  · rw [hq, e1, e2]; exact ⟨Or.inl rfl, Or.inl rfl⟩
  · obtain ⟨a, b⟩ := h f (by omega)
    exact ⟨UN_mono a (by omega), UN_mono b (by omega)⟩
theorem UNS_new {uf un : Nat → Int32} {sl c : Nat} (h : UNS uf un sl c c) : UNS (upd uf (420 * sl + c) (-9)) (upd un (420 * sl + c) (-9)) sl c c := by
  intro f hf
  rw [upd_ne (by omega), upd_ne (by omega)]; exact h f hf
theorem FK_new {fkd : Nat → Int32} {sl c4 nk : Nat} {x : Int32} (h : FK fkd sl c4 nk) (hx : KOK nk x) : FK (upd fkd (420 * sl + c4) x) sl (c4 + 1) nk := by
  intro f hf
  by_cases hq : f = c4
  · rw [hq, upd_at]; exact hx
  · rw [upd_ne (by omega)]; exact h f (by omega)
theorem UW_new {uw : Nat → Int32} {j u : Nat} (h : UW uw) (hu : u ≤ 12) : UW (upd uw j (nI u)) := by
  intro i hi
  by_cases hq : i = j
  · rw [hq, upd_at]; exact ⟨u, hu, rfl⟩
  · rw [upd_ne hq]; exact h i hi
theorem FB_told {told t2 fkd uf un uw : Nat → Int32} {sl c4 nk B k : Nat} (h : FB told fkd uf un uw sl c4 nk B) (hk : k < 10 ∧ k ≠ 3 ∧ k ≠ 4 ∧ (k ≠ 6 ∧ k ≠ 2)) (e : ∀ j, j ≠ 10 * sl + k → t2 j = told j) : FB t2 fkd uf un uw sl c4 nk B := ⟨TR_cong h.1 hk e, h.2⟩
theorem FB_mono {told fkd uf un uw : Nat → Int32} {sl c4 nk B B2 : Nat} (h : FB told fkd uf un uw sl c4 nk B) (hb : B ≤ B2) : FB told fkd uf un uw sl c4 nk B2 := ⟨TR_mono h.1 hb, h.2⟩
theorem FB_4 {told fkd uf un uw : Nat → Int32} {sl c4 nk B : Nat} (h : FB told fkd uf un uw sl c4 nk B) : told (10 * sl + 4) = nI c4 ∧ c4 ≤ B := ⟨TR_at4 h.1, h.1.1⟩
theorem FB_new {told fkd uf un uw : Nat → Int32} {sl c4 nk B u : Nat} {x : Int32} (h : FB told fkd uf un uw sl c4 nk B) (hx : KOK nk x) (hu : u ≤ 12) : FB (upd told (10 * sl + 4) (nI (c4 + 1))) (upd fkd (420 * sl + c4) x) (upd uf (420 * sl + c4) (-9)) (upd un (420 * sl + c4) (-9)) (upd uw (420 * sl + c4) (nI u)) sl (c4 + 1) nk (B + 1) := ⟨TR_4 h.1, FK_new h.2.1 hx, UNS_app (UNS_new h.2.2.1) upd_at upd_at, UW_new h.2.2.2 hu⟩
/-- frames -/
def cm (fk : Nat → Int32) : Nat → Nat
  | 0 => 0
  | k + 1 => cm fk k + (if fk k = 0 then 1 else 0)
def wt (k n : Int32) : Nat := if k = 3 then (if n = 0 then 8 else if n = 3 then 2 else 5) else 2
def wsum (fk fn : Nat → Int32) : Nat → Nat
  | 0 => 0
  | k + 1 => wsum fk fn k + wt (fk k) (fn k)
theorem cm_congr {fk f2 : Nat → Int32} : ∀ n, (∀ j, j < n → f2 j = fk j) → cm f2 n = cm fk n
  | 0, _ => rfl
  | n + 1, h => by
    show cm f2 n + (if f2 n = 0 then 1 else 0) = cm fk n + (if fk n = 0 then 1 else 0)
    rw [cm_congr n (fun j hj => h j (by omega)), h n (by omega)]
theorem wsum_congr {fk f2 fn n2 : Nat → Int32} : ∀ n, (∀ j, j < n → f2 j = fk j) → (∀ j, j < n → n2 j = fn j) → wsum f2 n2 n = wsum fk fn n
  | 0, _, _ => rfl
  | n + 1, h, g => by
    show wsum f2 n2 n + wt (f2 n) (n2 n) = wsum fk fn n + wt (fk n) (fn n)
    rw [wsum_congr n (fun j hj => h j (by omega)) (fun j hj => g j (by omega)), h n (by omega), g n (by omega)]
theorem cmn_s {fk : Nat → Int32} {n : Nat} : cm fk (n + 1) = cm fk n + (if fk n = 0 then 1 else 0) := rfl
theorem wsum_s {fk fn : Nat → Int32} {n : Nat} : wsum fk fn (n + 1) = wsum fk fn n + wt (fk n) (fn n) := rfl
def ICd (fk fn : Nat → Int32) (k : Nat) : Prop := ∃ j, j < k ∧ fk j = 3 ∧ fn j = 2
def GD (fn pe pv op ca : Nat → Int32) (c4 k : Nat) : Prop := (fn k = 0 ∨ fn k = 1 ∨ fn k = 2 ∨ fn k = 3) ∧ (fn k = 2 → ∃ f : Nat, f < c4 ∧ ca k = nI f) ∧ (pe k ≠ -1 ∧ (pe k = 4 → ∃ f : Nat, f < c4 ∧ pv k = nI f)) ∧ ∃ o : Nat, o ≤ 3 ∧ op k = nI o
def FSX (st : Nat → Int32) (d ns bl : Nat) (gS gB : vgG) (g : Nat × Bool) (x : Int32) : Prop := ∃ s : Nat, s < ns ∧ x = nI s ∧ gS s = g ∧ okB bl gB (sub g) (csh d st s 7)
def FRM (st : Nat → Int32) (d ns bl : Nat) (gS gB : vgG) (fk fs fn pe pv op ca : Nat → Int32) (c4 k : Nat) : Prop :=
  (fk k = 0 ∧ k ≤ 14 * cm fk k ∧ (fs k = -1 ∨ ∃ v : Nat, v ≤ 5 ∧ fs k = nI v)) ∨ ∃ g : Nat × Bool, g.1 ≤ 6 ∧ (g.2 = true → ICd fk fn k) ∧ 1 ≤ cm fk k ∧ ((fk k = 1 ∧ k + 13 ≤ 14 * cm fk k + 2 * g.1 ∧ okN ns gS g (fn k)) ∨ ((fk k = 2 ∨ (fk k = 3 ∧ GD fn pe pv op ca c4 k)) ∧ k + 12 ≤ 14 * cm fk k + 2 * g.1 ∧ FSX st d ns bl gS gB g (fs k)))
def FRS (st : Nat → Int32) (d ns bl : Nat) (gS gB : vgG) (fk fs fn pe pv op ca : Nat → Int32) (c4 n : Nat) : Prop := ∀ k, k < n → FRM st d ns bl gS gB fk fs fn pe pv op ca c4 k
theorem FRM_congr {st : Nat → Int32} {d ns bl : Nat} {gS gB : vgG} {fk fs fn pe pv op ca fk2 fs2 fn2 pe2 pv2 op2 ca2 : Nat → Int32} {c4 c5 k : Nat} (h : FRM st d ns bl gS gB fk fs fn pe pv op ca c4 k) (hc : c4 ≤ c5) (e1 : ∀ j, j ≤ k → fk2 j = fk j) (e2 : fs2 k = fs k) (e3 : ∀ j, j ≤ k → fn2 j = fn j) (e4 : pe2 k = pe k) (e5 : pv2 k = pv k) (e6 : op2 k = op k) (e7 : ca2 k = ca k) : FRM st d ns bl gS gB fk2 fs2 fn2 pe2 pv2 op2 ca2 c5 k := by
  have q1 := e1 k (Nat.le_refl _)
  have q3 := e3 k (Nat.le_refl _)
  have qc : cm fk2 k = cm fk k := cm_congr k (fun j hj => e1 j (by omega))
  unfold FRM GD
  rw [q1, e2, q3, qc, e4, e5, e6, e7]
  rcases h with h | ⟨g, a1, a2, a3, a4⟩
  · exact Or.inl h
  · refine Or.inr ⟨g, a1, fun z => ?_, a3, ?_⟩
    · obtain ⟨j, b1, b2, b3⟩ := a2 z
      exact ⟨j, b1, (e1 j (by omega)).trans b2, (e3 j (by omega)).trans b3⟩
    · refine a4.imp id (fun ⟨b1, b2, b3⟩ => ⟨b1.imp id (fun ⟨c0, c1, c2, ⟨c3, c5⟩, c4⟩ => ⟨c0, c1, fun z => ?_, ⟨c3, fun z => ?_⟩, c4⟩), b2, b3⟩)
      · obtain ⟨f, d1, d2⟩ := c2 z; exact ⟨f, by omega, d2⟩
      · obtain ⟨f, d1, d2⟩ := c5 z; exact ⟨f, by omega, d2⟩
theorem FRS_mono {st : Nat → Int32} {d ns bl : Nat} {gS gB : vgG} {fk fs fn pe pv op ca : Nat → Int32} {c4 c5 n n2 : Nat} (h : FRS st d ns bl gS gB fk fs fn pe pv op ca c4 n) (hc : c4 ≤ c5) (hn : n2 ≤ n) : FRS st d ns bl gS gB fk fs fn pe pv op ca c5 n2 := fun k hk => FRM_congr (h k (by omega)) hc (fun _ _ => rfl) rfl (fun _ _ => rfl) rfl rfl rfl rfl
/-- one frame more, arrays written at its place -/
theorem FRS_push {st : Nat → Int32} {d ns bl : Nat} {gS gB : vgG} {fk fs fn pe pv op ca fk2 fs2 fn2 pe2 pv2 op2 ca2 : Nat → Int32} {c4 n : Nat} (h : FRS st d ns bl gS gB fk fs fn pe pv op ca c4 n) (e1 : ∀ j, j < n → fk2 j = fk j) (e2 : ∀ j, j < n → fs2 j = fs j) (e3 : ∀ j, j < n → fn2 j = fn j) (e4 : ∀ j, j < n → pe2 j = pe j) (e5 : ∀ j, j < n → pv2 j = pv j) (e6 : ∀ j, j < n → op2 j = op j) (e7 : ∀ j, j < n → ca2 j = ca j) (hn : FRM st d ns bl gS gB fk2 fs2 fn2 pe2 pv2 op2 ca2 c4 n) : FRS st d ns bl gS gB fk2 fs2 fn2 pe2 pv2 op2 ca2 c4 (n + 1) := by
  intro k hk
  by_cases hq : k = n
  · rw [hq]; exact hn
  · exact FRM_congr (h k (by omega)) (Nat.le_refl _) (fun j hj => e1 j (by omega)) (e2 k (by omega)) (fun j hj => e3 j (by omega)) (e4 k (by omega)) (e5 k (by omega)) (e6 k (by omega)) (e7 k (by omega))
/-- the frame on top is another one -/
theorem FRS_top {st : Nat → Int32} {d ns bl : Nat} {gS gB : vgG} {fk fs fn pe pv op ca fk2 fs2 fn2 pe2 pv2 op2 ca2 : Nat → Int32} {c4 n : Nat} (h : FRS st d ns bl gS gB fk fs fn pe pv op ca c4 n) (h1 : 1 ≤ n) (e1 : ∀ j, j ≠ n - 1 → fk2 j = fk j) (e2 : ∀ j, j ≠ n - 1 → fs2 j = fs j) (e3 : ∀ j, j ≠ n - 1 → fn2 j = fn j) (e4 : ∀ j, j ≠ n - 1 → pe2 j = pe j) (e5 : ∀ j, j ≠ n - 1 → pv2 j = pv j) (e6 : ∀ j, j ≠ n - 1 → op2 j = op j) (e7 : ∀ j, j ≠ n - 1 → ca2 j = ca j) (hn : FRM st d ns bl gS gB fk2 fs2 fn2 pe2 pv2 op2 ca2 c4 (n - 1)) : FRS st d ns bl gS gB fk2 fs2 fn2 pe2 pv2 op2 ca2 c4 n := by
  obtain ⟨m, rfl⟩ : ∃ m, n = m + 1 := ⟨n - 1, by omega⟩
  exact FRS_push (FRS_mono h (Nat.le_refl _) (Nat.le_succ m)) (fun j hj => e1 j (by omega)) (fun j hj => e2 j (by omega)) (fun j hj => e3 j (by omega)) (fun j hj => e4 j (by omega)) (fun j hj => e5 j (by omega)) (fun j hj => e6 j (by omega)) (fun j hj => e7 j (by omega)) hn
def ACJ (f : Nat → Int32) (n rw_ : Nat) : Prop := ∀ j, j < n → f j = -1 ∨ ∃ r : Nat, r < rw_ ∧ f j = nI r
def RWS (rz : Nat → Int32) (rw_ : Nat) : Prop := ∀ r, r < rw_ → ∃ z : Nat, z ≤ 8 ∧ rz r = nI z
def PLK (pk : Nat → Int32) (pl nk : Nat) : Prop := ∀ k, k < pl → KOK nk (pk k)
theorem ACJ_mono {f : Nat → Int32} {n n2 r r2 : Nat} (h : ACJ f n r) (hn : n2 ≤ n) (hr : r ≤ r2) : ACJ f n2 r2 := fun j hj => (h j (by omega)).imp id (fun ⟨k, h1, h2⟩ => ⟨k, by omega, h2⟩)
theorem ACJ_upd {f : Nat → Int32} {n r j : Nat} {x : Int32} (h : ACJ f n r) (hx : x = -1 ∨ ∃ k : Nat, k < r ∧ x = nI k) : ACJ (upd f j x) n r := by
  intro i hi
  by_cases hq : i = j
  · rw [hq, upd_at]; exact hx
  · rw [upd_ne hq]; exact h i hi
theorem ACJ_app {f : Nat → Int32} {n r : Nat} (h : ACJ f n r) : ACJ (upd f n (-1)) (n + 1) r := by
  intro i hi
  by_cases hq : i = n
  · rw [hq, upd_at]; exact Or.inl rfl
  · rw [upd_ne hq]; exact h i (by omega)
theorem RWS_app {rz : Nat → Int32} {n z : Nat} (h : RWS rz n) (hz : z ≤ 8) : RWS (upd rz n (nI z)) (n + 1) := by
  intro i hi
  by_cases hq : i = n
  · rw [hq, upd_at]; exact ⟨z, hz, rfl⟩
  · rw [upd_ne hq]; exact h i (by omega)
/-- between two moves of a run -/
def RNI (st : Nat → Int32) (d ns bl nk : Nat) (gS gB : vgG) (fk fs fn pe pv op ca : Nat → Int32) (fr : Nat) (acR : Nat → Int32) (ac : Nat) (rz : Nat → Int32) (rw_ : Nat) (told fkd uf un uw : Nat → Int32) (sl : Nat) (sg sv : Int32) (lf : Nat) (en_ : Int32) : Prop :=
  ∃ c4 B : Nat, B + lf ≤ 400 ∧ rw_ ≤ B ∧ FB told fkd uf un uw sl c4 nk B ∧ (sg = 4 → ∃ f : Nat, f < c4 ∧ sv = nI f) ∧ FRS st d ns bl gS gB fk fs fn pe pv op ca c4 fr ∧ cm fk fr = ac ∧ ac ≤ 12 ∧ ACJ acR (3 * ac) rw_ ∧ RWS rz rw_ ∧ (en_ = -1 → 1 ≤ fr ∧ 1 ≤ ac ∧ (sg = -1 → fk (fr - 1) = 1))
def ms (fk fn : Nat → Int32) (fr lf : Nat) (sg : Int32) : Nat := 16 * lf + wsum fk fn fr + (if sg = -1 then 0 else 1)
theorem ms_le {fk fn : Nat → Int32} {fr lf : Nat} {sg : Int32} : ms fk fn fr lf sg ≤ 16 * lf + wsum fk fn fr + 1 := by unfold ms; split <;> omega
theorem ms_m1 {fk fn : Nat → Int32} {fr lf : Nat} {sg : Int32} (h : sg = -1) : ms fk fn fr lf sg = 16 * lf + wsum fk fn fr := by unfold ms; rw [if_pos h]; rfl
theorem ms_ne {fk fn : Nat → Int32} {fr lf : Nat} {sg : Int32} (h : sg ≠ -1) : ms fk fn fr lf sg = 16 * lf + wsum fk fn fr + 1 := by unfold ms; rw [if_neg h]
/-- sums: what each entry does -/
theorem pfx_le {ek ev : Nat → Int32} {a : Nat} : ∀ (l n : Nat), pfx ek ev a l n → n ≤ l
  | 0, n, h => by have h0 : n = 0 := h; omega
  | l + 1, n, ⟨m, h1, h2⟩ => by
    have h3 := pfx_le l m h1
    rcases h2 with ⟨_, e⟩ | ⟨_, _, e⟩ | ⟨_, _, e⟩ | ⟨_, _, _, e⟩ | ⟨_, _, e⟩ | ⟨_, _, _, e⟩ <;> omega
theorem stepE_fun {k v : Int32} {m n n2 : Nat} (h1 : stepE k v m n) (h2 : stepE k v m n2) : n = n2 := by
  rcases h1 with ⟨a, e⟩ | ⟨a, _, e⟩ | ⟨a, _, e⟩ | ⟨a, _, _, e⟩ | ⟨a, _, e⟩ | ⟨a, a2, _, e⟩ <;> rcases h2 with ⟨b, f⟩ | ⟨b, _, f⟩ | ⟨b, _, f⟩ | ⟨b, _, _, f⟩ | ⟨b, _, f⟩ | ⟨b, b2, _, f⟩ <;>
    first
    | omega
    | (rw [a] at b; exact absurd b (by decide))
    | (rw [b] at a; exact absurd a (by decide))
    | (rw [a] at b2; exact absurd b2 (by decide))
    | (rw [b] at a2; exact absurd a2 (by decide))
theorem pfx_fun {ek ev : Nat → Int32} {a : Nat} : ∀ (l n n2 : Nat), pfx ek ev a l n → pfx ek ev a l n2 → n = n2
  | 0, n, n2, h, g => by have h0 : n = 0 := h; have g0 : n2 = 0 := g; omega
  | l + 1, n, n2, ⟨m, h1, h2⟩, ⟨m2, g1, g2⟩ => by
    have e := pfx_fun l m m2 h1 g1
    subst e
    exact stepE_fun h2 g2
theorem pfx_pre {ek ev : Nat → Int32} {a : Nat} : ∀ (L n : Nat), pfx ek ev a L n → ∀ l, l < L → ∃ m m2, pfx ek ev a l m ∧ stepE (ek (a + l)) (ev (a + l)) m m2
  | 0, _, _, l, hl => absurd hl (by omega)
  | L + 1, n, ⟨m, h1, h2⟩, l, hl => by
    by_cases hq : l = L
    · subst hq; exact ⟨m, n, h1, h2⟩
    · exact pfx_pre L m h1 l (by omega)
theorem pfx_at {ek ev : Nat → Int32} {a L n l m : Nat} (h : pfx ek ev a L n) (hl : l < L) (hm : pfx ek ev a l m) : ∃ m2, stepE (ek (a + l)) (ev (a + l)) m m2 ∧ pfx ek ev a (l + 1) m2 := by
  obtain ⟨m1, m2, h1, h2⟩ := pfx_pre L n h l hl
  have e := pfx_fun l m m1 hm h1
  subst e
  exact ⟨m2, h2, m, h1, h2⟩
theorem st_num {k v : Int32} {m n : Nat} (h : stepE k v m n) (hk : k = 0) : n = m + 1 := by
  rcases h with ⟨a, e⟩ | ⟨a, _, e⟩ | ⟨a, _, e⟩ | ⟨a, _, _, e⟩ | ⟨a, _, e⟩ | ⟨a, a2, _, e⟩ <;> first | omega | (rw [hk] at a; exact absurd a (by decide))
theorem st_var {k v : Int32} {m n : Nat} (h : stepE k v m n) (hk : k = 1) : (∃ r : Nat, r ≤ 5 ∧ v = nI r) ∧ n = m + 1 := by
  rcases h with ⟨a, e⟩ | ⟨a, b, e⟩ | ⟨a, _, e⟩ | ⟨a, _, _, e⟩ | ⟨a, _, e⟩ | ⟨a, a2, _, e⟩ <;> first | exact ⟨b, e⟩ | (rw [hk] at a; exact absurd a (by decide))
theorem st_size {k v : Int32} {m n : Nat} (h : stepE k v m n) (hk : k = 3) : (∃ r : Nat, r ≤ 2 ∧ v = nI r) ∧ n = m + 1 := by
  rcases h with ⟨a, e⟩ | ⟨a, _, e⟩ | ⟨a, b, e⟩ | ⟨a, _, _, e⟩ | ⟨a, _, e⟩ | ⟨a, a2, _, e⟩ <;> first | exact ⟨b, e⟩ | (rw [hk] at a; exact absurd a (by decide))
theorem st_row {k v : Int32} {m n : Nat} (h : stepE k v m n) (hk : k = 2) : (∃ r : Nat, r ≤ 2 ∧ v = nI r) ∧ 1 ≤ m ∧ n = m := by
  rcases h with ⟨a, e⟩ | ⟨a, _, e⟩ | ⟨a, _, e⟩ | ⟨a, b, c, e⟩ | ⟨a, _, e⟩ | ⟨a, a2, _, e⟩ <;> first | exact ⟨b, c, e⟩ | (rw [hk] at a; exact absurd a (by decide))
theorem st_neg {k v : Int32} {m n : Nat} (h : stepE k v m n) (hk : k = 4) : 1 ≤ m ∧ n = m := by
  rcases h with ⟨a, e⟩ | ⟨a, _, e⟩ | ⟨a, _, e⟩ | ⟨a, _, _, e⟩ | ⟨a, b, e⟩ | ⟨a, a2, _, e⟩ <;> first | exact ⟨b, e⟩ | (rw [hk] at a; exact absurd a (by decide))
theorem st_bin {k v : Int32} {m n : Nat} (h : stepE k v m n) (h0 : k ≠ 0) (h1 : k ≠ 1) (h3 : k ≠ 3) (h2 : k ≠ 2) (h4 : k ≠ 4) : 5 ≤ k.toInt ∧ k.toInt ≤ 9 ∧ 2 ≤ m ∧ n + 1 = m := by
  rcases h with ⟨a, e⟩ | ⟨a, _, e⟩ | ⟨a, _, e⟩ | ⟨a, _, _, e⟩ | ⟨a, _, e⟩ | ⟨a, a2, b, e⟩ <;> first | exact absurd a h0 | exact absurd a h1 | exact absurd a h3 | exact absurd a h2 | exact absurd a h4 | exact ⟨a, a2, b, e⟩
theorem zm1 {z : Nat} (h : z ≤ 8) : (nI z - 1).toInt = (z : Int) - 1 := by
  have q : ∀ z, z ≤ 8 → (nI z - 1).toInt = ((z : Nat) : Int) - 1 := by
    intro z hz
    obtain rfl | rfl | rfl | rfl | rfl | rfl | rfl | rfl | rfl : z = 0 ∨ z = 1 ∨ z = 2 ∨ z = 3 ∨ z = 4 ∨ z = 5 ∨ z = 6 ∨ z = 7 ∨ z = 8 := by omega
    all_goals rfl
  exact q z h
theorem nI_of9 {x : Int32} (h : 0 ≤ x.toInt) : x = nI x.toInt.toNat := by
  apply Int32.toInt_inj.mp
  have := x.toInt_lt
  rw [nI_toInt (by omega)]; omega
