theorem nI_m1 {a : Nat} (h : nI a = -1) (ha : a < 2 ^ 31) : False := by
  have := congrArg Int32.toInt h
  rw [nI_toInt ha] at this
  have e3 : (-1 : Int32).toInt = -1 := rfl
  omega
/-- the block on top of the pile belongs to the statement, no catch: its number fits the statement's columns -/
theorem PIL_top {pk ps pb pl : Nat → Int32} {pi ns bl s0 : Nat} {gS gB : vgG} (h : PIL pk ps pb pl pi ns bl gS gB) (hns : ns ≤ 80) (hp : 2 ≤ pi) (hs : ps (pi - 1) = nI s0) (h0 : s0 < 80) : s0 < ns ∧ gS s0 = (pi - 2, icp pk (pi - 2)) ∧ (pk (pi - 1) ≠ 6 → okB bl gB (sub (gS s0)) (pb (pi - 1))) ∧ (pk (pi - 1) = 6 → okB bl gB ((gS s0).1 + 1, true) (pb (pi - 1))) := by
  obtain ⟨p1, p2⟩ := h
  obtain ⟨a1, -, a3⟩ := p2 (pi - 1) (by omega)
  obtain ⟨s, b1, b2, b3⟩ := a3 (by omega)
  have e : s0 = s := nI_ij (hs.symm.trans b2) (by omega) (by omega)
  subst e
  have e2 : pi - 1 - 1 = pi - 2 := by omega
  rw [e2] at b3
  obtain ⟨m, rfl⟩ : ∃ m, pi = m + 2 := ⟨pi - 2, by omega⟩
  have e3 : m + 2 - 1 = m + 1 := by omega
  have e4 : m + 2 - 2 = m := by omega
  rw [e3] at a1 ⊢
  rw [e4] at b3 ⊢
  refine ⟨b1, b3, fun hk => ?_, fun hk => ?_⟩
  · have e5 : icp pk (m + 1) = icp pk m := by
      show (icp pk m || decide (pk (m + 1) = 6)) = _
      rw [decide_eq_false hk, Bool.or_false]
    rw [e5] at a1
    rw [b3]; exact a1
  · have e5 : icp pk (m + 1) = true := by
      show (icp pk m || decide (pk (m + 1) = 6)) = _
      rw [decide_eq_true hk, Bool.or_true]
    rw [e5] at a1
    rw [b3]; exact a1
theorem DP_fin2 {st ek ev fo co ck cb bo ab how val pk ps pb pl : Nat → Int32} {d x ns bl nc nm nk en ch pi k : Nat} (h : DP st ek ev fo co ck cb bo ab how val pk ps pb pl d x ns bl nc nm nk en ch pi) (hp : 2 ≤ pi) (hl : ps (pi - 1) = nI x) (hx : x < 80) (hk6 : pk (pi - 1) ≠ 6)
    (r3 : okR ek ev (1100 * d) en (csh d st x 3) (csh d st x 4)) (r5 : okR ek ev (1100 * d) en (csh d st x 5) (csh d st x 6)) (r10 : csh d st x 10 = -1) (r8 : csh d st x 8 = -1) (r9 : csh d st x 9 = -1) (r7 : csh d st x 7 = pb (pi - 1))
    (k0 : csh d st x 0 = nI k) (k1 : k ≤ 17) (k7 : k = 9 ∨ k = 10 ∨ 16 ≤ k) (ka : k = 17 → ∃ a : Nat, 1 ≤ a ∧ a ≤ 3 ∧ csh d st x 1 = nI a) : DP st ek ev fo co ck cb bo ab how val pk ps pb pl d 80 ns bl nc nm nk en ch pi := by
  obtain ⟨gS, gB, h1, h2, h3⟩ := h
  refine ⟨gS, gB, fun s hs hne => ?_, h2, h3⟩
  by_cases hq : s = x
  · subst hq
    obtain ⟨t1, t2, t3, -⟩ := PIL_top h3 h2.2.2.2.2.1 hp hl hx
    have p1 := h3.1
    exact ⟨by rw [t2]; show pi - 2 ≤ 6; omega, r3, r5, Or.inl r10, Or.inl r8, Or.inl r9, k, k0, k1, fun e => by clear ka; omega, fun e => by clear ka; omega, fun e => by clear ka; omega, fun e => by clear ka; omega, fun e => by clear ka; omega, ka, fun _ => by rw [r7]; exact t3 hk6, fun e => by clear ka; omega⟩
  · exact h1 s hs hq
theorem DP_else {st ek ev fo co ck cb bo ab how val pk ps pb pl : Nat → Int32} {d ns bl nc nm nk en ch pi s0 c : Nat} (h : DP st ek ev fo co ck cb bo ab how val pk ps pb pl d 80 ns bl nc nm nk en ch pi) (hp : 2 ≤ pi) (hl : ps (pi - 1) = nI s0) (hx : s0 < 80) (hk6 : pk (pi - 1) ≠ 6) (hc : c = 8 ∨ c = 9) : DP (upd st (1280 * d + 16 * s0 + c) (pb (pi - 1))) ek ev fo co ck cb bo ab how val pk ps pb pl d 80 ns bl nc nm nk en ch pi := by
  obtain ⟨gS, gB, h1, h2, h3⟩ := h
  refine ⟨gS, gB, fun s hs hne => ?_, h2, h3⟩
  obtain ⟨t1, t2, t3, -⟩ := PIL_top h3 h2.2.2.2.2.1 hp hl hx
  have hcc : c < 16 := by omega
  have e : ∀ c2, csh d (upd st (1280 * d + 16 * s0 + c) (pb (pi - 1))) s c2 = if s = s0 ∧ c2 = c then pb (pi - 1) else csh d st s c2 := csh_put hx hcc s
  by_cases hq : s = s0
  · subst hq
    have hr : ∀ c2, c2 ≠ 8 → c2 ≠ 9 → csh d (upd st (1280 * d + 16 * s + c) (pb (pi - 1))) s c2 = csh d st s c2 := fun c2 hc2 hc3 => by rw [e c2, if_neg (by omega)]
    obtain ⟨c0, c1, c2, c3, c4, c5, k, f0, f1, f2, f3, f4, f5, f6, f7, f8, f9⟩ := h1 s hs hne
    have hv := t3 hk6
    refine ⟨c0, ?_, ?_, ?_, ?_, ?_, k, ?_, f1, ?_, ?_, ?_, ?_, ?_, ?_, ?_, f9⟩
    · rw [hr 3 (by decide) (by decide), hr 4 (by decide) (by decide)]; exact c1
    · rw [hr 5 (by decide) (by decide), hr 6 (by decide) (by decide)]; exact c2
    · rw [hr 10 (by decide) (by decide)]; exact c3
    · rw [e 8]
      by_cases h8 : s = s ∧ 8 = c
      · rw [if_pos h8]; exact Or.inr hv
      · rw [if_neg h8]; exact c4
    · rw [e 9]
      by_cases h8 : s = s ∧ 9 = c
      · rw [if_pos h8]; exact Or.inr hv
      · rw [if_neg h8]; exact c5
    · rw [hr 0 (by decide) (by decide)]; exact f0
    · rw [hr 1 (by decide) (by decide)]; exact f2
    · rw [hr 1 (by decide) (by decide)]; exact f3
    · rw [hr 2 (by decide) (by decide)]; exact f4
    · rw [hr 1 (by decide) (by decide)]; exact f5
    · rw [hr 2 (by decide) (by decide)]; exact f6
    · rw [hr 1 (by decide) (by decide)]; exact f7
    · rw [hr 7 (by decide) (by decide)]; exact f8
  · have e2 : csh d (upd st (1280 * d + 16 * s0 + c) (pb (pi - 1))) s = csh d st s := by
      funext c2
      rw [e c2, if_neg (fun q => hq q.1)]
    rw [e2]; exact h1 s hs hne
theorem DP_cat0 {st ek ev fo co ck cb bo ab how val pk ps pb pl : Nat → Int32} {d x ns bl nc nm nk en ch pi : Nat} {u v : Int32} (h : DP st ek ev fo co ck cb bo ab how val pk ps pb pl d x ns bl nc nm nk en ch pi) (hn : nc < 160) : DP st ek ev fo (upd co (160 * d + nc) u) (upd ck (160 * d + nc) v) cb bo ab how val pk ps pb pl d x ns bl nc nm nk en ch pi := by
  obtain ⟨gS, gB, h1, ⟨w1, w2, w3⟩, h3⟩ := h
  refine ⟨gS, gB, h1, ⟨w1, fun c hc => ?_, w3⟩, h3⟩
  rw [gsh_put hn, gsh_put hn, if_neg (by omega), if_neg (by omega)]
  exact w2 c hc
theorem DP_cat1 {st ek ev fo co ck cb bo ab how val pk ps pb pl : Nat → Int32} {d x ns bl nc nm nk en ch pi s0 : Nat} (h : DP st ek ev fo co ck cb bo ab how val pk ps pb pl d x ns bl nc nm nk en ch pi) (hn : nc < 160) (hp : 2 ≤ pi) (hl : ps (pi - 1) = nI s0) (hx : s0 < 80) (hk6 : pk (pi - 1) = 6) (hco : co (160 * d + nc) = nI s0) (hck : cks how val ch 1 (ck (160 * d + nc))) : DP st ek ev fo co ck (upd cb (160 * d + nc) (pb (pi - 1))) bo ab how val pk ps pb pl d x ns bl (nc + 1) nm nk en ch pi := by
  obtain ⟨gS, gB, h1, ⟨w1, w2, w3, w4, w5, w6, w7, w8⟩, h3⟩ := h
  refine ⟨gS, gB, h1, ⟨w1, fun c hc => ?_, w3, w4, w5, w6, by omega, w8⟩, h3⟩
  obtain ⟨t1, -, -, t4⟩ := PIL_top h3 w5 hp hl hx
  rw [gsh_put hn]
  by_cases hq : c = nc
  · rw [if_pos hq, hq, gsh_in hn, gsh_in hn]
    exact ⟨s0, t1, hco, hck, t4 hk6⟩
  · rw [if_neg hq]; exact w2 c (by omega)
theorem DP_kind {st ek ev fo co ck cb bo ab how val pk ps pb pl : Nat → Int32} {d x ns bl nc nm nk en ch pi : Nat} {v : Int32} (h : DP st ek ev fo co ck cb bo ab how val pk ps pb pl d x ns bl nc nm nk en ch pi) (hn : nk < 16) (hv : v = -1 ∨ (∃ j : Nat, j < nk ∧ v = nI j) ∨ ck4 how ch) : DP st ek ev fo co ck cb bo (upd ab (16 * d + nk) v) how val pk ps pb pl d x ns bl nc nm (nk + 1) en ch pi := by
  obtain ⟨gS, gB, h1, ⟨w1, w2, w3, w4, w5, w6, w7, w8, w9⟩, h3⟩ := h
  refine ⟨gS, gB, h1, ⟨w1, w2, w3, fun k hk => ?_, w5, w6, w7, w8, by omega⟩, h3⟩
  rw [gsh_put hn]
  by_cases hq : k = nk
  · rw [if_pos hq, hq]; exact hv
  · rw [if_neg hq]; exact w4 k (by omega)
theorem DP_body {st ek ev fo co ck cb bo ab how val pk ps pb pl : Nat → Int32} {d x ns bl nc nm nk en ch : Nat} (h : DP st ek ev fo co ck cb bo ab how val pk ps pb pl d x ns bl nc nm nk en ch 1) (hn : nm < 8) (hk6 : pk 0 ≠ 6) : DP st ek ev fo co ck cb (upd bo (8 * d + nm) (pb 0)) ab how val pk ps pb pl d x ns bl nc (nm + 1) nk en ch 1 := by
  obtain ⟨gS, gB, h1, ⟨w1, w2, w3, w4, w5, w6, w7, w8, w9⟩, h3⟩ := h
  refine ⟨gS, gB, h1, ⟨w1, w2, fun m hm => ?_, w4, w5, w6, w7, by omega, w9⟩, h3⟩
  rw [gsh_put hn]
  by_cases hq : m = nm
  · rw [if_pos hq]
    have a1 := (h3.2 0 (by decide)).1
    have e : icp pk 0 = false := decide_eq_false hk6
    rw [e] at a1; exact a1
  · rw [if_neg hq]; exact w3 m (by omega)
theorem DP_init {st ek ev fo co ck cb bo ab how val pk ps pb pl : Nat → Int32} {d x : Nat} (h : ∀ k, k < 7 → gsh 16 d ab k = -1 ∨ ∃ j : Nat, j < k ∧ gsh 16 d ab k = nI j) : DP st ek ev fo co ck cb bo ab how val pk ps pb pl d x 0 0 0 0 7 0 0 0 :=
  ⟨fun _ => (0, false), fun _ => (0, false), fun s hs => absurd hs (by omega), ⟨fun b hb => absurd hb (by omega), fun c hc => absurd hc (by omega), fun m hm => absurd hm (by omega), fun k hk => (h k hk).imp id Or.inl, by omega, by omega, by omega, by omega, by omega⟩, by omega, fun k hk => absurd hk (by omega)⟩
theorem DP_WFF {st ek ev fo co ck cb bo ab how val pk ps pb pl : Nat → Int32} {d ns bl nc nm nk en ch pi : Nat} (h : DP st ek ev fo co ck cb bo ab how val pk ps pb pl d 80 ns bl nc nm nk en ch pi) (c1 : ∀ k, k < ch → how k = 1 → ∃ a : Nat, a < nk ∧ val k = nI a) (c3 : ∀ k, k < ch → how k = 3 → ∃ a : Nat, a < nm ∧ val k = nI a) (c4 : ∀ k, k < ch → how k ≠ 4) : WFF st ek ev fo co ck cb bo ab d ns bl nc nm nk en := by
  obtain ⟨gS, gB, h1, h2, h3⟩ := h
  have h5 := h2.2.2.2.2.1
  have m1 : ∀ A, cks how val ch 1 A → ∃ a : Nat, a < nk ∧ A = nI a := fun A ⟨k, b1, b2, b3⟩ => by rw [← b3]; exact c1 k b1 b2
  have m3 : ∀ A, cks how val ch 3 A → ∃ a : Nat, a < nm ∧ A = nI a := fun A ⟨k, b1, b2, b3⟩ => by rw [← b3]; exact c3 k b1 b2
  have m4 : ck4 how ch → False := fun ⟨k, b1, b2⟩ => c4 k b1 b2
  exact ⟨gS, gB, fun s hs => WFS_mono (h1 s hs (by omega)) m1 m3 m4 (Nat.le_refl _) (fun _ _ => ⟨rfl, rfl⟩) (Nat.le_refl _) (fun _ _ => rfl) (Nat.le_refl _) (fun _ _ => rfl), WFB_mono h2 m1 m4⟩
theorem fe_gsh {ek ev ek2 ev2 : Nat → Int32} {l d en : Nat} (h : FE ek2 ev2 ek ev (1100 * d + en) (1100 * d + 1100)) (hl : l ≠ d) : gsh 1100 l ek2 = gsh 1100 l ek ∧ gsh 1100 l ev2 = gsh 1100 l ev := by
  have q : ∀ k, k < 1100 → ek2 (1100 * l + k) = ek (1100 * l + k) ∧ ev2 (1100 * l + k) = ev (1100 * l + k) := fun k hk => h _ (by omega)
  refine ⟨?_, ?_⟩
  · funext k; unfold gsh
    by_cases hk : k < 1100
    · rw [if_pos hk, if_pos hk]; exact (q k hk).1
    · rw [if_neg hk, if_neg hk]
  · funext k; unfold gsh
    by_cases hk : k < 1100
    · rw [if_pos hk, if_pos hk]; exact (q k hk).2
    · rw [if_neg hk, if_neg hk]
