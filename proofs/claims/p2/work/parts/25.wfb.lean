theorem nI_ij {a b : Nat} (h : nI a = nI b) (ha : a < 2 ^ 31) (hb : b < 2 ^ 31) : a = b := (nI_eq ha hb).mp h
theorem DP_comes {st ek ev fo co ck cb bo ab how val pk ps pb pl st2 fo2 : Nat → Int32} {d ns bl nc nm nk en ch pi : Nat} (h : DP st ek ev fo co ck cb bo ab how val pk ps pb pl d 80 ns bl nc nm nk en ch pi) (hpi : 1 ≤ pi) (hns : ns < 80)
    (hA : (∃ b : Nat, pb (pi - 1) = nI b ∧ b < 400 ∧ fo2 = upd fo (400 * d + b) (nI ns) ∧ ∀ s, s < ns → csh d st2 s = csh d st s) ∨ (∃ s2 : Nat, s2 < ns ∧ pl (pi - 1) = nI s2 ∧ fo2 = fo ∧ (∀ s, s < ns → s ≠ s2 → csh d st2 s = csh d st s) ∧ ∀ c, csh d st2 s2 c = if c = 10 then nI ns else csh d st s2 c)) :
    DP st2 ek ev fo2 co ck cb bo ab how val pk ps pb (upd pl (pi - 1) (nI ns)) d ns (ns + 1) bl nc nm nk en ch pi := by
  obtain ⟨gS, gB, h1, ⟨w1, w2, w3, w4, w5, w6, w7, w8, w9⟩, p1, p2⟩ := h
  have hgo : ∀ b, b < ns → (fun s => if s = ns then (pi - 1, icp pk (pi - 1)) else gS s : vgG) b = gS b := fun b hb => if_neg (by omega)
  have hgn : (fun s => if s = ns then (pi - 1, icp pk (pi - 1)) else gS s : vgG) ns = (pi - 1, icp pk (pi - 1)) := if_pos rfl
  obtain ⟨⟨b0, b1, b2, b3⟩, q2, -⟩ := p2 (pi - 1) (by omega)
  have hmono : ∀ s, s < ns → WFS (cks how val ch 1) (cks how val ch 3) (ck4 how ch) ek ev (1100 * d) en (ns + 1) bl (fun s => if s = ns then (pi - 1, icp pk (pi - 1)) else gS s) gB (gS s) (csh d st s) := fun s hs => WFS_mono (h1 s hs (by omega)) (fun _ q => q) (fun _ q => q) id (Nat.le_refl _) (fun _ _ => ⟨rfl, rfl⟩) (by omega) hgo (Nat.le_refl _) (fun _ _ => rfl)
  refine ⟨fun s => if s = ns then (pi - 1, icp pk (pi - 1)) else gS s, gB, fun s hs hne => ?_, ⟨fun b hb => ?_, fun c hc => ?_, w3, w4, by omega, w6, w7, w8, w9⟩, p1, fun k hk => ?_⟩
  · have hs2 : s < ns := by omega
    have e1 := hgo s hs2
    rw [e1]
    rcases hA with ⟨b, -, -, -, e⟩ | ⟨s2, a1, a2, -, e, e2⟩
    · rw [e s hs2]; exact hmono s hs2
    · by_cases hq : s = s2
      · subst hq
        obtain ⟨c0, c1, c2, c3, c4, c5, c6⟩ := hmono s hs2
        have hr : ∀ c, c ≠ 10 → csh d st2 s c = csh d st s c := fun c hc => by rw [e2 c, if_neg hc]
        refine ⟨c0, ?_, ?_, ?_, ?_, ?_, ?_⟩
        · rw [hr 3 (by decide), hr 4 (by decide)]; exact c1
        · rw [hr 5 (by decide), hr 6 (by decide)]; exact c2
        · rw [e2 10, if_pos rfl]
          refine Or.inr ⟨ns, by omega, rfl, ?_⟩
          rw [hgn]
          rcases q2 with q2 | ⟨s3, d1, d2, d3⟩
          · rw [q2] at a2
            have := congrArg Int32.toInt a2
            rw [nI_toInt (by omega)] at this
            have e3 : (-1 : Int32).toInt = -1 := rfl
            omega
          · have : s = s3 := nI_ij (a2.symm.trans d2) (by omega) (by omega)
            rw [this]; exact d3.symm
        · rw [hr 8 (by decide)]; exact c4
        · rw [hr 9 (by decide)]; exact c5
        · obtain ⟨k, f0, f1, f2, f3, f4, f5, f6, f7, f8, f9⟩ := c6
          refine ⟨k, ?_, f1, ?_, ?_, ?_, ?_, ?_, ?_, ?_, f9⟩
          · rw [hr 0 (by decide)]; exact f0
          · rw [hr 1 (by decide)]; exact f2
          · rw [hr 1 (by decide)]; exact f3
          · rw [hr 2 (by decide)]; exact f4
          · rw [hr 1 (by decide)]; exact f5
          · rw [hr 2 (by decide)]; exact f6
          · rw [hr 1 (by decide)]; exact f7
          · rw [hr 7 (by decide)]; exact f8
      · rw [e s hs2 hq]; exact hmono s hs2
  · refine ⟨(w1 b hb).1, ?_⟩
    rcases hA with ⟨b4, a1, a2, a3, -⟩ | ⟨s2, -, -, a3, -⟩
    · rw [a3, gsh_put a2]
      by_cases hq : b = b4
      · rw [if_pos hq]
        refine Or.inr ⟨ns, by omega, rfl, ?_⟩
        rw [hgn, hq]
        have : b4 = b0 := nI_ij (a1.symm.trans b2) (by omega) (by omega)
        rw [this]; exact b3.symm
      · rw [if_neg hq]; exact okN_mono (w1 b hb).2 (by omega) hgo
    · rw [a3]; exact okN_mono (w1 b hb).2 (by omega) hgo
  · obtain ⟨s, a1, a2, a3, a4⟩ := w2 c hc
    refine ⟨s, by omega, a2, a3, ?_⟩
    have e1 := hgo s a1
    rw [e1]; exact a4
  · obtain ⟨a1, a2, a3⟩ := p2 k hk
    refine ⟨a1, ?_, fun h1 => ?_⟩
    · by_cases hq : k = pi - 1
      · rw [hq, upd_at]
        exact Or.inr ⟨ns, by omega, rfl, hgn⟩
      · have e : upd pl (pi - 1) (nI ns) k = pl k := by unfold upd; rw [if_neg hq]
        rw [e]; exact okN_mono a2 (by omega) hgo
    · obtain ⟨s, d1, d2, d3⟩ := a3 h1
      exact ⟨s, by omega, d2, (hgo s d1).trans d3⟩
/-- with the statement to which a block that is opened now will belong -/
def DPo (st ek ev fo co ck cb bo ab how val pk ps pb pl : Nat → Int32) (d x ns bl nc nm nk en ch pi : Nat) (sv : Int32) : Prop := ∃ gS gB : vgG, (∀ s, s < ns → s ≠ x → WFS (cks how val ch 1) (cks how val ch 3) (ck4 how ch) ek ev (1100 * d) en ns bl gS gB (gS s) (csh d st s)) ∧ WFB (cks how val ch 1) (ck4 how ch) (gsh 400 d fo) (gsh 160 d co) (gsh 160 d ck) (gsh 160 d cb) (gsh 8 d bo) (gsh 16 d ab) ns bl nc nm nk gS gB ∧ PIL pk ps pb pl pi ns bl gS gB ∧ (1 ≤ pi → ∃ s : Nat, s < ns ∧ sv = nI s ∧ gS s = (pi - 1, icp pk (pi - 1)))
theorem DPo_meth {st ek ev fo co ck cb bo ab how val pk ps pb pl : Nat → Int32} {d x ns bl nc nm nk en ch : Nat} {sv : Int32} (h : DP st ek ev fo co ck cb bo ab how val pk ps pb pl d x ns bl nc nm nk en ch 0) : DPo st ek ev fo co ck cb bo ab how val pk ps pb pl d x ns bl nc nm nk en ch 0 sv := by
  obtain ⟨gS, gB, h1, h2, h3⟩ := h
  exact ⟨gS, gB, h1, h2, h3, fun h => absurd h (by decide)⟩
theorem DPo_last {st ek ev fo co ck cb bo ab how val pk ps pb pl : Nat → Int32} {d x ns bl nc nm nk en ch pi s : Nat} (h : DP st ek ev fo co ck cb bo ab how val pk ps pb pl d x ns bl nc nm nk en ch pi) (hp : 1 ≤ pi) (hl : pl (pi - 1) = nI s) (hs : s < 80) : DPo st ek ev fo co ck cb bo ab how val pk ps pb pl d x ns bl nc nm nk en ch pi (nI s) := by
  obtain ⟨gS, gB, h1, h2, p1, p2⟩ := h
  have h5 := h2.2.2.2.2.1
  refine ⟨gS, gB, h1, h2, ⟨p1, p2⟩, fun _ => ?_⟩
  obtain ⟨-, q2, -⟩ := p2 (pi - 1) (by omega)
  rcases q2 with q2 | ⟨s3, d1, d2, d3⟩
  · rw [q2] at hl
    have := congrArg Int32.toInt hl
    rw [nI_toInt (by omega)] at this
    have e3 : (-1 : Int32).toInt = -1 := rfl
    omega
  · have : s = s3 := nI_ij (hl.symm.trans d2) (by omega) (by omega)
    exact ⟨s3, d1, by rw [this], d3⟩
theorem DPo_pop {st ek ev fo co ck cb bo ab how val pk ps pb pl : Nat → Int32} {d x ns bl nc nm nk en ch pi : Nat} (h : DP st ek ev fo co ck cb bo ab how val pk ps pb pl d x ns bl nc nm nk en ch (pi + 1)) : DPo st ek ev fo co ck cb bo ab how val pk ps pb pl d x ns bl nc nm nk en ch pi (ps pi) := by
  obtain ⟨gS, gB, h1, h2, p1, p2⟩ := h
  exact ⟨gS, gB, h1, h2, ⟨by omega, fun k hk => p2 k (by omega)⟩, fun h => (p2 pi (by omega)).2.2 h⟩
theorem DPo_DP {st ek ev fo co ck cb bo ab how val pk ps pb pl : Nat → Int32} {d x ns bl nc nm nk en ch pi : Nat} {sv : Int32} (h : DPo st ek ev fo co ck cb bo ab how val pk ps pb pl d x ns bl nc nm nk en ch pi sv) : DP st ek ev fo co ck cb bo ab how val pk ps pb pl d x ns bl nc nm nk en ch pi := by
  obtain ⟨gS, gB, h1, h2, h3, -⟩ := h
  exact ⟨gS, gB, h1, h2, h3⟩
theorem icp_le {pk : Nat → Int32} {n j : Nat} {v : Int32} (h : j < n) : icp (upd pk n v) j = icp pk j := icp_congr j (fun i hi => upd_lt (by omega))
theorem DP_opens {st ek ev fo co ck cb bo ab how val pk ps pb pl : Nat → Int32} {d x ns bl nc nm nk en ch pi : Nat} {sv kind : Int32} (h : DPo st ek ev fo co ck cb bo ab how val pk ps pb pl d x ns bl nc nm nk en ch pi sv) (hpi : pi ≤ 6) (hbl : bl < 400) : DP st ek ev (upd fo (400 * d + bl) (-1)) co ck cb bo ab how val (upd pk pi kind) (upd ps pi sv) (upd pb pi (nI bl)) (upd pl pi (-1)) d x ns (bl + 1) nc nm nk en ch (pi + 1) := by
  obtain ⟨gS, gB, h1, ⟨w1, w2, w3, w4, w5, w6, w7, w8, w9⟩, ⟨p1, p2⟩, p3⟩ := h
  have hgo : ∀ b, b < bl → (fun b => if b = bl then (pi, icp (upd pk pi kind) pi) else gB b : vgG) b = gB b := fun b hb => if_neg (by omega)
  have hgn : (fun b => if b = bl then (pi, icp (upd pk pi kind) pi) else gB b : vgG) bl = (pi, icp (upd pk pi kind) pi) := if_pos rfl
  refine ⟨gS, fun b => if b = bl then (pi, icp (upd pk pi kind) pi) else gB b, fun s hs hne => WFS_mono (h1 s hs hne) (fun _ q => q) (fun _ q => q) id (Nat.le_refl _) (fun _ _ => ⟨rfl, rfl⟩) (Nat.le_refl _) (fun _ _ => rfl) (by omega) hgo, ⟨fun b hb => ?_, fun c hc => ?_, fun m hm => okB_mono (w3 m hm) (by omega) hgo, w4, w5, by omega, w7, w8, w9⟩, by omega, fun k hk => ?_⟩
  · rw [gsh_put hbl]
    by_cases hq : b = bl
    · rw [if_pos hq, hq, hgn]; exact ⟨hpi, Or.inl rfl⟩
    · rw [if_neg hq, hgo b (by omega)]; exact w1 b (by omega)
  · obtain ⟨s, a1, a2, a3, a4⟩ := w2 c hc
    exact ⟨s, a1, a2, a3, okB_mono a4 (by omega) hgo⟩
  · by_cases hq : k = pi
    · subst hq
      rw [upd_at, upd_at, upd_at]
      refine ⟨⟨bl, by omega, rfl, hgn⟩, Or.inl rfl, fun hk1 => ?_⟩
      obtain ⟨s, d1, d2, d3⟩ := p3 hk1
      exact ⟨s, d1, d2, by rw [icp_le (by omega)]; exact d3⟩
    · have hlt : k < pi := by omega
      obtain ⟨a1, a2, a3⟩ := p2 k hlt
      rw [upd_lt hlt, upd_lt hlt, upd_lt hlt, icp_le hlt]
      exact ⟨okB_mono a1 (by omega) hgo, a2, fun hk1 => by rw [icp_le (show k - 1 < pi by omega)]; exact a3 hk1⟩
/-- a statement without blocks is whole -/
theorem DP_fin1 {st ek ev fo co ck cb bo ab how val pk ps pb pl : Nat → Int32} {d x ns bl nc nm nk en ch pi k : Nat} (h : DP st ek ev fo co ck cb bo ab how val pk ps pb pl d x ns bl nc nm nk en ch pi) (hp : 1 ≤ pi) (hl : pl (pi - 1) = nI x) (hx : x < 80)
    (r3 : okR ek ev (1100 * d) en (csh d st x 3) (csh d st x 4)) (r5 : okR ek ev (1100 * d) en (csh d st x 5) (csh d st x 6)) (r10 : csh d st x 10 = -1) (r8 : csh d st x 8 = -1) (r9 : csh d st x 9 = -1)
    (k0 : csh d st x 0 = nI k) (k1 : k ≤ 17) (k2 : (k = 1 ∨ k = 2) → ∃ a : Nat, a ≤ 5 ∧ csh d st x 1 = nI a) (k3 : (3 ≤ k ∧ k ≤ 6) → ∃ a : Nat, a ≤ 2 ∧ csh d st x 1 = nI a) (k4 : k = 5 → ∃ b : Nat, b ≤ 2 ∧ csh d st x 2 = nI b) (k5 : (k = 13 ∨ k = 14) → cks how val ch 1 (csh d st x 1)) (k6 : (k = 2 ∨ k = 7) → cks how val ch 3 (csh d st x 2)) (k7 : ¬ (k = 9 ∨ k = 10 ∨ 16 ≤ k)) (k8 : (k = 14 ∨ k = 15) → icp pk (pi - 1) = true ∨ ck4 how ch) : DP st ek ev fo co ck cb bo ab how val pk ps pb pl d 80 ns bl nc nm nk en ch pi := by
  obtain ⟨gS, gB, h1, h2, p1, p2⟩ := h
  refine ⟨gS, gB, fun s hs hne => ?_, h2, p1, p2⟩
  by_cases hq : s = x
  · subst hq
    obtain ⟨-, q2, -⟩ := p2 (pi - 1) (by omega)
    have hg : gS s = (pi - 1, icp pk (pi - 1)) := by
      rcases q2 with q2 | ⟨s3, d1, d2, d3⟩
      · rw [q2] at hl
        have := congrArg Int32.toInt hl
        rw [nI_toInt (by omega)] at this
        have e3 : (-1 : Int32).toInt = -1 := rfl
        omega
      · have h5 := h2.2.2.2.2.1
        have : s = s3 := nI_ij (hl.symm.trans d2) (by omega) (by omega)
        rw [this]; exact d3
    refine ⟨by rw [hg]; show pi - 1 ≤ 6; omega, r3, r5, Or.inl r10, Or.inl r8, Or.inl r9, k, k0, k1, k2, k3, k4, k5, k6, fun e => absurd (Or.inr (Or.inr (by omega))) k7, fun e => absurd e k7, fun e => ?_⟩
    rw [hg]; exact k8 e
  · exact h1 s hs hq
