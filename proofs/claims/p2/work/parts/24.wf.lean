def csh (d : Nat) (st : Nat → Int32) (s c : Nat) : Int32 := if s < 80 ∧ c < 16 then st (1280 * d + 16 * s + c) else 0
theorem csh_in {d s c : Nat} {st : Nat → Int32} (hs : s < 80) (hc : c < 16) : csh d st s c = st (1280 * d + 16 * s + c) := by unfold csh; rw [if_pos ⟨hs, hc⟩]
theorem csh_put {d s c : Nat} {st : Nat → Int32} {v : Int32} (hs : s < 80) (hc : c < 16) (s2 c2 : Nat) : csh d (upd st (1280 * d + 16 * s + c) v) s2 c2 = if s2 = s ∧ c2 = c then v else csh d st s2 c2 := by
  unfold csh upd
  by_cases h : s2 < 80 ∧ c2 < 16
  · rw [if_pos h, if_pos h]
    by_cases h2 : s2 = s ∧ c2 = c
    · rw [if_pos h2, if_pos (by omega)]
    · rw [if_neg h2, if_neg (by omega)]
  · rw [if_neg h, if_neg h]
    by_cases h2 : s2 = s ∧ c2 = c
    · omega
    · rw [if_neg h2]
theorem csh_put_ne {l d s c : Nat} {st : Nat → Int32} {v : Int32} (hl : l ≠ d) (hs : s < 80) (hc : c < 16) : csh l (upd st (1280 * d + 16 * s + c) v) = csh l st := by
  funext s2 c2
  unfold csh upd
  by_cases h : s2 < 80 ∧ c2 < 16
  · rw [if_pos h, if_pos h, if_neg (by omega)]
  · rw [if_neg h, if_neg h]
def gsh (W d : Nat) (f : Nat → Int32) (k : Nat) : Int32 := if k < W then f (W * d + k) else 0
theorem gsh_in {W d k : Nat} {f : Nat → Int32} (hk : k < W) : gsh W d f k = f (W * d + k) := by unfold gsh; rw [if_pos hk]
theorem gsh_put {W d k : Nat} {f : Nat → Int32} {v : Int32} (hk : k < W) (k2 : Nat) : gsh W d (upd f (W * d + k) v) k2 = if k2 = k then v else gsh W d f k2 := by
  unfold gsh upd
  by_cases h : k2 < W
  · rw [if_pos h, if_pos h]
    by_cases h2 : k2 = k
    · rw [if_pos h2, if_pos (by omega)]
    · rw [if_neg h2, if_neg (by omega)]
  · rw [if_neg h, if_neg h, if_neg (by omega)]
theorem gsh_put_ne {W l d k : Nat} {f : Nat → Int32} {v : Int32} (hl : l ≠ d) (hk : k < W) : gsh W l (upd f (W * d + k) v) = gsh W l f := by
  funext k2
  unfold gsh upd
  by_cases h : k2 < W
  · rw [if_pos h, if_pos h, if_neg ?_]
    intro e
    rcases Nat.lt_or_gt_of_ne hl with h3 | h3
    · have h4 : W * l + W ≤ W * d := by rw [← Nat.mul_succ]; exact Nat.mul_le_mul_left W h3
      omega
    · have h4 : W * d + W ≤ W * l := by rw [← Nat.mul_succ]; exact Nat.mul_le_mul_left W h3
      omega
  · rw [if_neg h, if_neg h]
abbrev vgG : Type := Nat → Nat × Bool
def okB (bl : Nat) (gB : vgG) (g : Nat × Bool) (x : Int32) : Prop := ∃ b : Nat, b < bl ∧ x = nI b ∧ gB b = g
def okN (ns : Nat) (gS : vgG) (g : Nat × Bool) (x : Int32) : Prop := x = -1 ∨ ∃ s : Nat, s < ns ∧ x = nI s ∧ gS s = g
def okR (ek ev : Nat → Int32) (eb en : Nat) (x y : Int32) : Prop := (x = -1 ∧ y = -1) ∨ ∃ a b n : Nat, x = nI a ∧ y = nI b ∧ a ≤ b ∧ b ≤ en ∧ pfx ek ev (eb + a) (b - a) n
def sub (g : Nat × Bool) : Nat × Bool := (g.1 + 1, g.2)
def WFK (ck cm : Int32 → Prop) (ce : Prop) (bl : Nat) (gB : vgG) (g : Nat × Bool) (r : Nat → Int32) : Prop := ∃ k : Nat, r 0 = nI k ∧ k ≤ 17 ∧ ((k = 1 ∨ k = 2) → ∃ a : Nat, a ≤ 5 ∧ r 1 = nI a) ∧ ((3 ≤ k ∧ k ≤ 6) → ∃ a : Nat, a ≤ 2 ∧ r 1 = nI a) ∧ (k = 5 → ∃ b : Nat, b ≤ 2 ∧ r 2 = nI b) ∧ ((k = 13 ∨ k = 14) → ck (r 1)) ∧ ((k = 2 ∨ k = 7) → cm (r 2)) ∧ (k = 17 → ∃ a : Nat, 1 ≤ a ∧ a ≤ 3 ∧ r 1 = nI a) ∧ ((k = 9 ∨ k = 10 ∨ 16 ≤ k) → okB bl gB (sub g) (r 7)) ∧ ((k = 14 ∨ k = 15) → g.2 = true ∨ ce)
def WFS (ck cm : Int32 → Prop) (ce : Prop) (ek ev : Nat → Int32) (eb en ns bl : Nat) (gS gB : vgG) (g : Nat × Bool) (r : Nat → Int32) : Prop := g.1 ≤ 6 ∧ okR ek ev eb en (r 3) (r 4) ∧ okR ek ev eb en (r 5) (r 6) ∧ okN ns gS g (r 10) ∧ (r 8 = -1 ∨ okB bl gB (sub g) (r 8)) ∧ (r 9 = -1 ∨ okB bl gB (sub g) (r 9)) ∧ WFK ck cm ce bl gB g r
theorem okB_mono {bl bl2 : Nat} {gB gB2 : vgG} {g : Nat × Bool} {x : Int32} (h : okB bl gB g x) (hb : bl ≤ bl2) (hg : ∀ b, b < bl → gB2 b = gB b) : okB bl2 gB2 g x := by
  obtain ⟨b, h1, h2, h3⟩ := h
  exact ⟨b, by omega, h2, (hg b h1).trans h3⟩
theorem okN_mono {ns ns2 : Nat} {gS gS2 : vgG} {g : Nat × Bool} {x : Int32} (h : okN ns gS g x) (hb : ns ≤ ns2) (hg : ∀ b, b < ns → gS2 b = gS b) : okN ns2 gS2 g x := by
  rcases h with h | ⟨b, h1, h2, h3⟩
  · exact Or.inl h
  · exact Or.inr ⟨b, by omega, h2, (hg b h1).trans h3⟩
theorem okR_mono {ek ev ek2 ev2 : Nat → Int32} {eb en en2 : Nat} {x y : Int32} (h : okR ek ev eb en x y) (hn : en ≤ en2) (he : ∀ j, j < en → ek2 (eb + j) = ek (eb + j) ∧ ev2 (eb + j) = ev (eb + j)) : okR ek2 ev2 eb en2 x y := by
  rcases h with h | ⟨a, b, n, h1, h2, h3, h4, h5⟩
  · exact Or.inl h
  · refine Or.inr ⟨a, b, n, h1, h2, h3, by omega, pfx_congr (b - a) n (fun j hj => ?_) h5⟩
    have := he (a + j) (by omega)
    rwa [← Nat.add_assoc] at this
theorem WFK_mono {ck cm ck2 cm2 : Int32 → Prop} {ce ce2 : Prop} {bl bl2 : Nat} {gB gB2 : vgG} {g : Nat × Bool} {r : Nat → Int32} (h : WFK ck cm ce bl gB g r) (h1 : ∀ A, ck A → ck2 A) (h2 : ∀ A, cm A → cm2 A) (h3 : ce → ce2) (hb : bl ≤ bl2) (hg : ∀ b, b < bl → gB2 b = gB b) : WFK ck2 cm2 ce2 bl2 gB2 g r := by
  obtain ⟨k, a0, a1, a2, a3, a4, a5, a6, a7, a8, a9⟩ := h
  exact ⟨k, a0, a1, a2, a3, a4, fun q => h1 _ (a5 q), fun q => h2 _ (a6 q), a7, fun q => okB_mono (a8 q) hb hg, fun q => (a9 q).imp id h3⟩
theorem WFS_mono {ck cm ck2 cm2 : Int32 → Prop} {ce ce2 : Prop} {ek ev ek2 ev2 : Nat → Int32} {eb en en2 ns ns2 bl bl2 : Nat} {gS gB gS2 gB2 : vgG} {g : Nat × Bool} {r : Nat → Int32} (h : WFS ck cm ce ek ev eb en ns bl gS gB g r) (h1 : ∀ A, ck A → ck2 A) (h2 : ∀ A, cm A → cm2 A) (h3 : ce → ce2) (hn : en ≤ en2) (he : ∀ j, j < en → ek2 (eb + j) = ek (eb + j) ∧ ev2 (eb + j) = ev (eb + j)) (hs : ns ≤ ns2) (hgs : ∀ b, b < ns → gS2 b = gS b) (hb : bl ≤ bl2) (hg : ∀ b, b < bl → gB2 b = gB b) : WFS ck2 cm2 ce2 ek2 ev2 eb en2 ns2 bl2 gS2 gB2 g r := by
  obtain ⟨a0, a1, a2, a3, a4, a5, a6⟩ := h
  exact ⟨a0, okR_mono a1 hn he, okR_mono a2 hn he, okN_mono a3 hs hgs, a4.imp id (fun q => okB_mono q hb hg), a5.imp id (fun q => okB_mono q hb hg), WFK_mono a6 h1 h2 h3 hb hg⟩
/-- all but the statements: blocks, catches, methods, kinds -/
def WFB (ck : Int32 → Prop) (ce : Prop) (F CO CK CB BO AB : Nat → Int32) (ns bl nc nm nk : Nat) (gS gB : vgG) : Prop := (∀ b, b < bl → (gB b).1 ≤ 6 ∧ okN ns gS (gB b) (F b)) ∧ (∀ c, c < nc → ∃ s : Nat, s < ns ∧ CO c = nI s ∧ ck (CK c) ∧ okB bl gB ((gS s).1 + 1, true) (CB c)) ∧ (∀ m, m < nm → okB bl gB (0, false) (BO m)) ∧ (∀ k, k < nk → AB k = -1 ∨ (∃ j : Nat, j < k ∧ AB k = nI j) ∨ ce) ∧ ns ≤ 80 ∧ bl ≤ 400 ∧ nc ≤ 160 ∧ nm ≤ 8 ∧ nk ≤ 16
theorem WFB_mono {ck ck2 : Int32 → Prop} {ce ce2 : Prop} {F CO CK CB BO AB : Nat → Int32} {ns bl nc nm nk : Nat} {gS gB : vgG} (h : WFB ck ce F CO CK CB BO AB ns bl nc nm nk gS gB) (h1 : ∀ A, ck A → ck2 A) (h3 : ce → ce2) : WFB ck2 ce2 F CO CK CB BO AB ns bl nc nm nk gS gB := by
  obtain ⟨a1, a2, a3, a4, a5⟩ := h
  refine ⟨a1, fun c hc => ?_, a3, fun k hk => (a4 k hk).imp id (fun q => q.imp id h3), a5⟩
  obtain ⟨s, b1, b2, b3, b4⟩ := a2 c hc
  exact ⟨s, b1, b2, h1 _ b3, b4⟩
/-- in a catch: some pile's block up to k is one -/
def icp (pk : Nat → Int32) : Nat → Bool
  | 0 => decide (pk 0 = 6)
  | k + 1 => icp pk k || decide (pk (k + 1) = 6)
theorem icp_congr {pk pk2 : Nat → Int32} : ∀ k, (∀ j, j ≤ k → pk2 j = pk j) → icp pk2 k = icp pk k
  | 0, h => by unfold icp; rw [h 0 (Nat.le_refl _)]
  | k + 1, h => by unfold icp; rw [icp_congr k (fun j hj => h j (by omega)), h (k + 1) (Nat.le_refl _)]
/-- the pile: its blocks, the last statement of each, the statement that it belongs to -/
def PIL (pk ps pb pl : Nat → Int32) (pi ns bl : Nat) (gS gB : vgG) : Prop := pi ≤ 7 ∧ ∀ k, k < pi → okB bl gB (k, icp pk k) (pb k) ∧ okN ns gS (k, icp pk k) (pl k) ∧ (1 ≤ k → ∃ s : Nat, s < ns ∧ ps k = nI s ∧ gS s = (k - 1, icp pk (k - 1)))
def cks (how val : Nat → Int32) (ch : Nat) (h A : Int32) : Prop := ∃ k : Nat, k < ch ∧ how k = h ∧ val k = A
def ck4 (how : Nat → Int32) (ch : Nat) : Prop := ∃ k : Nat, k < ch ∧ how k = 4
/-- a program that is being read: x is the statement that is not whole yet (80: none) -/
def DP (st ek ev fo co ck cb bo ab how val pk ps pb pl : Nat → Int32) (d x ns bl nc nm nk en ch pi : Nat) : Prop := ∃ gS gB : vgG, (∀ s, s < ns → s ≠ x → WFS (cks how val ch 1) (cks how val ch 3) (ck4 how ch) ek ev (1100 * d) en ns bl gS gB (gS s) (csh d st s)) ∧ WFB (cks how val ch 1) (ck4 how ch) (gsh 400 d fo) (gsh 160 d co) (gsh 160 d ck) (gsh 160 d cb) (gsh 8 d bo) (gsh 16 d ab) ns bl nc nm nk gS gB ∧ PIL pk ps pb pl pi ns bl gS gB
/-- a program that has been read -/
def WFF (st ek ev fo co ck cb bo ab : Nat → Int32) (d ns bl nc nm nk en : Nat) : Prop := ∃ gS gB : vgG, (∀ s, s < ns → WFS (fun A => ∃ a : Nat, a < nk ∧ A = nI a) (fun A => ∃ a : Nat, a < nm ∧ A = nI a) False ek ev (1100 * d) en ns bl gS gB (gS s) (csh d st s)) ∧ WFB (fun A => ∃ a : Nat, a < nk ∧ A = nI a) False (gsh 400 d fo) (gsh 160 d co) (gsh 160 d ck) (gsh 160 d cb) (gsh 8 d bo) (gsh 16 d ab) ns bl nc nm nk gS gB
theorem DP_put {st ek ev fo co ck cb bo ab how val pk ps pb pl : Nat → Int32} {d x ns bl nc nm nk en ch pi c : Nat} {v : Int32} (h : DP st ek ev fo co ck cb bo ab how val pk ps pb pl d x ns bl nc nm nk en ch pi) (hx : x < 80) (hc : c < 16) : DP (upd st (1280 * d + 16 * x + c) v) ek ev fo co ck cb bo ab how val pk ps pb pl d x ns bl nc nm nk en ch pi := by
  obtain ⟨gS, gB, h1, h2, h3⟩ := h
  refine ⟨gS, gB, fun s hs hne => ?_, h2, h3⟩
  have e : csh d (upd st (1280 * d + 16 * x + c) v) s = csh d st s := by
    funext c2
    rw [csh_put hx hc, if_neg (by omega)]
  rw [e]
  exact h1 s hs hne
theorem DP_sum {st ek ev ek2 ev2 fo co ck cb bo ab how val pk ps pb pl : Nat → Int32} {d x ns bl nc nm nk en en2 ch pi t : Nat} (h : DP st ek ev fo co ck cb bo ab how val pk ps pb pl d x ns bl nc nm nk en ch pi) (hf : FE ek2 ev2 ek ev (1100 * d + en) t) (hn : en ≤ en2) : DP st ek2 ev2 fo co ck cb bo ab how val pk ps pb pl d x ns bl nc nm nk en2 ch pi := by
  obtain ⟨gS, gB, h1, h2, h3⟩ := h
  exact ⟨gS, gB, fun s hs hne => WFS_mono (h1 s hs hne) (fun _ q => q) (fun _ q => q) id hn (fun j hj => hf (1100 * d + j) (by omega)) (Nat.le_refl _) (fun _ _ => rfl) (Nat.le_refl _) (fun _ _ => rfl), h2, h3⟩
theorem cks_app {how val how2 val2 : Nat → Int32} {ch : Nat} {h A : Int32} (hq : cks how val ch h A) (e1 : ∀ j, j < ch → how2 j = how j) (e2 : ∀ j, j < ch → val2 j = val j) : cks how2 val2 (ch + 1) h A := by
  obtain ⟨k, a1, a2, a3⟩ := hq
  exact ⟨k, by omega, (e1 k a1).trans a2, (e2 k a1).trans a3⟩
theorem upd_lt {f : Nat → Int32} {n j : Nat} {v : Int32} (h : j < n) : upd f n v j = f j := by unfold upd; rw [if_neg (by omega)]
theorem upd_at {f : Nat → Int32} {n : Nat} {v : Int32} : upd f n v n = v := by unfold upd; rw [if_pos rfl]
theorem DP_check {st ek ev fo co ck cb bo ab how val pk ps pb pl : Nat → Int32} {d x ns bl nc nm nk en ch pi : Nat} {u v : Int32} (h : DP st ek ev fo co ck cb bo ab how val pk ps pb pl d x ns bl nc nm nk en ch pi) : DP st ek ev fo co ck cb bo ab (upd how ch u) (upd val ch v) pk ps pb pl d x ns bl nc nm nk en (ch + 1) pi := by
  obtain ⟨gS, gB, h1, h2, h3⟩ := h
  have m1 : ∀ (w A : Int32), cks how val ch w A → cks (upd how ch u) (upd val ch v) (ch + 1) w A := fun w A q => cks_app q (fun j hj => upd_lt hj) (fun j hj => upd_lt hj)
  have m4 : ck4 how ch → ck4 (upd how ch u) (ch + 1) := fun ⟨k, a1, a2⟩ => ⟨k, by omega, (upd_lt a1).trans a2⟩
  exact ⟨gS, gB, fun s hs hne => WFS_mono (h1 s hs hne) (m1 1) (m1 3) m4 (Nat.le_refl _) (fun _ _ => ⟨rfl, rfl⟩) (Nat.le_refl _) (fun _ _ => rfl) (Nat.le_refl _) (fun _ _ => rfl), WFB_mono h2 (m1 1) m4, h3⟩
theorem cks_new {how val : Nat → Int32} {ch : Nat} {u v : Int32} : cks (upd how ch u) (upd val ch v) (ch + 1) u v := ⟨ch, by omega, upd_at, upd_at⟩
