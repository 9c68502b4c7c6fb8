/-! the coupling behind rows, tape, images, trace -/
theorem cRo_up {l0 s0 f g it f' g' it' F : Nat → Int32} {A : Nat → Nat → Int32} {a : Nat} {l s : Int32} (old : cRo l0 s0 A f g it) (hf : ∀ r, r < 8 → r ≠ a → f' r = f r) (hg : ∀ r, r < 8 → r ≠ a → g' r = g r) (hi : ∀ r, r < 8 → r ≠ a → ∀ i, i < 40 → it' (40 * r + i) = it (40 * r + i)) (new : (l = -1 ∧ g' a < 0) ∨ (¬ l = -1 ∧ ¬ g' a < 0 ∧ l = f' a ∧ s = g' a ∧ Wi (g' a) 0 40 ∧ ∀ i, i < 40 → F i = it' (40 * a + i))) : cRo (upd l0 a l) (upd s0 a s) (u2 A a F) f' g' it' := by
  intro r hr
  by_cases e : r = a
  · subst e
    rw [up_eq, up_eq, u2_eq]
    exact new
  · rw [up_ne e, up_ne e, u2_ne e, hf r hr e, hg r hr e]
    rcases old r hr with q | ⟨q1, q2, q3, q4, q5, q6⟩
    · exact Or.inl q
    · exact Or.inr ⟨q1, q2, q3, q4, q5, fun i hi2 => by rw [q6 i hi2, hi r hr e i hi2]⟩
theorem CR_rows {σ τ τ' : Nat → Nat → Int32} {a : Nat} {l s : Int32} {f : Nat → Int32} (h : CR σ τ) (ha : a < 8) (g : ∀ j, j ≠ 1 → j ≠ 2 → j ≠ 3 → j ≠ 4 → j ≠ 12 → τ' j = τ j) (g12 : τ' 12 = upd (τ 12) 0 0) (hr : cRo (upd (σ 29) a l) (upd (σ 30) a s) (u2 (fun r => σ (34 + r)) a f) (τ' 1) (τ' 2) (τ' 3)) : CR (u2 (uR σ a l s f) 42 (upd (σ 42) 2 0)) τ' := by
  obtain ⟨c1, c2, c3, c4, c5, c6, c7, c8⟩ := h
  have so : ∀ j, j ≠ 29 → j ≠ 30 → j ≠ 42 → ¬ (34 ≤ j ∧ j < 42) → u2 (uR σ a l s f) 42 (upd (σ 42) 2 0) j = σ j := fun j p1 p2 p3 p4 => by
    rw [u2_ne p3]
    unfold uR
    rw [u2_ne (by omega), u2_ne p2, u2_ne p1]
  have s29 : u2 (uR σ a l s f) 42 (upd (σ 42) 2 0) 29 = upd (σ 29) a l := by
    rw [u2_ne (by omega)]
    unfold uR
    rw [u2_ne (by omega), u2_ne (by omega), u2_eq]
  have s30 : u2 (uR σ a l s f) 42 (upd (σ 42) 2 0) 30 = upd (σ 30) a s := by
    rw [u2_ne (by omega)]
    unfold uR
    rw [u2_ne (by omega), u2_eq]
  have s34 : ∀ r, r < 8 → u2 (uR σ a l s f) 42 (upd (σ 42) 2 0) (34 + r) = u2 (fun r => σ (34 + r)) a f r := fun r hr2 => by
    rw [u2_ne (by omega)]
    unfold uR
    by_cases e : r = a
    · subst e
      rw [u2_eq, u2_eq]
    · rw [u2_ne (by omega), u2_ne e, u2_ne (by omega), u2_ne (by omega)]
  unfold CR
  rw [so 0 (by omega) (by omega) (by omega) (by omega), so 28 (by omega) (by omega) (by omega) (by omega), so 31 (by omega) (by omega) (by omega) (by omega), so 32 (by omega) (by omega) (by omega) (by omega), so 33 (by omega) (by omega) (by omega) (by omega), s29, s30, u2_eq, g12, up_ne (show (0 : Nat) ≠ 2 by omega), up_ne (show (1 : Nat) ≠ 2 by omega), up_eq, up_ne (show (1 : Nat) ≠ 0 by omega), up_ne (show (9 : Nat) ≠ 0 by omega), up_ne (show (2 : Nat) ≠ 0 by omega), up_ne (show (10 : Nat) ≠ 0 by omega), up_ne (show (3 : Nat) ≠ 0 by omega), up_eq, g 0 (by omega) (by omega) (by omega) (by omega) (by omega), g 7 (by omega) (by omega) (by omega) (by omega) (by omega), g 9 (by omega) (by omega) (by omega) (by omega) (by omega), g 10 (by omega) (by omega) (by omega) (by omega) (by omega), g 5 (by omega) (by omega) (by omega) (by omega) (by omega), g 11 (by omega) (by omega) (by omega) (by omega) (by omega)]
  exact ⟨c1, cAc_c (fun j hj => so _ (by omega) (by omega) (by omega) (by omega)) c2, cIm_c (fun j hj => so _ (by omega) (by omega) (by omega) (by omega)) c3, cRo_c s34 hr, c5, c6, c7, rfl⟩
theorem CR_feed {σ τ : Nat → Nat → Int32} {l : Nat} {x : Int32} (h : CR σ τ) (hx : Wi x 0 255) (e1 : σ 32 0 = nI l) (hl : l < 120) : CR (u2 (u2 σ 31 (upd (σ 31) l x)) 32 (upd (σ 32) 0 (nI (l + 1)))) (u2 (u2 τ 5 (upd (τ 5) l x)) 12 (upd (τ 12) 2 (nI (l + 1)))) := by
  obtain ⟨c1, c2, c3, c4, ⟨l2, x1, x2, x3, x4, x5⟩, c6, c7, c8⟩ := h
  have el : l2 = l := nI_inj (by omega) (by omega) (x1.symm.trans e1)
  subst el
  refine ⟨c1, cAc_c (fun j hj => ?_) c2, cIm_c (fun j hj => ?_) c3, cRo_c (fun j hj => ?_) c4, ⟨l2 + 1, rfl, rfl, by omega, fun k hk => ?_, ?_⟩, c6, c7, c8⟩
  · show u2 (u2 σ 31 _) 32 _ (2 + j) = σ (2 + j)
    rw [u2_ne (by omega), u2_ne (by omega)]
  · show u2 (u2 σ 31 _) 32 _ (26 + j) = σ (26 + j)
    rw [u2_ne (by omega), u2_ne (by omega)]
  · show u2 (u2 σ 31 _) 32 _ (34 + j) = σ (34 + j)
    rw [u2_ne (by omega), u2_ne (by omega)]
  · show Wi (upd (τ 5) l2 x k) 0 255
    by_cases e : k = l2
    · rw [e, up_eq]
      exact hx
    · rw [up_ne e]
      exact x4 k (by omega)
  · show upd (σ 31) l2 x = upd (τ 5) l2 x
    rw [x5]
theorem CR_image {σ τ : Nat → Nat → Int32} {a n : Nat} (h : CR σ τ) (ha : a < 2) (hg : gd n (σ 0) (τ 0)) (hi : ¬ τ 12 1 = 0) : CR (u2 σ (26 + a) (σ 0)) (u2 (u2 τ 10 (cpI (τ 10) (τ 0) (48 * a) 48)) 9 (upd (τ 9) a 1)) := by
  obtain ⟨c1, c2, c3, c4, c5, c6, c7, c8⟩ := h
  have so : ∀ j, ¬ (26 ≤ j ∧ j < 28) → u2 σ (26 + a) (σ 0) j = σ j := fun j p => u2_ne (by omega)
  unfold CR
  rw [so 0 (by omega), so 28 (by omega), so 29 (by omega), so 30 (by omega), so 31 (by omega), so 32 (by omega), so 33 (by omega), so 42 (by omega)]
  refine ⟨c1, cAc_c (fun j hj => so _ (by omega)) c2, fun k hk => ?_, cRo_c (fun j hj => so _ (by omega)) c4, c5, c6, c7, c8⟩
  show (¬ 0 < u2 σ (26 + a) (σ 0) (26 + k) 2 ∧ upd (τ 9) a 1 k = 0) ∨ (¬ upd (τ 9) a 1 k = 0 ∧ ¬ τ 12 1 = 0 ∧ ∃ n, gd n (u2 σ (26 + a) (σ 0) (26 + k)) (fun q => cpI (τ 10) (τ 0) (48 * a) 48 (48 * k + q)))
  by_cases e : k = a
  · subst e
    rw [u2_eq, up_eq]
    refine Or.inr ⟨by decide, hi, n, gd_48 hg (fun q hq => ?_)⟩
    unfold cpI
    rw [if_pos (by omega), show 48 * k + q - 48 * k = q by omega]
  · rw [u2_ne (by omega), up_ne e]
    rcases c3 k hk with q | ⟨q1, q2, n1, q3⟩
    · exact Or.inl q
    · refine Or.inr ⟨q1, q2, n1, gd_48 q3 (fun q hq => ?_)⟩
      unfold cpI
      rw [if_neg (by omega)]
/-- a street from elsewhere, no act behind it, all else as it was but (perhaps) the tape's length -/
theorem CR_new {σ τ σ' τ' : Nat → Nat → Int32} {n l : Nat} (h : CR σ τ) (hg : gd n (σ' 0) (τ' 0)) (e : ∀ j, j ≠ 0 → j ≠ 1 → j ≠ 28 → j ≠ 32 → σ' j = σ j) (e0 : σ' 28 0 = σ 28 0) (e1 : σ' 28 1 = 0) (el : σ' 32 0 = nI l) (el2 : τ' 12 2 = nI l) (hl : l ≤ 120) (hb : bts (τ 5) l) (g : ∀ j, j ≠ 0 → j ≠ 6 → j ≠ 12 → τ' j = τ j) (g1 : ¬ τ' 12 1 = 0) (g9 : τ' 12 9 = 0) (go : ∀ k, k = 0 ∨ k = 3 ∨ k = 10 → τ' 12 k = τ 12 k) : CR σ' τ' := by
  obtain ⟨c1, ⟨a, k, x1, x2, -⟩, c3, c4, ⟨l2, y1, y2, y3, y4, y5⟩, c6, c7, c8⟩ := h
  refine ⟨⟨n, hg.2.1, hg.2.2.2.1.1.1, hg.2.2.1, Or.inr ⟨hg, g1⟩⟩, ⟨a, 0, e0.trans x1, x2, e1, by omega, g9, fun z => absurd z (by omega), fun j hj => absurd hj (by omega)⟩, fun k hk => ?_, ?_, ⟨l, el, el2, hl, ?_, ?_⟩, ?_, ?_, ?_⟩
  · rw [g 9 (by omega) (by omega) (by omega), g 10 (by omega) (by omega) (by omega)]
    show (¬ 0 < σ' (26 + k) 2 ∧ _) ∨ (_ ∧ _ ∧ ∃ n, gd n (σ' (26 + k)) _)
    rw [e (26 + k) (by omega) (by omega) (by omega) (by omega)]
    rcases c3 k hk with q | ⟨q1, q2, q3⟩
    · exact Or.inl q
    · exact Or.inr ⟨q1, g1, q3⟩
  · rw [e 29 (by omega) (by omega) (by omega) (by omega), e 30 (by omega) (by omega) (by omega) (by omega), g 1 (by omega) (by omega) (by omega), g 2 (by omega) (by omega) (by omega), g 3 (by omega) (by omega) (by omega)]
    exact cRo_c (fun j hj => e _ (by omega) (by omega) (by omega) (by omega)) c4
  · rw [g 5 (by omega) (by omega) (by omega)]
    exact hb
  · rw [e 31 (by omega) (by omega) (by omega) (by omega), g 5 (by omega) (by omega) (by omega)]
    exact y5
  · rw [e 33 (by omega) (by omega) (by omega) (by omega), e 42 (by omega) (by omega) (by omega) (by omega), g 11 (by omega) (by omega) (by omega), go 10 (by omega)]
    exact c6
  · rw [e 42 (by omega) (by omega) (by omega) (by omega), go 3 (by omega)]
    exact c7
  · rw [e 42 (by omega) (by omega) (by omega) (by omega), go 0 (by omega)]
    exact c8
/-- a faulty text -/
theorem CR_flt {σ τ σ' τ' : Nat → Nat → Int32} {x : Int32} (h : CR σ τ) (e : ∀ j, j ≠ 1 → j ≠ 32 → j ≠ 42 → σ' j = σ j) (e42 : σ' 42 = upd (σ 42) 1 x) (el : σ' 32 0 = 0) (g : ∀ j, j ≠ 6 → j ≠ 12 → τ' j = τ j) (g2 : τ' 12 2 = 0) (g3 : τ' 12 3 = x) (go : ∀ k, k = 0 ∨ k = 1 ∨ k = 9 ∨ k = 10 → τ' 12 k = τ 12 k) : CR σ' τ' := by
  obtain ⟨c1, c2, c3, c4, ⟨l2, y1, y2, y3, y4, y5⟩, c6, c7, c8⟩ := h
  unfold CR
  rw [e 0 (by omega) (by omega) (by omega), e 28 (by omega) (by omega) (by omega), e 29 (by omega) (by omega) (by omega), e 30 (by omega) (by omega) (by omega), e 31 (by omega) (by omega) (by omega), e 33 (by omega) (by omega) (by omega), e42, up_ne (show (0 : Nat) ≠ 1 by omega), up_eq, up_ne (show (2 : Nat) ≠ 1 by omega), g 0 (by omega) (by omega), g 7 (by omega) (by omega), g 9 (by omega) (by omega), g 10 (by omega) (by omega), g 1 (by omega) (by omega), g 2 (by omega) (by omega), g 3 (by omega) (by omega), g 5 (by omega) (by omega), g 11 (by omega) (by omega), go 1 (by omega), go 9 (by omega), go 10 (by omega), go 0 (by omega)]
  exact ⟨c1, cAc_c (fun j hj => e _ (by omega) (by omega) (by omega)) c2, cIm_c (fun j hj => e _ (by omega) (by omega) (by omega)) c3, cRo_c (fun j hj => e _ (by omega) (by omega) (by omega)) c4, ⟨0, el, g2, by omega, fun k hk => absurd hk (by omega), y5⟩, c6, g3.symm, c8⟩
/-! the trace -/
def AR (σ0 τ0 σ τ : Nat → Nat → Int32) : Prop := cTr (σ 33) (σ 42 0) (τ 11) (τ 12 10) ∧ (∀ j, j ≠ 33 → j ≠ 42 → σ j = σ0 j) ∧ (∀ k, k ≠ 0 → σ 42 k = σ0 42 k) ∧ (∀ j, j ≠ 11 → j ≠ 12 → τ j = τ0 j) ∧ ∀ k, k ≠ 10 → τ 12 k = τ0 12 k
theorem AR_0 {σ τ : Nat → Nat → Int32} (h : CR σ τ) : AR σ τ (tr0 σ) (ty0 τ) := by
  obtain ⟨-, -, -, -, -, ⟨t, x1, x2, x3, x4⟩, -, -⟩ := h
  unfold tr0 ty0
  exact ⟨⟨0, by omega, rfl, rfl, x4⟩, fun j _ b => u2_ne b, fun k hk => by rw [u2_eq, up_ne hk], fun j _ b => u2_ne b, fun k hk => by rw [u2_eq, up_ne hk]⟩
theorem AR_s {σ0 τ0 σ τ : Nat → Nat → Int32} {b : Int32} (h : AR σ0 τ0 σ τ) : AR σ0 τ0 (lv b σ) (bg b τ) := by
  obtain ⟨⟨t, x1, x2, x3, x4⟩, h1, h2, h3, h4⟩ := h
  unfold lv bg
  rw [x2, x3]
  by_cases e : nI t < 16
  · rw [if_pos e, if_pos e]
    have ht : t < 16 := (nI_ltE (b := 16) (by omega) (by omega)).mp e
    refine ⟨⟨t + 1, by omega, ?_, ?_, ?_⟩, fun j a c => ?_, fun k hk => ?_, fun j a c => ?_, fun k hk => ?_⟩
    · rw [u2_eq, up_eq, nI_1]
    · rw [u2_eq, up_eq, nI_1]
    · show upd (σ 33) _ b = upd (τ 11) _ b
      rw [x4]
    · rw [u2_ne c, u2_ne a]
      exact h1 j a c
    · rw [u2_eq, up_ne hk]
      exact h2 k hk
    · rw [u2_ne c, u2_ne a]
      exact h3 j a c
    · rw [u2_eq, up_ne hk]
      exact h4 k hk
  · rw [if_neg e, if_neg e]
    exact ⟨⟨t, x1, x2, x3, x4⟩, h1, h2, h3, h4⟩
theorem AR_C {σ0 τ0 σ τ : Nat → Nat → Int32} (h0 : CR σ0 τ0) (h : AR σ0 τ0 σ τ) : CR σ τ := by
  obtain ⟨c1, c2, c3, c4, c5, -, c7, c8⟩ := h0
  obtain ⟨c6, e, e2, g, g2⟩ := h
  unfold CR
  rw [e 0 (by omega) (by omega), e 28 (by omega) (by omega), e 29 (by omega) (by omega), e 30 (by omega) (by omega), e 31 (by omega) (by omega), e 32 (by omega) (by omega), e2 1 (by omega), e2 2 (by omega), g 0 (by omega) (by omega), g 7 (by omega) (by omega), g 9 (by omega) (by omega), g 10 (by omega) (by omega), g 1 (by omega) (by omega), g 2 (by omega) (by omega), g 3 (by omega) (by omega), g 5 (by omega) (by omega), g2 1 (by omega), g2 9 (by omega), g2 2 (by omega), g2 3 (by omega), g2 0 (by omega)]
  exact ⟨c1, cAc_c (fun j hj => e _ (by omega) (by omega)) c2, cIm_c (fun j hj => e _ (by omega) (by omega)) c3, cRo_c (fun j hj => e _ (by omega) (by omega)) c4, c5, c6, c7, c8⟩
