/-! the coupling of the class's state with the model's -/
def cSt (n : Nat) (T U : Nat → Int32) (i : Int32) : Prop := n ≤ 7 ∧ U 2 = nI n ∧ RS n T U ∧ ((n = 0 ∧ i = 0) ∨ (gd n T U ∧ ¬ i = 0))
def cAc (A : Nat → Nat → Int32) (b0 b1 : Int32) (f : Nat → Int32) (m i : Int32) : Prop := ∃ a k : Nat, b0 = nI a ∧ a < 24 ∧ b1 = nI k ∧ k ≤ 24 ∧ m = nI k ∧ (0 < k → ¬ i = 0) ∧ ∀ j, j < k → ∃ n, gd n (A ((a + 23 - j) % 24)) (fun q => f (48 * (k - 1 - j) + q))
def cIm (A : Nat → Nat → Int32) (f g : Nat → Int32) (i : Int32) : Prop := ∀ k, k < 2 → (¬ 0 < A k 2 ∧ f k = 0) ∨ (¬ f k = 0 ∧ ¬ i = 0 ∧ ∃ n, gd n (A k) (fun q => g (48 * k + q)))
def cRo (l s : Nat → Int32) (A : Nat → Nat → Int32) (f g it : Nat → Int32) : Prop := ∀ r, r < 8 → (l r = -1 ∧ g r < 0) ∨ (¬ l r = -1 ∧ ¬ g r < 0 ∧ l r = f r ∧ s r = g r ∧ Wi (g r) 0 40 ∧ ∀ i, i < 40 → A r i = it (40 * r + i))
def cTp (f : Nat → Int32) (x : Int32) (g : Nat → Int32) (y : Int32) : Prop := ∃ l : Nat, x = nI l ∧ y = nI l ∧ l ≤ 120 ∧ bts g l ∧ f = g
def cTr (f : Nat → Int32) (x : Int32) (g : Nat → Int32) (y : Int32) : Prop := ∃ t : Nat, t ≤ 16 ∧ x = nI t ∧ y = nI t ∧ f = g
def CR (σ τ : Nat → Nat → Int32) : Prop := (∃ n, cSt n (σ 0) (τ 0) (τ 12 1)) ∧ cAc (fun i => σ (2 + i)) (σ 28 0) (σ 28 1) (τ 7) (τ 12 9) (τ 12 1) ∧ cIm (fun k => σ (26 + k)) (τ 9) (τ 10) (τ 12 1) ∧ cRo (σ 29) (σ 30) (fun r => σ (34 + r)) (τ 1) (τ 2) (τ 3) ∧ cTp (σ 31) (σ 32 0) (τ 5) (τ 12 2) ∧ cTr (σ 33) (σ 42 0) (τ 11) (τ 12 10) ∧ σ 42 1 = τ 12 3 ∧ σ 42 2 = τ 12 0
theorem cAc_c {A A' : Nat → Nat → Int32} {b0 b1 m i : Int32} {f : Nat → Int32} (e : ∀ j, j < 24 → A' j = A j) (h : cAc A b0 b1 f m i) : cAc A' b0 b1 f m i := by
  obtain ⟨a, k, h1, h2, h3, h4, h5, h6, h7⟩ := h
  refine ⟨a, k, h1, h2, h3, h4, h5, h6, fun j hj => ?_⟩
  obtain ⟨n, hg⟩ := h7 j hj
  rw [e _ (Nat.mod_lt _ (by omega))]
  exact ⟨n, hg⟩
theorem cIm_c {A A' : Nat → Nat → Int32} {f g : Nat → Int32} {i : Int32} (e : ∀ j, j < 2 → A' j = A j) (h : cIm A f g i) : cIm A' f g i := fun k hk => by
  rw [e k hk]
  exact h k hk
theorem cRo_c {l s f g it : Nat → Int32} {A A' : Nat → Nat → Int32} (e : ∀ j, j < 8 → A' j = A j) (h : cRo l s A f g it) : cRo l s A' f g it := fun r hr => by
  rw [e r hr]
  exact h r hr
/-- nothing that counts has changed but the finding -/
theorem CR_s {σ τ σ' τ' : Nat → Nat → Int32} (h : CR σ τ) (e : ∀ j, j ≠ 1 → j ≠ 42 → σ' j = σ j) (e0 : σ' 42 0 = σ 42 0) (e1 : σ' 42 1 = σ 42 1) (g : ∀ j, j ≠ 12 → j ≠ 8 → j ≠ 4 → j ≠ 6 → τ' j = τ j) (g1 : ∀ k, k ≠ 0 → τ' 12 k = τ 12 k) (h2 : σ' 42 2 = τ' 12 0) : CR σ' τ' := by
  obtain ⟨c1, c2, c3, c4, c5, c6, c7, c8⟩ := h
  unfold CR
  rw [e 0 (by omega) (by omega), e 28 (by omega) (by omega), e 29 (by omega) (by omega), e 30 (by omega) (by omega), e 31 (by omega) (by omega), e 32 (by omega) (by omega), e 33 (by omega) (by omega), e0, e1, g 0 (by omega) (by omega) (by omega) (by omega), g 7 (by omega) (by omega) (by omega) (by omega), g 9 (by omega) (by omega) (by omega) (by omega), g 10 (by omega) (by omega) (by omega) (by omega), g 1 (by omega) (by omega) (by omega) (by omega), g 2 (by omega) (by omega) (by omega) (by omega), g 3 (by omega) (by omega) (by omega) (by omega), g 5 (by omega) (by omega) (by omega) (by omega), g 11 (by omega) (by omega) (by omega) (by omega), g1 1 (by omega), g1 9 (by omega), g1 2 (by omega), g1 10 (by omega), g1 3 (by omega)]
  exact ⟨c1, cAc_c (fun j hj => e _ (by omega) (by omega)) c2, cIm_c (fun j hj => e _ (by omega) (by omega)) c3, cRo_c (fun j hj => e _ (by omega) (by omega)) c4, c5, c6, c7, h2⟩
theorem CR_st {σ τ : Nat → Nat → Int32} {f : Int32} (h : CR σ τ) : CR (u2 σ 42 (upd (σ 42) 2 f)) (u2 τ 12 (upd (τ 12) 0 f)) := CR_s h (fun j _ b => u2_ne b) rfl rfl (fun j a _ _ _ => u2_ne a) (fun k hk => by rw [u2_eq, up_ne hk]) (by rw [u2_eq, u2_eq, up_eq, up_eq])
theorem asS_o {τ : Nat → Nat → Int32} {j : Nat} (h : j ≠ 8) : u2 (asS τ) 0 (τ 0) j = τ j := by
  by_cases e : j = 0
  · subst e
    exact u2_eq
  · rw [u2_ne e]
    unfold asS
    rw [u2_ne h]
theorem CR_f {σ τ : Nat → Nat → Int32} {F : Nat → Int32} (h : CR σ τ) : CR (u2 σ 1 F) τ := CR_s h (fun j a _ => u2_ne a) rfl rfl (fun _ _ _ _ _ => rfl) (fun _ _ => rfl) h.2.2.2.2.2.2.2
theorem CR_a {σ τ : Nat → Nat → Int32} (h : CR σ τ) : CR σ (u2 (asS τ) 0 (τ 0)) := CR_s h (fun j _ _ => rfl) rfl rfl (fun j _ b _ _ => asS_o b) (fun _ _ => rfl) h.2.2.2.2.2.2.2
theorem CR_fa {σ τ : Nat → Nat → Int32} {F : Nat → Int32} (h : CR σ τ) : CR (u2 σ 1 F) (u2 (asS τ) 0 (τ 0)) := CR_a (CR_f h)
theorem CR_fs {σ τ : Nat → Nat → Int32} {F : Nat → Int32} {x : Int32} (h : CR σ τ) : CR (u2 (u2 σ 42 (upd (σ 42) 2 x)) 1 F) (u2 (u2 (asS τ) 0 (τ 0)) 12 (upd (τ 12) 0 x)) := CR_f (CR_st (f := x) (CR_a h))
/-! acts -/
theorem CR_act {σ τ : Nat → Nat → Int32} {a k n m : Nat} {T U : Nat → Int32} (h : CR σ τ) (ha0 : σ 28 0 = nI a) (ha : a < 24) (hk0 : τ 12 9 = nI k) (hk : k ≤ 24) (hg : gd n (σ 0) (τ 0)) (hi : ¬ τ 12 1 = 0) (hg' : gd m T U) : CR (u2 (kpS σ a k) 0 T) (u2 (ntS τ k) 0 U) := by
  obtain ⟨c1, ⟨a2, k2, x1, x2, x3, x4, x5, x6, x7⟩, c3, c4, c5, c6, c7, c8⟩ := h
  have ea : a2 = a := nI_inj (by omega) (by omega) (x1.symm.trans ha0)
  have ek : k2 = k := nI_inj (by omega) (by omega) (x5.symm.trans hk0)
  subst ea ek
  have so : ∀ j, j ≠ 0 → j ≠ 28 → ¬ (2 ≤ j ∧ j < 26) → u2 (kpS σ a2 k2) 0 T j = σ j := fun j p1 p2 p3 => by
    rw [u2_ne p1]
    unfold kpS uA
    rw [if_neg p2, if_neg p3]
  have to : ∀ j, j ≠ 0 → j ≠ 7 → j ≠ 12 → u2 (ntS τ k2) 0 U j = τ j := fun j p1 p2 p3 => by
    rw [u2_ne p1]
    unfold ntS
    rw [u2_ne p3, u2_ne p2]
  have t12 : ∀ j, j ≠ 9 → u2 (ntS τ k2) 0 U 12 j = τ 12 j := fun j p1 => by
    rw [u2_ne (by omega)]
    unfold ntS
    rw [u2_eq, up_ne p1]
  have b0 : u2 (kpS σ a2 k2) 0 T 28 0 = nI ((a2 + 1) % 24) := by
    rw [u2_ne (by omega)]
    unfold kpS uA
    rw [if_pos rfl, up_ne (by omega), up_eq]
  have b1 : u2 (kpS σ a2 k2) 0 T 28 1 = nI (kpN k2) := by
    rw [u2_ne (by omega)]
    unfold kpS uA
    rw [if_pos rfl, up_eq]
  have t9 : u2 (ntS τ k2) 0 U 12 9 = nI (kpN k2) := by
    rw [u2_ne (by omega)]
    unfold ntS
    rw [u2_eq, up_eq]
  have t7 : u2 (ntS τ k2) 0 U 7 = ntF (τ 7) k2 (τ 0) := by
    rw [u2_ne (by omega)]
    unfold ntS
    rw [u2_ne (by omega), u2_eq]
  have kn : kpN k2 = if k2 < 24 then k2 + 1 else 24 := rfl
  have kle : kpN k2 ≤ 24 ∧ 1 ≤ kpN k2 := by
    rw [kn]
    split <;> omega
  unfold CR
  rw [t12 1 (by omega), t12 2 (by omega), t12 10 (by omega), t12 3 (by omega), t12 0 (by omega), to 9 (by omega) (by omega) (by omega), to 10 (by omega) (by omega) (by omega), to 1 (by omega) (by omega) (by omega), to 2 (by omega) (by omega) (by omega), to 3 (by omega) (by omega) (by omega), to 5 (by omega) (by omega) (by omega), to 11 (by omega) (by omega) (by omega), so 29 (by omega) (by omega) (by omega), so 30 (by omega) (by omega) (by omega), so 31 (by omega) (by omega) (by omega), so 32 (by omega) (by omega) (by omega), so 33 (by omega) (by omega) (by omega), so 42 (by omega) (by omega) (by omega)]
  refine ⟨⟨m, hg'.2.1, hg'.2.2.2.1.1.1, hg'.2.2.1, Or.inr ⟨hg', hi⟩⟩, ⟨(a2 + 1) % 24, kpN k2, b0, Nat.mod_lt _ (by omega), b1, kle.1, t9, fun _ => hi, fun j hj => ?_⟩, cIm_c (fun j hj => so _ (by omega) (by omega) (by omega)) c3, cRo_c (fun j hj => so _ (by omega) (by omega) (by omega)) c4, c5, c6, c7, c8⟩
  have row : ∀ q, q < 24 → u2 (kpS σ a2 k2) 0 T (2 + q) = u2 (fun i => σ (2 + i)) a2 (σ 0) q := fun q hq => by
    rw [u2_ne (by omega)]
    unfold kpS uA
    rw [if_neg (by omega), if_pos (by omega), show 2 + q - 2 = q by omega]
  show ∃ n, gd n (u2 (kpS σ a2 k2) 0 T (2 + ((a2 + 1) % 24 + 23 - j) % 24)) (fun q => u2 (ntS τ k2) 0 U 7 (48 * (kpN k2 - 1 - j) + q))
  rw [row _ (Nat.mod_lt _ (by omega)), t7]
  by_cases j0 : j = 0
  · subst j0
    refine ⟨n, ?_⟩
    rw [show ((a2 + 1) % 24 + 23 - 0) % 24 = a2 by omega, u2_eq]
    refine gd_48 hg (fun q hq => ?_)
    unfold ntF
    by_cases e : k2 = 24
    · rw [if_pos e]
      have e2 : kpN k2 = 24 := by
        rw [kn, if_neg (by omega)]
      rw [e2]
      unfold cpI
      rw [if_pos (by omega), show 48 * (24 - 1 - 0) + q - 48 * 23 = q by omega]
    · rw [if_neg e]
      have e2 : kpN k2 = k2 + 1 := by
        rw [kn, if_pos (by omega)]
      rw [e2]
      unfold cpI
      rw [if_pos (by omega), show 48 * (k2 + 1 - 1 - 0) + q - 48 * k2 = q by omega]
  · have hlt : j < kpN k2 := hj
    have jk : j - 1 < k2 := by
      rw [kn] at hlt
      split at hlt <;> omega
    obtain ⟨n1, hn1⟩ := x7 (j - 1) jk
    refine ⟨n1, ?_⟩
    rw [u2_ne (by omega), show ((a2 + 1) % 24 + 23 - j) % 24 = (a2 + 23 - (j - 1)) % 24 by omega]
    refine gd_48 hn1 (fun q hq => ?_)
    unfold ntF
    by_cases e : k2 = 24
    · rw [if_pos e]
      have e2 : kpN k2 = 24 := by
        rw [kn, if_neg (by omega)]
      rw [e2] at hlt ⊢
      unfold cpI shF
      rw [if_neg (by omega), if_pos (by omega), show 48 * (24 - 1 - j) + q + 48 = 48 * (k2 - 1 - (j - 1)) + q by omega]
    · rw [if_neg e]
      have e2 : kpN k2 = k2 + 1 := by
        rw [kn, if_pos (by omega)]
      rw [e2] at hlt ⊢
      unfold cpI
      rw [if_neg (by omega), show k2 + 1 - 1 - j = k2 - 1 - (j - 1) by omega]
theorem CR_undo {σ τ : Nat → Nat → Int32} {a k : Nat} (h : CR σ τ) (ha0 : σ 28 0 = nI a) (ha : a < 24) (hk0 : τ 12 9 = nI (k + 1)) (hk : k < 24) : CR (udS σ a k) (udY τ k) := by
  obtain ⟨c1, ⟨a2, k2, x1, x2, x3, x4, x5, x6, x7⟩, c3, c4, c5, c6, c7, c8⟩ := h
  have ea : a2 = a := nI_inj (by omega) (by omega) (x1.symm.trans ha0)
  have ek : k2 = k + 1 := nI_inj (by omega) (by omega) (x5.symm.trans hk0)
  subst ea ek
  have hi := x6 (by omega)
  have so : ∀ j, j ≠ 0 → j ≠ 28 → udS σ a2 k j = σ j := fun j p1 p2 => by
    unfold udS
    rw [u2_ne p1]
    unfold uA
    rw [if_neg p2]
    by_cases q : 2 ≤ j ∧ j < 26
    · rw [if_pos q]
      show σ (2 + (j - 2)) = σ j
      rw [show 2 + (j - 2) = j by omega]
    · rw [if_neg q]
  have to : ∀ j, j ≠ 0 → j ≠ 12 → udY τ k j = τ j := fun j p1 p2 => by
    unfold udY
    rw [u2_ne p1, u2_ne p2]
  have t12 : ∀ j, j ≠ 9 → udY τ k 12 j = τ 12 j := fun j p1 => by
    unfold udY
    rw [u2_ne (by omega), u2_eq, up_ne p1]
  have b0 : udS σ a2 k 28 0 = nI ((a2 + 23) % 24) := by
    unfold udS
    rw [u2_ne (by omega)]
    unfold uA
    rw [if_pos rfl, up_ne (by omega), up_eq]
  have b1 : udS σ a2 k 28 1 = nI k := by
    unfold udS
    rw [u2_ne (by omega)]
    unfold uA
    rw [if_pos rfl, up_eq]
  have t9 : udY τ k 12 9 = nI k := by
    unfold udY
    rw [u2_ne (by omega), u2_eq, up_eq]
  have s0 : udS σ a2 k 0 = σ (2 + (a2 + 23) % 24) := by
    unfold udS
    exact u2_eq
  have t0 : udY τ k 0 = mvF (τ 7) (τ 0) (48 * k) 48 := by
    unfold udY
    exact u2_eq
  obtain ⟨n, hg⟩ := x7 0 (by omega)
  have hg' : gd n (udS σ a2 k 0) (udY τ k 0) := by
    rw [s0, t0]
    refine gd_48 hg (fun q hq => ?_)
    unfold mvF cpI
    rw [if_pos (by omega)]
    show τ 7 (48 * k + (q - 0)) = τ 7 (48 * (k + 1 - 1 - 0) + q)
    rw [show 48 * k + (q - 0) = 48 * (k + 1 - 1 - 0) + q by omega]
  unfold CR
  rw [t12 1 (by omega), t12 2 (by omega), t12 10 (by omega), t12 3 (by omega), t12 0 (by omega), to 9 (by omega) (by omega), to 10 (by omega) (by omega), to 1 (by omega) (by omega), to 2 (by omega) (by omega), to 3 (by omega) (by omega), to 5 (by omega) (by omega), to 11 (by omega) (by omega), to 7 (by omega) (by omega), so 29 (by omega) (by omega), so 30 (by omega) (by omega), so 31 (by omega) (by omega), so 32 (by omega) (by omega), so 33 (by omega) (by omega), so 42 (by omega) (by omega)]
  refine ⟨⟨n, hg'.2.1, hg'.2.2.2.1.1.1, hg'.2.2.1, Or.inr ⟨hg', hi⟩⟩, ⟨(a2 + 23) % 24, k, b0, Nat.mod_lt _ (by omega), b1, by omega, t9, fun _ => hi, fun j hj => ?_⟩, cIm_c (fun j hj => so _ (by omega) (by omega)) c3, cRo_c (fun j hj => so _ (by omega) (by omega)) c4, c5, c6, c7, c8⟩
  obtain ⟨n1, hn1⟩ := x7 (j + 1) (by omega)
  refine ⟨n1, ?_⟩
  show gd n1 (udS σ a2 k (2 + ((a2 + 23) % 24 + 23 - j) % 24)) _
  rw [so _ (by omega) (by have := Nat.mod_lt ((a2 + 23) % 24 + 23 - j) (show 0 < 24 by omega); omega), show ((a2 + 23) % 24 + 23 - j) % 24 = (a2 + 23 - (j + 1)) % 24 by omega, show k - 1 - j = k + 1 - 1 - (j + 1) by omega]
  exact hn1
theorem CR_min {n : Nat} : ∀ (m : Nat) (σ τ : Nat → Nat → Int32) (a k : Nat), CR σ τ → σ 28 0 = nI a → a < 24 → τ 12 9 = nI k → k ≤ 24 → gd n (σ 0) (τ 0) → ¬ τ 12 1 = 0 → CR (minS n m σ a k) (minY n m τ k) ∧ gd n (minS n m σ a k 0) (minY n m τ k 0)
  | 0, σ, τ, a, k, h, _, _, _, _, hg, _ => ⟨h, hg⟩
  | m + 1, σ, τ, a, k, h, ha0, ha, hk0, hk, hg, hi => by
    have hg' := gd_mn hg
    have q := CR_act h ha0 ha hk0 hk hg hi hg'
    unfold minS minY
    refine CR_min m _ _ ((a + 1) % 24) (kpN k) q ?_ (Nat.mod_lt _ (by omega)) ?_ ?_ hg' ?_
    · rw [u2_ne (by omega)]
      unfold kpS uA
      rw [if_pos rfl, up_ne (by omega), up_eq]
    · rw [u2_ne (by omega)]
      unfold ntS
      rw [u2_eq, up_eq]
    · unfold kpN
      split <;> omega
    · rw [u2_ne (by omega)]
      unfold ntS
      rw [u2_eq, up_ne (by omega)]
      exact hi
