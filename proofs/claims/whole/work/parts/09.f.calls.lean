/-! each call: both answer the same, and the coupling holds behind it -/
def xOK {α : Type} (mk : α → Value) (G : mj_G) (M : mj_M) (As : List Value) (σ : Nat → Nat → Int32) (v : α) (P : (Nat → Nat → Int32) → Prop) : Prop := ∀ h, XS G h σ → ∃ Q, mj_con G M 12 0 0 (.ref (G.1 + 0) :: As) h Q ∧ ∀ w h', Q w h' → w = some (mk v) ∧ ∃ σ', XS G h' σ' ∧ mj_fr 0 220 h h' ∧ P σ'
def yOK {α : Type} (mk : α → Value) (G : mj_G) (M : mj_M) (As : List Value) (τ : Nat → Nat → Int32) (v : α) (P : (Nat → Nat → Int32) → Prop) : Prop := ∀ h, YS G h τ → ∃ Q, mj_con G M 12 0 0 (.ref (G.1 + 220) :: As) h Q ∧ ∀ w h', Q w h' → w = some (mk v) ∧ ∃ τ', YS G h' τ' ∧ mj_fr 220 13 h h' ∧ P τ'
def cpl {α : Type} (mk : α → Value) (G : mj_G) (Mx My : mj_M) (As : List Value) (σ τ : Nat → Nat → Int32) : Prop := ∃ (v : α) (P R : (Nat → Nat → Int32) → Prop), xOK mk G Mx As σ v P ∧ yOK mk G My As τ v R ∧ ∀ s t, P s → R t → CR s t
section CPH
variable {G : mj_G} {M : mj_M} {As : List Value} {σ τ S : Nat → Nat → Int32} {v u : Int32} {y z : Int64} {P : (Nat → Nat → Int32) → Prop}
theorem xI (k : ∀ h, XS G h σ → mj_con G M 12 0 0 (.ref (G.1 + 0) :: As) h (rI v h)) : xOK .int G M As σ v (fun s => s = σ) := fun h hX => ⟨_, k h hX, fun w h' q => ⟨q.1, σ, by rw [q.2]; exact hX, by rw [q.2]; exact fr_rf, rfl⟩⟩
theorem xS (k : ∀ h, XS G h σ → mj_con G M 12 0 0 (.ref (G.1 + 0) :: As) h (fun w h' => w = some (.int v) ∧ XS G h' S ∧ mj_fr 0 220 h h')) : xOK .int G M As σ v (fun s => s = S) := fun h hX => ⟨_, k h hX, fun w h' q => ⟨q.1, S, q.2.1, q.2.2, rfl⟩⟩
theorem xF (k : ∀ h, XS G h σ → mj_con G M 12 0 0 (.ref (G.1 + 0) :: As) h (rF G σ v h)) : xOK .int G M As σ v (fun s => ∃ F, s = u2 σ 1 F) := fun h hX => ⟨_, k h hX, fun w h' q => by
  obtain ⟨q1, F, q2, q3⟩ := q
  exact ⟨q1, _, q2, q3, F, rfl⟩⟩
theorem xG (k : ∀ h, XS G h σ → mj_con G M 12 0 0 (.ref (G.1 + 0) :: As) h (rG G σ v h)) : xOK .int G M As σ v (fun s => ∃ F, s = u2 (u2 σ 42 (upd (σ 42) 2 0)) 1 F) := fun h hX => ⟨_, k h hX, fun w h' q => by
  obtain ⟨q1, F, q2, q3⟩ := q
  exact ⟨q1, _, q2, q3, F, rfl⟩⟩
theorem xE (k : ∀ h, XS G h σ → mj_con G M 12 0 0 (.ref (G.1 + 0) :: As) h (fun w h' => w = some (.int v) ∧ ∃ σ', XS G h' σ' ∧ mj_fr 0 220 h h' ∧ P σ')) : xOK .int G M As σ v P := fun h hX => ⟨_, k h hX, fun w h' q => q⟩
theorem xL (k : ∀ h, XS G h σ → mj_con G M 12 0 0 (.ref (G.1 + 0) :: As) h (rL y h)) : xOK .long G M As σ y (fun s => s = σ) := fun h hX => ⟨_, k h hX, fun w h' q => ⟨q.1, σ, by rw [q.2]; exact hX, by rw [q.2]; exact fr_rf, rfl⟩⟩
theorem xFL (k : ∀ h, XS G h σ → mj_con G M 12 0 0 (.ref (G.1 + 0) :: As) h (rFL G σ y h)) : xOK .long G M As σ y (fun s => ∃ F, s = u2 σ 1 F) := fun h hX => ⟨_, k h hX, fun w h' q => by
  obtain ⟨q1, F, q2, q3⟩ := q
  exact ⟨q1, _, q2, q3, F, rfl⟩⟩
theorem yI (e : v = u) (k : ∀ h, YS G h τ → mj_con G M 12 0 0 (.ref (G.1 + 220) :: As) h (rI u h)) : yOK .int G M As τ v (fun s => s = τ) := fun h hY => ⟨_, k h hY, fun w h' q => ⟨by rw [e]; exact q.1, τ, by rw [q.2]; exact hY, by rw [q.2]; exact fr_rf, rfl⟩⟩
theorem yS (e : v = u) (k : ∀ h, YS G h τ → mj_con G M 12 0 0 (.ref (G.1 + 220) :: As) h (fun w h' => w = some (.int u) ∧ YS G h' S ∧ mj_fr 220 13 h h')) : yOK .int G M As τ v (fun s => s = S) := fun h hY => ⟨_, k h hY, fun w h' q => ⟨by rw [e]; exact q.1, S, q.2.1, q.2.2, rfl⟩⟩
theorem yE (e : v = u) (k : ∀ h, YS G h τ → mj_con G M 12 0 0 (.ref (G.1 + 220) :: As) h (fun w h' => w = some (.int u) ∧ ∃ τ', YS G h' τ' ∧ mj_fr 220 13 h h' ∧ P τ')) : yOK .int G M As τ v P := fun h hY => ⟨_, k h hY, fun w h' q => ⟨by rw [e]; exact q.1, q.2⟩⟩
theorem yL (k : ∀ h, YS G h τ → mj_con G M 12 0 0 (.ref (G.1 + 220) :: As) h (rL y h)) : yOK .long G M As τ y (fun s => s = τ) := fun h hY => ⟨_, k h hY, fun w h' q => ⟨q.1, τ, by rw [q.2]; exact hY, by rw [q.2]; exact fr_rf, rfl⟩⟩
theorem ySL (e : y = z) (k : ∀ h, YS G h τ → mj_con G M 12 0 0 (.ref (G.1 + 220) :: As) h (fun w h' => w = some (.long z) ∧ YS G h' S ∧ mj_fr 220 13 h h')) : yOK .long G M As τ y (fun s => s = S) := fun h hY => ⟨_, k h hY, fun w h' q => ⟨by rw [e]; exact q.1, S, q.2.1, q.2.2, rfl⟩⟩
theorem clSS {S' : Nat → Nat → Int32} (h : CR S S') : ∀ s t, s = S → t = S' → CR s t := fun s t e1 e2 => by
  subst e1 e2
  exact h
theorem clES {A : (Nat → Int32) → Nat → Nat → Int32} {S' : Nat → Nat → Int32} (h : ∀ F, CR (A F) S') : ∀ s t, (∃ F, s = A F) → t = S' → CR s t := fun s t e1 e2 => by
  obtain ⟨F, e1⟩ := e1
  subst e1 e2
  exact h F
end CPH
theorem up_id {f : Nat → Int32} {k : Nat} : upd f k (f k) = f := by
  funext j
  rw [up_if]
  by_cases h : j = k
  · rw [if_pos h, h]
  · rw [if_neg h]
theorem nI_p {n : Nat} (h : 0 < n) (h7 : n ≤ 7) : 0 < nI n := by
  rw [i_lt, z_i, nI_toInt (by omega)]
  omega
theorem CRn {σ τ : Nat → Nat → Int32} (h : CR σ τ) : ∃ n, n ≤ 7 ∧ σ 0 2 = nI n ∧ τ 0 2 = nI n ∧ RS n (σ 0) (τ 0) ∧ ((n = 0 ∧ ¬ 0 < σ 0 2 ∧ τ 12 1 = 0) ∨ (gd n (σ 0) (τ 0) ∧ 0 < σ 0 2 ∧ ¬ τ 12 1 = 0)) := by
  obtain ⟨⟨n, h7, hu, hr, hc⟩, -⟩ := h
  have hn : σ 0 2 = nI n := (RSs hr (by omega)).trans hu
  refine ⟨n, h7, hn, hu, hr, ?_⟩
  rcases hc with ⟨q1, q2⟩ | ⟨q1, q2⟩
  · refine Or.inl ⟨q1, ?_, q2⟩
    rw [hn, q1]
    decide
  · refine Or.inr ⟨q1, ?_, q2⟩
    rw [hn]
    exact nI_p q1.1 h7
theorem CRg {σ τ : Nat → Nat → Int32} {n j : Nat} (h : (n = 0 ∧ ¬ 0 < σ 0 2 ∧ τ 12 1 = 0) ∨ (gd n (σ 0) (τ 0) ∧ 0 < σ 0 2 ∧ ¬ τ 12 1 = 0)) (hj : j < n) : gd n (σ 0) (τ 0) ∧ 0 < σ 0 2 ∧ ¬ τ 12 1 = 0 := by
  rcases h with h | h
  · omega
  · exact h
theorem CRa {σ τ : Nat → Nat → Int32} (h : CR σ τ) : ∃ a k : Nat, σ 28 0 = nI a ∧ a < 24 ∧ σ 28 1 = nI k ∧ k ≤ 24 ∧ τ 12 9 = nI k := by
  obtain ⟨-, ⟨a, k, h1, h2, h3, h4, h5, -⟩, -⟩ := h
  exact ⟨a, k, h1, h2, h3, h4, h5⟩
theorem Hs_ex {n : Nat} {x : Int32} (h : Hs n x) : ∃ j, j < n ∧ x = nI j := by
  obtain ⟨k, e, h1, h2⟩ := Wi_ex (x := x) (a := 0) (b := (n : Int) - 1) ⟨h.1, by have := h.2; omega⟩ (by omega)
  exact ⟨k, by omega, e⟩
set_option maxRecDepth 100000 in
theorem cp_fault {G : mj_G} {σ τ : Nat → Nat → Int32} (hC : CR σ τ) : cpl .int G MX4_fault MX5_fault [] σ τ := by
  obtain ⟨n, h7, hn, hu, hr, hcase⟩ := CRn hC
  exact ⟨_, _, _, xI (fun h hX => k_fault hX), yI hC.2.2.2.2.2.2.1 (fun h hY => y_fault hY), clSS hC⟩
set_option maxRecDepth 100000 in
theorem cp_status {G : mj_G} {σ τ : Nat → Nat → Int32} (hC : CR σ τ) : cpl .int G MX4_status MX5_status [] σ τ := by
  obtain ⟨n, h7, hn, hu, hr, hcase⟩ := CRn hC
  exact ⟨_, _, _, xI (fun h hX => k_status hX), yI hC.2.2.2.2.2.2.2 (fun h hY => y_status hY), clSS hC⟩
set_option maxRecDepth 100000 in
theorem cp_kind {G : mj_G} {σ τ : Nat → Nat → Int32} (hC : CR σ τ) (x1 : Int32) : cpl .int G MX4_kind MX5_kind [.int x1] σ τ := by
  obtain ⟨n, h7, hn, hu, hr, hcase⟩ := CRn hC
  by_cases hb : Hs n x1
  · obtain ⟨j, hj, rfl⟩ := Hs_ex hb
    obtain ⟨hg, h0, hi⟩ := CRg hcase hj
    exact ⟨_, _, _, xI (fun h hX => k_kind hX hn h7 hj (by omega)), yI (RS6 hr h7 hj) (fun h hY => y_kind hY hu h7 hj (by omega)), clSS hC⟩
  · exact ⟨_, _, _, xI (fun h hX => k_kind_bad hX hn h7 hb (by omega)), yI rfl (fun h hY => y_kind_bad hY hu h7 hb (by omega)), clSS hC⟩
set_option maxRecDepth 100000 in
theorem cp_lag {G : mj_G} {σ τ : Nat → Nat → Int32} (hC : CR σ τ) (x1 : Int32) : cpl .int G MX4_lag MX5_lag [.int x1] σ τ := by
  obtain ⟨n, h7, hn, hu, hr, hcase⟩ := CRn hC
  by_cases hb : Hs n x1
  · obtain ⟨j, hj, rfl⟩ := Hs_ex hb
    obtain ⟨hg, h0, hi⟩ := CRg hcase hj
    exact ⟨_, _, _, xI (fun h hX => k_lag hX hn h7 hj (by omega)), yS (lag_eq hg hj).symm (fun h hY => y_lag hY hu h7 hg.2.2.2.1 hj (by omega)), clSS (CR_a hC)⟩
  · exact ⟨_, _, _, xI (fun h hX => k_lag_bad hX hn h7 hb (by omega)), yI rfl (fun h hY => y_lag_bad hY hu h7 hb (by omega)), clSS hC⟩
set_option maxRecDepth 100000 in
theorem cp_ahead {G : mj_G} {σ τ : Nat → Nat → Int32} (hC : CR σ τ) (x1 x2 : Int32) : cpl .int G MX4_ahead MX5_ahead [.int x1, .int x2] σ τ := by
  obtain ⟨n, h7, hn, hu, hr, hcase⟩ := CRn hC
  by_cases hb : Hs n x1 ∧ Wi x2 0 99
  · obtain ⟨j, hj, rfl⟩ := Hs_ex hb.1
    obtain ⟨hg, h0, hi⟩ := CRg hcase hj
    obtain ⟨k, rfl, ka, kb⟩ := Wi_ex hb.2 (by omega)
    exact ⟨_, _, _, xF (fun h hX => k_ahead hX hn h7 (gdK hg) hj (by omega) (by omega)), yS (RS34 (mns_c hr h7 k) h7 hj) (fun h hY => y_ahead hY hu h7 hg.2.2.2.1 hj (by omega) (by omega)), clES (fun F => CR_fa hC)⟩
  · exact ⟨_, _, _, xI (fun h hX => k_ahead_bad hX hn h7 hb (by omega)), yI rfl (fun h hY => y_ahead_bad hY hu h7 hb (by omega)), clSS hC⟩
set_option maxRecDepth 100000 in
theorem cp_most {G : mj_G} {σ τ : Nat → Nat → Int32} (hC : CR σ τ) (x1 x2 x3 : Int32) : cpl .int G MX4_most MX5_most [.int x1, .int x2, .int x3] σ τ := by
  obtain ⟨n, h7, hn, hu, hr, hcase⟩ := CRn hC
  by_cases hb : Hs n x1 ∧ Wi x2 0 99 ∧ Wi x3 0 1
  · obtain ⟨j, hj, rfl⟩ := Hs_ex hb.1
    obtain ⟨hg, h0, hi⟩ := CRg hcase hj
    obtain ⟨k, rfl, ka, kb⟩ := Wi_ex hb.2.1 (by omega)
    have e : (if x3 = 0 then (moF n j k 1 (σ 0) (σ 0 (34 + j)) 0).1 else (moF n j k 1 (σ 0) (σ 0 (34 + j)) 0).2) = (if x3 = 0 then (moF n j k 1 (τ 0) (τ 0 (34 + j)) 0).1 else (moF n j k 1 (τ 0) (τ 0 (34 + j)) 0).2) := by
      rw [RS34 hr h7 hj, moF_c h7 hj k 1 _ _ _ _ hr]
    exact ⟨_, _, _, xF (fun h hX => k_most hX hn h7 (gdK hg) hj (by omega) hb.2.2 (by omega)), yS e (fun h hY => y_most hY hu h7 hg.2.2.2.1 hj (by omega) hb.2.2 (by omega)), clES (fun F => CR_fa hC)⟩
  · exact ⟨_, _, _, xI (fun h hX => k_most_bad hX hn h7 hb (by omega)), yI rfl (fun h hY => y_most_bad hY hu h7 hb (by omega)), clSS hC⟩
set_option maxRecDepth 100000 in
theorem cp_from {G : mj_G} {σ τ : Nat → Nat → Int32} (hC : CR σ τ) (x1 x2 : Int32) : cpl .int G MX4_from MX5_from [.int x1, .int x2] σ τ := by
  obtain ⟨n, h7, hn, hu, hr, hcase⟩ := CRn hC
  by_cases hb : Hs n x1 ∧ Wi x2 1 40
  · obtain ⟨j, hj, rfl⟩ := Hs_ex hb.1
    obtain ⟨hg, h0, hi⟩ := CRg hcase hj
    obtain ⟨k, rfl, ka, kb⟩ := Wi_ex hb.2 (by omega)
    have e : (1000 : Int32) + mns n k (upd (σ 0) 4 (σ 0 4 ||| 0)) 5 - mns n k (upd (σ 0) 4 (σ 0 4 ||| (1 <<< (nI j &&& 31)))) 5 = mns n k (τ 0) 5 - mns n k (upd (τ 0) 4 (τ 0 4 ||| (1 <<< (nI j &&& 31)))) 5 + 1000 := by
      have e1 : mns n k (upd (σ 0) 4 (σ 0 4 ||| 0)) 5 = mns n k (τ 0) 5 := by
        rw [Int32.or_zero, show upd (σ 0) 4 (σ 0 4) = σ 0 from up_id]
        exact RSs (mns_c hr h7 k) (by omega)
      have e2 : mns n k (upd (σ 0) 4 (σ 0 4 ||| (1 <<< (nI j &&& 31)))) 5 = mns n k (upd (τ 0) 4 (τ 0 4 ||| (1 <<< (nI j &&& 31)))) 5 := by
        rw [RSs (k := 4) hr (by omega)]
        exact RSs (mns_c (RS_up hr) h7 k) (by omega)
      rw [e1, e2, Int32.add_comm, Int32.sub_eq_add_neg, Int32.sub_eq_add_neg, Int32.add_assoc, Int32.add_assoc, Int32.add_comm 1000]
    exact ⟨_, _, _, xF (fun h hX => k_from hX hn h7 (gdK hg) hj (by omega) (by omega) (by omega)), yS e (fun h hY => y_from hY hu h7 hg.2.2.2.1 hj (by omega) (by omega) (by omega)), clES (fun F => CR_fa hC)⟩
  · exact ⟨_, _, _, xI (fun h hX => k_from_bad hX hn h7 hb (by omega)), yI rfl (fun h hY => y_from_bad hY hu h7 hb (by omega)), clSS hC⟩
set_option maxRecDepth 100000 in
theorem cp_loud {G : mj_G} {σ τ : Nat → Nat → Int32} (hC : CR σ τ) (x1 x2 : Int32) : cpl .int G MX4_loud MX5_loud [.int x1, .int x2] σ τ := by
  obtain ⟨n, h7, hn, hu, hr, hcase⟩ := CRn hC
  by_cases hb : Hs n x1 ∧ Wi x2 1 99
  · obtain ⟨j, hj, rfl⟩ := Hs_ex hb.1
    obtain ⟨hg, h0, hi⟩ := CRg hcase hj
    obtain ⟨k, rfl, ka, kb⟩ := Wi_ex hb.2 (by omega)
    exact ⟨_, _, _, xF (fun h hX => k_loud hX hn h7 (gdK hg) hj (by omega) (by omega) (by omega)), yS (loF_c h7 hr 21 0) (fun h hY => y_loud hY hu h7 hg.2.2.2.1 hj (by omega) (by omega) (by omega)), clES (fun F => CR_fa hC)⟩
  · exact ⟨_, _, _, xI (fun h hX => k_loud_bad hX hn h7 hb (by omega)), yI rfl (fun h hY => y_loud_bad hY hu h7 hb (by omega)), clSS hC⟩
set_option maxRecDepth 100000 in
theorem cp_hushes {G : mj_G} {σ τ : Nat → Nat → Int32} (hC : CR σ τ) (x1 x2 x3 : Int32) : cpl .int G MX4_hushes MX5_hushes [.int x1, .int x2, .int x3] σ τ := by
  obtain ⟨n, h7, hn, hu, hr, hcase⟩ := CRn hC
  by_cases hb : Hs n x1 ∧ Wi x2 1 40 ∧ Wi x3 0 1
  · obtain ⟨j, hj, rfl⟩ := Hs_ex hb.1
    obtain ⟨hg, h0, hi⟩ := CRg hcase hj
    obtain ⟨k, rfl, ka, kb⟩ := Wi_ex hb.2.1 (by omega)
    obtain ⟨h4, e4, hh⟩ := hg.2.2.2.2.2
    have e : hmW (feF n k (σ 0) (clJ j) (2 ^ n) 0 (-1000000) 8) x3 = hmW (feF n k (τ 0) (clJ j) (2 ^ n) 0 (-1000000) 8) x3 := by
      rw [feF_cg h7 hr (clJ_c h7 hj)]
    exact ⟨_, _, _, xF (fun h hX => k_hushes hX hn h7 (gdK hg) hj (by omega) (by omega) hb.2.2 (by omega)), yS e (fun h hY => y_hushes hY hu h7 hg.2.2.2.1 e4 hh hj (by omega) (by omega) hb.2.2 (by omega)), clES (fun F => CR_fa hC)⟩
  · exact ⟨_, _, _, xI (fun h hX => k_hushes_bad hX hn h7 hb (by omega)), yI rfl (fun h hY => y_hushes_bad hY hu h7 hb (by omega)), clSS hC⟩
set_option maxRecDepth 100000 in
theorem cp_spares {G : mj_G} {σ τ : Nat → Nat → Int32} (hC : CR σ τ) (x1 x2 : Int32) : cpl .int G MX4_spares MX5_spares [.int x1, .int x2] σ τ := by
  obtain ⟨n, h7, hn, hu, hr, hcase⟩ := CRn hC
  rcases hcase with ⟨e0, h0, hi⟩ | ⟨hg, h0, hi⟩
  · exact ⟨_, _, _, xI (fun h hX => k_spares_st hX h0 (by omega)), yI rfl (fun h hY => y_spares_st hY hi (by omega)), clSS hC⟩
  · by_cases hb : Wi x1 1 40 ∧ Wi x2 0 1
    · obtain ⟨k, rfl, ka, kb⟩ := Wi_ex hb.1 (by omega)
      obtain ⟨h4, e4, hh⟩ := hg.2.2.2.2.2
      have e : hmW (feF n k (σ 0) clP (2 ^ n) 0 (-1000000) 8) x2 = hmW (feF n k (τ 0) clP (2 ^ n) 0 (-1000000) 8) x2 := by
        rw [feF_cg h7 hr clP_c]
      exact ⟨_, _, _, xF (fun h hX => k_spares hX hn h7 (gdK hg) (by omega) (by omega) h0 hb.2 (by omega)), yS e (fun h hY => y_spares hY hu h7 hg.2.2.2.1 e4 hh (by omega) (by omega) hi hb.2 (by omega)), clES (fun F => CR_fa hC)⟩
    · exact ⟨_, _, _, xI (fun h hX => k_spares_bad hX h0 hb (by omega)), yI rfl (fun h hY => y_spares_bad hY hi hb (by omega)), clSS hC⟩
set_option maxRecDepth 100000 in
theorem cp_catches {G : mj_G} {σ τ : Nat → Nat → Int32} (hC : CR σ τ) (x1 x2 : Int32) : cpl .int G MX4_catches MX5_catches [.int x1, .int x2] σ τ := by
  obtain ⟨n, h7, hn, hu, hr, hcase⟩ := CRn hC
  rcases hcase with ⟨e0, h0, hi⟩ | ⟨hg, h0, hi⟩
  · exact ⟨_, _, _, xI (fun h hX => k_catches_st hX h0 (by omega)), yI rfl (fun h hY => y_catches_st hY hi (by omega)), clSS hC⟩
  · by_cases hb : Wi x1 1 40 ∧ Wi x2 0 1
    · obtain ⟨k, rfl, ka, kb⟩ := Wi_ex hb.1 (by omega)
      have e : (if x2 = 0 then (caF n k (σ 0) n 0 0 10000).1 else (caF n k (σ 0) n 0 0 10000).2) = (if x2 = 0 then (caF n k (τ 0) n 0 0 99999).1 else (caF n k (τ 0) n 0 0 99999).2) := by
        rw [ca_eq hg.1 hg.2.2.2.1, caF_c h7 hr n 0 0 10000]
      exact ⟨_, _, _, xF (fun h hX => k_catches hX hn h7 (gdK hg) (by omega) (by omega) h0 hb.2 (by omega)), yS e (fun h hY => y_catches hY hu h7 hg.2.2.2.1 (by omega) (by omega) hi hb.2 (by omega)), clES (fun F => CR_fa hC)⟩
    · exact ⟨_, _, _, xI (fun h hX => k_catches_bad hX h0 hb (by omega)), yI rfl (fun h hY => y_catches_bad hY hi hb (by omega)), clSS hC⟩
set_option maxRecDepth 100000 in
theorem cp_pond {G : mj_G} {σ τ : Nat → Nat → Int32} (hC : CR σ τ) (x1 x2 : Int32) : cpl .int G MX4_pond MX5_pond [.int x1, .int x2] σ τ := by
  obtain ⟨n, h7, hn, hu, hr, hcase⟩ := CRn hC
  rcases hcase with ⟨e0, h0, hi⟩ | ⟨hg, h0, hi⟩
  · exact ⟨_, _, _, xI (fun h hX => k_pond_st hX h0 (by omega)), yI rfl (fun h hY => y_pond_st hY hi (by omega)), clSS hC⟩
  · by_cases hb : Wi x1 0 99 ∧ Wi x2 0 1
    · obtain ⟨k, rfl, ka, kb⟩ := Wi_ex hb.1 (by omega)
      have e : (if x2 = 0 then mns n k (σ 0) 5 else sumF (mns n k (σ 0)) 41 n) = (if x2 = 0 then mns n k (τ 0) 5 else sumF (mns n k (τ 0)) 41 n) := by
        rw [RSs (k := 5) (mns_c hr h7 k) (by omega), sum41_c (mns_c hr h7 k) h7]
      exact ⟨_, _, _, xF (fun h hX => k_pond hX hn h7 (gdK hg) (by omega) h0 hb.2 (by omega)), yS e (fun h hY => y_pond hY hu h7 hg.2.2.2.1 (by omega) hi hb.2 (by omega)), clES (fun F => CR_fa hC)⟩
    · exact ⟨_, _, _, xI (fun h hX => k_pond_bad hX h0 hb (by omega)), yI rfl (fun h hY => y_pond_bad hY hi hb (by omega)), clSS hC⟩
set_option maxRecDepth 100000 in
theorem cp_over {G : mj_G} {σ τ : Nat → Nat → Int32} (hC : CR σ τ) : cpl .int G MX4_over MX5_over [] σ τ := by
  obtain ⟨n, h7, hn, hu, hr, hcase⟩ := CRn hC
  rcases hcase with ⟨e0, h0, hi⟩ | ⟨hg, h0, hi⟩
  · exact ⟨_, _, _, xI (fun h hX => k_over_st hX h0 (by omega)), yI rfl (fun h hY => y_over_st hY hi (by omega)), clSS hC⟩
  · exact ⟨_, _, _, xF (fun h hX => k_over hX hn h7 (gdK hg) h0 (by omega)), yS (ovF_c h7 201 0 _ _ hr) (fun h hY => y_over hY hu h7 hg.2.2.2.1 hi (by omega)), clES (fun F => CR_fa hC)⟩
set_option maxRecDepth 100000 in
theorem cp_full {G : mj_G} {σ τ : Nat → Nat → Int32} (hC : CR σ τ) (x1 : Int32) : cpl .int G MX4_full MX5_full [.int x1] σ τ := by
  obtain ⟨n, h7, hn, hu, hr, hcase⟩ := CRn hC
  rcases hcase with ⟨e0, h0, hi⟩ | ⟨hg, h0, hi⟩
  · exact ⟨_, _, _, xI (fun h hX => k_full_st hX h0 (by omega)), yI rfl (fun h hY => y_full_st hY hi (by omega)), clSS hC⟩
  · by_cases hb : Wi x1 0 1
    · exact ⟨_, _, _, xF (fun h hX => k_full hX hn h7 (gdK hg) h0 hb (by omega)), yS (fuF_c h7 100 0 _ _ hr) (fun h hY => y_full hY hu h7 hg.2.2.2.1 hi hb (by omega)), clES (fun F => CR_fa hC)⟩
    · exact ⟨_, _, _, xI (fun h hX => k_full_bad hX h0 hb (by omega)), yI rfl (fun h hY => y_full_bad hY hi hb (by omega)), clSS hC⟩
set_option maxRecDepth 100000 in
theorem cp_dry {G : mj_G} {σ τ : Nat → Nat → Int32} (hC : CR σ τ) : cpl .int G MX4_dry MX5_dry [] σ τ := by
  obtain ⟨n, h7, hn, hu, hr, hcase⟩ := CRn hC
  rcases hcase with ⟨e0, h0, hi⟩ | ⟨hg, h0, hi⟩
  · exact ⟨_, _, _, xI (fun h hX => k_dry_bad hX h0 (by omega)), yI rfl (fun h hY => y_dry_st hY hi), clSS hC⟩
  · exact ⟨_, _, _, xI (fun h hX => k_dry hX hn h7 h0 (by omega)), yI (dryF_c hr h7 n (by omega)) (fun h hY => y_dry hY hu h7 hi), clSS hC⟩
set_option maxRecDepth 100000 in
theorem cp_drawn {G : mj_G} {σ τ : Nat → Nat → Int32} (hC : CR σ τ) (x1 x2 x3 : Int32) : cpl .int G MX4_drawn MX5_drawn [.int x1, .int x2, .int x3] σ τ := by
  obtain ⟨n, h7, hn, hu, hr, hcase⟩ := CRn hC
  rcases hcase with ⟨e0, h0, hi⟩ | ⟨hg, h0, hi⟩
  · exact ⟨_, _, _, xI (fun h hX => k_drawn_st hX h0 (by omega)), yI rfl (fun h hY => y_drawn_st hY hi (by omega)), clSS hC⟩
  · by_cases hb : Wi x1 0 60 ∧ Wi x2 1 999999 ∧ Wi x3 0 1
    · obtain ⟨k, rfl, ka, kb⟩ := Wi_ex hb.1 (by omega)
      obtain ⟨s, rfl, sa, sb⟩ := Wi_ex hb.2.1 (by omega)
      have q := drF_c h7 k s (σ 0) (τ 0) 0 hr
      have e : (if x3 = 0 then (drF n k s (σ 0) 0).1 5 else (drF n k s (σ 0) 0).2) = (if x3 = 0 then (drF n k s (τ 0) 0).1 5 else (drF n k s (τ 0) 0).2) := by
        rw [RSs (k := 5) q.1 (by omega), q.2]
      exact ⟨_, _, _, xF (fun h hX => k_drawn hX hn h7 (gdK hg) (by omega) (by omega) (by omega) h0 hg.1 hb.2.2 (by omega)), yS e (fun h hY => y_drawn hY hu h7 hg.2.2.2.1 (by omega) (by omega) (by omega) hi hg.1 hb.2.2 (by omega)), clES (fun F => CR_fa hC)⟩
    · exact ⟨_, _, _, xI (fun h hX => k_drawn_bad hX h0 hb (by omega)), yI rfl (fun h hY => y_drawn_bad hY hi hb (by omega)), clSS hC⟩
theorem hp1_all : ∀ s, s < 128 → (bc (nI s)).toNatClampNeg < 1000 := by decide +kernel
set_option maxRecDepth 100000 in
theorem hp2_all : ∀ n, n < 8 → ∀ h, h < 2 ^ n → ∀ s, s < 2 ^ n → ((nI n - bc (nI h)) - bc (nI s)).toNatClampNeg < 1000 := by decide +kernel
set_option maxRecDepth 100000 in
theorem cp_hushed {G : mj_G} {σ τ : Nat → Nat → Int32} (hC : CR σ τ) (x1 x2 x3 : Int32) : cpl .long G MX4_hushed MX5_hushed [.int x1, .int x2, .int x3] σ τ := by
  obtain ⟨n, h7, hn, hu, hr, hcase⟩ := CRn hC
  rcases hcase with ⟨e0, h0, hi⟩ | ⟨hg, h0, hi⟩
  · exact ⟨_, _, _, xL (fun h hX => k_hushed_st hX h0 (by omega)), yL (fun h hY => y_hushed_st hY hi (by omega)), clSS hC⟩
  · by_cases hb : Wi x1 0 40 ∧ Wi x2 0 10 ∧ Wi x3 0 1
    · obtain ⟨k, rfl, ka, kb⟩ := Wi_ex hb.1 (by omega)
      obtain ⟨h4, e4, hh⟩ := hg.2.2.2.2.2
      have e4s : σ 0 4 = nI h4 := (RSs hr (by omega)).trans e4
      have hp := p2_le h7
      obtain ⟨c1, c2, -⟩ := cnt_all n (by omega) h4 hh
      exact ⟨_, _, _, xFL (fun h hX => k_hushed hX hn h7 (gdK hg) (by omega) hb.2.1 h0 (by rw [e4s, ← c1]; omega) (fun s hs => hp1_all s (by omega)) (fun s hs => by rw [e4s]; exact hp2_all n (by omega) h4 hh s hs) hb.2.2 (by omega)), ySL (huF_c h7 hr) (fun h hY => y_hushed hY hu h7 hg.2.2.2.1 e4 hh (by omega) hb.2.1 hi hb.2.2 (by omega)), clES (fun F => CR_fa hC)⟩
    · exact ⟨_, _, _, xL (fun h hX => k_hushed_bad hX h0 hb (by omega)), yL (fun h hY => y_hushed_bad hY hi hb (by omega)), clSS hC⟩
set_option maxRecDepth 100000 in
theorem cp_house {G : mj_G} {σ τ : Nat → Nat → Int32} (hC : CR σ τ) (x1 x2 : Int32) : cpl .int G MX4_house MX5_house [.int x1, .int x2] σ τ := by
  obtain ⟨n, h7, hn, hu, hr, hcase⟩ := CRn hC
  by_cases hb : Hs n x1 ∧ Wi x2 0 6
  · obtain ⟨j, hj, rfl⟩ := Hs_ex hb.1
    obtain ⟨hg, h0, hi⟩ := CRg hcase hj
    obtain ⟨k, rfl, ka, kb⟩ := Wi_ex hb.2 (by omega)
    have hk : k = 0 ∨ k = 1 ∨ k = 2 ∨ k = 3 ∨ k = 4 ∨ k = 5 ∨ k = 6 := by omega
    rcases hk with rfl | rfl | rfl | rfl | rfl | rfl | rfl
    · exact ⟨_, _, _, xI (fun h hX => k_house0 hX hn h7 (gdK hg) hj (by omega)), yI (houF_c hr h7 hj) (fun h hY => y_house0 hY hu h7 (okB_M hg.2.2.2.1) hj (by omega)), clSS hC⟩
    · exact ⟨_, _, _, xI (fun h hX => k_house1 hX hn h7 (gdK hg) hj (by omega)), yI (houF_c hr h7 hj) (fun h hY => y_house1 hY hu h7 (okB_M hg.2.2.2.1) hj (by omega)), clSS hC⟩
    · exact ⟨_, _, _, xI (fun h hX => k_house2 hX hn h7 (gdK hg) hj (by omega)), yI (houF_c hr h7 hj) (fun h hY => y_house2 hY hu h7 (okB_M hg.2.2.2.1) hj (by omega)), clSS hC⟩
    · exact ⟨_, _, _, xI (fun h hX => k_house3 hX hn h7 (gdK hg) hj (by omega)), yI (houF_c hr h7 hj) (fun h hY => y_house3 hY hu h7 (okB_M hg.2.2.2.1) hj (by omega)), clSS hC⟩
    · exact ⟨_, _, _, xI (fun h hX => k_house4 hX hn h7 (gdK hg) hj (by omega)), yI (houF_c hr h7 hj) (fun h hY => y_house4 hY hu h7 (okB_M hg.2.2.2.1) hj (by omega)), clSS hC⟩
    · exact ⟨_, _, _, xI (fun h hX => k_house5 hX hn h7 (gdK hg) hj (by omega)), yI (houF_c hr h7 hj) (fun h hY => y_house5 hY hu h7 (okB_M hg.2.2.2.1) hj (by omega)), clSS hC⟩
    · exact ⟨_, _, _, xI (fun h hX => k_house6 hX hn h7 (gdK hg) hj (by omega)), yI (houF_c hr h7 hj) (fun h hY => y_house6 hY hu h7 (okB_M hg.2.2.2.1) hj (by omega)), clSS hC⟩
  · exact ⟨_, _, _, xI (fun h hX => k_house_bad hX hn h7 hb (by omega)), yI rfl (fun h hY => y_house_bad hY hu h7 hb (by omega)), clSS hC⟩
set_option maxRecDepth 100000 in
theorem cp_stand {G : mj_G} {σ τ : Nat → Nat → Int32} (hC : CR σ τ) (x1 : Int32) : cpl .int G MX4_stand MX5_stand [.int x1] σ τ := by
  obtain ⟨n, h7, hn, hu, hr, hcase⟩ := CRn hC
  rcases hcase with ⟨e0, h0, hi⟩ | ⟨hg, h0, hi⟩
  · exact ⟨_, _, _, xI (fun h hX => k_stand_st hX h0 (by omega)), yI rfl (fun h hY => y_stand_st hY hi (by omega)), clSS hC⟩
  · by_cases hb : Wi x1 0 4
    · obtain ⟨k, rfl, ka, kb⟩ := Wi_ex hb (by omega)
      have hk : k = 0 ∨ k = 1 ∨ k = 2 ∨ k = 3 ∨ k = 4 := by omega
      rcases hk with rfl | rfl | rfl | rfl | rfl
      · exact ⟨_, _, _, xI (fun h hX => k_stand0 hX hn h7 h0 (by omega)), yI (staF_c hr h7) (fun h hY => y_stand0 hY hu h7 hi (by omega)), clSS hC⟩
      · exact ⟨_, _, _, xI (fun h hX => k_stand1 hX hn h7 h0 (by omega)), yI (staF_c hr h7) (fun h hY => y_stand1 hY hu h7 hi (by omega)), clSS hC⟩
      · exact ⟨_, _, _, xI (fun h hX => k_stand2 hX hn h7 h0 (by omega)), yI (staF_c hr h7) (fun h hY => y_stand2 hY hu h7 hi (by omega)), clSS hC⟩
      · exact ⟨_, _, _, xI (fun h hX => k_stand3 hX hn h7 h0 (by omega)), yI (staF_c hr h7) (fun h hY => y_stand3 hY hu h7 hi (by omega)), clSS hC⟩
      · exact ⟨_, _, _, xI (fun h hX => k_stand4 hX hn h7 h0 (by omega)), yI (staF_c hr h7) (fun h hY => y_stand4 hY hu h7 hi (by omega)), clSS hC⟩
    · exact ⟨_, _, _, xI (fun h hX => k_stand_bad hX h0 hb (by omega)), yI rfl (fun h hY => y_stand_bad hY hi hb (by omega)), clSS hC⟩
theorem rth_c {l s f g it : Nat → Int32} {A : Nat → Nat → Int32} (h : cRo l s A f g it) : ∀ m, m ≤ 8 → rth l m = ctF g m
  | 0, _ => rfl
  | m + 1, hm => by
    unfold rth ctF
    rw [rth_c h m (by omega)]
    rcases h m (by omega) with ⟨q1, q2⟩ | ⟨q1, q2, -⟩
    · rw [if_pos q1, if_pos q2]
    · rw [if_neg q1, if_neg q2]
theorem cnt_c {σ τ : Nat → Nat → Int32} {n w : Nat} (hC : CR σ τ) (h7 : n ≤ 7) (hr : RS n (σ 0) (τ 0)) : cntF n σ w = cnY n τ w := by
  obtain ⟨-, ⟨a, k, -, -, h3, -, h5, -⟩, -, c4, ⟨l, y1, y2, -⟩, -⟩ := hC
  match w with
  | 0 => exact rth_c c4 8 (by omega)
  | 1 => exact (RSs (k := 2) hr (by omega) : σ 0 2 = τ 0 2)
  | 2 => exact (RSs (k := 3) hr (by omega) : σ 0 3 = τ 0 3)
  | 3 => exact (RSs (k := 5) hr (by omega) : σ 0 5 = τ 0 5)
  | 4 => exact sum41_c hr h7
  | 5 => exact (RSs (k := 4) hr (by omega) : σ 0 4 = τ 0 4)
  | 6 => exact h3.trans h5.symm
  | w + 7 => exact y1.trans y2.symm
set_option maxRecDepth 100000 in
theorem cp_count {G : mj_G} {σ τ : Nat → Nat → Int32} (hC : CR σ τ) (x1 : Int32) : cpl .int G MX4_count MX5_count [.int x1] σ τ := by
  obtain ⟨n, h7, hn, hu, hr, hcase⟩ := CRn hC
  by_cases hb : Wi x1 0 7
  · obtain ⟨k, rfl, ka, kb⟩ := Wi_ex hb (by omega)
    have hk : k = 0 ∨ k = 1 ∨ k = 2 ∨ k = 3 ∨ k = 4 ∨ k = 5 ∨ k = 6 ∨ k = 7 := by omega
    rcases hk with rfl | rfl | rfl | rfl | rfl | rfl | rfl | rfl
    · exact ⟨_, _, _, xI (fun h hX => k_count0 hX hn h7 (by omega)), yI (cnt_c hC h7 hr) (fun h hY => y_count0 hY hu h7 (by omega)), clSS hC⟩
    · exact ⟨_, _, _, xI (fun h hX => k_count1 hX hn h7 (by omega)), yI (cnt_c hC h7 hr) (fun h hY => y_count1 hY hu h7 (by omega)), clSS hC⟩
    · exact ⟨_, _, _, xI (fun h hX => k_count2 hX hn h7 (by omega)), yI (cnt_c hC h7 hr) (fun h hY => y_count2 hY hu h7 (by omega)), clSS hC⟩
    · exact ⟨_, _, _, xI (fun h hX => k_count3 hX hn h7 (by omega)), yI (cnt_c hC h7 hr) (fun h hY => y_count3 hY hu h7 (by omega)), clSS hC⟩
    · exact ⟨_, _, _, xI (fun h hX => k_count4 hX hn h7 (by omega)), yI (cnt_c hC h7 hr) (fun h hY => y_count4 hY hu h7 (by omega)), clSS hC⟩
    · exact ⟨_, _, _, xI (fun h hX => k_count5 hX hn h7 (by omega)), yI (cnt_c hC h7 hr) (fun h hY => y_count5 hY hu h7 (by omega)), clSS hC⟩
    · exact ⟨_, _, _, xI (fun h hX => k_count6 hX hn h7 (by omega)), yI (cnt_c hC h7 hr) (fun h hY => y_count6 hY hu h7 (by omega)), clSS hC⟩
    · exact ⟨_, _, _, xI (fun h hX => k_count7 hX hn h7 (by omega)), yI (cnt_c hC h7 hr) (fun h hY => y_count7 hY hu h7 (by omega)), clSS hC⟩
  · exact ⟨_, _, _, xI (fun h hX => k_count_bad hX hb (by omega)), yI rfl (fun h hY => y_count_bad hY hb (by omega)), clSS hC⟩
set_option maxRecDepth 100000 in
theorem cp_trace {G : mj_G} {σ τ : Nat → Nat → Int32} (hC : CR σ τ) (x1 : Int32) : cpl .int G MX4_trace MX5_trace [.int x1] σ τ := by
  obtain ⟨n, h7, hn, hu, hr, hcase⟩ := CRn hC
  obtain ⟨-, -, -, -, -, ⟨t, t1, t2, t3, t4⟩, -⟩ := id hC
  by_cases hb : Hs t x1
  · obtain ⟨j, hj, rfl⟩ := Hs_ex hb
    exact ⟨_, _, _, xI (fun h hX => k_trace hX t2 t1 hj (by omega)), yI (congrFun t4 j) (fun h hY => y_trace hY t3 t1 hj (by omega)), clSS hC⟩
  · exact ⟨_, _, _, xI (fun h hX => k_trace_bad hX t2 t1 hb (by omega)), yI rfl (fun h hY => y_trace_bad hY t3 t1 hb (by omega)), clSS hC⟩
set_option maxRecDepth 100000 in
theorem cp_talk {G : mj_G} {σ τ : Nat → Nat → Int32} (hC : CR σ τ) (x1 x2 : Int32) : cpl .int G MX4_talk MX5_talk [.int x1, .int x2] σ τ := by
  obtain ⟨n, h7, hn, hu, hr, hcase⟩ := CRn hC
  by_cases hb : Hs n x1 ∧ Wi x2 0 20
  · obtain ⟨j, hj, rfl⟩ := Hs_ex hb.1
    obtain ⟨hg, h0, hi⟩ := CRg hcase hj
    obtain ⟨a, k, ha0, ha, hk0, hk, hk1⟩ := CRa hC
    exact ⟨_, _, _, xS (fun h hX => k_talk hX hn h7 ha0 ha hk0 hk hj hb.2 (by omega)), yS (RS13 hr h7 hj) (fun h hY => y_talk hY hu h7 hk1 hk hj hb.2 (by omega)), clSS (CR_act hC ha0 ha hk1 hk hg hi (gd_talk hg hj hb.2))⟩
  · exact ⟨_, _, _, xI (fun h hX => k_talk_bad hX hn h7 hb (by omega)), yI rfl (fun h hY => y_talk_bad hY hu h7 hb (by omega)), clSS hC⟩
set_option maxRecDepth 100000 in
theorem cp_bars {G : mj_G} {σ τ : Nat → Nat → Int32} (hC : CR σ τ) (x1 x2 : Int32) : cpl .int G MX4_bars MX5_bars [.int x1, .int x2] σ τ := by
  obtain ⟨n, h7, hn, hu, hr, hcase⟩ := CRn hC
  by_cases hb : Hs n x1 ∧ Wi x2 0 9
  · obtain ⟨j, hj, rfl⟩ := Hs_ex hb.1
    obtain ⟨hg, h0, hi⟩ := CRg hcase hj
    obtain ⟨a, k, ha0, ha, hk0, hk, hk1⟩ := CRa hC
    exact ⟨_, _, _, xS (fun h hX => k_bars hX hn h7 ha0 ha hk0 hk hj hb.2 (by omega)), yS (RS41 hr h7 hj) (fun h hY => y_bars hY hu h7 hk1 hk hj hb.2 (by omega)), clSS (CR_act hC ha0 ha hk1 hk hg hi (gd_bars hg hj hb.2))⟩
  · exact ⟨_, _, _, xI (fun h hX => k_bars_bad hX hn h7 hb (by omega)), yI rfl (fun h hY => y_bars_bad hY hu h7 hb (by omega)), clSS hC⟩
set_option maxRecDepth 100000 in
theorem cp_hush {G : mj_G} {σ τ : Nat → Nat → Int32} (hC : CR σ τ) (x1 x2 : Int32) : cpl .int G MX4_hush MX5_hush [.int x1, .int x2] σ τ := by
  obtain ⟨n, h7, hn, hu, hr, hcase⟩ := CRn hC
  by_cases hb : Hs n x1 ∧ Wi x2 0 1
  · obtain ⟨j, hj, rfl⟩ := Hs_ex hb.1
    obtain ⟨hg, h0, hi⟩ := CRg hcase hj
    obtain ⟨a, k, ha0, ha, hk0, hk, hk1⟩ := CRa hC
    have eq : ((if hs (σ 0) (nI j) then (1 : Int32) else 0) = if x2 = 1 then 1 else 0) ↔ ((if hs (τ 0) (nI j) then (1 : Int32) else 0) = if x2 = 1 then 1 else 0) := by
      unfold hs
      rw [RSs (k := 4) hr (by omega)]
    by_cases hq : ((if hs (σ 0) (nI j) then (1 : Int32) else 0) = if x2 = 1 then 1 else 0)
    · exact ⟨_, _, _, xI (fun h hX => k_hush_st hX hn h7 hj hb.2 hq (by omega)), yI rfl (fun h hY => y_hush_st hY hu h7 hj hb.2 (eq.mp hq) (by omega)), clSS hC⟩
    · have e : σ 0 4 ^^^ (1 <<< (nI j &&& 31)) = τ 0 4 ^^^ (1 <<< (nI j &&& 31)) := by
        rw [RSs (k := 4) hr (by omega)]
      exact ⟨_, _, _, xS (fun h hX => k_hush hX hn h7 ha0 ha hk0 hk hj hb.2 hq (by omega)), yS e (fun h hY => y_hush hY hu h7 hk1 hk hj hb.2 (fun z => hq (eq.mpr z)) (by omega)), clSS (CR_act hC ha0 ha hk1 hk hg hi (gd_hush hg hj))⟩
  · exact ⟨_, _, _, xI (fun h hX => k_hush_bad hX hn h7 hb (by omega)), yI rfl (fun h hY => y_hush_bad hY hu h7 hb (by omega)), clSS hC⟩
set_option maxRecDepth 100000 in
theorem cp_letDown {G : mj_G} {σ τ : Nat → Nat → Int32} (hC : CR σ τ) (x1 : Int32) : cpl .int G MX4_letDown MX5_letDown [.int x1] σ τ := by
  obtain ⟨n, h7, hn, hu, hr, hcase⟩ := CRn hC
  rcases hcase with ⟨e0, h0, hi⟩ | ⟨hg, h0, hi⟩
  · exact ⟨_, _, _, xI (fun h hX => k_letDown_st hX h0 (by omega)), yI rfl (fun h hY => y_letDown_st hY hi (by omega)), clSS hC⟩
  · by_cases hb : Wi x1 1 99
    · obtain ⟨a, k, ha0, ha, hk0, hk, hk1⟩ := CRa hC
      exact ⟨_, _, _, xS (fun h hX => k_letDown hX ha0 ha hk0 hk h0 hb (by omega)), yS (RSs (low_c hr) (by omega)) (fun h hY => y_letDown hY hk1 hk hi hb hg.2.2.2.1.2.2.2 (by omega)), clSS (CR_act hC ha0 ha hk1 hk hg hi (gd_low hg ⟨by have := hb.1; omega, by have := hb.2; omega⟩))⟩
    · exact ⟨_, _, _, xI (fun h hX => k_letDown_bad hX h0 hb (by omega)), yI rfl (fun h hY => y_letDown_bad hY hi hb (by omega)), clSS hC⟩
set_option maxRecDepth 100000 in
theorem cp_minutes {G : mj_G} {σ τ : Nat → Nat → Int32} (hC : CR σ τ) (x1 : Int32) : cpl .int G MX4_minutes MX5_minutes [.int x1] σ τ := by
  obtain ⟨n, h7, hn, hu, hr, hcase⟩ := CRn hC
  rcases hcase with ⟨e0, h0, hi⟩ | ⟨hg, h0, hi⟩
  · exact ⟨_, _, _, xI (fun h hX => k_minutes_st hX h0 (by omega)), yI rfl (fun h hY => y_minutes_st hY hi (by omega)), clSS hC⟩
  · by_cases hb : Wi x1 1 24
    · obtain ⟨a, k, ha0, ha, hk0, hk, hk1⟩ := CRa hC
      have e3 : σ 0 3 = τ 0 3 := RSs hr (by omega)
      by_cases hf : σ 0 3 + x1 ≤ 999
      · obtain ⟨m, rfl, ma, mb⟩ := Wi_ex hb (by omega)
        obtain ⟨q1, q2⟩ := CR_min m σ τ a k hC ha0 ha hk1 hk hg hi
        exact ⟨_, _, _, xS (fun h hX => k_minutes hX hn h7 (gdK hg) ha0 ha hk0 hk (by omega) (by omega) h0 hf (by omega)), yS (RSs q2.2.2.1 (by omega)) (fun h hY => y_minutes hY hg.2.2.2.1 hk1 hk (by omega) (by omega) hi (by rw [← e3]; exact hf) (by omega)), clSS q1⟩
      · exact ⟨_, _, _, xI (fun h hX => k_minutes_full hX h0 hb hf (by omega)), yI rfl (fun h hY => y_minutes_full hY hi hb (by rw [← e3]; exact hf) (by omega)), clSS hC⟩
    · exact ⟨_, _, _, xI (fun h hX => k_minutes_bad hX h0 hb (by omega)), yI rfl (fun h hY => y_minutes_bad hY hi hb (by omega)), clSS hC⟩
set_option maxRecDepth 100000 in
theorem cp_undo {G : mj_G} {σ τ : Nat → Nat → Int32} (hC : CR σ τ) : cpl .int G MX4_undo MX5_undo [] σ τ := by
  obtain ⟨n, h7, hn, hu, hr, hcase⟩ := CRn hC
  obtain ⟨a, k, ha0, ha, hk0, hk, hk1⟩ := CRa hC
  rcases Nat.eq_zero_or_pos k with e | e
  · subst e
    exact ⟨_, _, _, xI (fun h hX => k_undo_st hX hk0 (by omega)), yI rfl (fun h hY => y_undo_st hY hk1), clSS hC⟩
  · obtain ⟨m, rfl⟩ : ∃ m, k = m + 1 := ⟨k - 1, by omega⟩
    exact ⟨_, _, _, xS (fun h hX => k_undo hX ha0 ha hk0 (by omega) (by omega)), yS rfl (fun h hY => y_undo hY hk1 (by omega)), clSS (CR_undo hC ha0 ha hk1 (by omega))⟩
