/-! a street of the class and one of the model that stand for the same -/
def okC (n : Nat) (U : Nat → Int32) : Prop := ∀ j, j < n → Wi (U (27 + j)) 0 9 ∧ Wi (U (41 + j)) 0 9
def gd (n : Nat) (T U : Nat → Int32) : Prop := 0 < n ∧ n ≤ 7 ∧ RS n T U ∧ okB n U ∧ okC n U ∧ ∃ h4, U 4 = nI h4 ∧ h4 < 2 ^ n
theorem z_i : (0 : Int32).toInt = 0 := by decide
theorem Wi_pos {x : Int32} {a b : Int} (h : Wi x a b) (ha : 0 < a) : 0 < x := by
  rw [i_lt, z_i]
  have := h.1
  omega
theorem okK_rs {n : Nat} {T U : Nat → Int32} (h : RS n T U) (ho : okK n U) : okK n T := by
  have h7 := ho.2.1
  refine ⟨(RSs h (by omega)).trans ho.1, h7, fun j hj => ?_⟩
  rw [RS20 h h7 hj, RS6 h h7 hj]
  exact ho.2.2 j hj
theorem gdK {n : Nat} {T U : Nat → Int32} (h : gd n T U) : okK n T := okK_rs h.2.2.1 h.2.2.2.1.1
theorem gd2 {n : Nat} {T U : Nat → Int32} (h : gd n T U) : T 2 = nI n := (gdK h).1
theorem okC_mn {n : Nat} {U : Nat → Int32} (h7 : n ≤ 7) (h : okC n U) : okC n (mn n U) := by
  intro j hj
  obtain ⟨h1, h2⟩ := h j hj
  rw [mn_same h7 (by omega) (by omega) (by omega)]
  refine ⟨h1, ?_⟩
  have e : mn n U (41 + j) = cn U j := by
    unfold mn
    rw [up_ne (by omega), up_ne (by omega)]
    unfold pm
    rw [if_neg (by omega), if_pos (by omega), show 41 + j - 41 = j by omega]
  rw [e]
  unfold cn
  split
  · exact h2
  · next q =>
    have q2 : ¬ U (27 + j) ≤ U (41 + j) := fun z => q (Or.inr z)
    rw [i_le] at q2
    have c1 : (1 : Int32).toInt = 1 := by decide
    have e2 : (U (41 + j) + 1).toInt = (U (41 + j)).toInt + 1 := by
      rw [Int32.toInt_add, c1]
      have := h1.2
      have := h2.1
      exact Int.bmod_eq_of_le (by omega) (by omega)
    unfold Wi
    rw [e2]
    have := h1.2
    have := h2.1
    omega
theorem gd_mn {n : Nat} {T U : Nat → Int32} (h : gd n T U) : gd n (mn n T) (mn n U) := by
  obtain ⟨h0, h7, hr, ho, hc, h4, e4, hh⟩ := h
  exact ⟨h0, h7, mn_c hr h7, okB_mn ho, okC_mn h7 hc, h4, (mn_same h7 (by omega) (by omega) (by omega)).trans e4, hh⟩
theorem okC_up {n k : Nat} {x : Int32} {U : Nat → Int32} (h7 : n ≤ 7) (h : okC n U) (hk : k < 27 ∨ (34 ≤ k ∧ k < 41) ∨ Wi x 0 9) : okC n (upd U k x) := by
  intro j hj
  obtain ⟨h1, h2⟩ := h j hj
  refine ⟨?_, ?_⟩
  · by_cases e : 27 + j = k
    · rw [e, up_eq]
      rcases hk with q | q | q
      · omega
      · omega
      · exact q
    · rw [up_ne e]
      exact h1
  · by_cases e : 41 + j = k
    · rw [e, up_eq]
      rcases hk with q | q | q
      · omega
      · omega
      · exact q
    · rw [up_ne e]
      exact h2
theorem gd_talk {n j : Nat} {y : Int32} {T U : Nat → Int32} (h : gd n T U) (hj : j < n) (hy : Wi y 0 20) : gd n (upd T (13 + j) y) (upd U (13 + j) y) := by
  obtain ⟨h0, h7, hr, ho, hc, h4, e4, hh⟩ := h
  exact ⟨h0, h7, RS_up hr, okB_talk ho (by omega) hy, okC_up h7 hc (by omega), h4, (up_ne (by omega)).trans e4, hh⟩
theorem gd_bars {n j : Nat} {y : Int32} {T U : Nat → Int32} (h : gd n T U) (hj : j < n) (hy : Wi y 0 9) : gd n (upd (upd T (27 + j) y) (41 + j) 0) (upd (upd U (27 + j) y) (41 + j) 0) := by
  obtain ⟨h0, h7, hr, ho, hc, h4, e4, hh⟩ := h
  exact ⟨h0, h7, RS_up (RS_up hr), okB_up (okB_up ho (by omega)) (by omega), okC_up h7 (okC_up h7 hc (Or.inr (Or.inr hy))) (Or.inr (Or.inr ⟨by decide, by decide⟩)), h4, (up_ne (by omega)).trans ((up_ne (by omega)).trans e4), hh⟩
theorem xor_all : ∀ n, n < 8 → ∀ j, j < n → ∀ h, h < 2 ^ n → nI h ^^^ (1 <<< (nI j &&& 31)) = nI (h ^^^ 2 ^ j) ∧ (h ^^^ 2 ^ j) < 2 ^ n := by decide +kernel
theorem gd_hush {n j : Nat} {T U : Nat → Int32} (h : gd n T U) (hj : j < n) : gd n (upd T 4 (T 4 ^^^ (1 <<< (nI j &&& 31)))) (upd U 4 (U 4 ^^^ (1 <<< (nI j &&& 31)))) := by
  obtain ⟨h0, h7, hr, ho, hc, h4, e4, hh⟩ := h
  rw [RSs (k := 4) hr (by omega)]
  obtain ⟨x1, x2⟩ := xor_all n (by omega) j hj h4 hh
  exact ⟨h0, h7, RS_up hr, okB_up ho (Or.inl rfl), okC_up h7 hc (by omega), h4 ^^^ 2 ^ j, by rw [up_eq, e4, x1], x2⟩
theorem gd_low {n : Nat} {x : Int32} {T U : Nat → Int32} (h : gd n T U) (hx : Wi x 0 9999) : gd n (lowP T x) (lowP U x) := by
  obtain ⟨h0, h7, hr, ho, hc, h4, e4, hh⟩ := h
  refine ⟨h0, h7, low_c hr, okB_low ho hx, ?_, h4, ?_, hh⟩
  · unfold lowP
    exact okC_up h7 hc (by omega)
  · unfold lowP
    rw [up_ne (by omega)]
    exact e4
theorem gd_48 {n : Nat} {T U U' : Nat → Int32} (h : gd n T U) (e : ∀ q, q < 48 → U' q = U q) : gd n T U' := by
  obtain ⟨h0, h7, hr, ho, hc, h4, e4, hh⟩ := h
  refine ⟨h0, h7, fun k hk => ?_, ⟨⟨?_, h7, fun j hj => ?_⟩, ?_, fun j hj => ?_, ?_⟩, fun j hj => ?_, h4, ?_, hh⟩
  · rw [e k (by unfold inS at hk; omega)]
    exact hr k hk
  · rw [e _ (by omega)]
    exact ho.1.1
  · rw [e _ (by omega), e _ (by omega)]
    exact ho.1.2.2 j hj
  · rw [e _ (by omega)]
    exact ho.2.1
  · rw [e _ (by omega), e _ (by omega), e _ (by omega)]
    exact ho.2.2.1 j hj
  · rw [e _ (by omega)]
    exact ho.2.2.2
  · rw [e _ (by omega), e _ (by omega)]
    exact hc j hj
  · rw [e _ (by omega)]
    exact e4
/-! lag: with nothing but what is at house j, it comes one house on in every minute -/
theorem fl_z {T : Nat → Int32} {h : Nat} (h0 : 0 < T 0) (e : T (34 + h) = 0) : fl T h = 0 := by
  unfold fl
  rw [e, if_pos h0]
theorem fl_p {T : Nat → Int32} {h : Nat} (h0 : 0 < T 0) (e : 0 < T (34 + h)) : 0 < fl T h := by
  unfold fl
  split
  · exact e
  · exact h0
theorem bb_0 {T : Nat → Int32} {h : Nat} : bbA T h 0 = 0 := if_pos (Or.inl rfl)
theorem sh_0 {T : Nat → Int32} {h : Nat} (e : hs T (nI h)) : shT T h = 0 := if_pos e
theorem mask_all : ∀ n, n < 8 → ∀ h, h < n → (((1 <<< (nI n &&& 31)) - 1) >>> (nI h &&& 31)) &&& 1 = 1 := by decide +kernel
/-- nothing anywhere -/
def lgZ (n : Nat) (T : Nat → Int32) : Prop := 0 < T 0 ∧ T 5 = 0 ∧ T 4 = (1 <<< (nI n &&& 31)) - 1 ∧ ∀ h, h < n → T (34 + h) = 0
theorem pond_z {n : Nat} {T : Nat → Int32} (h0 : 0 < T 0) (h5 : T 5 = 0) (hg : ∀ h, h + 1 = n → T (34 + h) = 0) : pondN T n = 0 := by
  unfold pondN
  rw [h5]
  by_cases e : n = 0
  · rw [if_pos e]
    rfl
  · rw [if_neg e, fl_z h0 (hg (n - 1) (by omega))]
    rfl
theorem in_z {n h : Nat} {T : Nat → Int32} (h0 : 0 < T 0) (hg : ∀ q, q + 1 = h → T (34 + q) = 0) : inF T h = 0 := by
  unfold inF
  by_cases e : h = 0
  · rw [if_pos e]
  · rw [if_neg e, fl_z h0 (hg (h - 1) (by omega))]
theorem gn_z {h : Nat} {T : Nat → Int32} (h0 : 0 < T 0) (e : T (34 + h) = 0) (hi : inF T h = 0) (hh : hs T (nI h)) : gn T h = 0 := by
  unfold gn
  rw [hi, bb_0, fl_z h0 e, sh_0 hh, e]
  rfl
theorem lgZ_mn {n : Nat} {T : Nat → Int32} (h7 : n ≤ 7) (h : lgZ n T) : lgZ n (mn n T) := by
  obtain ⟨h0, h5, h4, hg⟩ := h
  refine ⟨?_, ?_, ?_, fun q hq => ?_⟩
  · rw [mn_same h7 (by omega) (by omega) (by omega)]
    exact h0
  · rw [mn_5]
    exact pond_z h0 h5 (fun q hq => hg q (by omega))
  · rw [mn_same h7 (by omega) (by omega) (by omega)]
    exact h4
  · rw [mn_g hq]
    refine gn_z h0 (hg q hq) (in_z (n := n) h0 (fun p hp => hg p (by omega))) ?_
    show (T 4 >>> (nI q &&& 31)) &&& 1 = 1
    rw [h4]
    exact mask_all n (by omega) q hq
theorem lgF_z {n : Nat} (h7 : n ≤ 7) : ∀ (r i : Nat) (T : Nat → Int32), lgZ n T → lgF n r i T = -1000000
  | 0, _, _, _ => rfl
  | r + 1, i, T, h => by
    unfold lgF
    rw [if_pos h.2.1]
    exact lgF_z h7 r (i + 1) _ (lgZ_mn h7 h)
/-- m minutes on: nothing behind house p, something there -/
def lgI (n p : Nat) (T : Nat → Int32) : Prop := 0 < T 0 ∧ T 5 = 0 ∧ T 4 = (1 <<< (nI n &&& 31)) - 1 ∧ (∀ h, h < n → T (27 + h) ≤ T (41 + h)) ∧ (∀ h, h < n → p < h → T (34 + h) = 0) ∧ 0 < T (34 + p)
theorem cap9_p {x : Int32} (h : 0 < x) : 0 < cap9 x := by
  unfold cap9
  split
  · exact h
  · decide
theorem lgI_mn {n p : Nat} {T : Nat → Int32} (h7 : n ≤ 7) (hp : p + 1 < n) (h : lgI n p T) : lgI n (p + 1) (mn n T) := by
  obtain ⟨h0, h5, h4, hb, hg, hx⟩ := h
  have hh : ∀ q, q < n → hs T (nI q) := fun q hq => by
    show (T 4 >>> (nI q &&& 31)) &&& 1 = 1
    rw [h4]
    exact mask_all n (by omega) q hq
  refine ⟨?_, ?_, ?_, fun q hq => ?_, fun q hq hpq => ?_, ?_⟩
  · rw [mn_same h7 (by omega) (by omega) (by omega)]
    exact h0
  · rw [mn_5]
    exact pond_z h0 h5 (fun q hq => hg q (by omega) (by omega))
  · rw [mn_same h7 (by omega) (by omega) (by omega)]
    exact h4
  · have e : mn n T (41 + q) = cn T q := by
      unfold mn
      rw [up_ne (by omega), up_ne (by omega)]
      unfold pm
      rw [if_neg (by omega), if_pos (by omega), show 41 + q - 41 = q by omega]
    rw [mn_same h7 (by omega) (by omega) (by omega), e]
    unfold cn
    rw [if_pos (Or.inr (hb q hq))]
    exact hb q hq
  · rw [mn_g hq]
    exact gn_z h0 (hg q hq (by omega)) (in_z (n := n) h0 (fun w hw => hg w (by omega) (by omega))) (hh q hq)
  · rw [mn_g hp]
    have e1 : inF T (p + 1) = fl T p := by
      unfold inF
      rw [if_neg (by omega), Nat.add_sub_cancel]
    have e2 : bbA T (p + 1) (fl T p) = fl T p := if_pos (Or.inr (hb (p + 1) hp))
    unfold gn
    rw [e1, e2, fl_z h0 (hg (p + 1) hp (by omega)), sh_0 (hh (p + 1) hp), hg (p + 1) hp (by omega), Int32.add_zero, Int32.sub_zero, Int32.zero_add]
    exact cap9_p (fl_p h0 hx)
theorem lgF_i {n : Nat} (h7 : n ≤ 7) : ∀ (q p i r : Nat) (T : Nat → Int32), lgI n p T → p + 1 + q = n → lgF n (r + q + 2) i T = nI (i + q + 1)
  | 0, p, i, r, T, h, hq => by
    have e5 : ¬ mn n T 5 = 0 := by
      rw [mn_5]
      unfold pondN
      rw [if_neg (by omega), show n - 1 = p by omega, h.2.1, Int32.zero_add]
      have := fl_p h.1 h.2.2.2.2.2
      intro z
      unfold capP at z
      split at z
      · rw [z] at this
        exact absurd this (by decide)
      · exact absurd z (by decide)
    show (if T 5 = 0 then lgF n (r + 1) (i + 1) (mn n T) else nI i) = _
    rw [if_pos h.2.1]
    show (if mn n T 5 = 0 then lgF n r (i + 1 + 1) (mn n (mn n T)) else nI (i + 1)) = _
    rw [if_neg e5]
  | q + 1, p, i, r, T, h, hq => by
    show (if T 5 = 0 then lgF n (r + q + 2) (i + 1) (mn n T) else nI i) = _
    rw [if_pos h.2.1, lgF_i h7 q (p + 1) (i + 1) r (mn n T) (lgI_mn h7 (by omega) h) (by omega)]
    rw [show i + 1 + q + 1 = i + (q + 1) + 1 by omega]
theorem lag_eq {n j : Nat} {T U : Nat → Int32} (h : gd n T U) (hj : j < n) : lgF n 100 0 (lgS (lgT n U) j n) = if 0 < T (34 + j) then nI (n - j) else -1000000 := by
  obtain ⟨h0, h7, hr, ho, hc, -⟩ := h
  have s0 : lgS (lgT n U) j n 0 = U 0 := by
    rw [lgS_n (by omega) h7]
    unfold lgT
    rw [up_ne (by omega), up_ne (by omega)]
  have s5 : lgS (lgT n U) j n 5 = 0 := by
    rw [lgS_n (by omega) h7]
    unfold lgT
    rw [up_eq]
  have s4 : lgS (lgT n U) j n 4 = (1 <<< (nI n &&& 31)) - 1 := by
    rw [lgS_n (by omega) h7]
    unfold lgT
    rw [up_ne (by omega), up_eq]
  have sg : ∀ q, q < n → q ≠ j → lgS (lgT n U) j n (34 + q) = 0 := fun q hq hn => by
    unfold lgS
    rw [if_neg (by omega), if_pos (by omega)]
  have sj : lgS (lgT n U) j n (34 + j) = U (34 + j) := by
    unfold lgS
    rw [if_neg (by omega), if_neg (by omega)]
    unfold lgT
    rw [up_ne (by omega), up_ne (by omega)]
  have sb : ∀ q, q < n → lgS (lgT n U) j n (27 + q) ≤ lgS (lgT n U) j n (41 + q) := fun q hq => by
    have e1 : lgS (lgT n U) j n (27 + q) = 0 := by
      unfold lgS
      rw [if_pos (by omega)]
    have e2 : lgS (lgT n U) j n (41 + q) = U (41 + q) := by
      rw [lgS_n (by omega) h7]
      unfold lgT
      rw [up_ne (by omega), up_ne (by omega)]
    rw [e1, e2, i_le, z_i]
    exact (hc q hq).2.1
  have p0 : 0 < lgS (lgT n U) j n 0 := by
    rw [s0]
    exact Wi_pos ho.2.1 (by omega)
  rw [RS34 hr h7 hj]
  by_cases hg : 0 < U (34 + j)
  · rw [if_pos hg]
    have q := lgF_i h7 (n - 1 - j) j 0 (98 - (n - 1 - j)) (lgS (lgT n U) j n) ⟨p0, s5, s4, sb, fun q hq hn => sg q hq (by omega), by rw [sj]; exact hg⟩ (by omega)
    rw [show 98 - (n - 1 - j) + (n - 1 - j) + 2 = 100 by omega, show 0 + (n - 1 - j) + 1 = n - j by omega] at q
    exact q
  · rw [if_neg hg]
    have e : U (34 + j) = 0 := by
      have h1 := (ho.2.2.1 j hj).2.2.1
      rw [i_lt, z_i] at hg
      apply Int32.toInt_inj.mp
      rw [z_i]
      omega
    refine lgF_z h7 100 0 _ ⟨p0, s5, s4, fun q hq => ?_⟩
    by_cases hn : q = j
    · subst hn
      rw [sj]
      exact e
    · exact sg q hq hn
theorem ca_eq {n k : Nat} {U : Nat → Int32} (h0 : 0 < n) (ho : okB n U) : caF n k U n 0 0 99999 = caF n k U n 0 0 10000 := by
  have hw := (okB_mns (okB_up (k := 41 + 0) (x := 0) (okB_up (k := 27 + 0) (x := 9) ho (by omega)) (by omega)) k).2.2.2
  have key : ∀ r, caF n k U (r + 1) 0 0 99999 = caF n k U (r + 1) 0 0 10000 := by
    intro r
    unfold caF
    rw [if_pos, if_pos]
    · rw [i_lt]
      have := hw.2
      have c : (10000 : Int32).toInt = 10000 := by decide
      omega
    · rw [i_lt]
      have := hw.2
      have c : (99999 : Int32).toInt = 99999 := by decide
      omega
  have e := key (n - 1)
  rw [show n - 1 + 1 = n by omega] at e
  exact e
