/-! what both read of a text -/
def qr (n : Nat) (T W : Nat → Int32) : Prop := n ≤ 7 ∧ RS n T W ∧ W 2 = nI n ∧ Wi (W 0) 1 9 ∧ W 4 = 0 ∧ W 5 = 0 ∧ (∀ j, j < 7 → W (34 + j) = 0 ∧ W (41 + j) = 0) ∧ ∀ j, j < n → (W (6 + j) = 1 ∨ W (6 + j) = 2 ∨ W (6 + j) = 3 ∨ W (6 + j) = 4 ∨ W (6 + j) = 5) ∧ Wi (W (13 + j)) 0 20 ∧ Wi (W (20 + j)) 1 9 ∧ Wi (W (27 + j)) 0 9
theorem nb_w {f : Nat → Int32} {l i : Nat} {a b : Int} {c : Int32} (h : (nb f l a b c i).1 = 0) : Wi (tkV f l i) a b := by
  by_cases h1 : numP f l i a b
  · exact h1.2
  · have e : nb f l a b c i = (if tok f l i = 256 then 2 else 1, i) := pN_n h1
    rw [e] at h
    have q : ¬ (if tok f l i = 256 then (2 : Int32) else 1) = 0 := by
      split <;> decide
    exact absurd h q
theorem hs_w {f : Nat → Int32} {l i n : Nat} (h : (hsP f l i n).1 = 0) : n < 7 ∧ ¬ kdF (tok f l i) = -1 ∧ Wi (tkV f l (tkN f l 1 i)) 0 20 ∧ Wi (tkV f l (tkN f l 3 i)) 1 9 ∧ Wi (tkV f l (tkN f l 5 i)) 0 9 := by
  by_cases k0 : kdF (tok f l i) = -1
  · rw [hsP_1 k0] at h
    exact absurd h one_ne
  · by_cases n7 : n < 7
    · rw [hsP_h k0 n7, houP_nb] at h
      obtain ⟨h1, h2⟩ := sq_inv h
      obtain ⟨h3, h4⟩ := sq_inv h2
      have w1 := nb_w h1
      have w2 := nb_w h3
      have w3 := nb_w h4
      rw [nb_2 h3, nb_2 h1] at w3
      rw [nb_2 h1] at w2
      exact ⟨n7, k0, w1, w2, w3⟩
    · rw [hsP_3 k0 n7] at h
      exact absurd h three_ne
theorem kd_r {c : Int32} (h : ¬ kdF c = -1) : kdF c = 1 ∨ kdF c = 2 ∨ kdF c = 3 ∨ kdF c = 4 ∨ kdF c = 5 := by
  unfold kdF at *
  repeat' split at h
  all_goals simp_all
theorem bldP_o {f : Nat → Int32} {l i n q : Nat} {T : Nat → Int32} (h : ¬ (q = 2 ∨ q = 6 + n ∨ q = 13 + n ∨ q = 20 + n ∨ q = 27 + n ∨ q = 34 + n ∨ q = 41 + n)) : bldP f l i n T q = T q := by
  unfold bldP bld
  rw [up_ne (by omega), up_ne (by omega), up_ne (by omega), up_ne (by omega), up_ne (by omega), up_ne (by omega), up_ne (by omega)]
theorem bldQ_o {f : Nat → Int32} {l i n q : Nat} {T : Nat → Int32} (h : ¬ (q = 2 ∨ q = 6 + n ∨ q = 13 + n ∨ q = 20 + n ∨ q = 27 + n)) : bldQ f l i n T q = T q := by
  unfold bldQ bldY
  rw [up_ne (by omega), up_ne (by omega), up_ne (by omega), up_ne (by omega), up_ne (by omega)]
section BQ
variable {f : Nat → Int32} {l i n : Nat} {T W : Nat → Int32}
theorem bq6 (h7 : n < 7) : bldQ f l i n W (6 + n) = kdF (tok f l i) := by
  unfold bldQ bldY
  rw [up_ne (by omega), up_ne (by omega), up_ne (by omega), up_ne (by omega), up_eq]
theorem bq13 (h7 : n < 7) : bldQ f l i n W (13 + n) = tkV f l (tkN f l 1 i) := by
  unfold bldQ bldY
  rw [up_ne (by omega), up_ne (by omega), up_eq]
theorem bq20 (h7 : n < 7) : bldQ f l i n W (20 + n) = tkV f l (tkN f l 3 i) := by
  unfold bldQ bldY
  rw [up_ne (by omega), up_eq]
theorem bq27 (h7 : n < 7) : bldQ f l i n W (27 + n) = tkV f l (tkN f l 5 i) := by
  unfold bldQ bldY
  rw [up_eq]
theorem bp6 (h7 : n < 7) : bldP f l i n T (6 + n) = kdF (tok f l i) := by
  unfold bldP bld
  rw [up_ne (by omega), up_ne (by omega), up_ne (by omega), up_ne (by omega), up_ne (by omega), up_ne (by omega), up_eq]
theorem bp13 (h7 : n < 7) : bldP f l i n T (13 + n) = tkV f l (tkN f l 1 i) := by
  unfold bldP bld
  rw [up_ne (by omega), up_ne (by omega), up_ne (by omega), up_ne (by omega), up_ne (by omega), up_eq]
theorem bp20 (h7 : n < 7) : bldP f l i n T (20 + n) = tkV f l (tkN f l 3 i) := by
  unfold bldP bld
  rw [up_ne (by omega), up_ne (by omega), up_ne (by omega), up_ne (by omega), up_eq]
theorem bp27 (h7 : n < 7) : bldP f l i n T (27 + n) = tkV f l (tkN f l 5 i) := by
  unfold bldP bld
  rw [up_ne (by omega), up_ne (by omega), up_eq]
theorem bp34 (h7 : n < 7) : bldP f l i n T (34 + n) = 0 := by
  unfold bldP bld
  rw [up_ne (by omega), up_ne (by omega), up_ne (by omega), up_eq]
theorem bp41 (h7 : n < 7) : bldP f l i n T (41 + n) = 0 := by
  unfold bldP bld
  rw [up_ne (by omega), up_eq]
theorem qr_s (hq : qr n T W) (hs : (hsP f l i n).1 = 0) : qr (n + 1) (bldP f l i n T) (bldQ f l i n W) := by
  obtain ⟨-, hr, h2, h0, h4, h5, hz, hw⟩ := hq
  obtain ⟨n7, k0, w1, w2, w3⟩ := hs_w hs
  refine ⟨by omega, fun q hk => ?_, bldQ_2, ?_, ?_, ?_, fun j hj => ⟨?_, ?_⟩, fun j hj => ?_⟩
  · by_cases c : q = 2 ∨ q = 6 + n ∨ q = 13 + n ∨ q = 20 + n ∨ q = 27 + n ∨ q = 34 + n ∨ q = 41 + n
    · rcases c with c | c | c | c | c | c | c
      · rw [c, bldP_2, bldQ_2]
      · rw [c, bp6 n7, bq6 n7]
      · rw [c, bp13 n7, bq13 n7]
      · rw [c, bp20 n7, bq20 n7]
      · rw [c, bp27 n7, bq27 n7]
      · rw [c, bp34 n7, bldQ_o (by omega)]
        exact (hz n n7).1.symm
      · rw [c, bp41 n7, bldQ_o (by omega)]
        exact (hz n n7).2.symm
    · rw [bldP_o c, bldQ_o (by omega)]
      refine hr q ?_
      unfold inS at *
      omega
  · rw [bldQ_o (by omega)]
    exact h0
  · rw [bldQ_o (by omega)]
    exact h4
  · rw [bldQ_o (by omega)]
    exact h5
  · rw [bldQ_o (by omega)]
    exact (hz j hj).1
  · rw [bldQ_o (by omega)]
    exact (hz j hj).2
  · by_cases e : j = n
    · subst e
      rw [bq6 n7, bq13 n7, bq20 n7, bq27 n7]
      exact ⟨kd_r k0, w1, w2, w3⟩
    · rw [bldQ_o (by omega), bldQ_o (by omega), bldQ_o (by omega), bldQ_o (by omega)]
      exact hw j (by omega)
end BQ
theorem prs_c {f : Nat → Int32} {l : Nat} : ∀ (r i n : Nat) (T W : Nat → Int32), qr n T W → (prs f l r i n T).1 = (prsY f l r i n W).1 ∧ ((prs f l r i n T).1.1 = 0 → ∃ n', 0 < n' ∧ qr n' (prs f l r i n T).2.1 (prsY f l r i n W).2.1)
  | 0, i, n, T, W, _ => ⟨rfl, fun z => absurd z three_ne⟩
  | r + 1, i, n, T, W, hq => by
    unfold prs prsY
    by_cases h : (hsP f l i n).1 = 0
    · rw [if_pos h, if_pos h]
      have q := qr_s hq h
      by_cases e : tok f l (hsP f l i n).2 = 258
      · rw [if_pos e, if_pos e]
        exact ⟨rfl, fun _ => ⟨n + 1, by omega, q⟩⟩
      · rw [if_neg e, if_neg e]
        exact prs_c r (hsP f l i n).2 (n + 1) _ _ q
    · rw [if_neg h, if_neg h]
      exact ⟨rfl, fun z => absurd z h⟩
theorem qr_gd {n : Nat} {T W : Nat → Int32} (h0 : 0 < n) (h : qr n T W) : gd n T W := by
  obtain ⟨h7, hr, h2, hw0, h4, h5, hz, hw⟩ := h
  refine ⟨h0, h7, hr, ⟨⟨h2, h7, fun j hj => ⟨Wi_pos (hw j hj).2.2.1 (by omega), (hw j hj).1⟩⟩, hw0, fun j hj => ⟨(hw j hj).2.1, (hw j hj).2.2.1, ?_⟩, ?_⟩, fun j hj => ⟨(hw j hj).2.2.2, ?_⟩, 0, h4, Nat.pow_pos (by omega)⟩
  · rw [(hz j (by omega)).1]
    exact ⟨by decide, by decide⟩
  · rw [h5]
    exact ⟨by decide, by decide⟩
  · rw [(hz j (by omega)).2]
    exact ⟨by decide, by decide⟩
theorem law_w {f : Nat → Int32} {l : Nat} (h : (lawP f l 0).1 = 0) : Wi (tkV f l (tkN f l 1 0)) 1 9 := by
  rw [lawP_nb] at h
  obtain ⟨h1, h2⟩ := sq_inv h
  obtain ⟨h3, h4⟩ := sq_inv h2
  have w := nb_w h3
  rw [pB_2 h1] at w
  exact w
theorem fz {W : Nat → Int32} {q : Nat} (h : q < 48) : fillF W 48 0 q = 0 := if_pos h
theorem lawW_o {f W : Nat → Int32} {l q : Nat} (h : 2 ≤ q) (h2 : q < 48) : lawW f l W q = 0 := by
  unfold lawW
  rw [up_ne (by omega), up_ne (by omega), fz h2]
theorem qr_0 {f T W : Nat → Int32} {l : Nat} (h : (lawP f l 0).1 = 0) : qr 0 (beg T (tkV f l (tkN f l 1 0)) (tkV f l (tkN f l 3 0))) (lawW f l W) := by
  refine ⟨by omega, fun q hq => ?_, lawW_o (by omega) (by omega), ?_, lawW_o (by omega) (by omega), lawW_o (by omega) (by omega), fun j hj => ⟨lawW_o (by omega) (by omega), lawW_o (by omega) (by omega)⟩, fun j hj => absurd hj (by omega)⟩
  · have hq6 : q < 6 := by
      unfold inS at hq
      omega
    by_cases c : q < 2
    · by_cases c0 : q = 0
      · subst c0
        unfold beg lawW
        rw [up_ne (by omega), up_ne (by omega), up_ne (by omega), up_ne (by omega), up_ne (by omega), up_eq, up_ne (by omega), up_eq]
      · have c1 : q = 1 := by omega
        subst c1
        unfold beg lawW
        rw [up_ne (by omega), up_ne (by omega), up_ne (by omega), up_ne (by omega), up_eq, up_eq]
    · rw [lawW_o (by omega) (by omega)]
      unfold beg
      by_cases c4 : q = 4
      · rw [c4, up_eq]
      · rw [up_ne c4]
        by_cases c5 : q = 5
        · rw [c5, up_eq]
        · rw [up_ne c5]
          by_cases c3 : q = 3
          · rw [c3, up_eq]
          · rw [up_ne c3, show q = 2 by omega, up_eq]
  · unfold lawW
    rw [up_ne (by omega), up_eq]
    exact law_w h
theorem str_c {f T W V : Nat → Int32} {l : Nat} : (strP f l T).1 = (strY f l W).1 ∧ ((strP f l T).1.1 = 0 → ∃ n, gd n (strP f l T).2.1 (cpB V (strY f l W).2.1 48) ∧ (strY f l W).2.1 2 = nI n) := by
  unfold strP strY
  by_cases h : (lawP f l 0).1 = 0
  · rw [if_pos h, if_pos h]
    obtain ⟨q1, q2⟩ := prs_c (f := f) (l := l) 8 (lawP f l 0).2 0 _ _ (qr_0 (T := T) (W := W) h)
    refine ⟨q1, fun z => ?_⟩
    obtain ⟨n, hn, hq⟩ := q2 z
    refine ⟨n, gd_48 (qr_gd hn hq) (fun q hq => ?_), hq.2.2.1⟩
    unfold cpB
    rw [if_pos hq]
  · rw [if_neg h, if_neg h]
    exact ⟨rfl, fun z => absurd z h⟩
