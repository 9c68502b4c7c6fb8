theorem iad {a b : Int32} (h1 : -2147483648 ≤ a.toInt + b.toInt) (h2 : a.toInt + b.toInt < 2147483648) : (a + b).toInt = a.toInt + b.toInt := by
  rw [Int32.toInt_add]
  apply Int.bmod_eq_of_le <;> omega
theorem isb {a b : Int32} (h1 : -2147483648 ≤ a.toInt - b.toInt) (h2 : a.toInt - b.toInt < 2147483648) : (a - b).toInt = a.toInt - b.toInt := by
  rw [Int32.toInt_sub]
  apply Int.bmod_eq_of_le <;> omega
theorem i0 : (0 : Int32).toInt = 0 := by decide
theorem i1 : (1 : Int32).toInt = 1 := by decide
theorem w0 {x : Int32} {a b : Int} (h : Wi x a b) (ha : 0 ≤ a) : 0 ≤ x := by
  rw [i_le, i0]
  have := h.1
  omega
/-- what the street keeps to, always -/
def okB (n : Nat) (T : Nat → Int32) : Prop := okK n T ∧ Wi (T 0) 1 9 ∧ (∀ j, j < n → Wi (T (13 + j)) 0 20 ∧ Wi (T (20 + j)) 1 9 ∧ Wi (T (34 + j)) 0 999) ∧ Wi (T 5) 0 9999
theorem okB_M {n : Nat} {T : Nat → Int32} (h : okB n T) : okM n T := ⟨h.1, w0 h.2.1 (by omega), fun j hj => ⟨w0 (h.2.2.1 j hj).1 (by omega), w0 (h.2.2.1 j hj).2.2 (by omega)⟩⟩
theorem div_all : ∀ t, t < 21 → ∀ e, e < 10 → 0 < e → 0 ≤ (nI t / nI e).toInt ∧ (nI t / nI e).toInt ≤ 20 := by decide +kernel
theorem div_b {t e : Int32} (ht : Wi t 0 20) (he : Wi e 1 9) : 0 ≤ (t / e).toInt ∧ (t / e).toInt ≤ 20 := by
  obtain ⟨a, h1, rfl⟩ := Wi_get (b := 20) ht
  obtain ⟨b, h2, h3, rfl⟩ := Wi_get1 (b := 9) he
  exact div_all a (by omega) b (by omega) h2
theorem shed_b {k t e m : Int32} (ht : Wi t 0 20) (he : Wi e 1 9) : Wi (shed k t e m) 0 40 := by
  have q := div_b ht he
  have h1 := he.1
  have h2 := he.2
  unfold shed Wi
  have m2 : (2 * (t / e)).toInt = 2 * (t / e).toInt := by
    rw [Int32.toInt_mul, show (2 : Int32).toInt = 2 from by decide]
    apply Int.bmod_eq_of_le <;> omega
  have p1 : (t / e + 1).toInt = (t / e).toInt + 1 := by
    rw [iad (by rw [i1]; omega) (by rw [i1]; omega), i1]
  split
  · rw [m2]; omega
  · split
    · split
      · rw [add00]; omega
      · rw [p1]; omega
    · split
      · omega
      · split
        · split
          · omega
          · rw [i0]; omega
        · omega
theorem sh_b {n j : Nat} {T : Nat → Int32} (h : okB n T) (hj : j < n) : Wi (shT T j) 0 40 := by
  unfold shT
  split
  · exact ⟨by decide, by decide⟩
  · exact shed_b (h.2.2.1 j hj).1 (h.2.2.1 j hj).2.1
theorem fl_b {n j : Nat} {T : Nat → Int32} (h : okB n T) (hj : j < n) : Wi (fl T j) 0 9 ∧ (fl T j).toInt ≤ (T (34 + j)).toInt := by
  have a := h.2.1
  have b := (h.2.2.1 j hj).2.2
  have a1 := a.1
  have a2 := a.2
  have b1 := b.1
  have b2 := b.2
  unfold fl
  split
  · rename_i q
    rw [i_lt] at q
    exact ⟨⟨by omega, by omega⟩, by omega⟩
  · rename_i q
    rw [i_lt] at q
    exact ⟨⟨by omega, by omega⟩, by omega⟩
theorem in_b {n j : Nat} {T : Nat → Int32} (h : okB n T) (hj : j ≤ n) : Wi (inF T j) 0 9 := by
  unfold inF
  split
  · exact ⟨by decide, by decide⟩
  · exact (fl_b h (by omega)).1
theorem bb_b {j : Nat} {T : Nat → Int32} {f : Int32} (h : Wi f 0 9) : Wi (bbA T j f) 0 9 := by
  have a1 := h.1
  have a2 := h.2
  unfold bbA
  split
  · exact h
  · rename_i q
    have q1 : ¬ f = 0 := fun z => q (Or.inl z)
    have q2 : f.toInt ≠ 0 := fun z => q1 (Int32.toInt_inj.mp (by rw [z]; rfl))
    unfold Wi
    rw [isb (by rw [i1]; omega) (by rw [i1]; omega), i1]
    omega
theorem gn_b {n j : Nat} {T : Nat → Int32} (h : okB n T) (hj : j < n) : Wi (gn T j) 0 999 := by
  obtain ⟨f1, f2⟩ := fl_b h hj
  have s := sh_b h hj
  have b := bb_b (j := j) (T := T) (in_b h (by omega : j ≤ n))
  have g := (h.2.2.1 j hj).2.2
  have f3 := f1.1
  have f4 := f1.2
  have s1 := s.1
  have s2 := s.2
  have b1 := b.1
  have b2 := b.2
  have g1 := g.1
  have g2 := g.2
  have e1 : (T (34 + j) - fl T j).toInt = (T (34 + j)).toInt - (fl T j).toInt := isb (by omega) (by omega)
  have e2 : (T (34 + j) - fl T j + bbA T j (inF T j)).toInt = (T (34 + j)).toInt - (fl T j).toInt + (bbA T j (inF T j)).toInt := by
    rw [iad (by rw [e1]; omega) (by rw [e1]; omega), e1]
  have e3 : (T (34 + j) - fl T j + bbA T j (inF T j) + shT T j).toInt = (T (34 + j)).toInt - (fl T j).toInt + (bbA T j (inF T j)).toInt + (shT T j).toInt := by
    rw [iad (by rw [e2]; omega) (by rw [e2]; omega), e2]
  unfold gn cap9 Wi
  have c : (999 : Int32).toInt = 999 := by decide
  split
  · rename_i q
    rw [i_lt, c] at q
    rw [e3] at q ⊢
    omega
  · rw [c]
    omega
theorem pond_b {n : Nat} {T : Nat → Int32} (h : okB n T) : Wi (pondN T n) 0 9999 := by
  have i := in_b h (Nat.le_refl n)
  have i2 := i.1
  have i3 := i.2
  have p1 := h.2.2.2.1
  have p2 := h.2.2.2.2
  have e : (T 5 + inF T n).toInt = (T 5).toInt + (inF T n).toInt := iad (by omega) (by omega)
  show Wi (capP (T 5 + inF T n)) 0 9999
  unfold capP Wi
  have c : (9999 : Int32).toInt = 9999 := by decide
  split
  · rename_i q
    rw [i_lt, c] at q
    rw [e] at q ⊢
    omega
  · rw [c]
    omega
theorem mn_g {n j : Nat} {T : Nat → Int32} (hj : j < n) : mn n T (34 + j) = gn T j := by
  unfold mn
  rw [up_ne (by omega), up_ne (by omega), pm_g (by omega) hj]
theorem mn_5 {n : Nat} {T : Nat → Int32} : mn n T 5 = pondN T n := by
  unfold mn
  rw [up_ne (by omega), up_eq]
theorem okB_mn {n : Nat} {T : Nat → Int32} (h : okB n T) : okB n (mn n T) := by
  have h7 : n ≤ 7 := h.1.2.1
  refine ⟨okK_mn h.1, ?_, fun j hj => ⟨?_, ?_, ?_⟩, ?_⟩
  · rw [mn_same h7 (by omega) (by omega) (by omega)]; exact h.2.1
  · rw [mn_same h7 (by omega) (by omega) (by omega)]; exact (h.2.2.1 j hj).1
  · rw [mn_same h7 (by omega) (by omega) (by omega)]; exact (h.2.2.1 j hj).2.1
  · rw [mn_g hj]; exact gn_b h hj
  · rw [mn_5]; exact pond_b h
theorem okB_mns {n : Nat} {T : Nat → Int32} (h : okB n T) : ∀ k, okB n (mns n k T)
  | 0 => h
  | k + 1 => okB_mn (okB_mns h k)
theorem okB_up {n k : Nat} {x : Int32} {T : Nat → Int32} (h : okB n T) (hk : k = 4 ∨ (27 ≤ k ∧ k < 34) ∨ 41 ≤ k ∨ k = 1 ∨ k = 3) : okB n (upd T k x) := by
  have h7 : n ≤ 7 := h.1.2.1
  refine ⟨⟨?_, h7, fun j hj => ⟨?_, ?_⟩⟩, ?_, fun j hj => ⟨?_, ?_, ?_⟩, ?_⟩
  · rw [up_ne (by omega)]; exact h.1.1
  · rw [up_ne (by omega)]; exact (h.1.2.2 j hj).1
  · rw [up_ne (by omega)]; exact (h.1.2.2 j hj).2
  · rw [up_ne (by omega)]; exact h.2.1
  · rw [up_ne (by omega)]; exact (h.2.2.1 j hj).1
  · rw [up_ne (by omega)]; exact (h.2.2.1 j hj).2.1
  · rw [up_ne (by omega)]; exact (h.2.2.1 j hj).2.2
  · rw [up_ne (by omega)]; exact h.2.2.2
theorem okB_talk {n k : Nat} {x : Int32} {T : Nat → Int32} (h : okB n T) (hk : k < 7) (hx : Wi x 0 20) : okB n (upd T (13 + k) x) := by
  have h7 : n ≤ 7 := h.1.2.1
  refine ⟨⟨?_, h7, fun j hj => ⟨?_, ?_⟩⟩, ?_, fun j hj => ⟨?_, ?_, ?_⟩, ?_⟩
  · rw [up_ne (by omega)]; exact h.1.1
  · rw [up_ne (by omega)]; exact (h.1.2.2 j hj).1
  · rw [up_ne (by omega)]; exact (h.1.2.2 j hj).2
  · rw [up_ne (by omega)]; exact h.2.1
  · rw [up_if]
    split
    · exact hx
    · exact (h.2.2.1 j hj).1
  · rw [up_ne (by omega)]; exact (h.2.2.1 j hj).2.1
  · rw [up_ne (by omega)]; exact (h.2.2.1 j hj).2.2
  · rw [up_ne (by omega)]; exact h.2.2.2
theorem okB_pond {n : Nat} {x : Int32} {T : Nat → Int32} (h : okB n T) (hx : Wi x 0 9999) : okB n (upd T 5 x) := by
  have h7 : n ≤ 7 := h.1.2.1
  refine ⟨⟨?_, h7, fun j hj => ⟨?_, ?_⟩⟩, ?_, fun j hj => ⟨?_, ?_, ?_⟩, ?_⟩
  · rw [up_ne (by omega)]; exact h.1.1
  · rw [up_ne (by omega)]; exact (h.1.2.2 j hj).1
  · rw [up_ne (by omega)]; exact (h.1.2.2 j hj).2
  · rw [up_ne (by omega)]; exact h.2.1
  · rw [up_ne (by omega)]; exact (h.2.2.1 j hj).1
  · rw [up_ne (by omega)]; exact (h.2.2.1 j hj).2.1
  · rw [up_ne (by omega)]; exact (h.2.2.1 j hj).2.2
  · rw [up_eq]; exact hx
theorem okB_low {n : Nat} {x : Int32} {T : Nat → Int32} (h : okB n T) (hx : Wi x 0 9999) : okB n (lowP T x) := by
  refine okB_pond h ?_
  have p1 := h.2.2.2.1
  have p2 := h.2.2.2.2
  have x1 := hx.1
  have x2 := hx.2
  have e : (T 5 - x).toInt = (T 5).toInt - x.toInt := isb (by omega) (by omega)
  unfold Wi
  split
  · rename_i q
    rw [i_lt, i0, e] at q
    rw [e]
    omega
  · exact ⟨by decide, by decide⟩
/-- the first q of g, then f -/
def cpB (f g : Nat → Int32) (q : Nat) : Nat → Int32 := fun k => if k < q then g k else f k
theorem cpB_0 {f g : Nat → Int32} : cpB f g 0 = f := by
  funext k
  unfold cpB
  rw [if_neg (by omega)]
theorem cpB_s {f g : Nat → Int32} {q : Nat} {x : Int32} (hx : x = g q) : upd (cpB f g q) q x = cpB f g (q + 1) := by
  funext k
  unfold cpB
  rw [up_if]
  by_cases h1 : k = q
  · rw [if_pos h1, if_pos (by omega), hx, h1]
  · rw [if_neg h1]
    by_cases h2 : k < q
    · rw [if_pos h2, if_pos (by omega)]
    · rw [if_neg h2, if_neg (by omega)]
theorem cpB_b {f g a : Nat → Int32} (h : ∀ k, 48 ≤ k → f k = g k) : cpB f (cpB a g 48) 48 = g := by
  funext k
  unfold cpB
  by_cases h1 : k < 48
  · rw [if_pos h1, if_pos h1]
  · rw [if_neg h1]
    exact h k (by omega)
theorem y_om {G : mj_G} {h : mj_H} {d : Nat} {A : Nat → Nat → Int32} {F : Nat → Int32} (hY : YS G h (u2 A 0 F)) {n : Nat} (hok : okB n F) (hd : 2 ≤ d) : mj_con G MX5_oneMinute d 0 0 [.ref (G.1 + 220)] h (fun v h' => v = none ∧ YS G h' (u2 A 0 (mn n F)) ∧ mj_fr 220 13 h h') := by
  have q := y_oneMinute (d := d) hY (n := n) (okB_M hok) hd
  rw [u2_u2] at q
  exact q
set_option maxRecDepth 100000 in
set_option maxHeartbeats 4000000 in
theorem l_ysum {G : mj_G} {h : mj_H} {d n o : Nat} {τ : Nat → Nat → Int32} (hY : YS G h τ) (hn : τ 0 2 = nI n) (h7 : n ≤ 7) (ho : o ≤ 41) : ∀ (r i : Nat), i + r = n → mj_wp G MX5_sumOf d 0 0 4 [some (.ref (G.1 + 220)), some (.int (nI o)), some (.int (sumF (τ 0) o i)), some (.int (nI i))] [] h 0 0 (rI (sumF (τ 0) o n) h) := by
  obtain ⟨y0, y1, y2, y3, y4, y5, y6, y7, y8, y9, y10, y11, y12⟩ := id hY
  intro r
  induction r with
  | zero =>
    intro i hi
    have hi8 : i = n := by omega
    subst hi8
    refine s_iload_n (n := 5) (i := 3) dX5_sumOf_4 rfl rfl rfl ?_
    refine s_aload_n (n := 6) (i := 0) dX5_sumOf_5 rfl rfl rfl ?_
    refine gf_X5_19 (n := 9) rfl dX5_sumOf_6 rfl (by assumption) (by rfl) ?_
    refine s_iconst (n := 10) (v := 2) dX5_sumOf_9 rfl (by decide) ?_
    refine s_iald (n := 11) dX5_sumOf_10 rfl (by assumption) (mj_ixe (j := 2) rfl (by omega)) ?_
    rw [hn]
    refine s_icmp_ge (n := 14) (tgt := 31) dX5_sumOf_11 rfl rfl (fun b11 => ?_) (fun b11 => ?_)
    · refine s_iload_n (n := 32) (i := 2) dX5_sumOf_31 rfl rfl rfl ?_
      refine s_ireturn dX5_sumOf_32 rfl (rfl) (Nat.le_refl _) (Nat.le_refl _) ?_
      exact rI_ok rfl
    · exact absurd (Int32.le_refl _) b11
  | succ r ih =>
    intro i hi
    refine s_iload_n (n := 5) (i := 3) dX5_sumOf_4 rfl rfl rfl ?_
    refine s_aload_n (n := 6) (i := 0) dX5_sumOf_5 rfl rfl rfl ?_
    refine gf_X5_19 (n := 9) rfl dX5_sumOf_6 rfl (by assumption) (by rfl) ?_
    refine s_iconst (n := 10) (v := 2) dX5_sumOf_9 rfl (by decide) ?_
    refine s_iald (n := 11) dX5_sumOf_10 rfl (by assumption) (mj_ixe (j := 2) rfl (by omega)) ?_
    rw [hn]
    refine s_icmp_ge (n := 14) (tgt := 31) dX5_sumOf_11 rfl rfl (fun b11 => ?_) (fun b11 => ?_)
    · exact absurd ((nI_leE (by omega) (by omega)).mp b11) (by omega)
    · refine s_iload_n (n := 15) (i := 2) dX5_sumOf_14 rfl rfl rfl ?_
      refine s_aload_n (n := 16) (i := 0) dX5_sumOf_15 rfl rfl rfl ?_
      refine gf_X5_19 (n := 19) rfl dX5_sumOf_16 rfl (by assumption) (by rfl) ?_
      refine s_iload_n (n := 20) (i := 1) dX5_sumOf_19 rfl rfl rfl ?_
      refine s_iload_n (n := 21) (i := 3) dX5_sumOf_20 rfl rfl rfl ?_
      refine s_iadd (n := 22) dX5_sumOf_21 rfl ?_
      refine s_iald (n := 23) dX5_sumOf_22 rfl (by assumption) (mj_ixs (by omega)) ?_
      refine s_iadd (n := 24) dX5_sumOf_23 rfl ?_
      refine s_istore_n (n := 25) (i := 2) (ls' := [_, _, _, _]) dX5_sumOf_24 rfl rfl rfl rfl rfl ?_
      refine s_iinc (n := 28) (v := _ + 1) (ls' := [_, _, _, _]) dX5_sumOf_25 rfl rfl rfl rfl rfl ?_
      refine s_goto (tgt := 4) dX5_sumOf_28 rfl ?_
      rw [nI_1]
      exact ih (i + 1) (by omega)
set_option maxRecDepth 100000 in
set_option maxHeartbeats 4000000 in
theorem y_sumOf {G : mj_G} {h : mj_H} {d : Nat} {τ : Nat → Nat → Int32} (hY : YS G h τ) {n : Nat} (hn : τ 0 2 = nI n) (h7 : n ≤ 7) {o : Nat} (ho : o ≤ 41) : mj_con G MX5_sumOf d 0 0 [.ref (G.1 + 220), .int (nI o)] h (rI (sumF (τ 0) o n) h) := by
  refine mj_conV okX5_sumOf (ls := [some (.ref (G.1 + 220)), some (.int (nI o)), none, none]) rfl rfl ?_
  obtain ⟨y0, y1, y2, y3, y4, y5, y6, y7, y8, y9, y10, y11, y12⟩ := id hY
  refine s_iconst (n := 1) (v := 0) dX5_sumOf_0 rfl (by decide) ?_
  refine s_istore_n (n := 2) (i := 2) (ls' := [_, _, _, _]) dX5_sumOf_1 rfl rfl rfl rfl rfl ?_
  refine s_iconst (n := 3) (v := 0) dX5_sumOf_2 rfl (by decide) ?_
  refine s_istore_n (n := 4) (i := 3) (ls' := [_, _, _, _]) dX5_sumOf_3 rfl rfl rfl rfl rfl ?_
  exact l_ysum hY hn h7 ho n 0 (by omega)
theorem low_le {a x : Int32} (ha : Wi a 0 9999) (hx : Wi x 0 9999) : (a ≤ x → (if 0 < a - x then a - x else 0) = 0) ∧ (¬ a ≤ x → (if 0 < a - x then a - x else 0) = a - x) := by
  have a1 := ha.1
  have a2 := ha.2
  have x1 := hx.1
  have x2 := hx.2
  have e : (a - x).toInt = a.toInt - x.toInt := isb (by omega) (by omega)
  refine ⟨fun q => ?_, fun q => ?_⟩
  · rw [i_le] at q
    rw [if_neg]
    rw [i_lt, i0, e]
    omega
  · rw [i_le] at q
    rw [if_pos]
    rw [i_lt, i0, e]
    omega
set_option maxRecDepth 100000 in
set_option maxHeartbeats 4000000 in
theorem y_letOff {G : mj_G} {h : mj_H} {d : Nat} {A : Nat → Nat → Int32} {F : Nat → Int32} (hY : YS G h (u2 A 0 F)) {x : Int32} (h5 : Wi (F 5) 0 9999) (hx : Wi x 0 9999) : mj_con G MX5_letOff d 0 0 [.ref (G.1 + 220), .int x] h (fun v h' => v = none ∧ YS G h' (u2 A 0 (lowP F x)) ∧ mj_fr 220 13 h h') := by
  refine mj_conV okX5_letOff (ls := [some (.ref (G.1 + 220)), some (.int x)]) rfl rfl ?_
  obtain ⟨y0, y1, y2, y3, y4, y5, y6, y7, y8, y9, y10, y11, y12⟩ := id hY
  replace y4 : h.2 224 = mj_ar 0 48 (F) := y4
  replace y0 : h.2 220 = YO G (A 12) := y0
  replace y9 : h.2 229 = mj_ar 0 48 (A 8) := y9
  refine s_aload_n (n := 1) (i := 0) dX5_letOff_0 rfl rfl rfl ?_
  refine gf_X5_19 (n := 4) rfl dX5_letOff_1 rfl (by assumption) (by rfl) ?_
  refine s_iconst (n := 5) (v := 5) dX5_letOff_4 rfl (by decide) ?_
  refine s_aload_n (n := 6) (i := 0) dX5_letOff_5 rfl rfl rfl ?_
  refine gf_X5_19 (n := 9) rfl dX5_letOff_6 rfl (by assumption) (by rfl) ?_
  refine s_iconst (n := 10) (v := 5) dX5_letOff_9 rfl (by decide) ?_
  refine s_iald (n := 11) dX5_letOff_10 rfl (by assumption) (mj_ixe (j := 5) rfl (by omega)) ?_
  refine s_iload_n (n := 12) (i := 1) dX5_letOff_11 rfl rfl rfl ?_
  refine s_icmp_le (n := 15) (tgt := 26) dX5_letOff_12 rfl rfl (fun b12 => ?_) (fun b12 => ?_)
  · have e : upd F 5 0 = lowP F x := by
      unfold lowP
      rw [(low_le h5 hx).1 b12]
    refine s_iconst (n := 27) (v := 0) dX5_letOff_26 rfl (by decide) ?_
    refine s_iast (n := 28) dX5_letOff_27 rfl (by assumption) (mj_ixe (j := 5) rfl (by omega)) ?_
    refine YA_0 hY (fun h1 hY1 hF1 => ?_)
    rw [u2_u2] at hY1
    rw [e] at hY1
    refine s_return dX5_letOff_28 rfl (Nat.le_refl _) (Nat.le_refl _) ?_
    exact ⟨rfl, hY1, hF1⟩
  · have e : upd F 5 (F 5 - x) = lowP F x := by
      unfold lowP
      rw [(low_le h5 hx).2 b12]
    refine s_aload_n (n := 16) (i := 0) dX5_letOff_15 rfl rfl rfl ?_
    refine gf_X5_19 (n := 19) rfl dX5_letOff_16 rfl (by assumption) (by rfl) ?_
    refine s_iconst (n := 20) (v := 5) dX5_letOff_19 rfl (by decide) ?_
    refine s_iald (n := 21) dX5_letOff_20 rfl (by assumption) (mj_ixe (j := 5) rfl (by omega)) ?_
    refine s_iload_n (n := 22) (i := 1) dX5_letOff_21 rfl rfl rfl ?_
    refine s_isub (n := 23) dX5_letOff_22 rfl ?_
    refine s_goto (tgt := 27) dX5_letOff_23 rfl ?_
    refine s_iast (n := 28) dX5_letOff_27 rfl (by assumption) (mj_ixe (j := 5) rfl (by omega)) ?_
    refine YA_0 hY (fun h1 hY1 hF1 => ?_)
    rw [u2_u2] at hY1
    rw [e] at hY1
    refine s_return dX5_letOff_28 rfl (Nat.le_refl _) (Nat.le_refl _) ?_
    exact ⟨rfl, hY1, hF1⟩
set_option maxRecDepth 100000 in
set_option maxHeartbeats 4000000 in
theorem y_isOver {G : mj_G} {h : mj_H} {d : Nat} {τ : Nat → Nat → Int32} (hY : YS G h τ) : mj_con G MX5_isOver d 0 0 [.ref (G.1 + 220)] h (rI (if τ 0 1 < τ 0 5 then 1 else 0) h) := by
  refine mj_conV okX5_isOver (ls := [some (.ref (G.1 + 220))]) rfl rfl ?_
  obtain ⟨y0, y1, y2, y3, y4, y5, y6, y7, y8, y9, y10, y11, y12⟩ := id hY
  refine s_aload_n (n := 1) (i := 0) dX5_isOver_0 rfl rfl rfl ?_
  refine gf_X5_19 (n := 4) rfl dX5_isOver_1 rfl (by assumption) (by rfl) ?_
  refine s_iconst (n := 5) (v := 5) dX5_isOver_4 rfl (by decide) ?_
  refine s_iald (n := 6) dX5_isOver_5 rfl (by assumption) (mj_ixe (j := 5) rfl (by omega)) ?_
  refine s_aload_n (n := 7) (i := 0) dX5_isOver_6 rfl rfl rfl ?_
  refine gf_X5_19 (n := 10) rfl dX5_isOver_7 rfl (by assumption) (by rfl) ?_
  refine s_iconst (n := 11) (v := 1) dX5_isOver_10 rfl (by decide) ?_
  refine s_iald (n := 12) dX5_isOver_11 rfl (by assumption) (mj_ixe (j := 1) rfl (by omega)) ?_
  refine s_icmp_le (n := 15) (tgt := 19) dX5_isOver_12 rfl rfl (fun b12 => ?_) (fun b12 => ?_)
  · refine s_iconst (n := 20) (v := 0) dX5_isOver_19 rfl (by decide) ?_
    refine s_ireturn dX5_isOver_20 rfl (rfl) (Nat.le_refl _) (Nat.le_refl _) ?_
    refine rI_ok ?_
    first | rw [if_neg (Int32.not_lt.mpr b12)] | rw [if_pos (Int32.not_le.mp b12)]
  · refine s_iconst (n := 16) (v := 1) dX5_isOver_15 rfl (by decide) ?_
    refine s_goto (tgt := 20) dX5_isOver_16 rfl ?_
    refine s_ireturn dX5_isOver_20 rfl (rfl) (Nat.le_refl _) (Nat.le_refl _) ?_
    refine rI_ok ?_
    first | rw [if_neg (Int32.not_lt.mpr b12)] | rw [if_pos (Int32.not_le.mp b12)]
set_option maxRecDepth 100000 in
set_option maxHeartbeats 4000000 in
theorem l_ypa {G : mj_G} {h0 : mj_H} {d : Nat} {τ : Nat → Nat → Int32} : ∀ (r i : Nat), i + r = 48 → ∀ (h : mj_H), YS G h (u2 τ 8 (cpB (τ 8) (τ 0) i)) → mj_fr 220 13 h0 h → mj_wp G MX5_putAside d 0 0 2 [some (.ref (G.1 + 220)), some (.int (nI i))] [] h 0 0 (fun v h' => v = none ∧ YS G h' (u2 τ 8 (cpB (τ 8) (τ 0) 48)) ∧ mj_fr 220 13 h0 h') := by
  intro r
  induction r with
  | zero =>
    intro i hi h hY hF
    have hi8 : i = 48 := by omega
    subst hi8
    obtain ⟨y0, y1, y2, y3, y4, y5, y6, y7, y8, y9, y10, y11, y12⟩ := id hY
    replace y0 : h.2 220 = YO G (τ 12) := y0
    refine s_iload_n (n := 3) (i := 1) dX5_putAside_2 rfl rfl rfl ?_
    refine s_bipush (n := 5) (v := 48) dX5_putAside_3 rfl (by decide) ?_
    refine s_icmp_ge (n := 8) (tgt := 26) dX5_putAside_5 rfl rfl (fun b5 => ?_) (fun b5 => ?_)
    · refine s_return dX5_putAside_26 rfl (Nat.le_refl _) (Nat.le_refl _) ?_
      exact ⟨rfl, hY, hF⟩
    · exact absurd (Int32.le_refl _) b5
  | succ r ih =>
    intro i hi h hY hF
    obtain ⟨y0, y1, y2, y3, y4, y5, y6, y7, y8, y9, y10, y11, y12⟩ := id hY
    replace y0 : h.2 220 = YO G (τ 12) := y0
    replace y4 : h.2 224 = mj_ar 0 48 (τ 0) := y4
    replace y9 : h.2 229 = mj_ar 0 48 (cpB (τ 8) (τ 0) i) := y9
    refine s_iload_n (n := 3) (i := 1) dX5_putAside_2 rfl rfl rfl ?_
    refine s_bipush (n := 5) (v := 48) dX5_putAside_3 rfl (by decide) ?_
    refine s_icmp_ge (n := 8) (tgt := 26) dX5_putAside_5 rfl rfl (fun b5 => ?_) (fun b5 => ?_)
    · exact absurd ((nI_leE (a := 48) (by omega) (by omega)).mp b5) (by omega)
    · refine s_aload_n (n := 9) (i := 0) dX5_putAside_8 rfl rfl rfl ?_
      refine gf_X5_34 (n := 12) rfl dX5_putAside_9 rfl (by assumption) (by rfl) ?_
      refine s_iload_n (n := 13) (i := 1) dX5_putAside_12 rfl rfl rfl ?_
      refine s_aload_n (n := 14) (i := 0) dX5_putAside_13 rfl rfl rfl ?_
      refine gf_X5_19 (n := 17) rfl dX5_putAside_14 rfl (by assumption) (by rfl) ?_
      refine s_iload_n (n := 18) (i := 1) dX5_putAside_17 rfl rfl rfl ?_
      refine s_iald (n := 19) dX5_putAside_18 rfl (by assumption) (mj_ixn (by omega)) ?_
      refine s_iast (n := 20) dX5_putAside_19 rfl (by assumption) (mj_ixn (by omega)) ?_
      refine YA_8 hY (fun h1 hY1 hF1 => ?_)
      rw [cpB_s rfl, u2_u2] at hY1
      refine s_iinc (n := 23) (v := _ + 1) (ls' := [_, _]) dX5_putAside_20 rfl rfl rfl rfl rfl ?_
      refine s_goto (tgt := 2) dX5_putAside_23 rfl ?_
      rw [nI_1]
      exact ih (i + 1) (by omega) _ hY1 (fr_tr hF hF1)
set_option maxRecDepth 100000 in
set_option maxHeartbeats 4000000 in
theorem y_pa0 {G : mj_G} {h : mj_H} {d : Nat} {τ : Nat → Nat → Int32} (hY : YS G h τ) : mj_con G MX5_putAside d 0 0 [.ref (G.1 + 220)] h (fun v h' => v = none ∧ YS G h' (u2 τ 8 (cpB (τ 8) (τ 0) 48)) ∧ mj_fr 220 13 h h') := by
  refine mj_conV okX5_putAside (ls := [some (.ref (G.1 + 220)), none]) rfl rfl ?_
  obtain ⟨y0, y1, y2, y3, y4, y5, y6, y7, y8, y9, y10, y11, y12⟩ := id hY
  refine s_iconst (n := 1) (v := 0) dX5_putAside_0 rfl (by decide) ?_
  refine s_istore_n (n := 2) (i := 1) (ls' := [_, _]) dX5_putAside_1 rfl rfl rfl rfl rfl ?_
  exact l_ypa 48 0 (by omega) _ (by rw [cpB_0, u2_self]; exact hY) fr_rf
set_option maxRecDepth 100000 in
set_option maxHeartbeats 4000000 in
theorem l_ytb {G : mj_G} {h0 : mj_H} {d : Nat} {τ : Nat → Nat → Int32} : ∀ (r i : Nat), i + r = 48 → ∀ (h : mj_H), YS G h (u2 τ 0 (cpB (τ 0) (τ 8) i)) → mj_fr 220 13 h0 h → mj_wp G MX5_takeBack d 0 0 2 [some (.ref (G.1 + 220)), some (.int (nI i))] [] h 0 0 (fun v h' => v = none ∧ YS G h' (u2 τ 0 (cpB (τ 0) (τ 8) 48)) ∧ mj_fr 220 13 h0 h') := by
  intro r
  induction r with
  | zero =>
    intro i hi h hY hF
    have hi8 : i = 48 := by omega
    subst hi8
    obtain ⟨y0, y1, y2, y3, y4, y5, y6, y7, y8, y9, y10, y11, y12⟩ := id hY
    replace y0 : h.2 220 = YO G (τ 12) := y0
    refine s_iload_n (n := 3) (i := 1) dX5_takeBack_2 rfl rfl rfl ?_
    refine s_bipush (n := 5) (v := 48) dX5_takeBack_3 rfl (by decide) ?_
    refine s_icmp_ge (n := 8) (tgt := 26) dX5_takeBack_5 rfl rfl (fun b5 => ?_) (fun b5 => ?_)
    · refine s_return dX5_takeBack_26 rfl (Nat.le_refl _) (Nat.le_refl _) ?_
      exact ⟨rfl, hY, hF⟩
    · exact absurd (Int32.le_refl _) b5
  | succ r ih =>
    intro i hi h hY hF
    obtain ⟨y0, y1, y2, y3, y4, y5, y6, y7, y8, y9, y10, y11, y12⟩ := id hY
    replace y0 : h.2 220 = YO G (τ 12) := y0
    replace y9 : h.2 229 = mj_ar 0 48 (τ 8) := y9
    replace y4 : h.2 224 = mj_ar 0 48 (cpB (τ 0) (τ 8) i) := y4
    refine s_iload_n (n := 3) (i := 1) dX5_takeBack_2 rfl rfl rfl ?_
    refine s_bipush (n := 5) (v := 48) dX5_takeBack_3 rfl (by decide) ?_
    refine s_icmp_ge (n := 8) (tgt := 26) dX5_takeBack_5 rfl rfl (fun b5 => ?_) (fun b5 => ?_)
    · exact absurd ((nI_leE (a := 48) (by omega) (by omega)).mp b5) (by omega)
    · refine s_aload_n (n := 9) (i := 0) dX5_takeBack_8 rfl rfl rfl ?_
      refine gf_X5_19 (n := 12) rfl dX5_takeBack_9 rfl (by assumption) (by rfl) ?_
      refine s_iload_n (n := 13) (i := 1) dX5_takeBack_12 rfl rfl rfl ?_
      refine s_aload_n (n := 14) (i := 0) dX5_takeBack_13 rfl rfl rfl ?_
      refine gf_X5_34 (n := 17) rfl dX5_takeBack_14 rfl (by assumption) (by rfl) ?_
      refine s_iload_n (n := 18) (i := 1) dX5_takeBack_17 rfl rfl rfl ?_
      refine s_iald (n := 19) dX5_takeBack_18 rfl (by assumption) (mj_ixn (by omega)) ?_
      refine s_iast (n := 20) dX5_takeBack_19 rfl (by assumption) (mj_ixn (by omega)) ?_
      refine YA_0 hY (fun h1 hY1 hF1 => ?_)
      rw [cpB_s rfl, u2_u2] at hY1
      refine s_iinc (n := 23) (v := _ + 1) (ls' := [_, _]) dX5_takeBack_20 rfl rfl rfl rfl rfl ?_
      refine s_goto (tgt := 2) dX5_takeBack_23 rfl ?_
      rw [nI_1]
      exact ih (i + 1) (by omega) _ hY1 (fr_tr hF hF1)
set_option maxRecDepth 100000 in
set_option maxHeartbeats 4000000 in
theorem y_tb0 {G : mj_G} {h : mj_H} {d : Nat} {τ : Nat → Nat → Int32} (hY : YS G h τ) : mj_con G MX5_takeBack d 0 0 [.ref (G.1 + 220)] h (fun v h' => v = none ∧ YS G h' (u2 τ 0 (cpB (τ 0) (τ 8) 48)) ∧ mj_fr 220 13 h h') := by
  refine mj_conV okX5_takeBack (ls := [some (.ref (G.1 + 220)), none]) rfl rfl ?_
  obtain ⟨y0, y1, y2, y3, y4, y5, y6, y7, y8, y9, y10, y11, y12⟩ := id hY
  refine s_iconst (n := 1) (v := 0) dX5_takeBack_0 rfl (by decide) ?_
  refine s_istore_n (n := 2) (i := 1) (ls' := [_, _]) dX5_takeBack_1 rfl rfl rfl rfl rfl ?_
  exact l_ytb 48 0 (by omega) _ (by rw [cpB_0, u2_self]; exact hY) fr_rf
/-- the model, its street put aside -/
def asS (τ : Nat → Nat → Int32) : Nat → Nat → Int32 := u2 τ 8 (cpB (τ 8) (τ 0) 48)
theorem asS_0 {τ : Nat → Nat → Int32} : u2 (asS τ) 0 (τ 0) = asS τ := u2_self (σ := asS τ) (i := 0)
theorem y_pa {G : mj_G} {h : mj_H} {d : Nat} {τ : Nat → Nat → Int32} (hY : YS G h τ) : mj_con G MX5_putAside d 0 0 [.ref (G.1 + 220)] h (fun v h' => v = none ∧ YS G h' (u2 (asS τ) 0 (τ 0)) ∧ mj_fr 220 13 h h') := by
  rw [asS_0]
  exact y_pa0 hY
theorem y_tb {G : mj_G} {h : mj_H} {d : Nat} {τ : Nat → Nat → Int32} {F : Nat → Int32} (hY : YS G h (u2 (asS τ) 0 F)) (hF : ∀ k, 48 ≤ k → F k = τ 0 k) : mj_con G MX5_takeBack d 0 0 [.ref (G.1 + 220)] h (fun v h' => v = none ∧ YS G h' (u2 (asS τ) 0 (τ 0)) ∧ mj_fr 220 13 h h') := by
  have q := y_tb0 (d := d) hY
  rw [u2_u2, show cpB (u2 (asS τ) 0 F 0) (u2 (asS τ) 0 F 8) 48 = τ 0 from cpB_b hF] at q
  exact q
theorem mn_o {n k : Nat} {T : Nat → Int32} (h7 : n ≤ 7) (h : 48 ≤ k) : mn n T k = T k := mn_same h7 (by omega) (by omega) (by omega)
theorem mns_o {n k : Nat} {T : Nat → Int32} (h7 : n ≤ 7) (h : 48 ≤ k) : ∀ m, mns n m T k = T k
  | 0 => rfl
  | m + 1 => (mn_o h7 h).trans (mns_o h7 h m)
set_option maxRecDepth 100000 in
set_option maxHeartbeats 4000000 in
theorem l_ygoOn {G : mj_G} {h0 : mj_H} {d n m : Nat} {A : Nat → Nat → Int32} {F : Nat → Int32} (hok : okB n F) (hm : m ≤ 100000) (hd : 3 ≤ d) : ∀ (r i : Nat), i + r = m → ∀ (h : mj_H), YS G h (u2 A 0 (mns n i F)) → mj_fr 220 13 h0 h → mj_wp G MX5_goOn d 0 0 2 [some (.ref (G.1 + 220)), some (.int (nI m)), some (.int (nI i))] [] h 0 0 (fun v h' => v = none ∧ YS G h' (u2 A 0 (mns n m F)) ∧ mj_fr 220 13 h0 h') := by
  intro r
  induction r with
  | zero =>
    intro i hi h hY hF
    have hi8 : i = m := by omega
    subst hi8
    refine s_iload_n (n := 3) (i := 2) dX5_goOn_2 rfl rfl rfl ?_
    refine s_iload_n (n := 4) (i := 1) dX5_goOn_3 rfl rfl rfl ?_
    refine s_icmp_ge (n := 7) (tgt := 17) dX5_goOn_4 rfl rfl (fun b4 => ?_) (fun b4 => ?_)
    · refine s_return dX5_goOn_17 rfl (Nat.le_refl _) (Nat.le_refl _) ?_
      exact ⟨rfl, hY, hF⟩
    · exact absurd (Int32.le_refl _) b4
  | succ r ih =>
    intro i hi h hY hF
    obtain ⟨y0, y1, y2, y3, y4, y5, y6, y7, y8, y9, y10, y11, y12⟩ := id hY
    replace y4 : h.2 224 = mj_ar 0 48 (mns n i F) := y4
    replace y0 : h.2 220 = YO G (A 12) := y0
    replace y9 : h.2 229 = mj_ar 0 48 (A 8) := y9
    refine s_iload_n (n := 3) (i := 2) dX5_goOn_2 rfl rfl rfl ?_
    refine s_iload_n (n := 4) (i := 1) dX5_goOn_3 rfl rfl rfl ?_
    refine s_icmp_ge (n := 7) (tgt := 17) dX5_goOn_4 rfl rfl (fun b4 => ?_) (fun b4 => ?_)
    · exact absurd ((nI_leE (by omega) (by omega)).mp b4) (by omega)
    · refine s_aload_n (n := 8) (i := 0) dX5_goOn_7 rfl rfl rfl ?_
      refine s_v0 (M' := MX5_oneMinute) (n := 11) (ci := 5) dX5_goOn_8 rfl wd_X5_152 okX5_oneMinute rfl rfl (by omega) ⟨Nat.le_refl _, Nat.le_refl _⟩ (by assumption) (y_om (d := d - 1) hY (n := n) (okB_mns hok i) (by omega)) ?_
      rintro v8 hh8 ⟨rfl, hY1, hF1⟩
      refine s_iinc (n := 14) (v := _ + 1) (ls' := [_, _, _]) dX5_goOn_11 rfl rfl rfl rfl rfl ?_
      refine s_goto (tgt := 2) dX5_goOn_14 rfl ?_
      rw [nI_1]
      exact ih (i + 1) (by omega) _ hY1 (fr_tr hF hF1)
set_option maxRecDepth 100000 in
set_option maxHeartbeats 4000000 in
theorem y_goOn {G : mj_G} {h : mj_H} {d : Nat} {A : Nat → Nat → Int32} {F : Nat → Int32} (hY : YS G h (u2 A 0 F)) {n m : Nat} (hok : okB n F) (hm : m ≤ 100000) (hd : 3 ≤ d) : mj_con G MX5_goOn d 0 0 [.ref (G.1 + 220), .int (nI m)] h (fun v h' => v = none ∧ YS G h' (u2 A 0 (mns n m F)) ∧ mj_fr 220 13 h h') := by
  refine mj_conV okX5_goOn (ls := [some (.ref (G.1 + 220)), some (.int (nI m)), none]) rfl rfl ?_
  obtain ⟨y0, y1, y2, y3, y4, y5, y6, y7, y8, y9, y10, y11, y12⟩ := id hY
  replace y4 : h.2 224 = mj_ar 0 48 (F) := y4
  replace y0 : h.2 220 = YO G (A 12) := y0
  replace y9 : h.2 229 = mj_ar 0 48 (A 8) := y9
  refine s_iconst (n := 1) (v := 0) dX5_goOn_0 rfl (by decide) ?_
  refine s_istore_n (n := 2) (i := 2) (ls' := [_, _, _]) dX5_goOn_1 rfl rfl rfl rfl rfl ?_
  exact l_ygoOn hok hm hd m 0 (by omega) _ hY fr_rf
