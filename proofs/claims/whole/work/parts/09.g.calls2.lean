theorem CRr {σ τ : Nat → Nat → Int32} {a : Nat} (h : CR σ τ) (ha : a < 8) : (σ 29 a = -1 ∧ τ 2 a < 0) ∨ (¬ σ 29 a = -1 ∧ ¬ τ 2 a < 0 ∧ σ 29 a = τ 1 a ∧ σ 30 a = τ 2 a ∧ Wi (τ 2 a) 0 40 ∧ ∀ i, i < 40 → σ (34 + a) i = τ 3 (40 * a + i)) := h.2.2.2.1 a ha
theorem Wi_ne {y : Int32} {b : Int} (h : Wi y 0 b) : ¬ y = -1 := fun z => by
  rw [z] at h
  exact absurd h.1 (by decide)
theorem i_sub {s x : Int32} (hs : Wi s 0 40) (hx : 0 ≤ x) : (s - x).toInt = s.toInt - x.toInt := by
  have h1 := hs.1
  have h2 := hs.2
  have h3 := Int32.toInt_lt x
  rw [i_le, z_i] at hx
  exact isb (by omega) (by omega)
theorem i_ge {x : Int32} (h : 0 ≤ x) : 0 ≤ x.toInt := by
  rw [i_le, z_i] at h
  exact h
theorem i_ge' {x : Int32} (h : 0 ≤ x.toInt) : 0 ≤ x := by
  rw [i_le, z_i]
  exact h
theorem one_i : (0 : Int32) ≤ 1 := by decide
theorem o_i : (1 : Int32).toInt = 1 := by decide
/-- a place within a row -/
theorem pl_ex {s i x : Int32} (hs : Wi s 0 40) (hx : 0 ≤ x) (h1 : 0 ≤ i) (h2 : i ≤ s - x) : ∃ j m : Nat, i = nI j ∧ x = nI m ∧ j + m ≤ 40 := by
  rw [i_le, i_sub hs hx] at h2
  have h3 := i_ge h1
  have h4 := i_ge hx
  have h5 := hs.2
  obtain ⟨j, e1, -, hj⟩ := Wi_ex (x := i) (a := 0) (b := 40 - x.toInt) ⟨h3, by omega⟩ (by omega)
  obtain ⟨m, e2, -, hm⟩ := Wi_ex (x := x) (a := 0) (b := 40) ⟨h4, by omega⟩ (by omega)
  refine ⟨j, m, e1, e2, ?_⟩
  have e3 : x.toInt = (m : Int) := by
    rw [e2, nI_toInt (by omega)]
  omega
theorem fn_1 {l s i x : Int32} (h : l = -1) : fndR l s i x = 1 := if_pos h
theorem fn_0 {l s i x : Int32} (h : ¬ l = -1) (hp : 0 ≤ i ∧ 0 ≤ x ∧ i ≤ s - x) : fndR l s i x = 0 := (if_neg h).trans (if_pos hp)
theorem fn_2 {l s i x : Int32} (h : ¬ l = -1) (hp : ¬ (0 ≤ i ∧ 0 ≤ x ∧ i ≤ s - x)) : fndR l s i x = 2 := (if_neg h).trans (if_neg hp)
set_option maxRecDepth 100000 in
theorem cp_row {G : mj_G} {σ τ : Nat → Nat → Int32} (hC : CR σ τ) (x1 x2 x3 : Int32) : cpl .int G MX4_row MX5_row [.int x1, .int x2, .int x3] σ τ := by
  obtain ⟨n, h7, hn, hu, hr, hcase⟩ := CRn hC
  by_cases hb : Wi x1 0 7 ∧ Wi x2 0 2 ∧ x3 ≤ 40
  · by_cases hz : x3 < 0
    · exact ⟨_, _, _, xS (fun h hX => k_row_size hX hb.1 hb.2.1 hz (by omega)), yS rfl (fun h hY => y_row_size hY hb.1 hb.2.1 hz (by omega)), clSS (CR_st hC)⟩
    · obtain ⟨a, rfl, aa, ab⟩ := Wi_ex hb.1 (by omega)
      have hw3 : Wi x3 0 40 := by
        have h1 := hb.2.2
        rw [i_le] at h1
        rw [i_lt, z_i] at hz
        have c : (40 : Int32).toInt = 40 := by decide
        exact ⟨by omega, by omega⟩
      refine ⟨_, _, _, xS (fun h hX => k_row hX (by omega) hb.2.1 hb.2.2 hz (by omega)), yS rfl (fun h hY => y_row hY (by omega) hb.2.1 hb.2.2 hz (by omega)), clSS (CR_rows hC (by omega) (fun j q1 q2 q3 q4 q5 => ?_) rfl (cRo_up hC.2.2.2.1 (fun r h1 h2 => ?_) (fun r h1 h2 => ?_) (fun r h1 h2 i hi => ?_) (Or.inr ⟨Wi_ne hb.2.1, ?_, ?_, ?_, ?_, fun i hi => ?_⟩)))⟩
      · rw [u2_ne q5, u2_ne q3, u2_ne q2, u2_ne q1]
      · exact up_ne h2
      · exact up_ne h2
      · show cpI (τ 3) (fun _ => 0) (40 * a) 40 (40 * r + i) = _
        unfold cpI
        rw [if_neg (by omega)]
      · show ¬ upd (τ 2) a x3 a < 0
        rw [up_eq]
        exact hz
      · show x2 = upd (τ 1) a x2 a
        rw [up_eq]
      · show x3 = upd (τ 2) a x3 a
        rw [up_eq]
      · show Wi (upd (τ 2) a x3 a) 0 40
        rw [up_eq]
        exact hw3
      · show fillF (σ (34 + a)) 40 0 i = cpI (τ 3) (fun _ => 0) (40 * a) 40 (40 * a + i)
        unfold cpI fillF
        rw [if_pos hi, if_pos (by omega)]
  · exact ⟨_, _, _, xI (fun h hX => k_row_bad hX hb (by omega)), yI rfl (fun h hY => y_row_bad hY hb (by omega)), clSS hC⟩
set_option maxRecDepth 100000 in
theorem cp_set {G : mj_G} {σ τ : Nat → Nat → Int32} (hC : CR σ τ) (x1 x2 x3 : Int32) : cpl .int G MX4_set MX5_set [.int x1, .int x2, .int x3] σ τ := by
  obtain ⟨n, h7, hn, hu, hr, hcase⟩ := CRn hC
  by_cases hb : Wi x1 0 7
  · obtain ⟨a, rfl, aa, ab⟩ := Wi_ex hb (by omega)
    rcases CRr hC (show a < 8 by omega) with ⟨q1, q2⟩ | ⟨q1, q2, q3, q4, q5, q6⟩
    · have e := fn_1 (s := σ 30 a) (i := x2) (x := 1) q1
      exact ⟨_, _, _, xS (fun h hX => k_set_f hX (by omega) (by rw [e]; decide) (by omega)), yS (by rw [e]) (fun h hY => y_set_null hY (by omega) q2 (by omega)), clSS (by rw [e]; exact CR_st hC)⟩
    · by_cases hp : 0 ≤ x2 ∧ x2 ≤ τ 2 a - 1
      · obtain ⟨j, m, rfl, em, hjm⟩ := pl_ex q5 one_i hp.1 hp.2
        have hm : m = 1 := nI_inj (by omega) (by omega) em.symm
        have e : fndR (σ 29 a) (σ 30 a) (nI j) 1 = 0 := fn_0 q1 ⟨hp.1, one_i, by rw [q4]; exact hp.2⟩
        refine ⟨_, _, _, xS (fun h hX => k_set hX (by omega) (show j < 40 by omega) e (by omega)), yS (by rw [q3]) (fun h hY => y_set hY (by omega) (by omega) q2 hp (by omega)), clSS (CR_rows hC (by omega) (fun i p1 p2 p3 p4 p5 => ?_) rfl (cRo_up hC.2.2.2.1 (fun r h1 h2 => rfl) (fun r h1 h2 => rfl) (fun r h1 h2 i hi => ?_) (Or.inr ⟨q1, q2, q3, q4, q5, fun i hi => ?_⟩)))⟩
        · rw [u2_ne p5, u2_ne p3]
        · exact up_ne (by omega)
        · show upd (σ (34 + a)) j _ i = upd (τ 3) (40 * a + j) _ (40 * a + i)
          rw [q3]
          by_cases ei : i = j
          · rw [ei, up_eq, up_eq]
          · rw [up_ne ei, up_ne (by omega)]
            exact q6 i hi
      · have e : fndR (σ 29 a) (σ 30 a) x2 1 = 2 := fn_2 q1 (fun z => hp ⟨z.1, by rw [← q4]; exact z.2.2⟩)
        exact ⟨_, _, _, xS (fun h hX => k_set_f hX (by omega) (by rw [e]; decide) (by omega)), yS (by rw [e]) (fun h hY => y_set_place hY (by omega) q2 hp (by omega)), clSS (by rw [e]; exact CR_st hC)⟩
  · exact ⟨_, _, _, xI (fun h hX => k_set_bad hX hb (by omega)), yI rfl (fun h hY => y_set_bad hY hb (by omega)), clSS hC⟩
set_option maxRecDepth 100000 in
theorem cp_drop {G : mj_G} {σ τ : Nat → Nat → Int32} (hC : CR σ τ) (x1 : Int32) : cpl .int G MX4_drop MX5_drop [.int x1] σ τ := by
  obtain ⟨n, h7, hn, hu, hr, hcase⟩ := CRn hC
  by_cases hb : Wi x1 0 7
  · obtain ⟨a, rfl, aa, ab⟩ := Wi_ex hb (by omega)
    rcases CRr hC (show a < 8 by omega) with ⟨q1, q2⟩ | ⟨q1, q2, q3, q4, q5, q6⟩
    · exact ⟨_, _, _, xS (fun h hX => k_drop_f hX (by omega) q1 (by omega)), yS rfl (fun h hY => y_drop_f hY (by omega) q2 (by omega)), clSS (CR_st hC)⟩
    · refine ⟨_, _, _, xS (fun h hX => k_drop hX (by omega) q1 (by omega)), yS q4 (fun h hY => y_drop hY (by omega) q2 (by omega)), clSS (CR_rows hC (by omega) (fun i p1 p2 p3 p4 p5 => ?_) rfl (cRo_up hC.2.2.2.1 (fun r h1 h2 => rfl) (fun r h1 h2 => ?_) (fun r h1 h2 i hi => rfl) (Or.inl ⟨rfl, ?_⟩)))⟩
      · rw [u2_ne p5, u2_ne p2]
      · exact up_ne h2
      · show upd (τ 2) a (-1) a < 0
        rw [up_eq]
        decide
  · exact ⟨_, _, _, xI (fun h hX => k_drop_bad hX hb (by omega)), yI rfl (fun h hY => y_drop_bad hY hb (by omega)), clSS hC⟩
set_option maxRecDepth 100000 in
theorem cp_copy {G : mj_G} {σ τ : Nat → Nat → Int32} (hC : CR σ τ) (x1 x2 x3 x4 x5 : Int32) : cpl .int G MX4_copy MX5_copy [.int x1, .int x2, .int x3, .int x4, .int x5] σ τ := by
  obtain ⟨n, h7, hn, hu, hr, hcase⟩ := CRn hC
  by_cases hb : Wi x1 0 7 ∧ Wi x3 0 7
  · obtain ⟨a, rfl, aa, ab⟩ := Wi_ex hb.1 (by omega)
    obtain ⟨b, rfl, ba, bb⟩ := Wi_ex hb.2 (by omega)
    rcases CRr hC (show a < 8 by omega) with ⟨q1, q2⟩ | ⟨q1, q2, q3, q4, q5, q6⟩
    · exact ⟨_, _, _, xS (fun h hX => k_copy_null hX (by omega) (by omega) (Or.inl q1) (by omega)), yS rfl (fun h hY => y_copy_null hY (by omega) (by omega) (Or.inl q2) (by omega)), clSS (CR_st hC)⟩
    · rcases CRr hC (show b < 8 by omega) with ⟨r1, r2⟩ | ⟨r1, r2, r3, r4, r5, r6⟩
      · exact ⟨_, _, _, xS (fun h hX => k_copy_null hX (by omega) (by omega) (Or.inr r1) (by omega)), yS rfl (fun h hY => y_copy_null hY (by omega) (by omega) (Or.inr r2) (by omega)), clSS (CR_st hC)⟩
      · by_cases he : σ 29 a = σ 29 b
        · have he2 : τ 1 a = τ 1 b := by
            rw [← q3, ← r3]
            exact he
          by_cases hp : (0 ≤ x2 ∧ 0 ≤ x5 ∧ x2 ≤ σ 30 a - x5) ∧ (0 ≤ x4 ∧ 0 ≤ x5 ∧ x4 ≤ σ 30 b - x5)
          · obtain ⟨pa, pb⟩ := hp
            have pa2 := pa.2.2
            have pb2 := pb.2.2
            rw [q4] at pa2
            rw [r4] at pb2
            obtain ⟨i, m, rfl, rfl, him⟩ := pl_ex q5 pa.2.1 pa.1 pa2
            obtain ⟨j, m2, rfl, em, hjm⟩ := pl_ex r5 pb.2.1 pb.1 pb2
            have hm : m2 = m := nI_inj (by omega) (by omega) em.symm
            subst hm
            have hp2 : 0 ≤ nI m2 ∧ Wi (nI i) 0 ((τ 2 a).toInt - (nI m2).toInt) ∧ Wi (nI j) 0 ((τ 2 b).toInt - (nI m2).toInt) := by
              have w1 := i_le.mp pa2
              have w2 := i_le.mp pb2
              rw [i_sub q5 pa.2.1] at w1
              rw [i_sub r5 pb.2.1] at w2
              exact ⟨pa.2.1, ⟨i_ge pa.1, w1⟩, i_ge pb.1, w2⟩
            refine ⟨_, _, _, xS (fun h hX => k_copy hX (by omega) (by omega) q1 r1 he pa pb him hjm (by omega)), yS rfl (fun h hY => y_copy hY (by omega) (by omega) q2 r2 he2 hp2 him hjm (by omega)), clSS (CR_rows hC (by omega) (fun q p1 p2 p3 p4 p5 => ?_) rfl (cRo_up hC.2.2.2.1 (fun r h1 h2 => rfl) (fun r h1 h2 => rfl) (fun r h1 h2 q hq => ?_) (Or.inr ⟨r1, r2, r3, r4, r5, fun q hq => ?_⟩)))⟩
            · rw [u2_ne p5, u2_ne p3, u2_ne p4]
            · show cpI (τ 3) _ (40 * b + j) m2 (40 * r + q) = _
              unfold cpI
              rw [if_neg (by omega)]
            · show va_cpy (σ (34 + a)) (σ (34 + b)) i j m2 q = cpI (τ 3) (mvF (τ 3) (τ 4) (40 * a + i) m2) (40 * b + j) m2 (40 * b + q)
              unfold va_cpy cpI
              by_cases hq2 : j ≤ q ∧ q < j + m2
              · rw [if_pos hq2, if_pos (by omega), q6 _ (by omega)]
                unfold mvF cpI
                rw [if_pos (by omega)]
                show _ = τ 3 (40 * a + i + (40 * b + q - (40 * b + j) - 0))
                rw [show 40 * a + i + (40 * b + q - (40 * b + j) - 0) = 40 * a + (i + (q - j)) by omega]
              · rw [if_neg hq2, if_neg (by omega)]
                exact r6 q hq
          · have hp2 : ¬ (0 ≤ x5 ∧ Wi x2 0 ((τ 2 a).toInt - x5.toInt) ∧ Wi x4 0 ((τ 2 b).toInt - x5.toInt)) := by
              rintro ⟨z1, z2, z3⟩
              refine hp ⟨⟨i_ge' z2.1, z1, ?_⟩, i_ge' z3.1, z1, ?_⟩
              · rw [q4, i_le, i_sub q5 z1]
                exact z2.2
              · rw [r4, i_le, i_sub r5 z1]
                exact z3.2
            exact ⟨_, _, _, xS (fun h hX => k_copy_place hX (by omega) (by omega) q1 r1 he hp (by omega)), yS rfl (fun h hY => y_copy_place hY (by omega) (by omega) q2 r2 he2 hp2 (by omega)), clSS (CR_st hC)⟩
        · exact ⟨_, _, _, xS (fun h hX => k_copy_store hX (by omega) (by omega) q1 r1 he (by omega)), yS rfl (fun h hY => y_copy_store hY (by omega) (by omega) q2 r2 (by rw [← q3, ← r3]; exact he) (by omega)), clSS (CR_st hC)⟩
  · exact ⟨_, _, _, xI (fun h hX => k_copy_bad hX hb (by omega)), yI rfl (fun h hY => y_copy_bad hY hb (by omega)), clSS hC⟩
set_option maxRecDepth 100000 in
theorem cp_feed {G : mj_G} {σ τ : Nat → Nat → Int32} (hC : CR σ τ) (x1 : Int32) : cpl .int G MX4_feed MX5_feed [.int x1] σ τ := by
  obtain ⟨n, h7, hn, hu, hr, hcase⟩ := CRn hC
  obtain ⟨-, -, -, -, ⟨l, y1, y2, y3, y4, y5⟩, -⟩ := id hC
  by_cases hb : Wi x1 0 255
  · by_cases hl : l < 120
    · exact ⟨_, _, _, xS (fun h hX => k_feed hX hb y1 hl (by omega)), yS rfl (fun h hY => y_feed hY hb y2 hl (by omega)), clSS (CR_feed hC hb y1 hl)⟩
    · have e : l = 120 := by omega
      subst e
      exact ⟨_, _, _, xI (fun h hX => k_feed_full hX hb (by rw [y1]; decide) (by omega)), yI rfl (fun h hY => y_feed_full hY hb y2 (by omega)), clSS hC⟩
  · exact ⟨_, _, _, xI (fun h hX => k_feed_bad hX hb (by omega)), yI rfl (fun h hY => y_feed_bad hY hb (by omega)), clSS hC⟩
set_option maxRecDepth 100000 in
theorem cp_street {G : mj_G} {σ τ : Nat → Nat → Int32} (hC : CR σ τ) : cpl .int G MX4_street MX5_street [] σ τ := by
  obtain ⟨n, h7, hn, hu, hr, hcase⟩ := CRn hC
  obtain ⟨-, -, -, -, ⟨l, y1, y2, y3, y4, y5⟩, -⟩ := id hC
  have sc := str_c (f := τ 5) (T := σ 1) (W := τ 6) (V := τ 0) (l := l)
  have hb : bts (σ 31) l := by
    rw [y5]
    exact y4
  have e1 : (strP (σ 31) l (σ 1)).1 = (strY (τ 5) l (τ 6)).1 := by
    rw [y5]
    exact sc.1
  by_cases hf : (strP (σ 31) l (σ 1)).1.1 = 0
  · have hf2 : (strY (τ 5) l (τ 6)).1.1 = 0 := by
      rw [← e1]
      exact hf
    have sg : ∃ n, gd n (strP (σ 31) l (σ 1)).2.1 (cpB (τ 0) (strY (τ 5) l (τ 6)).2.1 48) ∧ (strY (τ 5) l (τ 6)).2.1 2 = nI n := by
      rw [y5] at hf ⊢
      exact sc.2 hf
    obtain ⟨m, hg, hm⟩ := sg
    refine ⟨_, _, _, xE (fun h hX => k_street hX y1 y3 hb hf (by omega)), yE ((gd2 hg).trans hm.symm) (fun h hY => y_street hY y2 y3 y4 hf2 (by omega)), ?_⟩
    rintro s t ⟨p1, p2, p3, p4, p5⟩ ⟨r1, r2, r3, r4, r5, r6⟩
    exact CR_new (n := m) (l := 0) hC (by rw [p1, r1]; exact hg) p5 p2 p3 p4 r3 (by omega) (fun k hk => absurd hk (by omega)) r6 (by rw [r2]; decide) r4 r5
  · have hf2 : ¬ (strY (τ 5) l (τ 6)).1.1 = 0 := by
      rw [← e1]
      exact hf
    refine ⟨_, _, _, xE (fun h hX => k_street_f hX y1 y3 hb hf (by omega)), yE (by rw [e1]) (fun h hY => y_street_f hY y2 y3 y4 hf2 (by omega)), ?_⟩
    rintro s t ⟨p1, p2, p3⟩ ⟨r1, r2, r3, r4⟩
    exact CR_flt hC p3 p2 p1 r4 r1 (by rw [r2, e1]) r3
set_option maxRecDepth 100000 in
theorem cp_image {G : mj_G} {σ τ : Nat → Nat → Int32} (hC : CR σ τ) (x1 : Int32) : cpl .int G MX4_image MX5_image [.int x1] σ τ := by
  obtain ⟨n, h7, hn, hu, hr, hcase⟩ := CRn hC
  by_cases hb : Wi x1 0 1
  · rcases hcase with ⟨e0, h0, hi⟩ | ⟨hg, h0, hi⟩
    · exact ⟨_, _, _, xI (fun h hX => k_image_st hX hb h0 (by omega)), yI rfl (fun h hY => y_image_st hY hb hi (by omega)), clSS hC⟩
    · obtain ⟨a, rfl, aa, ab⟩ := Wi_ex hb (by omega)
      exact ⟨_, _, _, xS (fun h hX => k_image hX (by omega) h0 (by omega)), yS rfl (fun h hY => y_image hY (by omega) hi (by omega)), clSS (CR_image hC (by omega) hg hi)⟩
  · exact ⟨_, _, _, xI (fun h hX => k_image_bad hX hb (by omega)), yI rfl (fun h hY => y_image_bad hY hb (by omega)), clSS hC⟩
set_option maxRecDepth 100000 in
theorem cp_restore {G : mj_G} {σ τ : Nat → Nat → Int32} (hC : CR σ τ) (x1 : Int32) : cpl .int G MX4_restore MX5_restore [.int x1] σ τ := by
  obtain ⟨n, h7, hn, hu, hr, hcase⟩ := CRn hC
  by_cases hb : Wi x1 0 1
  · obtain ⟨a, rfl, aa, ab⟩ := Wi_ex hb (by omega)
    rcases hC.2.2.1 a (by omega) with ⟨q1, q2⟩ | ⟨q1, q2, m, hg⟩
    · exact ⟨_, _, _, xI (fun h hX => k_restore_st hX (by omega) q1 (by omega)), yI rfl (fun h hY => y_restore_st hY (by omega) q2 (by omega)), clSS hC⟩
    · have h0 : 0 < σ (26 + a) 2 := by
        have e : σ (26 + a) 2 = nI m := gd2 hg
        rw [e]
        exact nI_p hg.1 hg.2.1
      obtain ⟨-, -, -, -, ⟨l, y1, y2, y3, y4, y5⟩, -⟩ := id hC
      refine ⟨_, _, _, xS (fun h hX => k_restore hX (by omega) h0 (by omega)), yS rfl (fun h hY => y_restore hY (by omega) q1 (by omega)), clSS (CR_new (n := m) (l := l) hC ?_ (fun j p1 p2 p3 p4 => ?_) rfl rfl y1 y2 y3 y4 (fun j p1 p2 p3 => ?_) q2 rfl (fun k hk => ?_))⟩
      · show gd m (σ (26 + a)) (mvF (τ 10) (τ 0) (48 * a) 48)
        refine gd_48 hg (fun q hq => ?_)
        unfold mvF cpI
        rw [if_pos (by omega)]
        show τ 10 (48 * a + (q - 0)) = τ 10 (48 * a + q)
        rw [Nat.sub_zero]
      · rw [uA_id p3, u2_ne p1]
      · rw [u2_ne p3, u2_ne p1]
      · rw [u2_eq, up_ne (by omega)]
  · exact ⟨_, _, _, xI (fun h hX => k_restore_bad hX hb (by omega)), yI rfl (fun h hY => y_restore_bad hY hb (by omega)), clSS hC⟩
theorem knd {n j : Nat} {U : Nat → Int32} (h : okK n U) (hj : j < n) : ∃ c, 1 ≤ c ∧ c ≤ 5 ∧ U (6 + j) = nI c := by
  rcases (h.2.2 j hj).2 with e | e | e | e | e
  · exact ⟨1, by omega, by omega, e⟩
  · exact ⟨2, by omega, by omega, e⟩
  · exact ⟨3, by omega, by omega, e⟩
  · exact ⟨4, by omega, by omega, e⟩
  · exact ⟨5, by omega, by omega, e⟩
theorem such01 {c w : Nat} : such c w = 1 ∨ such c w = 0 := by
  unfold such
  split
  · exact Or.inl rfl
  · exact Or.inr rfl
set_option maxRecDepth 100000 in
theorem cp_as {G : mj_G} {σ τ : Nat → Nat → Int32} (hC : CR σ τ) (x1 x2 : Int32) : cpl .int G MX4_as MX5_as [.int x1, .int x2] σ τ := by
  obtain ⟨n, h7, hn, hu, hr, hcase⟩ := CRn hC
  by_cases hb : Hs n x1 ∧ Wi x2 0 5
  · obtain ⟨j, hj, rfl⟩ := Hs_ex hb.1
    obtain ⟨hg, h0, hi⟩ := CRg hcase hj
    obtain ⟨w, rfl, wa, wb⟩ := Wi_ex hb.2 (by omega)
    obtain ⟨c, c1, c5, ec⟩ := knd (gdK hg) hj
    have ec2 : τ 0 (6 + j) = nI c := (RS6 hr h7 hj).symm.trans ec
    rcases such01 (c := c) (w := w) with hs | hs
    · exact ⟨_, _, _, xS (fun h hX => k_as hX hn h7 hj ec c1 c5 (by omega) hs (by omega)), yS rfl (fun h hY => y_as hY hu h7 hj ec2 c1 c5 (by omega) hs (by omega)), clSS (CR_st hC)⟩
    · exact ⟨_, _, _, xS (fun h hX => k_as_f hX hn h7 hj ec c1 c5 (by omega) hs (by omega)), yS rfl (fun h hY => y_as_f hY hu h7 hj ec2 c1 c5 (by omega) hs (by omega)), clSS (CR_st hC)⟩
  · exact ⟨_, _, _, xI (fun h hX => k_as_bad hX hn h7 hb (by omega)), yI rfl (fun h hY => y_as_bad hY hu h7 hb (by omega)), clSS hC⟩
set_option maxRecDepth 100000 in
theorem cp_ask {G : mj_G} {σ τ : Nat → Nat → Int32} (hC : CR σ τ) (x1 x2 : Int32) : cpl .int G MX4_ask MX5_ask [.int x1, .int x2] σ τ := by
  obtain ⟨n, h7, hn, hu, hr, hcase⟩ := CRn hC
  by_cases hb : Hs n x1 ∧ Wi x2 0 1
  · obtain ⟨j, hj, rfl⟩ := Hs_ex hb.1
    obtain ⟨hg, h0, hi⟩ := CRg hcase hj
    obtain ⟨w, rfl, wa, wb⟩ := Wi_ex hb.2 (by omega)
    have hw : w = 0 ∨ w = 1 := by omega
    obtain ⟨c, c1, c5, ec⟩ := knd (gdK hg) hj
    have ec2 : τ 0 (6 + j) = nI c := (RS6 hr h7 hj).symm.trans ec
    have s13 := RS13 hr h7 hj
    have s34 := RS34 hr h7 hj
    have hc : c = 1 ∨ c = 2 ∨ c = 3 ∨ c = 4 ∨ c = 5 := by omega
    rcases hw with rfl | rfl
    · rcases hc with rfl | rfl | rfl | rfl | rfl
      · exact ⟨_, _, _, xS (fun h hX => k_ask_1_0 hX hn h7 hj ec (by omega)), yS (by rw [s13, s34]) (fun h hY => y_ask_1_0 hY hu h7 hj ec2 (by omega)), clSS (AR_C hC (AR_s (AR_s (AR_s (AR_s (AR_0 hC))))))⟩
      · exact ⟨_, _, _, xS (fun h hX => k_ask_2_0 hX hn h7 hj ec (by omega)), yS (by rw [s13, s34]) (fun h hY => y_ask_2_0 hY hu h7 hj ec2 (by omega)), clSS (AR_C hC (AR_s (AR_s (AR_s (AR_s (AR_s (AR_s (AR_0 hC))))))))⟩
      · exact ⟨_, _, _, xS (fun h hX => k_ask_3_0 hX hn h7 hj ec (by omega)), yS (by rw [s13, s34]) (fun h hY => y_ask_3_0 hY hu h7 hj ec2 (by omega)), clSS (AR_C hC (AR_s (AR_s (AR_s (AR_s (AR_s (AR_0 hC)))))))⟩
      · exact ⟨_, _, _, xS (fun h hX => k_ask_4_0 hX hn h7 hj ec (by omega)), yS (by rw [s13]) (fun h hY => y_ask_4_0 hY hu h7 hj ec2 (by omega)), clSS (AR_C hC (AR_s (AR_s (AR_0 hC))))⟩
      · exact ⟨_, _, _, xS (fun h hX => k_ask_5_0 hX hn h7 hj ec (by omega)), yS (by rw [s13]) (fun h hY => y_ask_5_0 hY hu h7 hj ec2 (by omega)), clSS (AR_C hC (AR_s (AR_s (AR_s (AR_0 hC)))))⟩
    · rcases hc with rfl | rfl | rfl | rfl | rfl
      · exact ⟨_, _, _, xS (fun h hX => k_ask_1_1 hX hn h7 hj ec (by omega)), yS (by rw [s34]) (fun h hY => y_ask_1_1 hY hu h7 hj ec2 (by omega)), clSS (AR_C hC (AR_s (AR_s (AR_0 hC))))⟩
      · exact ⟨_, _, _, xS (fun h hX => k_ask_2_1 hX hn h7 hj ec (by omega)), yS (by rw [s34]) (fun h hY => y_ask_2_1 hY hu h7 hj ec2 (by omega)), clSS (AR_C hC (AR_s (AR_s (AR_s (AR_0 hC)))))⟩
      · exact ⟨_, _, _, xS (fun h hX => k_ask_3_1 hX hn h7 hj ec (by omega)), yS (by rw [s34]) (fun h hY => y_ask_3_1 hY hu h7 hj ec2 (by omega)), clSS (AR_C hC (AR_s (AR_s (AR_s (AR_0 hC)))))⟩
      · exact ⟨_, _, _, xS (fun h hX => k_ask_4_1 hX hn h7 hj ec (by omega)), yS (by rw [s13]) (fun h hY => y_ask_4_1 hY hu h7 hj ec2 (by omega)), clSS (AR_C hC (AR_s (AR_s (AR_s (AR_s (AR_0 hC))))))⟩
      · exact ⟨_, _, _, xS (fun h hX => k_ask_5_1 hX hn h7 hj ec (by omega)), yS (by rw [s13]) (fun h hY => y_ask_5_1 hY hu h7 hj ec2 (by omega)), clSS (AR_C hC (AR_s (AR_s (AR_s (AR_s (AR_s (AR_0 hC)))))))⟩
  · exact ⟨_, _, _, xI (fun h hX => k_ask_bad hX hn h7 hb (by omega)), yI rfl (fun h hY => y_ask_bad hY hu h7 hb (by omega)), clSS hC⟩
set_option maxRecDepth 100000 in
theorem cp_who {G : mj_G} {σ τ : Nat → Nat → Int32} (hC : CR σ τ) (x1 x2 x3 x4 x5 x6 : Int32) : cpl .int G MX4_who MX5_who [.int x1, .int x2, .int x3, .int x4, .int x5, .int x6] σ τ := by
  obtain ⟨n, h7, hn, hu, hr, hcase⟩ := CRn hC
  by_cases hb : (Hs n x1 ∧ Wi x2 0 2 ∧ Hs n x3) ∧ Wi x4 0 7 ∧ Wi x6 1 12
  · obtain ⟨a, rfl, aa, ab⟩ := Wi_ex hb.2.1 (by omega)
    rcases CRr hC (show a < 8 by omega) with ⟨q1, q2⟩ | ⟨q1, q2, q3, q4, q5, q6⟩
    · have e := fn_1 (s := σ 30 a) (i := x5) (x := x6) q1
      exact ⟨_, _, _, xS (fun h hX => k_who_f hX hn h7 (by omega) hb.1.1 hb.1.2.1 hb.1.2.2 hb.2.2 (by rw [e]; decide) (by omega)), yS (by rw [e]) (fun h hY => y_who_null hY hu h7 (by omega) hb.1.1 hb.1.2.1 hb.1.2.2 hb.2.2 q2 (by omega)), clSS (by rw [e]; exact CR_st hC)⟩
    · have hx0 : 0 ≤ x6 := i_ge' (by have := hb.2.2.1; omega)
      by_cases hp : 0 ≤ x5 ∧ x5 ≤ τ 2 a - x6
      · obtain ⟨i, k, rfl, rfl, hik⟩ := pl_ex q5 hx0 hp.1 hp.2
        have e : fndR (σ 29 a) (σ 30 a) (nI i) (nI k) = 0 := fn_0 q1 ⟨hp.1, hx0, by rw [q4]; exact hp.2⟩
        have hk1 : 1 ≤ k ∧ k ≤ 12 := by
          have h1 := hb.2.2.1
          have h2 := hb.2.2.2
          rw [nI_toInt (by omega)] at h1 h2
          omega
        have hit : ∀ q, q < k → σ (34 + a) (i + q) = τ 3 (40 * a + i + q) := fun q hq => by
          rw [q6 (i + q) (by omega), Nat.add_assoc]
        obtain ⟨j, hj, rfl⟩ := Hs_ex hb.1.1
        obtain ⟨j2, hj2, rfl⟩ := Hs_ex hb.1.2.2
        obtain ⟨hg, h0, hi⟩ := CRg hcase hj
        obtain ⟨w, rfl, wa, wb⟩ := Wi_ex hb.1.2.1 (by omega)
        have hw : w = 0 ∨ w = 1 ∨ w = 2 := by omega
        rcases hw with rfl | rfl | rfl
        · exact ⟨_, _, _, xG (fun h hX => k_who0 hX hn h7 (gdK hg) hj hj2 (by omega) hk1.1 hk1.2 hik e (by omega)), yS (fitF_c h7 hj2 hr hit _ _ _) (fun h hY => y_who0 hY hu h7 hg.2.2.2.1 hj hj2 (by omega) hk1.1 hk1.2 hik q2 hp (by omega)), clES (fun F => CR_fs hC)⟩
        · exact ⟨_, _, _, xG (fun h hX => k_who1 hX hn h7 (gdK hg) hj hj2 (by omega) hk1.1 hk1.2 hik e (by omega)), yS (fitF_c h7 hj2 hr hit _ _ _) (fun h hY => y_who1 hY hu h7 hg.2.2.2.1 hj hj2 (by omega) hk1.1 hk1.2 hik q2 hp (by omega)), clES (fun F => CR_fs hC)⟩
        · exact ⟨_, _, _, xG (fun h hX => k_who2 hX hn h7 (gdK hg) hj hj2 (by omega) hk1.1 hk1.2 hik e (by omega)), yS (fitF_c h7 hj2 hr hit _ _ _) (fun h hY => y_who2 hY hu h7 hg.2.2.2.1 hj hj2 (by omega) hk1.1 hk1.2 hik q2 hp (by omega)), clES (fun F => CR_fs hC)⟩
      · have e : fndR (σ 29 a) (σ 30 a) x5 x6 = 2 := fn_2 q1 (fun z => hp ⟨z.1, by rw [← q4]; exact z.2.2⟩)
        exact ⟨_, _, _, xS (fun h hX => k_who_f hX hn h7 (by omega) hb.1.1 hb.1.2.1 hb.1.2.2 hb.2.2 (by rw [e]; decide) (by omega)), yS (by rw [e]) (fun h hY => y_who_place hY hu h7 (by omega) hb.1.1 hb.1.2.1 hb.1.2.2 hb.2.2 q2 hp (by omega)), clSS (by rw [e]; exact CR_st hC)⟩
  · exact ⟨_, _, _, xI (fun h hX => k_who_bad hX hn h7 hb (by omega)), yI rfl (fun h hY => y_who_bad hY hu h7 hb (by omega)), clSS hC⟩
set_option maxRecDepth 100000 in
theorem cp_silent {G : mj_G} {σ τ : Nat → Nat → Int32} (hC : CR σ τ) (x1 x2 x3 x4 : Int32) : cpl .int G MX4_silent MX5_silent [.int x1, .int x2, .int x3, .int x4] σ τ := by
  obtain ⟨n, h7, hn, hu, hr, hcase⟩ := CRn hC
  by_cases hb : Hs n x1 ∧ Wi x2 0 7 ∧ Wi x4 1 12
  · obtain ⟨a, rfl, aa, ab⟩ := Wi_ex hb.2.1 (by omega)
    rcases CRr hC (show a < 8 by omega) with ⟨q1, q2⟩ | ⟨q1, q2, q3, q4, q5, q6⟩
    · have e := fn_1 (s := σ 30 a) (i := x3) (x := x4) q1
      exact ⟨_, _, _, xS (fun h hX => k_silent_f hX hn h7 (by omega) hb.1 hb.2.2 (by rw [e]; decide) (by omega)), yS (by rw [e]) (fun h hY => y_silent_null hY hu h7 (by omega) hb.1 hb.2.2 q2 (by omega)), clSS (by rw [e]; exact CR_st hC)⟩
    · have hx0 : 0 ≤ x4 := i_ge' (by have := hb.2.2.1; omega)
      by_cases hp : 0 ≤ x3 ∧ x3 ≤ τ 2 a - x4
      · obtain ⟨i, k, rfl, rfl, hik⟩ := pl_ex q5 hx0 hp.1 hp.2
        have e : fndR (σ 29 a) (σ 30 a) (nI i) (nI k) = 0 := fn_0 q1 ⟨hp.1, hx0, by rw [q4]; exact hp.2⟩
        have hk1 : 1 ≤ k ∧ k ≤ 12 := by
          have h1 := hb.2.2.1
          have h2 := hb.2.2.2
          rw [nI_toInt (by omega)] at h1 h2
          omega
        have hit : ∀ q, q < k → σ (34 + a) (i + q) = τ 3 (40 * a + i + q) := fun q hq => by
          rw [q6 (i + q) (by omega), Nat.add_assoc]
        obtain ⟨j, hj, rfl⟩ := Hs_ex hb.1
        obtain ⟨hg, h0, hi⟩ := CRg hcase hj
        have ea : siF n j (σ (34 + a)) i k (σ 0) n 0 (if asF n j (σ (34 + a)) i k 0 (σ 0) = 0 then 0 else 128) = siF n j (τ 3) (40 * a + i) k (τ 0) n 0 (if asF n j (τ 3) (40 * a + i) k 0 (τ 0) = 0 then (0 : Int32) else 128) := by
          rw [asF_c h7 hj k 0 _ _ hr (fun q hq => hit q (by omega)), siF_c h7 hj hr hit]
        exact ⟨_, _, _, xG (fun h hX => k_silent hX hn h7 (gdK hg) hj (by omega) hk1.1 hk1.2 hik e (by omega)), yS ea (fun h hY => y_silent hY hu h7 hg.2.2.2.1 hj (by omega) hk1.1 hk1.2 hik q2 hp (by omega)), clES (fun F => CR_fs hC)⟩
      · have e : fndR (σ 29 a) (σ 30 a) x3 x4 = 2 := fn_2 q1 (fun z => hp ⟨z.1, by rw [← q4]; exact z.2.2⟩)
        exact ⟨_, _, _, xS (fun h hX => k_silent_f hX hn h7 (by omega) hb.1 hb.2.2 (by rw [e]; decide) (by omega)), yS (by rw [e]) (fun h hY => y_silent_place hY hu h7 (by omega) hb.1 hb.2.2 q2 hp (by omega)), clSS (by rw [e]; exact CR_st hC)⟩
  · exact ⟨_, _, _, xI (fun h hX => k_silent_bad hX hn h7 hb (by omega)), yI rfl (fun h hY => y_silent_bad hY hu h7 hb (by omega)), clSS hC⟩
