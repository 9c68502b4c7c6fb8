theorem mtk_let {f : Nat → Int32} {l i : Nat} {c : Int32} (hc : lt c) : tok f l i = c ↔ mtk f l i = 1 ∧ f i = c := by
  have c1 : ¬ (258 : Int32) = c := fun z => by subst z; exact absurd hc (by decide)
  have c2 : ¬ (256 : Int32) = c := fun z => by subst z; exact absurd hc (by decide)
  have c3 : ¬ (257 : Int32) = c := fun z => by subst z; exact absurd hc (by decide)
  unfold tok mtk
  by_cases h1 : i < l
  · rw [if_pos h1, if_pos h1]
    by_cases h2 : dg (f i)
    · rw [if_pos h2, if_pos h2]
      by_cases h3 : endF f l i - i ≤ 2
      · rw [if_pos h3, if_pos h3]
        exact ⟨fun z => absurd z c2, fun z => absurd z.1 (by decide)⟩
      · rw [if_neg h3, if_neg h3]
        exact ⟨fun z => absurd z c3, fun z => absurd z.1 (by decide)⟩
    · rw [if_neg h2, if_neg h2]
      by_cases h3 : lt (f i)
      · rw [if_pos h3]
        exact ⟨fun z => ⟨rfl, z⟩, fun z => z.2⟩
      · rw [if_neg h3]
        exact ⟨fun z => absurd (z ▸ hc) h3, fun z => absurd z.1 (by decide)⟩
  · rw [if_neg h1, if_neg h1]
    exact ⟨fun z => absurd z c1, fun z => absurd z.1 (by decide)⟩
theorem mtk_end {f : Nat → Int32} {l i : Nat} (hb : bts f l) : tok f l i = 258 ↔ mtk f l i = 3 := by
  unfold tok mtk
  by_cases h1 : i < l
  · rw [if_pos h1, if_pos h1]
    by_cases h2 : dg (f i)
    · rw [if_pos h2, if_pos h2]
      by_cases h3 : endF f l i - i ≤ 2
      · rw [if_pos h3, if_pos h3]
        decide
      · rw [if_neg h3, if_neg h3]
        decide
    · rw [if_neg h2, if_neg h2]
      refine ⟨fun z => ?_, fun z => ?_⟩
      · have := (hb i h1).2
        rw [z] at this
        exact absurd this (by decide)
      · split at z <;> exact absurd z (by decide)
  · rw [if_neg h1, if_neg h1]
    decide
theorem mtk_num {f : Nat → Int32} {l i : Nat} (hb : bts f l) : tok f l i = 256 ↔ mtk f l i = 2 := by
  unfold tok mtk
  by_cases h1 : i < l
  · rw [if_pos h1, if_pos h1]
    by_cases h2 : dg (f i)
    · rw [if_pos h2, if_pos h2]
      by_cases h3 : endF f l i - i ≤ 2
      · rw [if_pos h3, if_pos h3]
        decide
      · rw [if_neg h3, if_neg h3]
        decide
    · rw [if_neg h2, if_neg h2]
      refine ⟨fun z => ?_, fun z => ?_⟩
      · have := (hb i h1).2
        rw [z] at this
        exact absurd this (by decide)
      · split at z <;> exact absurd z (by decide)
  · rw [if_neg h1, if_neg h1]
    decide
set_option maxRecDepth 100000 in
set_option maxHeartbeats 4000000 in
theorem y_isLetter {G : mj_G} {h : mj_H} {d : Nat} {τ : Nat → Nat → Int32} {X : Nat → Int32} (hY : YS G h (u2 τ 12 X)) {l i : Nat} (hS : tS (τ 5) l X i) {c : Int32} (hc : lt c) : mj_con G MX5_isLetter d 0 0 [.ref (G.1 + 220), .int c] h (rI (if tok (τ 5) l i = c then 1 else 0) h) := by
  refine mj_conV okX5_isLetter (ls := [some (.ref (G.1 + 220)), some (.int c)]) rfl rfl ?_
  obtain ⟨y0, y1, y2, y3, y4, y5, y6, y7, y8, y9, y10, y11, y12⟩ := id hY
  replace y0 : h.2 220 = YO G (X) := y0
  replace y7 : h.2 227 = mj_ar 0 48 (τ 6) := y7
  obtain ⟨s1, s2, s3, s4, s5, s6⟩ := id hS
  refine s_aload_n (n := 1) (i := 0) dX5_isLetter_0 rfl rfl rfl ?_
  refine gf_X5_88 (n := 4) rfl dX5_isLetter_1 rfl (by assumption) (by rfl) ?_
  refine s_iconst (n := 5) (v := 1) dX5_isLetter_4 rfl (by decide) ?_
  rw [s4]
  refine s_icmp_ne (n := 8) (tgt := 20) dX5_isLetter_5 rfl rfl (fun b5 => ?_) (fun b5 => ?_)
  · have q : ¬ tok (τ 5) l i = c := fun z => b5 ((mtk_let hc).mp z).1
    refine s_iconst (n := 21) (v := 0) dX5_isLetter_20 rfl (by decide) ?_
    refine s_ireturn dX5_isLetter_21 rfl (rfl) (Nat.le_refl _) (Nat.le_refl _) ?_
    refine rI_ok ?_
    first | rw [if_pos (by exact q)] | rw [if_neg (by exact q)]
  · have s7 := s6 b5
    refine s_aload_n (n := 9) (i := 0) dX5_isLetter_8 rfl rfl rfl ?_
    refine gf_X5_91 (n := 12) rfl dX5_isLetter_9 rfl (by assumption) (by rfl) ?_
    refine s_iload_n (n := 13) (i := 1) dX5_isLetter_12 rfl rfl rfl ?_
    refine s_icmp_ne (n := 16) (tgt := 20) dX5_isLetter_13 rfl rfl (fun b13 => ?_) (fun b13 => ?_)
    · have q : ¬ tok (τ 5) l i = c := fun z => b13 (s7.trans ((mtk_let hc).mp z).2)
      refine s_iconst (n := 21) (v := 0) dX5_isLetter_20 rfl (by decide) ?_
      refine s_ireturn dX5_isLetter_21 rfl (rfl) (Nat.le_refl _) (Nat.le_refl _) ?_
      refine rI_ok ?_
      first | rw [if_pos (by exact q)] | rw [if_neg (by exact q)]
    · have q : tok (τ 5) l i = c := (mtk_let hc).mpr ⟨b5, s7.symm.trans b13⟩
      refine s_iconst (n := 17) (v := 1) dX5_isLetter_16 rfl (by decide) ?_
      refine s_goto (tgt := 21) dX5_isLetter_17 rfl ?_
      refine s_ireturn dX5_isLetter_21 rfl (rfl) (Nat.le_refl _) (Nat.le_refl _) ?_
      refine rI_ok ?_
      first | rw [if_pos (by exact q)] | rw [if_neg (by exact q)]
