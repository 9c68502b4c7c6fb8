theorem mtk_let {f : Nat → Int32} {l i : Nat} {c : Int32} (hc : lt c) : tok f l i = c ↔ mtk f l i = 1 ∧ f i = c := by
  have c1 : ¬ (258 : Int32) = c := fun z => by subst z; exact absurd hc (by decide)
  have c2 : ¬ (256 : Int32) = c := fun z => by subst z; exact absurd hc (by decide)
  have c3 : ¬ (257 : Int32) = c := fun z => by subst z; exact absurd hc (by decide)
  unfold tok mtk
  by_cases h1 : i < l
  · rw [if_pos h1, if_pos h1]
    by_cases h2 : dg (f i)
    · rw [if_pos h2, if_pos h2]
      by_cases h3 : endF f l i - i ≤ 2
      · rw [if_pos h3, if_pos h3]
        exact ⟨fun z => absurd z c2, fun z => absurd z.1 (by decide)⟩
      · rw [if_neg h3, if_neg h3]
        exact ⟨fun z => absurd z c3, fun z => absurd z.1 (by decide)⟩
    · rw [if_neg h2, if_neg h2]
      by_cases h3 : lt (f i)
      · rw [if_pos h3]
        exact ⟨fun z => ⟨rfl, z⟩, fun z => z.2⟩
      · rw [if_neg h3]
        exact ⟨fun z => absurd (z ▸ hc) h3, fun z => absurd z.1 (by decide)⟩
  · rw [if_neg h1, if_neg h1]
    exact ⟨fun z => absurd z c1, fun z => absurd z.1 (by decide)⟩
theorem mtk_end {f : Nat → Int32} {l i : Nat} (hb : bts f l) : tok f l i = 258 ↔ mtk f l i = 3 := by
  unfold tok mtk
  by_cases h1 : i < l
  · rw [if_pos h1, if_pos h1]
    by_cases h2 : dg (f i)
    · rw [if_pos h2, if_pos h2]
      by_cases h3 : endF f l i - i ≤ 2
      · rw [if_pos h3, if_pos h3]
        decide
      · rw [if_neg h3, if_neg h3]
        decide
    · rw [if_neg h2, if_neg h2]
      refine ⟨fun z => ?_, fun z => ?_⟩
      · have := (hb i h1).2
        rw [z] at this
        exact absurd this (by decide)
      · split at z <;> exact absurd z (by decide)
  · rw [if_neg h1, if_neg h1]
    decide
theorem mtk_num {f : Nat → Int32} {l i : Nat} (hb : bts f l) : tok f l i = 256 ↔ mtk f l i = 2 := by
  unfold tok mtk
  by_cases h1 : i < l
  · rw [if_pos h1, if_pos h1]
    by_cases h2 : dg (f i)
    · rw [if_pos h2, if_pos h2]
      by_cases h3 : endF f l i - i ≤ 2
      · rw [if_pos h3, if_pos h3]
        decide
      · rw [if_neg h3, if_neg h3]
        decide
    · rw [if_neg h2, if_neg h2]
      refine ⟨fun z => ?_, fun z => ?_⟩
      · have := (hb i h1).2
        rw [z] at this
        exact absurd this (by decide)
      · split at z <;> exact absurd z (by decide)
  · rw [if_neg h1, if_neg h1]
    decide
set_option maxRecDepth 100000 in
set_option maxHeartbeats 4000000 in
theorem y_isLetter {G : mj_G} {h : mj_H} {d : Nat} {τ : Nat → Nat → Int32} {X : Nat → Int32} (hY : YS G h (u2 τ 12 X)) {l i : Nat} (hS : tS (τ 5) l X i) {c : Int32} (hc : lt c) : mj_con G MX5_isLetter d 0 0 [.ref (G.1 + 220), .int c] h (rI (if tok (τ 5) l i = c then 1 else 0) h) := by
  refine mj_conV okX5_isLetter (ls := [some (.ref (G.1 + 220)), some (.int c)]) rfl rfl ?_
  obtain ⟨y0, y1, y2, y3, y4, y5, y6, y7, y8, y9, y10, y11, y12⟩ := id hY
  replace y0 : h.2 220 = YO G (X) := y0
  replace y7 : h.2 227 = mj_ar 0 48 (τ 6) := y7
  obtain ⟨s1, s2, s3, s4, s5, s6⟩ := id hS
  refine s_aload_n (n := 1) (i := 0) dX5_isLetter_0 rfl rfl rfl ?_
  refine gf_X5_88 (n := 4) rfl dX5_isLetter_1 rfl (by assumption) (by rfl) ?_
  refine s_iconst (n := 5) (v := 1) dX5_isLetter_4 rfl (by decide) ?_
  rw [s4]
  refine s_icmp_ne (n := 8) (tgt := 20) dX5_isLetter_5 rfl rfl (fun b5 => ?_) (fun b5 => ?_)
  · have q : ¬ tok (τ 5) l i = c := fun z => b5 ((mtk_let hc).mp z).1
    refine s_iconst (n := 21) (v := 0) dX5_isLetter_20 rfl (by decide) ?_
    refine s_ireturn dX5_isLetter_21 rfl (rfl) (Nat.le_refl _) (Nat.le_refl _) ?_
    refine rI_ok ?_
    first | rw [if_pos (by exact q)] | rw [if_neg (by exact q)]
  · have s7 := s6 b5
    refine s_aload_n (n := 9) (i := 0) dX5_isLetter_8 rfl rfl rfl ?_
    refine gf_X5_91 (n := 12) rfl dX5_isLetter_9 rfl (by assumption) (by rfl) ?_
    refine s_iload_n (n := 13) (i := 1) dX5_isLetter_12 rfl rfl rfl ?_
    refine s_icmp_ne (n := 16) (tgt := 20) dX5_isLetter_13 rfl rfl (fun b13 => ?_) (fun b13 => ?_)
    · have q : ¬ tok (τ 5) l i = c := fun z => b13 (s7.trans ((mtk_let hc).mp z).2)
      refine s_iconst (n := 21) (v := 0) dX5_isLetter_20 rfl (by decide) ?_
      refine s_ireturn dX5_isLetter_21 rfl (rfl) (Nat.le_refl _) (Nat.le_refl _) ?_
      refine rI_ok ?_
      first | rw [if_pos (by exact q)] | rw [if_neg (by exact q)]
    · have q : tok (τ 5) l i = c := (mtk_let hc).mpr ⟨b5, s7.symm.trans b13⟩
      refine s_iconst (n := 17) (v := 1) dX5_isLetter_16 rfl (by decide) ?_
      refine s_goto (tgt := 21) dX5_isLetter_17 rfl ?_
      refine s_ireturn dX5_isLetter_21 rfl (rfl) (Nat.le_refl _) (Nat.le_refl _) ?_
      refine rI_ok ?_
      first | rw [if_pos (by exact q)] | rw [if_neg (by exact q)]
/-- what a reader of the text leaves: R.1 a fault or 0, R.2 the token that it stands at -/
def pQ (G : mj_G) (h : mj_H) (τ : Nat → Nat → Int32) (l : Nat) (X : Nat → Int32) (R : Int32 × Nat) : Option Value → mj_H → Prop := fun v h' => v = some (.int (if R.1 = 0 then 1 else 0)) ∧ ∃ X', YS G h' (u2 τ 12 X') ∧ mj_fr 220 13 h h' ∧ (∀ k, k < 4 ∨ 9 ≤ k → X' k = X k) ∧ (R.1 = 0 → tS (τ 5) l X' R.2) ∧ (¬ R.1 = 0 → X' 8 = R.1 ∧ X' 7 = nI R.2)
theorem tkE_l {f : Nat → Int32} {l i : Nat} (h : i ≤ l) : tkE f l i ≤ l := (tkE_le h).2
set_option maxRecDepth 100000 in
set_option maxHeartbeats 4000000 in
theorem y_faults {G : mj_G} {h : mj_H} {d : Nat} {τ : Nat → Nat → Int32} {X : Nat → Int32} (hY : YS G h (u2 τ 12 X)) {f : Int32} : mj_con G MX5_faults d 0 0 [.ref (G.1 + 220), .int f] h (fun v h' => v = some (.int 0) ∧ YS G h' (u2 τ 12 (upd X 8 f)) ∧ mj_fr 220 13 h h') := by
  refine mj_conV okX5_faults (ls := [some (.ref (G.1 + 220)), some (.int f)]) rfl rfl ?_
  obtain ⟨y0, y1, y2, y3, y4, y5, y6, y7, y8, y9, y10, y11, y12⟩ := id hY
  replace y0 : h.2 220 = YO G (X) := y0
  refine s_aload_n (n := 1) (i := 0) dX5_faults_0 rfl rfl rfl ?_
  refine s_iload_n (n := 2) (i := 1) dX5_faults_1 rfl rfl rfl ?_
  refine pf_X5_102 (n := 5) (fs' := [_, _, _, _, _, _, _, _, _, _, _, _, _, _, _, _, _, _, _, _, _, _, _]) rfl dX5_faults_2 rfl (by assumption) (by rfl) (by rfl) ?_
  refine YF_8 (τ := u2 τ 12 X) hY (fun h1 hY1 hF1 => ?_)
  rw [u2_u2, u2_eq] at hY1
  refine s_iconst (n := 6) (v := 0) dX5_faults_5 rfl (by decide) ?_
  refine s_ireturn dX5_faults_6 rfl (rfl) (Nat.le_refl _) (Nat.le_refl _) ?_
  exact ⟨rfl, hY1, hF1⟩
set_option maxRecDepth 100000 in
set_option maxHeartbeats 4000000 in
theorem y_takes {G : mj_G} {h : mj_H} {d : Nat} {τ : Nat → Nat → Int32} {X : Nat → Int32} (hY : YS G h (u2 τ 12 X)) {l i : Nat} (hS : tS (τ 5) l X i) (hl : l ≤ 120) (hi : i ≤ l) (hb : bts (τ 5) l) {c : Int32} (hc : lt c) (hd : 2 ≤ d) : mj_con G MX5_takes d 0 0 [.ref (G.1 + 220), .int c] h (pQ G h τ l X (pB (τ 5) l c i)) := by
  refine mj_conV okX5_takes (ls := [some (.ref (G.1 + 220)), some (.int c)]) rfl rfl ?_
  obtain ⟨y0, y1, y2, y3, y4, y5, y6, y7, y8, y9, y10, y11, y12⟩ := id hY
  replace y0 : h.2 220 = YO G (X) := y0
  replace y7 : h.2 227 = mj_ar 0 48 (τ 6) := y7
  obtain ⟨s1, s2, s3, s4, s5, s6⟩ := id hS
  refine s_aload_n (n := 1) (i := 0) dX5_takes_0 rfl rfl rfl ?_
  refine s_iload_n (n := 2) (i := 1) dX5_takes_1 rfl rfl rfl ?_
  refine s_v1 (M' := MX5_isLetter) (n := 5) (ci := 5) dX5_takes_2 rfl wd_X5_105 okX5_isLetter rfl rfl (by omega) ⟨Nat.le_refl _, Nat.le_refl _⟩ (by assumption) (y_isLetter (d := d - 1) hY hS hc) ?_
  rintro v2 hh2 ⟨rfl, rfl⟩
  refine s_if_ne (n := 8) (tgt := 14) dX5_takes_5 rfl rfl (fun b5 => ?_) (fun b5 => ?_)
  · have q : tok (τ 5) l i = c := if1 b5
    have e : pB (τ 5) l c i = (0, tkE (τ 5) l i) := if_pos q
    refine s_aload_n (n := 15) (i := 0) dX5_takes_14 rfl rfl rfl ?_
    refine s_v0 (M' := MX5_nextToken) (n := 18) (ci := 5) dX5_takes_15 rfl wd_X5_111 okX5_nextToken rfl rfl (by omega) ⟨Nat.le_refl _, Nat.le_refl _⟩ (by assumption) (y_next (d := d - 1) hY s1 s3 hl (tkE_l hi) hb (by omega)) ?_
    rintro v15 hh15 ⟨rfl, X2, hY2, hS2, hK2, hF2⟩
    refine s_iconst (n := 19) (v := 1) dX5_takes_18 rfl (by decide) ?_
    refine s_ireturn dX5_takes_19 rfl (rfl) (Nat.le_refl _) (Nat.le_refl _) ?_
    rw [e]
    exact ⟨rfl, _, hY2, hF2, fun k hk => hK2 k (by omega), fun _ => hS2, fun z => absurd rfl z⟩
  · have q : ¬ tok (τ 5) l i = c := if0 b5
    have e : pB (τ 5) l c i = (1, i) := if_neg q
    refine s_aload_n (n := 9) (i := 0) dX5_takes_8 rfl rfl rfl ?_
    refine s_iconst (n := 10) (v := 1) dX5_takes_9 rfl (by decide) ?_
    refine s_v1 (M' := MX5_faults) (n := 13) (ci := 5) dX5_takes_10 rfl wd_X5_108 okX5_faults rfl rfl (by omega) ⟨Nat.le_refl _, Nat.le_refl _⟩ (by assumption) (y_faults (d := d - 1) hY) ?_
    rintro v10 hh10 ⟨rfl, hY1, hF1⟩
    refine s_ireturn dX5_takes_13 rfl (rfl) (Nat.le_refl _) (Nat.le_refl _) ?_
    rw [e]
    exact ⟨rfl, _, hY1, hF1, fun k hk => up_ne (by omega), fun z => absurd z one_ne, fun _ => ⟨up_eq, (up_ne (by omega)).trans s2⟩⟩
/-- the same, and what it has put into read: W, if it found no fault -/
def pR (G : mj_G) (h : mj_H) (τ : Nat → Nat → Int32) (l : Nat) (X W : Nat → Int32) (R : Int32 × Nat) : Option Value → mj_H → Prop := fun v h' => v = some (.int (if R.1 = 0 then 1 else 0)) ∧ ∃ X' W', YS G h' (u2 (u2 τ 6 W') 12 X') ∧ mj_fr 220 13 h h' ∧ (∀ k, k < 4 ∨ 9 ≤ k → X' k = X k) ∧ (R.1 = 0 → tS (τ 5) l X' R.2 ∧ W' = W) ∧ (¬ R.1 = 0 → X' 8 = R.1 ∧ X' 7 = nI R.2)
theorem two_ne : ¬ (2 : Int32) = 0 := by decide
theorem pN_y {f : Nat → Int32} {l i : Nat} {a b : Int} {k : Nat → Int32 × Nat} (h : numP f l i a b) : sq (pN f l a b i) k = k (tkE f l i) := by
  unfold sq pN
  rw [if_pos h]
  exact if_pos rfl
theorem pN_n {f : Nat → Int32} {l i : Nat} {a b : Int} {k : Nat → Int32 × Nat} (h : ¬ numP f l i a b) : sq (pN f l a b i) k = (if tok f l i = 256 then 2 else 1, i) := by
  unfold sq pN
  rw [if_neg h]
  refine if_neg ?_
  show ¬ (if tok f l i = 256 then (2 : Int32) else 1) = 0
  split <;> decide
set_option maxRecDepth 100000 in
set_option maxHeartbeats 4000000 in
theorem y_takesNumber {G : mj_G} {h : mj_H} {d : Nat} {τ : Nat → Nat → Int32} {X : Nat → Int32} (hY : YS G h (u2 τ 12 X)) {l i : Nat} (hS : tS (τ 5) l X i) (hl : l ≤ 120) (hi : i ≤ l) (hb : bts (τ 5) l) {x y c : Int32} {a b : Int} {o : Nat} (ha : x.toInt = a) (hb2 : y.toInt = b) (ho : o < 48) (hc : lt c) (hd : 3 ≤ d) : mj_con G MX5_takesNumber d 0 0 [.ref (G.1 + 220), .int x, .int y, .int (nI o), .int c] h (pR G h τ l X (upd (τ 6) o (tkV (τ 5) l i)) (sq (pN (τ 5) l a b i) (fun i1 => pB (τ 5) l c i1))) := by
  refine mj_conV okX5_takesNumber (ls := [some (.ref (G.1 + 220)), some (.int x), some (.int y), some (.int (nI o)), some (.int c)]) rfl rfl ?_
  obtain ⟨y0, y1, y2, y3, y4, y5, y6, y7, y8, y9, y10, y11, y12⟩ := id hY
  replace y0 : h.2 220 = YO G (X) := y0
  replace y7 : h.2 227 = mj_ar 0 48 (τ 6) := y7
  obtain ⟨s1, s2, s3, s4, s5, s6⟩ := id hS
  refine s_aload_n (n := 1) (i := 0) dX5_takesNumber_0 rfl rfl rfl ?_
  refine gf_X5_88 (n := 4) rfl dX5_takesNumber_1 rfl (by assumption) (by rfl) ?_
  refine s_iconst (n := 5) (v := 2) dX5_takesNumber_4 rfl (by decide) ?_
  rw [s4]
  refine s_icmp_ne (n := 8) (tgt := 23) dX5_takesNumber_5 rfl rfl (fun b5 => ?_) (fun b5 => ?_)
  · have q : ¬ tok (τ 5) l i = 256 := fun z => b5 ((mtk_num hb).mp z)
    refine s_aload_n (n := 24) (i := 0) dX5_takesNumber_23 rfl rfl rfl ?_
    refine s_aload_n (n := 25) (i := 0) dX5_takesNumber_24 rfl rfl rfl ?_
    refine gf_X5_88 (n := 28) rfl dX5_takesNumber_25 rfl (by assumption) (by rfl) ?_
    refine s_iconst (n := 29) (v := 2) dX5_takesNumber_28 rfl (by decide) ?_
    rw [s4]
    refine s_icmp_ne (n := 32) (tgt := 36) dX5_takesNumber_29 rfl rfl (fun b29 => ?_) (fun b29 => ?_)
    · refine s_iconst (n := 37) (v := 1) dX5_takesNumber_36 rfl (by decide) ?_
      refine s_v1 (M' := MX5_faults) (n := 40) (ci := 5) dX5_takesNumber_37 rfl wd_X5_108 okX5_faults rfl rfl (by omega) ⟨Nat.le_refl _, Nat.le_refl _⟩ (by assumption) (y_faults (d := d - 1) hY) ?_
      rintro v37 hh37 ⟨rfl, hY1, hF1⟩
      refine s_ireturn dX5_takesNumber_40 rfl (by first | rfl | exact nar_if) (Nat.le_refl _) (Nat.le_refl _) ?_
      rw [pN_n (by first | exact fun z => q z.1 | exact fun z => q2 z.2)]
      first | exact absurd b29 b5 | exact absurd b5 b29 | (rw [if_neg (by exact q)]; exact ⟨rfl, upd X 8 1, τ 6, (u2_self (σ := τ) (i := 6)).symm ▸ hY1, hF1, fun k hk => up_ne (by omega), fun z => absurd z one_ne, fun _ => ⟨up_eq, (up_ne (by omega)).trans s2⟩⟩) | (rw [if_pos (by exact q)]; exact ⟨rfl, upd X 8 2, τ 6, (u2_self (σ := τ) (i := 6)).symm ▸ hY1, hF1, fun k hk => up_ne (by omega), fun z => absurd z two_ne, fun _ => ⟨up_eq, (up_ne (by omega)).trans s2⟩⟩)
    · refine s_iconst (n := 33) (v := 2) dX5_takesNumber_32 rfl (by decide) ?_
      refine s_goto (tgt := 37) dX5_takesNumber_33 rfl ?_
      refine s_v1 (M' := MX5_faults) (n := 40) (ci := 5) dX5_takesNumber_37 rfl wd_X5_108 okX5_faults rfl rfl (by omega) ⟨Nat.le_refl _, Nat.le_refl _⟩ (by assumption) (y_faults (d := d - 1) hY) ?_
      rintro v37 hh37 ⟨rfl, hY1, hF1⟩
      refine s_ireturn dX5_takesNumber_40 rfl (by first | rfl | exact nar_if) (Nat.le_refl _) (Nat.le_refl _) ?_
      rw [pN_n (by first | exact fun z => q z.1 | exact fun z => q2 z.2)]
      first | exact absurd b29 b5 | exact absurd b5 b29 | (rw [if_neg (by exact q)]; exact ⟨rfl, upd X 8 1, τ 6, (u2_self (σ := τ) (i := 6)).symm ▸ hY1, hF1, fun k hk => up_ne (by omega), fun z => absurd z one_ne, fun _ => ⟨up_eq, (up_ne (by omega)).trans s2⟩⟩) | (rw [if_pos (by exact q)]; exact ⟨rfl, upd X 8 2, τ 6, (u2_self (σ := τ) (i := 6)).symm ▸ hY1, hF1, fun k hk => up_ne (by omega), fun z => absurd z two_ne, fun _ => ⟨up_eq, (up_ne (by omega)).trans s2⟩⟩)
  · have q : tok (τ 5) l i = 256 := (mtk_num hb).mpr b5
    refine s_aload_n (n := 9) (i := 0) dX5_takesNumber_8 rfl rfl rfl ?_
    refine gf_X5_91 (n := 12) rfl dX5_takesNumber_9 rfl (by assumption) (by rfl) ?_
    refine s_i2l (n := 13) dX5_takesNumber_12 rfl ?_
    refine s_iload_n (n := 14) (i := 1) dX5_takesNumber_13 rfl rfl rfl ?_
    refine s_i2l (n := 15) dX5_takesNumber_14 rfl ?_
    refine s_iload_n (n := 16) (i := 2) dX5_takesNumber_15 rfl rfl rfl ?_
    refine s_i2l (n := 17) dX5_takesNumber_16 rfl ?_
    rw [s5 ((mtk_num hb).mpr b5)]
    refine s_s3 (M' := MX5_in) (n := 20) dX5_takesNumber_17 rfl wd_X5_54 okX5_in rfl (by omega) ⟨Nat.le_refl _, Nat.le_refl _⟩ (y_in (d := d - 1) (A := a) (B := b) (by rw [Int32.toInt_toInt64]; exact ha) (by rw [Int32.toInt_toInt64]; exact hb2)) ?_
    rintro v17 hh17 ⟨rfl, rfl⟩
    refine s_if_ne (n := 23) (tgt := 41) dX5_takesNumber_20 rfl rfl (fun b20 => ?_) (fun b20 => ?_)
    · have e := pN_y (k := fun i1 => pB (τ 5) l c i1) (show numP (τ 5) l i a b from ⟨q, if1 b20⟩)
      refine s_aload_n (n := 42) (i := 0) dX5_takesNumber_41 rfl rfl rfl ?_
      refine gf_X5_28 (n := 45) rfl dX5_takesNumber_42 rfl (by assumption) (by rfl) ?_
      refine s_iload_n (n := 46) (i := 3) dX5_takesNumber_45 rfl rfl rfl ?_
      refine s_aload_n (n := 47) (i := 0) dX5_takesNumber_46 rfl rfl rfl ?_
      refine gf_X5_91 (n := 50) rfl dX5_takesNumber_47 rfl (by assumption) (by rfl) ?_
      rw [s5 ((mtk_num hb).mpr b5)]
      refine s_iast (n := 51) dX5_takesNumber_50 rfl (by assumption) (mj_ixn (by omega)) ?_
      refine YA_6 (τ := u2 τ 12 X) hY (fun h2 hY2 hF2 => ?_)
      rw [u2_comm (i := 12) (j := 6) (by omega)] at hY2
      obtain ⟨y0, y1, y2, y3, y4, y5, y6, y7, y8, y9, y10, y11, y12⟩ := id hY2
      replace y0 : h2.2 220 = YO G (X) := y0
      refine s_aload_n (n := 52) (i := 0) dX5_takesNumber_51 rfl rfl rfl ?_
      refine s_v0 (M' := MX5_nextToken) (n := 55) (ci := 5) dX5_takesNumber_52 rfl wd_X5_111 okX5_nextToken rfl rfl (by omega) ⟨Nat.le_refl _, Nat.le_refl _⟩ (by assumption) (y_next (d := d - 1) (τ := u2 τ 6 (upd (τ 6) o (tkV (τ 5) l i))) hY2 s1 s3 hl (tkE_l hi) hb (by omega)) ?_
      rintro v52 hh52 ⟨rfl, X3, hY3, hS3, hK3, hF3⟩
      obtain ⟨y0, y1, y2, y3, y4, y5, y6, y7, y8, y9, y10, y11, y12⟩ := id hY3
      replace y0 : hh52.2 220 = YO G (X3) := y0
      refine s_aload_n (n := 56) (i := 0) dX5_takesNumber_55 rfl rfl rfl ?_
      refine s_iload (n := 58) dX5_takesNumber_56 rfl rfl ?_
      refine s_v1 (M' := MX5_takes) (n := 61) (ci := 5) dX5_takesNumber_58 rfl wd_X5_114 okX5_takes rfl rfl (by omega) ⟨Nat.le_refl _, Nat.le_refl _⟩ (by assumption) (y_takes (d := d - 1) (τ := u2 τ 6 (upd (τ 6) o (tkV (τ 5) l i))) hY3 hS3 hl (tkE_l hi) hb hc (by omega)) ?_
      rintro v58 hh58 ⟨rfl, X4, hY4, hF4, hK4, hR4, hR5⟩
      refine s_ireturn dX5_takesNumber_61 rfl (by first | rfl | exact nar_if) (Nat.le_refl _) (Nat.le_refl _) ?_
      rw [e]
      exact ⟨rfl, _, _, hY4, fr_tr hF2 (fr_tr hF3 hF4), fun k hk => (hK4 k hk).trans (hK3 k (by omega)), fun z => ⟨hR4 z, rfl⟩, hR5⟩
    · have q2 : ¬ Wi (tkV (τ 5) l i) a b := if0 b20
      refine s_aload_n (n := 24) (i := 0) dX5_takesNumber_23 rfl rfl rfl ?_
      refine s_aload_n (n := 25) (i := 0) dX5_takesNumber_24 rfl rfl rfl ?_
      refine gf_X5_88 (n := 28) rfl dX5_takesNumber_25 rfl (by assumption) (by rfl) ?_
      refine s_iconst (n := 29) (v := 2) dX5_takesNumber_28 rfl (by decide) ?_
      rw [s4]
      refine s_icmp_ne (n := 32) (tgt := 36) dX5_takesNumber_29 rfl rfl (fun b29 => ?_) (fun b29 => ?_)
      · refine s_iconst (n := 37) (v := 1) dX5_takesNumber_36 rfl (by decide) ?_
        refine s_v1 (M' := MX5_faults) (n := 40) (ci := 5) dX5_takesNumber_37 rfl wd_X5_108 okX5_faults rfl rfl (by omega) ⟨Nat.le_refl _, Nat.le_refl _⟩ (by assumption) (y_faults (d := d - 1) hY) ?_
        rintro v37 hh37 ⟨rfl, hY1, hF1⟩
        refine s_ireturn dX5_takesNumber_40 rfl (by first | rfl | exact nar_if) (Nat.le_refl _) (Nat.le_refl _) ?_
        rw [pN_n (by first | exact fun z => q z.1 | exact fun z => q2 z.2)]
        first | exact absurd b29 b5 | exact absurd b5 b29 | (rw [if_neg (by exact q)]; exact ⟨rfl, upd X 8 1, τ 6, (u2_self (σ := τ) (i := 6)).symm ▸ hY1, hF1, fun k hk => up_ne (by omega), fun z => absurd z one_ne, fun _ => ⟨up_eq, (up_ne (by omega)).trans s2⟩⟩) | (rw [if_pos (by exact q)]; exact ⟨rfl, upd X 8 2, τ 6, (u2_self (σ := τ) (i := 6)).symm ▸ hY1, hF1, fun k hk => up_ne (by omega), fun z => absurd z two_ne, fun _ => ⟨up_eq, (up_ne (by omega)).trans s2⟩⟩)
      · refine s_iconst (n := 33) (v := 2) dX5_takesNumber_32 rfl (by decide) ?_
        refine s_goto (tgt := 37) dX5_takesNumber_33 rfl ?_
        refine s_v1 (M' := MX5_faults) (n := 40) (ci := 5) dX5_takesNumber_37 rfl wd_X5_108 okX5_faults rfl rfl (by omega) ⟨Nat.le_refl _, Nat.le_refl _⟩ (by assumption) (y_faults (d := d - 1) hY) ?_
        rintro v37 hh37 ⟨rfl, hY1, hF1⟩
        refine s_ireturn dX5_takesNumber_40 rfl (by first | rfl | exact nar_if) (Nat.le_refl _) (Nat.le_refl _) ?_
        rw [pN_n (by first | exact fun z => q z.1 | exact fun z => q2 z.2)]
        first | exact absurd b29 b5 | exact absurd b5 b29 | (rw [if_neg (by exact q)]; exact ⟨rfl, upd X 8 1, τ 6, (u2_self (σ := τ) (i := 6)).symm ▸ hY1, hF1, fun k hk => up_ne (by omega), fun z => absurd z one_ne, fun _ => ⟨up_eq, (up_ne (by omega)).trans s2⟩⟩) | (rw [if_pos (by exact q)]; exact ⟨rfl, upd X 8 2, τ 6, (u2_self (σ := τ) (i := 6)).symm ▸ hY1, hF1, fun k hk => up_ne (by omega), fun z => absurd z two_ne, fun _ => ⟨up_eq, (up_ne (by omega)).trans s2⟩⟩)
