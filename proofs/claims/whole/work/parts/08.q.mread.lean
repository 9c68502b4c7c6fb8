theorem sq_inv {r : Int32 × Nat} {k : Nat → Int32 × Nat} (h : (sq r k).1 = 0) : r.1 = 0 ∧ (k r.2).1 = 0 := by
  unfold sq at h
  by_cases h1 : r.1 = 0
  · rw [if_pos h1] at h
    exact ⟨h1, h⟩
  · rw [if_neg h1] at h
    exact absurd h h1
theorem hsP_ok {f : Nat → Int32} {l i n : Nat} (h : (hsP f l i n).1 = 0) (hi : i ≤ l) : n < 7 ∧ ¬ kdF (tok f l i) = -1 ∧ (hsP f l i n).2 ≤ l := by
  by_cases k0 : kdF (tok f l i) = -1
  · rw [hsP_1 k0] at h
    exact absurd h one_ne
  · by_cases n7 : n < 7
    · refine ⟨n7, k0, ?_⟩
      rw [hsP_h k0 n7, houP_nb] at h ⊢
      obtain ⟨h1, h2⟩ := sq_inv h
      obtain ⟨h3, h4⟩ := sq_inv h2
      rw [sq_0 h1, sq_0 h3, nb_2 h4, nb_2 h3, nb_2 h1]
      exact tkE_l (tkE_l (tkE_l (tkE_l (tkE_l (tkE_l (tkE_l hi))))))
    · rw [hsP_3 k0 n7] at h
      exact absurd h three_ne
theorem bldQ_2 {f : Nat → Int32} {l i n : Nat} {W : Nat → Int32} : bldQ f l i n W 2 = nI (n + 1) := by
  unfold bldQ bldY
  rw [up_ne (by omega), up_ne (by omega), up_ne (by omega), up_eq]
def prsY (f : Nat → Int32) (l : Nat) : Nat → Nat → Nat → (Nat → Int32) → (Int32 × Nat) × ((Nat → Int32) × Nat)
  | 0, i, n, T => ((3, i), (T, n))
  | r + 1, i, n, T => if (hsP f l i n).1 = 0 then (if tok f l (hsP f l i n).2 = 258 then ((0, (hsP f l i n).2), (bldQ f l i n T, n + 1)) else prsY f l r (hsP f l i n).2 (n + 1) (bldQ f l i n T)) else (hsP f l i n, (T, n))
def lawW (f : Nat → Int32) (l : Nat) (W : Nat → Int32) : Nat → Int32 := upd (upd (fillF W 48 0) 0 (tkV f l (tkN f l 1 0))) 1 (tkV f l (tkN f l 3 0))
def strY (f : Nat → Int32) (l : Nat) (W : Nat → Int32) : (Int32 × Nat) × ((Nat → Int32) × Nat) := if (lawP f l 0).1 = 0 then prsY f l 8 (lawP f l 0).2 0 (lawW f l W) else (lawP f l 0, (W, 0))
/-- the houses' loop of the model, n houses read, r more at most -/
def mlS (G : mj_G) (h0 : mj_H) (d l : Nat) (τ : Nat → Nat → Int32) (X0 : Nat → Int32) (r n : Nat) : Prop := ∀ (i : Nat) (h : mj_H) (X W : Nat → Int32), i ≤ l → YS G h (u2 (u2 τ 6 W) 12 X) → tS (τ 5) l X i → W 2 = nI n → n ≤ 7 → mj_fr 220 13 h0 h → (∀ k, k < 4 ∨ 9 ≤ k → X k = X0 k) → mj_wp G MX5_readStreet d 0 0 69 [some (.ref (G.1 + 220)), some (.int 1)] [] h 0 0 (pR G h0 τ l X0 (if tok (τ 5) l i = 258 then (((0 : Int32), i), (W, n)) else prsY (τ 5) l r i n W).2.1 (if tok (τ 5) l i = 258 then (((0 : Int32), i), (W, n)) else prsY (τ 5) l r i n W).1)
set_option maxRecDepth 100000 in
set_option maxHeartbeats 4000000 in
theorem x_mstreet {G : mj_G} {h : mj_H} {d : Nat} {Q : Option Value → mj_H → Prop} (hq : Q (some (.int 0)) h) : mj_wp G MX5_readStreet d 0 0 69 [some (.ref (G.1 + 220)), some (.int 0)] [] h 0 0 Q := by
  refine s_iload_n (n := 70) (i := 1) dX5_readStreet_69 rfl rfl rfl ?_
  refine s_if_eq (n := 73) (tgt := 98) dX5_readStreet_70 rfl rfl (fun b70 => ?_) (fun b70 => ?_)
  · refine s_iload_n (n := 99) (i := 1) dX5_readStreet_98 rfl rfl rfl ?_
    refine s_ireturn dX5_readStreet_99 rfl (rfl) (Nat.le_refl _) (Nat.le_refl _) ?_
    exact hq
  · exact absurd rfl b70
set_option maxRecDepth 100000 in
set_option maxHeartbeats 4000000 in
theorem a_mstreet {G : mj_G} {h0 : mj_H} {d l r n : Nat} {τ : Nat → Nat → Int32} {X0 : Nat → Int32} (hl : l ≤ 120) (hb : bts (τ 5) l) (hd : 5 ≤ d) (ih : mlS G h0 d l τ X0 r (n + 1)) {i : Nat} {h : mj_H} {X W : Nat → Int32} (hi : i ≤ l) (hY : YS G h (u2 (u2 τ 6 W) 12 X)) (hS : tS (τ 5) l X i) (hn : W 2 = nI n) (h7 : n ≤ 7) (hF : mj_fr 220 13 h0 h) (hX : ∀ k, k < 4 ∨ 9 ≤ k → X k = X0 k) : mj_wp G MX5_readStreet d 0 0 90 [some (.ref (G.1 + 220)), some (.int 1)] [] h 0 0 (pR G h0 τ l X0 (prsY (τ 5) l (r + 1) i n W).2.1 (prsY (τ 5) l (r + 1) i n W).1) := by
  obtain ⟨y0, y1, y2, y3, y4, y5, y6, y7, y8, y9, y10, y11, y12⟩ := id hY
  replace y0 : h.2 220 = YO G (X) := y0
  replace y7 : h.2 227 = mj_ar 0 48 (W) := y7
  refine s_aload_n (n := 91) (i := 0) dX5_readStreet_90 rfl rfl rfl ?_
  refine s_v0 (M' := MX5_readHouse) (n := 94) (ci := 5) dX5_readStreet_91 rfl wd_X5_121 okX5_readHouse rfl rfl (by omega) ⟨Nat.le_refl _, Nat.le_refl _⟩ (by assumption) (y_readHouse (d := d - 1) (τ := u2 τ 6 W) hY hS hl hi hb hn h7 (by omega)) ?_
  rintro v91 hh91 ⟨rfl, X1, W1, hY1, hF1, hK1, ok1, no1⟩
  rw [u2_u2] at hY1
  refine s_istore_n (n := 95) (i := 1) (ls' := [_, _]) dX5_readStreet_94 rfl rfl rfl rfl rfl ?_
  refine s_goto (tgt := 69) dX5_readStreet_95 rfl ?_
  by_cases q : (hsP (τ 5) l i n).1 = 0
  · obtain ⟨hS1, hw1⟩ := ok1 q
    obtain ⟨n7, -, hle⟩ := hsP_ok q hi
    subst hw1
    have e : prsY (τ 5) l (r + 1) i n W = (if tok (τ 5) l (hsP (τ 5) l i n).2 = 258 then ((0, (hsP (τ 5) l i n).2), (bldQ (τ 5) l i n W, n + 1)) else prsY (τ 5) l r (hsP (τ 5) l i n).2 (n + 1) (bldQ (τ 5) l i n W)) := if_pos q
    have q1 : (if (hsP ((u2 τ 6 W) 5) l i n).1 = 0 then (1 : Int32) else 0) = 1 := if_pos q
    rw [e, q1]
    exact ih _ _ X1 _ hle hY1 hS1 bldQ_2 (by omega) (fr_tr hF hF1) (fun k hk => (hK1 k hk).trans (hX k hk))
  · have e : prsY (τ 5) l (r + 1) i n W = (hsP (τ 5) l i n, (W, n)) := if_neg q
    have q1 : (if (hsP ((u2 τ 6 W) 5) l i n).1 = 0 then (1 : Int32) else 0) = 0 := if_neg q
    rw [e, q1]
    exact x_mstreet ⟨by rw [if_neg q], X1, W1, hY1, fr_tr hF hF1, fun k hk => (hK1 k hk).trans (hX k hk), fun z => absurd z q, no1⟩
set_option maxRecDepth 100000 in
set_option maxHeartbeats 4000000 in
theorem l_mstreet {G : mj_G} {h0 : mj_H} {d l : Nat} {τ : Nat → Nat → Int32} {X0 : Nat → Int32} (hl : l ≤ 120) (hb : bts (τ 5) l) (hd : 5 ≤ d) : ∀ (r n : Nat), n + r = 8 → 1 ≤ n → mlS G h0 d l τ X0 r n := by
  intro r
  induction r with
  | zero =>
    intro n hn8 hn1 i h X W hi hY hS hn h7 hF hX
    omega
  | succ r ih =>
    intro n hn8 hn1 i h X W hi hY hS hn h7 hF hX
    obtain ⟨s1, s2, s3, s4, s5, s6⟩ := id hS
    obtain ⟨y0, y1, y2, y3, y4, y5, y6, y7, y8, y9, y10, y11, y12⟩ := id hY
    replace y0 : h.2 220 = YO G (X) := y0
    replace y7 : h.2 227 = mj_ar 0 48 (W) := y7
    refine s_iload_n (n := 70) (i := 1) dX5_readStreet_69 rfl rfl rfl ?_
    refine s_if_eq (n := 73) (tgt := 98) dX5_readStreet_70 rfl rfl (fun b70 => ?_) (fun b70 => ?_)
    · exact absurd b70 (by decide)
    · refine s_aload_n (n := 74) (i := 0) dX5_readStreet_73 rfl rfl rfl ?_
      refine gf_X5_88 (n := 77) rfl dX5_readStreet_74 rfl (by assumption) (by rfl) ?_
      rw [s4]
      refine s_iconst (n := 78) (v := 3) dX5_readStreet_77 rfl (by decide) ?_
      refine s_icmp_ne (n := 81) (tgt := 90) dX5_readStreet_78 rfl rfl (fun b78 => ?_) (fun b78 => ?_)
      · have q : ¬ tok (τ 5) l i = 258 := fun z => b78 ((mtk_end hb).mp z)
        rw [if_neg q]
        exact a_mstreet hl hb hd (ih (n + 1) (by omega) (by omega)) hi hY hS hn h7 hF hX
      · have q : tok (τ 5) l i = 258 := (mtk_end hb).mpr b78
        rw [if_pos q]
        refine s_aload_n (n := 82) (i := 0) dX5_readStreet_81 rfl rfl rfl ?_
        refine gf_X5_28 (n := 85) rfl dX5_readStreet_82 rfl (by assumption) (by rfl) ?_
        refine s_iconst (n := 86) (v := 2) dX5_readStreet_85 rfl (by decide) ?_
        refine s_iald (n := 87) dX5_readStreet_86 rfl (by assumption) (mj_ixe (j := 2) rfl (by omega)) ?_
        rw [hn]
        refine s_if_ne (n := 90) (tgt := 98) dX5_readStreet_87 rfl rfl (fun b87 => ?_) (fun b87 => ?_)
        · refine s_iload_n (n := 99) (i := 1) dX5_readStreet_98 rfl rfl rfl ?_
          refine s_ireturn dX5_readStreet_99 rfl (rfl) (Nat.le_refl _) (Nat.le_refl _) ?_
          exact ⟨rfl, X, W, hY, hF, hX, fun _ => ⟨hS, rfl⟩, fun z => absurd rfl z⟩
        · exact absurd (nI_inj (b := 0) (by omega) (by omega) b87) (by omega)
set_option maxRecDepth 100000 in
set_option maxHeartbeats 4000000 in
theorem l_mzero {G : mj_G} {h0 : mj_H} {d : Nat} {τ : Nat → Nat → Int32} {X : Nat → Int32} {Q : Option Value → mj_H → Prop} (K : ∀ h', YS G h' (u2 (u2 τ 6 (fillF (τ 6) 48 0)) 12 X) → mj_fr 220 13 h0 h' → mj_wp G MX5_readStreet d 0 0 26 [some (.ref (G.1 + 220)), some (.int (nI 48))] [] h' 0 0 Q) : ∀ (r i : Nat), i + r = 48 → ∀ (h : mj_H), YS G h (u2 (u2 τ 6 (fillF (τ 6) i 0)) 12 X) → mj_fr 220 13 h0 h → mj_wp G MX5_readStreet d 0 0 7 [some (.ref (G.1 + 220)), some (.int (nI i))] [] h 0 0 Q := by
  intro r
  induction r with
  | zero =>
    intro i hi h hY hF
    have e : i = 48 := by omega
    subst e
    refine s_iload_n (n := 8) (i := 1) dX5_readStreet_7 rfl rfl rfl ?_
    refine s_bipush (n := 10) (v := 48) dX5_readStreet_8 rfl (by decide) ?_
    refine s_icmp_ge (n := 13) (tgt := 26) dX5_readStreet_10 rfl rfl (fun b10 => ?_) (fun b10 => ?_)
    · exact K _ hY hF
    · exact absurd (Int32.le_refl _) b10
  | succ r ih =>
    intro i hi h hY hF
    obtain ⟨y0, y1, y2, y3, y4, y5, y6, y7, y8, y9, y10, y11, y12⟩ := id hY
    replace y0 : h.2 220 = YO G (X) := y0
    replace y7 : h.2 227 = mj_ar 0 48 (fillF (τ 6) i 0) := y7
    refine s_iload_n (n := 8) (i := 1) dX5_readStreet_7 rfl rfl rfl ?_
    refine s_bipush (n := 10) (v := 48) dX5_readStreet_8 rfl (by decide) ?_
    refine s_icmp_ge (n := 13) (tgt := 26) dX5_readStreet_10 rfl rfl (fun b10 => ?_) (fun b10 => ?_)
    · exact absurd ((nI_leE (a := 48) (by omega) (by omega)).mp b10) (by omega)
    · refine s_aload_n (n := 14) (i := 0) dX5_readStreet_13 rfl rfl rfl ?_
      refine gf_X5_28 (n := 17) rfl dX5_readStreet_14 rfl (by assumption) (by rfl) ?_
      refine s_iload_n (n := 18) (i := 1) dX5_readStreet_17 rfl rfl rfl ?_
      refine s_iconst (n := 19) (v := 0) dX5_readStreet_18 rfl (by decide) ?_
      refine s_iast (n := 20) dX5_readStreet_19 rfl (by assumption) (mj_ixn (by omega)) ?_
      rw [fillF_s]
      refine YA_6 (τ := u2 (u2 τ 6 (fillF (τ 6) i 0)) 12 X) hY (fun h1 hY1 hF1 => ?_)
      rw [u2_comm (i := 12) (j := 6) (by omega), u2_u2] at hY1
      refine s_iinc (n := 23) (v := _ + 1) (ls' := [_, _]) dX5_readStreet_20 rfl rfl rfl rfl rfl ?_
      refine s_goto (tgt := 7) dX5_readStreet_23 rfl ?_
      rw [nI_1]
      exact ih (i + 1) (by omega) _ hY1 (fr_tr hF hF1)
theorem pB_2 {f : Nat → Int32} {l i : Nat} {c : Int32} (h : (pB f l c i).1 = 0) : (pB f l c i).2 = tkE f l i := by
  unfold pB at *
  by_cases h2 : tok f l i = c
  · rw [if_pos h2]
  · rw [if_neg h2] at h
    exact absurd h one_ne
theorem l103 : lt 103 := Or.inl (by decide)
set_option maxRecDepth 100000 in
set_option maxHeartbeats 4000000 in
theorem r_mstreet {G : mj_G} {h hz : mj_H} {d : Nat} {τ : Nat → Nat → Int32} {X : Nat → Int32} {l : Nat} (e2 : X 2 = nI l) (hl : l ≤ 120) (hb : bts (τ 5) l) (hd : 5 ≤ d) (hYz : YS G hz (u2 (u2 τ 6 (fillF (τ 6) 48 0)) 12 (upd X 4 0))) (hFz : mj_fr 220 13 h hz) : mj_wp G MX5_readStreet d 0 0 26 [some (.ref (G.1 + 220)), some (.int (nI 48))] [] hz 0 0 (pR G h τ l X (strY (τ 5) l (τ 6)).2.1 (strY (τ 5) l (τ 6)).1) := by
  obtain ⟨y0, y1, y2, y3, y4, y5, y6, y7, y8, y9, y10, y11, y12⟩ := id hYz
  replace y0 : hz.2 220 = YO G (upd X 4 0) := y0
  replace y7 : hz.2 227 = mj_ar 0 48 (fillF (τ 6) 48 0) := y7
  refine s_aload_n (n := 27) (i := 0) dX5_readStreet_26 rfl rfl rfl ?_
  refine s_v0 (M' := MX5_nextToken) (n := 30) (ci := 5) dX5_readStreet_27 rfl wd_X5_111 okX5_nextToken rfl rfl (by omega) ⟨Nat.le_refl _, Nat.le_refl _⟩ (by assumption) (y_next (d := d - 1) (τ := u2 τ 6 (fillF (τ 6) 48 0)) (i := 0) hYz (show upd X 4 0 2 = nI l from (up_ne (by omega)).trans e2) (show upd X 4 0 4 = nI 0 from up_eq) hl (Nat.zero_le _) hb (by omega)) ?_
  rintro v27 hh27 ⟨rfl, X2, hY2, hS2, hK2, hF2⟩
  obtain ⟨y0, y1, y2, y3, y4, y5, y6, y7, y8, y9, y10, y11, y12⟩ := id hY2
  replace y0 : hh27.2 220 = YO G (X2) := y0
  refine s_aload_n (n := 31) (i := 0) dX5_readStreet_30 rfl rfl rfl ?_
  refine s_bipush (n := 33) (v := 103) dX5_readStreet_31 rfl (by decide) ?_
  refine s_v1 (M' := MX5_takes) (n := 36) (ci := 5) dX5_readStreet_33 rfl wd_X5_114 okX5_takes rfl rfl (by omega) ⟨Nat.le_refl _, Nat.le_refl _⟩ (by assumption) (y_takes (d := d - 1) (τ := u2 τ 6 (fillF (τ 6) 48 0)) hY2 hS2 hl (Nat.zero_le _) hb l103 (by omega)) ?_
  rintro v33 hh33 ⟨rfl, X3, hY3, hF3, hK3, ok3, no3⟩
  obtain ⟨y0, y1, y2, y3, y4, y5, y6, y7, y8, y9, y10, y11, y12⟩ := id hY3
  replace y0 : hh33.2 220 = YO G (X3) := y0
  refine s_if_eq (n := 39) (tgt := 65) dX5_readStreet_36 rfl rfl (fun b36 => ?_) (fun b36 => ?_)
  · have q3 : ¬ (pB (τ 5) l 103 0).1 = 0 := if0 b36
    have e : strY (τ 5) l (τ 6) = (pB (τ 5) l 103 0, (τ 6, 0)) := by
      have e0 : lawP (τ 5) l 0 = pB (τ 5) l 103 0 := by
        rw [lawP_nb, sq_n q3]
      unfold strY
      rw [e0, if_neg q3]
    have hres : pR G h τ l X (strY (τ 5) l (τ 6)).2.1 (strY (τ 5) l (τ 6)).1 (some (.int 0)) hh33 := by
      rw [e]
      exact ⟨by rw [if_neg q3], X3, fillF (τ 6) 48 0, hY3, fr_tr hFz (fr_tr hF2 hF3), fun k hk => (hK3 k hk).trans ((hK2 k (by omega)).trans (up_ne (by omega))), fun z => absurd z q3, no3⟩
    refine s_iconst (n := 66) (v := 0) dX5_readStreet_65 rfl (by decide) ?_
    refine s_ireturn dX5_readStreet_66 rfl (rfl) (Nat.le_refl _) (Nat.le_refl _) ?_
    exact hres
  · have q3 : (pB (τ 5) l 103 0).1 = 0 := if1 b36
    have hS3 := ok3 q3
    have e3 := pB_2 q3
    have l3 : (pB (τ 5) l 103 0).2 ≤ l := by
      rw [e3]
      exact tkE_l (Nat.zero_le _)
    refine s_aload_n (n := 40) (i := 0) dX5_readStreet_39 rfl rfl rfl ?_
    refine s_iconst (n := 41) (v := 1) dX5_readStreet_40 rfl (by decide) ?_
    refine s_bipush (n := 43) (v := 9) dX5_readStreet_41 rfl (by decide) ?_
    refine s_iconst (n := 44) (v := 0) dX5_readStreet_43 rfl (by decide) ?_
    refine s_bipush (n := 46) (v := 44) dX5_readStreet_44 rfl (by decide) ?_
    refine s_v4 (M' := MX5_takesNumber) (n := 49) (ci := 5) dX5_readStreet_46 rfl wd_X5_117 okX5_takesNumber rfl rfl (by omega) ⟨Nat.le_refl _, Nat.le_refl _⟩ (by assumption) (y_takesNumber (d := d - 1) (τ := u2 τ 6 (fillF (τ 6) 48 0)) hY3 hS3 hl l3 hb (a := 1) (b := 9) (o := 0) (by decide) (by decide) (by omega) l44 (by omega)) ?_
    rintro v46 hh46 ⟨rfl, X4, V4, hY4, hF4, hK4, ok4, no4⟩
    rw [u2_u2] at hY4
    obtain ⟨y0, y1, y2, y3, y4, y5, y6, y7, y8, y9, y10, y11, y12⟩ := id hY4
    replace y0 : hh46.2 220 = YO G (X4) := y0
    refine s_if_eq (n := 52) (tgt := 65) dX5_readStreet_49 rfl rfl (fun b49 => ?_) (fun b49 => ?_)
    · have q4 : ¬ (nb (τ 5) l 1 9 44 (pB (τ 5) l 103 0).2).1 = 0 := if0 b49
      have e : strY (τ 5) l (τ 6) = (nb (τ 5) l 1 9 44 (pB (τ 5) l 103 0).2, (τ 6, 0)) := by
        have e0 : lawP (τ 5) l 0 = nb (τ 5) l 1 9 44 (pB (τ 5) l 103 0).2 := by
          rw [lawP_nb, sq_0 q3, sq_n q4]
        unfold strY
        rw [e0, if_neg q4]
      have hres : pR G h τ l X (strY (τ 5) l (τ 6)).2.1 (strY (τ 5) l (τ 6)).1 (some (.int 0)) hh46 := by
        rw [e]
        exact ⟨by rw [if_neg q4], X4, V4, hY4, fr_tr hFz (fr_tr hF2 (fr_tr hF3 hF4)), fun k hk => (hK4 k hk).trans ((hK3 k hk).trans ((hK2 k (by omega)).trans (up_ne (by omega)))), fun z => absurd z q4, no4⟩
      refine s_iconst (n := 66) (v := 0) dX5_readStreet_65 rfl (by decide) ?_
      refine s_ireturn dX5_readStreet_66 rfl (rfl) (Nat.le_refl _) (Nat.le_refl _) ?_
      exact hres
    · have q4 : (nb (τ 5) l 1 9 44 (pB (τ 5) l 103 0).2).1 = 0 := if1 b49
      obtain ⟨hS4, hw4⟩ := ok4 q4
      subst hw4
      have e4 := nb_2 q4
      have l4 : (nb (τ 5) l 1 9 44 (pB (τ 5) l 103 0).2).2 ≤ l := by
        rw [e4]
        exact tkE_l (tkE_l l3)
      refine s_aload_n (n := 53) (i := 0) dX5_readStreet_52 rfl rfl rfl ?_
      refine s_iconst (n := 54) (v := 0) dX5_readStreet_53 rfl (by decide) ?_
      refine s_bipush (n := 56) (v := 99) dX5_readStreet_54 rfl (by decide) ?_
      refine s_iconst (n := 57) (v := 1) dX5_readStreet_56 rfl (by decide) ?_
      refine s_bipush (n := 59) (v := 59) dX5_readStreet_57 rfl (by decide) ?_
      refine s_v4 (M' := MX5_takesNumber) (n := 62) (ci := 5) dX5_readStreet_59 rfl wd_X5_117 okX5_takesNumber rfl rfl (by omega) ⟨Nat.le_refl _, Nat.le_refl _⟩ (by assumption) (y_takesNumber (d := d - 1) (τ := u2 τ 6 (upd (fillF (τ 6) 48 0) 0 (tkV (τ 5) l (pB (τ 5) l 103 0).2))) hY4 hS4 hl l4 hb (a := 0) (b := 99) (o := 1) (by decide) (by decide) (by omega) l59 (by omega)) ?_
      rintro v59 hh59 ⟨rfl, X5, V5, hY5, hF5, hK5, ok5, no5⟩
      rw [u2_u2] at hY5
      obtain ⟨y0, y1, y2, y3, y4, y5, y6, y7, y8, y9, y10, y11, y12⟩ := id hY5
      replace y0 : hh59.2 220 = YO G (X5) := y0
      refine s_if_ne (n := 65) (tgt := 67) dX5_readStreet_62 rfl rfl (fun b62 => ?_) (fun b62 => ?_)
      · have q5 : (nb (τ 5) l 0 99 59 (nb (τ 5) l 1 9 44 (pB (τ 5) l 103 0).2).2).1 = 0 := if1 b62
        obtain ⟨hS5, hw5⟩ := ok5 q5
        have e0 : lawP (τ 5) l 0 = nb (τ 5) l 0 99 59 (nb (τ 5) l 1 9 44 (pB (τ 5) l 103 0).2).2 := by
          rw [lawP_nb, sq_0 q3, sq_0 q4]
        have ew : V5 = lawW (τ 5) l (τ 6) := by
          rw [hw5]
          unfold lawW
          rw [show tkN (τ 5) l 3 0 = (nb (τ 5) l 1 9 44 (pB (τ 5) l 103 0).2).2 from by rw [e4, e3]; rfl, show tkN (τ 5) l 1 0 = (pB (τ 5) l 103 0).2 from by rw [e3]; rfl]
          rfl
        clear hw5
        subst ew
        have e : strY (τ 5) l (τ 6) = prsY (τ 5) l 8 (nb (τ 5) l 0 99 59 (nb (τ 5) l 1 9 44 (pB (τ 5) l 103 0).2).2).2 0 (lawW (τ 5) l (τ 6)) := by
          unfold strY
          rw [e0, if_pos q5]
        rw [e]
        have w2 : lawW (τ 5) l (τ 6) 2 = nI 0 := by
          unfold lawW
          rw [up_ne (by omega), up_ne (by omega)]
          rfl
        have l5 : (nb (τ 5) l 0 99 59 (nb (τ 5) l 1 9 44 (pB (τ 5) l 103 0).2).2).2 ≤ l := by
          rw [nb_2 q5]
          exact tkE_l (tkE_l l4)
        have hFf := fr_tr hFz (fr_tr hF2 (fr_tr hF3 (fr_tr hF4 hF5)))
        have hKf : ∀ k, k < 4 ∨ 9 ≤ k → X5 k = X k := fun k hk => (hK5 k hk).trans ((hK4 k hk).trans ((hK3 k hk).trans ((hK2 k (by omega)).trans (up_ne (by omega)))))
        replace y7 : hh59.2 227 = mj_ar 0 48 (lawW (τ 5) l (τ 6)) := y7
        refine s_iconst (n := 68) (v := 1) dX5_readStreet_67 rfl (by decide) ?_
        refine s_istore_n (n := 69) (i := 1) (ls' := [_, _]) dX5_readStreet_68 rfl rfl rfl rfl rfl ?_
        refine s_iload_n (n := 70) (i := 1) dX5_readStreet_69 rfl rfl rfl ?_
        refine s_if_eq (n := 73) (tgt := 98) dX5_readStreet_70 rfl rfl (fun b70 => ?_) (fun b70 => ?_)
        · exact absurd b70 (by decide)
        · refine s_aload_n (n := 74) (i := 0) dX5_readStreet_73 rfl rfl rfl ?_
          refine gf_X5_88 (n := 77) rfl dX5_readStreet_74 rfl (by assumption) (by rfl) ?_
          refine s_iconst (n := 78) (v := 3) dX5_readStreet_77 rfl (by decide) ?_
          refine s_icmp_ne (n := 81) (tgt := 90) dX5_readStreet_78 rfl rfl (fun b78 => ?_) (fun b78 => ?_)
          · exact a_mstreet hl hb hd (l_mstreet hl hb hd 7 1 (by omega) (by omega)) l5 hY5 hS5 w2 (by omega) hFf hKf
          · refine s_aload_n (n := 82) (i := 0) dX5_readStreet_81 rfl rfl rfl ?_
            refine gf_X5_28 (n := 85) rfl dX5_readStreet_82 rfl (by assumption) (by rfl) ?_
            refine s_iconst (n := 86) (v := 2) dX5_readStreet_85 rfl (by decide) ?_
            refine s_iald (n := 87) dX5_readStreet_86 rfl (by assumption) (mj_ixe (j := 2) rfl (by omega)) ?_
            refine s_if_ne (n := 90) (tgt := 98) dX5_readStreet_87 rfl rfl (fun b87 => ?_) (fun b87 => ?_)
            · exact absurd w2 b87
            · exact a_mstreet hl hb hd (l_mstreet hl hb hd 7 1 (by omega) (by omega)) l5 hY5 hS5 w2 (by omega) hFf hKf
      · have q5 : ¬ (nb (τ 5) l 0 99 59 (nb (τ 5) l 1 9 44 (pB (τ 5) l 103 0).2).2).1 = 0 := if0 b62
        have e : strY (τ 5) l (τ 6) = (nb (τ 5) l 0 99 59 (nb (τ 5) l 1 9 44 (pB (τ 5) l 103 0).2).2, (τ 6, 0)) := by
          have e0 : lawP (τ 5) l 0 = nb (τ 5) l 0 99 59 (nb (τ 5) l 1 9 44 (pB (τ 5) l 103 0).2).2 := by
            rw [lawP_nb, sq_0 q3, sq_0 q4]
          unfold strY
          rw [e0, if_neg q5]
        have hres : pR G h τ l X (strY (τ 5) l (τ 6)).2.1 (strY (τ 5) l (τ 6)).1 (some (.int 0)) hh59 := by
          rw [e]
          exact ⟨by rw [if_neg q5], X5, V5, hY5, fr_tr hFz (fr_tr hF2 (fr_tr hF3 (fr_tr hF4 hF5))), fun k hk => (hK5 k hk).trans ((hK4 k hk).trans ((hK3 k hk).trans ((hK2 k (by omega)).trans (up_ne (by omega))))), fun z => absurd z q5, no5⟩
        refine s_iconst (n := 66) (v := 0) dX5_readStreet_65 rfl (by decide) ?_
        refine s_ireturn dX5_readStreet_66 rfl (rfl) (Nat.le_refl _) (Nat.le_refl _) ?_
        exact hres
set_option maxRecDepth 100000 in
set_option maxHeartbeats 4000000 in
theorem y_readStreet {G : mj_G} {h : mj_H} {d : Nat} {τ : Nat → Nat → Int32} {X : Nat → Int32} (hY : YS G h (u2 τ 12 X)) {l : Nat} (e2 : X 2 = nI l) (hl : l ≤ 120) (hb : bts (τ 5) l) (hd : 5 ≤ d) : mj_con G MX5_readStreet d 0 0 [.ref (G.1 + 220)] h (pR G h τ l X (strY (τ 5) l (τ 6)).2.1 (strY (τ 5) l (τ 6)).1) := by
  refine mj_conV okX5_readStreet (ls := [some (.ref (G.1 + 220)), none]) rfl rfl ?_
  obtain ⟨y0, y1, y2, y3, y4, y5, y6, y7, y8, y9, y10, y11, y12⟩ := id hY
  replace y0 : h.2 220 = YO G (X) := y0
  refine s_aload_n (n := 1) (i := 0) dX5_readStreet_0 rfl rfl rfl ?_
  refine s_iconst (n := 2) (v := 0) dX5_readStreet_1 rfl (by decide) ?_
  refine pf_X5_82 (n := 5) (fs' := [_, _, _, _, _, _, _, _, _, _, _, _, _, _, _, _, _, _, _, _, _, _, _]) rfl dX5_readStreet_2 rfl (by assumption) (by rfl) (by rfl) ?_
  refine YF_4 (τ := u2 τ 12 X) hY (fun h1 hY1 hF1 => ?_)
  rw [u2_u2, u2_eq] at hY1
  refine s_iconst (n := 6) (v := 0) dX5_readStreet_5 rfl (by decide) ?_
  refine s_istore_n (n := 7) (i := 1) (ls' := [_, _]) dX5_readStreet_6 rfl rfl rfl rfl rfl ?_
  exact l_mzero (fun h2 hY2 hF2 => r_mstreet e2 hl hb hd hY2 hF2) 48 0 (by omega) _ (by rw [fillF_0, u2_self]; exact hY1) hF1
set_option maxRecDepth 100000 in
set_option maxHeartbeats 4000000 in
theorem y_street_f {G : mj_G} {h : mj_H} {d : Nat} {τ : Nat → Nat → Int32} (hY : YS G h τ) {l : Nat} (e2 : τ 12 2 = nI l) (hl : l ≤ 120) (hb : bts (τ 5) l) (hf : ¬ (strY (τ 5) l (τ 6)).1.1 = 0) (hd : 6 ≤ d) : mj_con G MX5_street d 0 0 [.ref (G.1 + 220)] h (fun v h' => v = some (.int (-1000100 - nI (strY (τ 5) l (τ 6)).1.2)) ∧ ∃ τ', YS G h' τ' ∧ mj_fr 220 13 h h' ∧ τ' 12 2 = 0 ∧ τ' 12 3 = (strY (τ 5) l (τ 6)).1.1 ∧ (∀ k, k = 0 ∨ k = 1 ∨ k = 9 ∨ k = 10 → τ' 12 k = τ 12 k) ∧ ∀ j, j ≠ 6 → j ≠ 12 → τ' j = τ j) := by
  refine mj_conV okX5_street (ls := [some (.ref (G.1 + 220)), none, none]) rfl rfl ?_
  obtain ⟨y0, y1, y2, y3, y4, y5, y6, y7, y8, y9, y10, y11, y12⟩ := id hY
  refine s_aload_n (n := 1) (i := 0) dX5_street_0 rfl rfl rfl ?_
  refine s_v0 (M' := MX5_readStreet) (n := 4) (ci := 5) dX5_street_1 rfl wd_X5_125 okX5_readStreet rfl rfl (by omega) ⟨Nat.le_refl _, Nat.le_refl _⟩ (by assumption) (y_readStreet (d := d - 1) ((u2_self (σ := τ) (i := 12)).symm ▸ hY) e2 hl hb (by omega)) ?_
  rintro v1 hh1 ⟨rfl, X1, W1, hY1, hF1, hK1, ok1, no1⟩
  obtain ⟨z8, z7⟩ := no1 hf
  obtain ⟨y0, y1, y2, y3, y4, y5, y6, y7, y8, y9, y10, y11, y12⟩ := id hY1
  replace y0 : hh1.2 220 = YO G (X1) := y0
  refine s_istore_n (n := 5) (i := 1) (ls' := [_, _, _]) dX5_street_4 rfl rfl rfl rfl rfl ?_
  refine s_aload_n (n := 6) (i := 0) dX5_street_5 rfl rfl rfl ?_
  refine s_iconst (n := 7) (v := 0) dX5_street_6 rfl (by decide) ?_
  refine pf_X5_78 (n := 10) (fs' := [_, _, _, _, _, _, _, _, _, _, _, _, _, _, _, _, _, _, _, _, _, _, _]) rfl dX5_street_7 rfl (by assumption) (by rfl) (by rfl) ?_
  refine YF_2 (τ := u2 (u2 τ 6 W1) 12 X1) hY1 (fun h2 hY2 hF2 => ?_)
  rw [u2_u2, u2_eq] at hY2
  obtain ⟨y0, y1, y2, y3, y4, y5, y6, y7, y8, y9, y10, y11, y12⟩ := id hY2
  replace y0 : h2.2 220 = YO G (upd X1 2 0) := y0
  refine s_iload_n (n := 11) (i := 1) dX5_street_10 rfl rfl rfl ?_
  refine s_if_ne (n := 14) (tgt := 30) dX5_street_11 rfl rfl (fun b11 => ?_) (fun b11 => ?_)
  · exact absurd (if1 b11) hf
  · refine s_aload_n (n := 15) (i := 0) dX5_street_14 rfl rfl rfl ?_
    refine s_aload_n (n := 16) (i := 0) dX5_street_15 rfl rfl rfl ?_
    refine gf_X5_102 (n := 19) rfl dX5_street_16 rfl (by assumption) (by rfl) ?_
    rw [show upd X1 2 0 8 = _ from (up_ne (by omega)).trans z8]
    refine pf_X5_128 (n := 22) (fs' := [_, _, _, _, _, _, _, _, _, _, _, _, _, _, _, _, _, _, _, _, _, _, _]) rfl dX5_street_19 rfl (by assumption) (by rfl) (by rfl) ?_
    refine YF_3 (τ := u2 (u2 τ 6 W1) 12 (upd X1 2 0)) hY2 (fun h3 hY3 hF3 => ?_)
    rw [u2_u2, u2_eq] at hY3
    obtain ⟨y0, y1, y2, y3, y4, y5, y6, y7, y8, y9, y10, y11, y12⟩ := id hY3
    replace y0 : h3.2 220 = YO G (upd (upd X1 2 0) 3 (strY (τ 5) l (τ 6)).1.1) := y0
    refine s_ldc (n := 24) dX5_street_22 rfl wd_X5_131 ?_
    refine s_aload_n (n := 25) (i := 0) dX5_street_24 rfl rfl rfl ?_
    refine gf_X5_85 (n := 28) rfl dX5_street_25 rfl (by assumption) (by rfl) ?_
    rw [show (upd (upd X1 2 0) 3 (strY (τ 5) l (τ 6)).1.1) 7 = _ from ((up_ne (by omega)).trans (up_ne (by omega))).trans z7]
    refine s_isub (n := 29) dX5_street_28 rfl ?_
    refine s_ireturn dX5_street_29 rfl (rfl) (Nat.le_refl _) (Nat.le_refl _) ?_
    refine ⟨rfl, _, hY3, fr_tr hF1 (fr_tr hF2 hF3), ?_, ?_, fun k hk => ?_, fun j a b => ?_⟩
    · rw [u2_eq, up_ne (by omega), up_eq]
    · rw [u2_eq, up_eq]
    · rw [u2_eq, up_ne (by omega), up_ne (by omega)]
      exact hK1 k (by omega)
    · rw [u2_ne b, u2_ne a]
set_option maxRecDepth 100000 in
set_option maxHeartbeats 4000000 in
theorem l_mst {G : mj_G} {h0 : mj_H} {d : Nat} {τ : Nat → Nat → Int32} {c : Int32} {Q : Option Value → mj_H → Prop} (K : ∀ h', YS G h' (u2 τ 0 (cpB (τ 0) (τ 6) 48)) → mj_fr 220 13 h0 h' → mj_wp G MX5_street d 0 0 56 [some (.ref (G.1 + 220)), some (.int c), some (.int (nI 48))] [] h' 0 0 Q) : ∀ (r i : Nat), i + r = 48 → ∀ (h : mj_H), YS G h (u2 τ 0 (cpB (τ 0) (τ 6) i)) → mj_fr 220 13 h0 h → mj_wp G MX5_street d 0 0 32 [some (.ref (G.1 + 220)), some (.int c), some (.int (nI i))] [] h 0 0 Q := by
  intro r
  induction r with
  | zero =>
    intro i hi h hY hF
    have e : i = 48 := by omega
    subst e
    refine s_iload_n (n := 33) (i := 2) dX5_street_32 rfl rfl rfl ?_
    refine s_bipush (n := 35) (v := 48) dX5_street_33 rfl (by decide) ?_
    refine s_icmp_ge (n := 38) (tgt := 56) dX5_street_35 rfl rfl (fun b35 => ?_) (fun b35 => ?_)
    · exact K _ hY hF
    · exact absurd (Int32.le_refl _) b35
  | succ r ih =>
    intro i hi h hY hF
    obtain ⟨y0, y1, y2, y3, y4, y5, y6, y7, y8, y9, y10, y11, y12⟩ := id hY
    replace y0 : h.2 220 = YO G (τ 12) := y0
    replace y7 : h.2 227 = mj_ar 0 48 (τ 6) := y7
    replace y4 : h.2 224 = mj_ar 0 48 (cpB (τ 0) (τ 6) i) := y4
    refine s_iload_n (n := 33) (i := 2) dX5_street_32 rfl rfl rfl ?_
    refine s_bipush (n := 35) (v := 48) dX5_street_33 rfl (by decide) ?_
    refine s_icmp_ge (n := 38) (tgt := 56) dX5_street_35 rfl rfl (fun b35 => ?_) (fun b35 => ?_)
    · exact absurd ((nI_leE (a := 48) (by omega) (by omega)).mp b35) (by omega)
    · refine s_aload_n (n := 39) (i := 0) dX5_street_38 rfl rfl rfl ?_
      refine gf_X5_19 (n := 42) rfl dX5_street_39 rfl (by assumption) (by rfl) ?_
      refine s_iload_n (n := 43) (i := 2) dX5_street_42 rfl rfl rfl ?_
      refine s_aload_n (n := 44) (i := 0) dX5_street_43 rfl rfl rfl ?_
      refine gf_X5_28 (n := 47) rfl dX5_street_44 rfl (by assumption) (by rfl) ?_
      refine s_iload_n (n := 48) (i := 2) dX5_street_47 rfl rfl rfl ?_
      refine s_iald (n := 49) dX5_street_48 rfl (by assumption) (mj_ixn (by omega)) ?_
      refine s_iast (n := 50) dX5_street_49 rfl (by assumption) (mj_ixn (by omega)) ?_
      rw [cpB_s rfl]
      refine YA_0 hY (fun h1 hY1 hF1 => ?_)
      rw [u2_u2] at hY1
      refine s_iinc (n := 53) (v := _ + 1) (ls' := [_, _, _]) dX5_street_50 rfl rfl rfl rfl rfl ?_
      refine s_goto (tgt := 32) dX5_street_53 rfl ?_
      rw [nI_1]
      exact ih (i + 1) (by omega) _ hY1 (fr_tr hF hF1)
set_option maxRecDepth 100000 in
set_option maxHeartbeats 4000000 in
theorem z_mst {G : mj_G} {h h3 : mj_H} {d : Nat} {τ : Nat → Nat → Int32} {c : Int32} {X1 W1 WW : Nat → Int32} (hY3 : YS G h3 (u2 (u2 (u2 τ 6 W1) 12 (upd X1 2 0)) 0 (cpB (τ 0) W1 48))) (hF3 : mj_fr 220 13 h h3) (hw1 : W1 = WW) (hK1 : ∀ k, k < 4 ∨ 9 ≤ k → X1 k = τ 12 k) : mj_wp G MX5_street d 0 0 56 [some (.ref (G.1 + 220)), some (.int c), some (.int (nI 48))] [] h3 0 0 (fun v h' => v = some (.int (WW 2)) ∧ ∃ τ', YS G h' τ' ∧ mj_fr 220 13 h h' ∧ τ' 0 = cpB (τ 0) WW 48 ∧ τ' 12 1 = 1 ∧ τ' 12 2 = 0 ∧ τ' 12 9 = 0 ∧ (∀ k, k = 0 ∨ k = 3 ∨ k = 10 → τ' 12 k = τ 12 k) ∧ ∀ j, j ≠ 0 → j ≠ 6 → j ≠ 12 → τ' j = τ j) := by
  subst hw1
  obtain ⟨y0, y1, y2, y3, y4, y5, y6, y7, y8, y9, y10, y11, y12⟩ := id hY3
  replace y0 : h3.2 220 = YO G (upd X1 2 0) := y0
  replace y4 : h3.2 224 = mj_ar 0 48 (cpB (τ 0) W1 48) := y4
  refine s_aload_n (n := 57) (i := 0) dX5_street_56 rfl rfl rfl ?_
  refine s_iconst (n := 58) (v := 1) dX5_street_57 rfl (by decide) ?_
  refine pf_X5_132 (n := 61) (fs' := [_, _, _, _, _, _, _, _, _, _, _, _, _, _, _, _, _, _, _, _, _, _, _]) (by decide) rfl dX5_street_58 rfl (by assumption) (by rfl) (by rfl) ?_
  refine YF_1 (τ := u2 (u2 (u2 τ 6 W1) 12 (upd X1 2 0)) 0 (cpB (τ 0) W1 48)) hY3 (fun h4 hY4 hF4 => ?_)
  obtain ⟨y0, y1, y2, y3, y4, y5, y6, y7, y8, y9, y10, y11, y12⟩ := id hY4
  replace y0 : h4.2 220 = YO G (upd (upd X1 2 0) 1 1) := y0
  replace y4 : h4.2 224 = mj_ar 0 48 (cpB (τ 0) W1 48) := y4
  refine s_aload_n (n := 62) (i := 0) dX5_street_61 rfl rfl rfl ?_
  refine s_iconst (n := 63) (v := 0) dX5_street_62 rfl (by decide) ?_
  refine pf_X5_136 (n := 66) (fs' := [_, _, _, _, _, _, _, _, _, _, _, _, _, _, _, _, _, _, _, _, _, _, _]) rfl dX5_street_63 rfl (by assumption) (by rfl) (by rfl) ?_
  refine YF_9 (τ := u2 (u2 (u2 (u2 τ 6 W1) 12 (upd X1 2 0)) 0 (cpB (τ 0) W1 48)) 12 (upd (upd X1 2 0) 1 1)) hY4 (fun h5 hY5 hF5 => ?_)
  rw [u2_u2] at hY5
  obtain ⟨y0, y1, y2, y3, y4, y5, y6, y7, y8, y9, y10, y11, y12⟩ := id hY5
  replace y4 : h5.2 224 = mj_ar 0 48 (cpB (τ 0) W1 48) := y4
  refine s_aload_n (n := 67) (i := 0) dX5_street_66 rfl rfl rfl ?_
  refine gf_X5_19 (n := 70) rfl dX5_street_67 rfl (by assumption) (by rfl) ?_
  refine s_iconst (n := 71) (v := 2) dX5_street_70 rfl (by decide) ?_
  refine s_iald (n := 72) dX5_street_71 rfl (by assumption) (mj_ixe (j := 2) rfl (by omega)) ?_
  refine s_ireturn dX5_street_72 rfl (rfl) (Nat.le_refl _) (Nat.le_refl _) ?_
  refine ⟨rfl, _, hY5, fr_tr hF3 (fr_tr hF4 hF5), rfl, ?_, ?_, ?_, fun k hk => ?_, fun j a b c => ?_⟩
  · rw [u2_eq, up_ne (by omega)]
    show (upd (upd X1 2 0) 1 1) 1 = 1
    exact up_eq
  · rw [u2_eq, up_ne (by omega)]
    show (upd (upd X1 2 0) 1 1) 2 = 0
    exact (up_ne (by omega)).trans up_eq
  · rw [u2_eq, up_eq]
  · rw [u2_eq, up_ne (by omega)]
    show (upd (upd X1 2 0) 1 1) k = _
    exact ((up_ne (by omega)).trans (up_ne (by omega))).trans (hK1 k (by omega))
  · rw [u2_ne c, u2_ne a, u2_ne c, u2_ne b]
set_option maxRecDepth 100000 in
set_option maxHeartbeats 4000000 in
theorem y_street {G : mj_G} {h : mj_H} {d : Nat} {τ : Nat → Nat → Int32} (hY : YS G h τ) {l : Nat} (e2 : τ 12 2 = nI l) (hl : l ≤ 120) (hb : bts (τ 5) l) (hf : (strY (τ 5) l (τ 6)).1.1 = 0) (hd : 6 ≤ d) : mj_con G MX5_street d 0 0 [.ref (G.1 + 220)] h (fun v h' => v = some (.int ((strY (τ 5) l (τ 6)).2.1 2)) ∧ ∃ τ', YS G h' τ' ∧ mj_fr 220 13 h h' ∧ τ' 0 = cpB (τ 0) (strY (τ 5) l (τ 6)).2.1 48 ∧ τ' 12 1 = 1 ∧ τ' 12 2 = 0 ∧ τ' 12 9 = 0 ∧ (∀ k, k = 0 ∨ k = 3 ∨ k = 10 → τ' 12 k = τ 12 k) ∧ ∀ j, j ≠ 0 → j ≠ 6 → j ≠ 12 → τ' j = τ j) := by
  refine mj_conV okX5_street (ls := [some (.ref (G.1 + 220)), none, none]) rfl rfl ?_
  obtain ⟨y0, y1, y2, y3, y4, y5, y6, y7, y8, y9, y10, y11, y12⟩ := id hY
  refine s_aload_n (n := 1) (i := 0) dX5_street_0 rfl rfl rfl ?_
  refine s_v0 (M' := MX5_readStreet) (n := 4) (ci := 5) dX5_street_1 rfl wd_X5_125 okX5_readStreet rfl rfl (by omega) ⟨Nat.le_refl _, Nat.le_refl _⟩ (by assumption) (y_readStreet (d := d - 1) ((u2_self (σ := τ) (i := 12)).symm ▸ hY) e2 hl hb (by omega)) ?_
  rintro v1 hh1 ⟨rfl, X1, W1, hY1, hF1, hK1, ok1, no1⟩
  obtain ⟨hS1, hw1⟩ := ok1 hf
  obtain ⟨y0, y1, y2, y3, y4, y5, y6, y7, y8, y9, y10, y11, y12⟩ := id hY1
  replace y0 : hh1.2 220 = YO G (X1) := y0
  refine s_istore_n (n := 5) (i := 1) (ls' := [_, _, _]) dX5_street_4 rfl rfl rfl rfl rfl ?_
  refine s_aload_n (n := 6) (i := 0) dX5_street_5 rfl rfl rfl ?_
  refine s_iconst (n := 7) (v := 0) dX5_street_6 rfl (by decide) ?_
  refine pf_X5_78 (n := 10) (fs' := [_, _, _, _, _, _, _, _, _, _, _, _, _, _, _, _, _, _, _, _, _, _, _]) rfl dX5_street_7 rfl (by assumption) (by rfl) (by rfl) ?_
  refine YF_2 (τ := u2 (u2 τ 6 W1) 12 X1) hY1 (fun h2 hY2 hF2 => ?_)
  rw [u2_u2, u2_eq] at hY2
  obtain ⟨y0, y1, y2, y3, y4, y5, y6, y7, y8, y9, y10, y11, y12⟩ := id hY2
  replace y0 : h2.2 220 = YO G (upd X1 2 0) := y0
  refine s_iload_n (n := 11) (i := 1) dX5_street_10 rfl rfl rfl ?_
  refine s_if_ne (n := 14) (tgt := 30) dX5_street_11 rfl rfl (fun b11 => ?_) (fun b11 => ?_)
  · refine s_iconst (n := 31) (v := 0) dX5_street_30 rfl (by decide) ?_
    refine s_istore_n (n := 32) (i := 2) (ls' := [_, _, _]) dX5_street_31 rfl rfl rfl rfl rfl ?_
    refine l_mst (h0 := h) (τ := u2 (u2 τ 6 W1) 12 (upd X1 2 0)) (fun h3 hY3 hF3 => ?_) 48 0 (by omega) _ (by rw [cpB_0, u2_self]; exact hY2) (fr_tr hF1 hF2)
    exact z_mst hY3 hF3 hw1 hK1
  · exact absurd hf (if0 b11)
