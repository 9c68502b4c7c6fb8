theorem bits_all : ∀ n, n < 8 → ∀ h, h < 2 ^ n → ((1 <<< (nI n &&& 31)) - 1) &&& (nI h ^^^ (-1)) = nI (2 ^ n - 1 - h) ∧ ∀ s, s < 2 ^ n → ((nI s &&& (nI (2 ^ n - 1 - h) ^^^ (-1)) = 0 ↔ nI s &&& nI h = 0) ∧ (2 ^ n - 1 - h < s → ¬ nI s &&& nI h = 0)) := by decide +kernel
theorem bc_all : ∀ s, s < 128 → bc (nI s) < 8 := by decide +kernel
theorem p2_le {n : Nat} (h : n ≤ 7) : 2 ^ n ≤ 128 := (Nat.pow_le_pow_right (by omega) h : 2 ^ n ≤ 2 ^ 7)
theorem feF_skip {n k : Nat} {T : Nat → Int32} {clr : (Nat → Int32) → Int32} {wh fe : Int32} : ∀ (r s : Nat), (∀ q, s ≤ q → q < s + r → ¬ nI q &&& T 4 = 0) → feF n k T clr r s wh fe = wh
  | 0, _, _ => rfl
  | r + 1, s, h => by
    unfold feF
    rw [if_neg (fun z => h s (by omega) (by omega) z.1.1)]
    exact feF_skip r (s + 1) (fun q h1 h2 => h q (by omega) (by omega))
theorem feF_c {n k : Nat} {T : Nat → Int32} {clr : (Nat → Int32) → Int32} : ∀ (r s : Nat) (wh fe : Int32), s + r ≤ 128 → (wh = -1000000 ∨ ∃ q, q < 128 ∧ wh = nI q) → (feF n k T clr r s wh fe = -1000000 ∨ ∃ q, q < 128 ∧ feF n k T clr r s wh fe = nI q)
  | 0, _, _, _, _, h => h
  | r + 1, s, wh, fe, h1, h => by
    unfold feF
    split
    · exact feF_c r (s + 1) _ _ (by omega) (Or.inr ⟨s, by omega, rfl⟩)
    · exact feF_c r (s + 1) _ _ (by omega) h
def qbI (wh fe : Int32) : Prop := (wh = -1000000 ∧ fe = 8) ∨ ∃ q, q < 128 ∧ wh = nI q ∧ fe = bc (nI q)
set_option maxRecDepth 100000 in
set_option maxHeartbeats 4000000 in
theorem l_qbP {G : mj_G} {h0 : mj_H} {d n k h4 : Nat} {τ : Nat → Nat → Int32} (hok : okB n (τ 0)) (e4 : τ 0 4 = nI h4) (hh : h4 < 2 ^ n) (hk : k ≤ 100) (hd : 4 ≤ d) : ∀ (r s : Nat), s + r = 2 ^ n → ∀ (h : mj_H) (wh fe : Int32) (o6 : Option Value), qbI wh fe → YS G h (u2 (asS τ) 0 (τ 0)) → mj_fr 220 13 h0 h → mj_wp G MX5_quietBy d 0 0 31 [some (.ref (G.1 + 220)), some (.int (-1)), some (.int (nI k)), some (.int (nI (2 ^ n - 1 - h4))), some (.int wh), some (.int (nI s)), o6] [] h 0 0 (fun v h' => v = some (.int (feF n k (τ 0) clP r s wh fe)) ∧ YS G h' (u2 (asS τ) 0 (τ 0)) ∧ mj_fr 220 13 h0 h') := by
  have h7 : n ≤ 7 := hok.1.2.1
  have hp := p2_le h7
  have hb := (bits_all n (by omega) h4 hh).2
  intro r
  induction r with
  | zero =>
    intro s hs h wh fe o6 hI hY hF0
    obtain ⟨y0, y1, y2, y3, y4, y5, y6, y7, y8, y9, y10, y11, y12⟩ := id hY
    replace y4 : h.2 224 = mj_ar 0 48 (τ 0) := y4
    replace y0 : h.2 220 = YO G (τ 12) := y0
    refine s_iload (n := 33) dX5_quietBy_31 rfl rfl ?_
    refine s_iload_n (n := 34) (i := 3) dX5_quietBy_33 rfl rfl rfl ?_
    refine s_icmp_gt (n := 37) (tgt := 142) dX5_quietBy_34 rfl rfl (fun b34 => ?_) (fun b34 => ?_)
    · refine s_iload (n := 144) dX5_quietBy_142 rfl rfl ?_
      refine s_ireturn dX5_quietBy_144 rfl (rfl) (Nat.le_refl _) (Nat.le_refl _) ?_
      exact ⟨rfl, hY, hF0⟩
    · exact absurd ((nI_ltE (by omega) (by omega)).mpr (by omega)) b34
  | succ r ih =>
    intro s hs h wh fe o6 hI hY hF0
    obtain ⟨y0, y1, y2, y3, y4, y5, y6, y7, y8, y9, y10, y11, y12⟩ := id hY
    replace y4 : h.2 224 = mj_ar 0 48 (τ 0) := y4
    replace y0 : h.2 220 = YO G (τ 12) := y0
    have hcut : (nI s &&& τ 0 4 = 0 ∧ bc (nI s) < fe) → mj_wp G MX5_quietBy d 0 0 64 [some (.ref (G.1 + 220)), some (.int (-1)), some (.int (nI k)), some (.int (nI (2 ^ n - 1 - h4))), some (.int wh), some (.int (nI s)), o6] [] h 0 0 (fun v h' => v = some (.int (feF n k (τ 0) clP (r + 1) s wh fe)) ∧ YS G h' (u2 (asS τ) 0 (τ 0)) ∧ mj_fr 220 13 h0 h') := by
      intro hC
      refine s_aload_n (n := 65) (i := 0) dX5_quietBy_64 rfl rfl rfl ?_
      refine gf_X5_19 (n := 68) rfl dX5_quietBy_65 rfl (by assumption) (by rfl) ?_
      refine s_iconst (n := 69) (v := 4) dX5_quietBy_68 rfl (by decide) ?_
      refine s_dup2 (n := 70) dX5_quietBy_69 rfl rfl rfl ?_
      refine s_iald (n := 71) dX5_quietBy_70 rfl (by assumption) (mj_ixe (j := 4) rfl (by omega)) ?_
      refine s_iload (n := 73) dX5_quietBy_71 rfl rfl ?_
      refine s_ior (n := 74) dX5_quietBy_73 rfl ?_
      refine s_iast (n := 75) dX5_quietBy_74 rfl (by assumption) (mj_ixe (j := 4) rfl (by omega)) ?_
      refine YA_0 hY (fun h1 hY1 hF1 => ?_)
      rw [u2_u2] at hY1
      obtain ⟨y0, y1, y2, y3, y4, y5, y6, y7, y8, y9, y10, y11, y12⟩ := id hY1
      replace y4 : h1.2 224 = mj_ar 0 48 (upd (τ 0) 4 (τ 0 4 ||| nI s)) := y4
      replace y0 : h1.2 220 = YO G (τ 12) := y0
      refine s_aload_n (n := 76) (i := 0) dX5_quietBy_75 rfl rfl rfl ?_
      refine s_iload_n (n := 77) (i := 2) dX5_quietBy_76 rfl rfl rfl ?_
      refine s_v1 (M' := MX5_goOn) (n := 80) (ci := 5) dX5_quietBy_77 rfl wd_X5_177 okX5_goOn rfl rfl (by omega) ⟨Nat.le_refl _, Nat.le_refl _⟩ (by assumption) (y_goOn (d := d - 1) hY1 (n := n) (m := k) (okB_up hok (Or.inl rfl)) (by omega) (by omega)) ?_
      rintro v77 hh77 ⟨rfl, hY2, hF2⟩
      obtain ⟨y0, y1, y2, y3, y4, y5, y6, y7, y8, y9, y10, y11, y12⟩ := id hY2
      replace y4 : hh77.2 224 = mj_ar 0 48 (mns n k (upd (τ 0) 4 (τ 0 4 ||| nI s))) := y4
      replace y0 : hh77.2 220 = YO G (τ 12) := y0
      refine s_iload_n (n := 81) (i := 1) dX5_quietBy_80 rfl rfl rfl ?_
      refine s_if_ge (n := 84) (tgt := 99) dX5_quietBy_81 rfl rfl (fun b81 => ?_) (fun b81 => ?_)
      · exact absurd b81 (by decide)
      · refine s_aload_n (n := 85) (i := 0) dX5_quietBy_84 rfl rfl rfl ?_
        refine s_v0 (M' := MX5_isOver) (n := 88) (ci := 5) dX5_quietBy_85 rfl wd_X5_168 okX5_isOver rfl rfl (by omega) ⟨Nat.le_refl _, Nat.le_refl _⟩ (by assumption) (y_isOver (d := d - 1) hY2) ?_
        rintro v85 hh85 ⟨rfl, rfl⟩
        refine s_if_ne (n := 91) (tgt := 95) dX5_quietBy_88 rfl rfl (fun b88 => ?_) (fun b88 => ?_)
        · have hcl : clP (mns n k (upd (τ 0) 4 (τ 0 4 ||| nI s))) = 0 := if_pos (if1 b88)
          refine s_iconst (n := 96) (v := 0) dX5_quietBy_95 rfl (by decide) ?_
          refine s_goto (tgt := 116) dX5_quietBy_96 rfl ?_
          refine s_istore (n := 118) (i := 6) (ls' := [_, _, _, _, _, _, _]) dX5_quietBy_116 rfl rfl rfl rfl ?_
          refine s_iload (n := 120) dX5_quietBy_118 rfl rfl ?_
          refine s_if_eq (n := 123) (tgt := 128) dX5_quietBy_120 rfl rfl (fun b120 => ?_) (fun b120 => ?_)
          · have k120 := b120
            refine s_iload (n := 130) dX5_quietBy_128 rfl rfl ?_
            refine s_istore (n := 132) (i := 4) (ls' := [_, _, _, _, _, _, _]) dX5_quietBy_130 rfl rfl rfl rfl ?_
            refine s_aload_n (n := 133) (i := 0) dX5_quietBy_132 rfl rfl rfl ?_
            refine s_v0 (M' := MX5_takeBack) (n := 136) (ci := 5) dX5_quietBy_133 rfl wd_X5_180 okX5_takeBack rfl rfl (by omega) ⟨Nat.le_refl _, Nat.le_refl _⟩ (by assumption) (y_tb (d := d - 1) hY2 (fun q hq => (mns_o h7 hq k).trans (up_ne (by omega)))) ?_
            rintro v133 hh133 ⟨rfl, hY9, hF9⟩
            have hFa := fr_tr (fr_tr hF0 (fr_tr hF1 hF2)) hF9
            obtain ⟨y0, y1, y2, y3, y4, y5, y6, y7, y8, y9, y10, y11, y12⟩ := id hY9
            replace y4 : hh133.2 224 = mj_ar 0 48 (τ 0) := y4
            replace y0 : hh133.2 220 = YO G (τ 12) := y0
            refine s_iinc (n := 139) (v := _ + 1) (ls' := [_, _, _, _, _, _, _]) dX5_quietBy_136 rfl rfl rfl rfl rfl ?_
            refine s_goto (tgt := 31) dX5_quietBy_139 rfl ?_
            rw [nI_1]
            unfold feF
            first | exact absurd k120 one_ne | exact absurd rfl k120 | (rw [if_pos ⟨hC, by exact hcl⟩]; exact ih (s + 1) (by omega) _ _ _ _ (Or.inr ⟨s, by omega, rfl, rfl⟩) hY9 hFa) | (rw [if_neg (fun z => absurd hcl z.2)]; exact ih (s + 1) (by omega) _ _ _ _ hI hY9 hFa)
          · have k120 := b120
            refine s_iload (n := 125) dX5_quietBy_123 rfl rfl ?_
            refine s_goto (tgt := 130) dX5_quietBy_125 rfl ?_
            refine s_istore (n := 132) (i := 4) (ls' := [_, _, _, _, _, _, _]) dX5_quietBy_130 rfl rfl rfl rfl ?_
            refine s_aload_n (n := 133) (i := 0) dX5_quietBy_132 rfl rfl rfl ?_
            refine s_v0 (M' := MX5_takeBack) (n := 136) (ci := 5) dX5_quietBy_133 rfl wd_X5_180 okX5_takeBack rfl rfl (by omega) ⟨Nat.le_refl _, Nat.le_refl _⟩ (by assumption) (y_tb (d := d - 1) hY2 (fun q hq => (mns_o h7 hq k).trans (up_ne (by omega)))) ?_
            rintro v133 hh133 ⟨rfl, hY9, hF9⟩
            have hFa := fr_tr (fr_tr hF0 (fr_tr hF1 hF2)) hF9
            obtain ⟨y0, y1, y2, y3, y4, y5, y6, y7, y8, y9, y10, y11, y12⟩ := id hY9
            replace y4 : hh133.2 224 = mj_ar 0 48 (τ 0) := y4
            replace y0 : hh133.2 220 = YO G (τ 12) := y0
            refine s_iinc (n := 139) (v := _ + 1) (ls' := [_, _, _, _, _, _, _]) dX5_quietBy_136 rfl rfl rfl rfl rfl ?_
            refine s_goto (tgt := 31) dX5_quietBy_139 rfl ?_
            rw [nI_1]
            unfold feF
            first | exact absurd k120 one_ne | exact absurd rfl k120 | (rw [if_pos ⟨hC, by exact hcl⟩]; exact ih (s + 1) (by omega) _ _ _ _ (Or.inr ⟨s, by omega, rfl, rfl⟩) hY9 hFa) | (rw [if_neg (fun z => absurd hcl z.2)]; exact ih (s + 1) (by omega) _ _ _ _ hI hY9 hFa)
        · have hcl : ¬ clP (mns n k (upd (τ 0) 4 (τ 0 4 ||| nI s))) = 0 := by
            have qq : ¬ mns n k (upd (τ 0) 4 (τ 0 4 ||| nI s)) 1 < mns n k (upd (τ 0) 4 (τ 0 4 ||| nI s)) 5 := if0 b88
            unfold clP
            rw [if_neg qq]
            exact one_ne
          refine s_iconst (n := 92) (v := 1) dX5_quietBy_91 rfl (by decide) ?_
          refine s_goto (tgt := 116) dX5_quietBy_92 rfl ?_
          refine s_istore (n := 118) (i := 6) (ls' := [_, _, _, _, _, _, _]) dX5_quietBy_116 rfl rfl rfl rfl ?_
          refine s_iload (n := 120) dX5_quietBy_118 rfl rfl ?_
          refine s_if_eq (n := 123) (tgt := 128) dX5_quietBy_120 rfl rfl (fun b120 => ?_) (fun b120 => ?_)
          · have k120 := b120
            refine s_iload (n := 130) dX5_quietBy_128 rfl rfl ?_
            refine s_istore (n := 132) (i := 4) (ls' := [_, _, _, _, _, _, _]) dX5_quietBy_130 rfl rfl rfl rfl ?_
            refine s_aload_n (n := 133) (i := 0) dX5_quietBy_132 rfl rfl rfl ?_
            refine s_v0 (M' := MX5_takeBack) (n := 136) (ci := 5) dX5_quietBy_133 rfl wd_X5_180 okX5_takeBack rfl rfl (by omega) ⟨Nat.le_refl _, Nat.le_refl _⟩ (by assumption) (y_tb (d := d - 1) hY2 (fun q hq => (mns_o h7 hq k).trans (up_ne (by omega)))) ?_
            rintro v133 hh133 ⟨rfl, hY9, hF9⟩
            have hFa := fr_tr (fr_tr hF0 (fr_tr hF1 hF2)) hF9
            obtain ⟨y0, y1, y2, y3, y4, y5, y6, y7, y8, y9, y10, y11, y12⟩ := id hY9
            replace y4 : hh133.2 224 = mj_ar 0 48 (τ 0) := y4
            replace y0 : hh133.2 220 = YO G (τ 12) := y0
            refine s_iinc (n := 139) (v := _ + 1) (ls' := [_, _, _, _, _, _, _]) dX5_quietBy_136 rfl rfl rfl rfl rfl ?_
            refine s_goto (tgt := 31) dX5_quietBy_139 rfl ?_
            rw [nI_1]
            unfold feF
            first | exact absurd k120 one_ne | exact absurd rfl k120 | (rw [if_pos ⟨hC, by exact hcl⟩]; exact ih (s + 1) (by omega) _ _ _ _ (Or.inr ⟨s, by omega, rfl, rfl⟩) hY9 hFa) | (rw [if_neg (fun z => absurd hcl z.2)]; exact ih (s + 1) (by omega) _ _ _ _ hI hY9 hFa)
          · have k120 := b120
            refine s_iload (n := 125) dX5_quietBy_123 rfl rfl ?_
            refine s_goto (tgt := 130) dX5_quietBy_125 rfl ?_
            refine s_istore (n := 132) (i := 4) (ls' := [_, _, _, _, _, _, _]) dX5_quietBy_130 rfl rfl rfl rfl ?_
            refine s_aload_n (n := 133) (i := 0) dX5_quietBy_132 rfl rfl rfl ?_
            refine s_v0 (M' := MX5_takeBack) (n := 136) (ci := 5) dX5_quietBy_133 rfl wd_X5_180 okX5_takeBack rfl rfl (by omega) ⟨Nat.le_refl _, Nat.le_refl _⟩ (by assumption) (y_tb (d := d - 1) hY2 (fun q hq => (mns_o h7 hq k).trans (up_ne (by omega)))) ?_
            rintro v133 hh133 ⟨rfl, hY9, hF9⟩
            have hFa := fr_tr (fr_tr hF0 (fr_tr hF1 hF2)) hF9
            obtain ⟨y0, y1, y2, y3, y4, y5, y6, y7, y8, y9, y10, y11, y12⟩ := id hY9
            replace y4 : hh133.2 224 = mj_ar 0 48 (τ 0) := y4
            replace y0 : hh133.2 220 = YO G (τ 12) := y0
            refine s_iinc (n := 139) (v := _ + 1) (ls' := [_, _, _, _, _, _, _]) dX5_quietBy_136 rfl rfl rfl rfl rfl ?_
            refine s_goto (tgt := 31) dX5_quietBy_139 rfl ?_
            rw [nI_1]
            unfold feF
            first | exact absurd k120 one_ne | exact absurd rfl k120 | (rw [if_pos ⟨hC, by exact hcl⟩]; exact ih (s + 1) (by omega) _ _ _ _ (Or.inr ⟨s, by omega, rfl, rfl⟩) hY9 hFa) | (rw [if_neg (fun z => absurd hcl z.2)]; exact ih (s + 1) (by omega) _ _ _ _ hI hY9 hFa)
    have hNo : ¬ (nI s &&& τ 0 4 = 0 ∧ bc (nI s) < fe) → feF n k (τ 0) clP (r + 1) s wh fe = feF n k (τ 0) clP r (s + 1) wh fe := by
      intro z
      show (if _ then _ else _) = _
      rw [if_neg (fun y => z y.1)]
    have hSk : 2 ^ n - 1 - h4 < s → feF n k (τ 0) clP (r + 1) s wh fe = wh := fun z => feF_skip (r + 1) s (fun q h1 h2 => by rw [e4]; exact (hb q (by omega)).2 (by omega))
    have hIc := hI
    rcases hIc with ⟨hw, hfe⟩ | ⟨q, hq, hw, hfe⟩
    · have bs := bc_all s (by omega)
      refine s_iload (n := 33) dX5_quietBy_31 rfl rfl ?_
      refine s_iload_n (n := 34) (i := 3) dX5_quietBy_33 rfl rfl rfl ?_
      refine s_icmp_gt (n := 37) (tgt := 142) dX5_quietBy_34 rfl rfl (fun b34 => ?_) (fun b34 => ?_)
      · refine s_iload (n := 144) dX5_quietBy_142 rfl rfl ?_
        refine s_ireturn dX5_quietBy_144 rfl (rfl) (Nat.le_refl _) (Nat.le_refl _) ?_
        exact ⟨by rw [hSk ((nI_ltE (by omega) (by omega)).mp b34)], hY, hF0⟩
      · refine s_iload (n := 39) dX5_quietBy_37 rfl rfl ?_
        refine s_iload_n (n := 40) (i := 3) dX5_quietBy_39 rfl rfl rfl ?_
        refine s_iconst (n := 41) (v := (-1)) dX5_quietBy_40 rfl (by decide) ?_
        refine s_ixor (n := 42) dX5_quietBy_41 rfl ?_
        refine s_iand (n := 43) dX5_quietBy_42 rfl ?_
        refine s_if_ne (n := 46) (tgt := 136) dX5_quietBy_43 rfl rfl (fun b43 => ?_) (fun b43 => ?_)
        · have hz : ¬ nI s &&& τ 0 4 = 0 := by
            rw [e4]
            exact fun z => b43 ((hb s (by omega)).1.mpr z)
          refine s_iinc (n := 139) (v := _ + 1) (ls' := [_, _, _, _, _, _, _]) dX5_quietBy_136 rfl rfl rfl rfl rfl ?_
          refine s_goto (tgt := 31) dX5_quietBy_139 rfl ?_
          rw [nI_1, hNo (fun z => hz z.1)]
          exact ih (s + 1) (by omega) _ _ _ _ hI hY hF0
        · have hz : nI s &&& τ 0 4 = 0 := by
            rw [e4]
            exact (hb s (by omega)).1.mp b43
          refine s_iload (n := 48) dX5_quietBy_46 rfl rfl ?_
          refine s_if_lt (n := 51) (tgt := 64) dX5_quietBy_48 rfl rfl (fun b48 => ?_) (fun b48 => ?_)
          · exact hcut ⟨hz, by rw [hfe]; exact bs⟩
          · exact absurd (by rw [hw]; decide) b48
    · subst hw
      refine s_iload (n := 33) dX5_quietBy_31 rfl rfl ?_
      refine s_iload_n (n := 34) (i := 3) dX5_quietBy_33 rfl rfl rfl ?_
      refine s_icmp_gt (n := 37) (tgt := 142) dX5_quietBy_34 rfl rfl (fun b34 => ?_) (fun b34 => ?_)
      · refine s_iload (n := 144) dX5_quietBy_142 rfl rfl ?_
        refine s_ireturn dX5_quietBy_144 rfl (rfl) (Nat.le_refl _) (Nat.le_refl _) ?_
        exact ⟨by rw [hSk ((nI_ltE (by omega) (by omega)).mp b34)], hY, hF0⟩
      · refine s_iload (n := 39) dX5_quietBy_37 rfl rfl ?_
        refine s_iload_n (n := 40) (i := 3) dX5_quietBy_39 rfl rfl rfl ?_
        refine s_iconst (n := 41) (v := (-1)) dX5_quietBy_40 rfl (by decide) ?_
        refine s_ixor (n := 42) dX5_quietBy_41 rfl ?_
        refine s_iand (n := 43) dX5_quietBy_42 rfl ?_
        refine s_if_ne (n := 46) (tgt := 136) dX5_quietBy_43 rfl rfl (fun b43 => ?_) (fun b43 => ?_)
        · have hz : ¬ nI s &&& τ 0 4 = 0 := by
            rw [e4]
            exact fun z => b43 ((hb s (by omega)).1.mpr z)
          refine s_iinc (n := 139) (v := _ + 1) (ls' := [_, _, _, _, _, _, _]) dX5_quietBy_136 rfl rfl rfl rfl rfl ?_
          refine s_goto (tgt := 31) dX5_quietBy_139 rfl ?_
          first | (have hz2 : ¬ (nI s &&& τ 0 4 = 0 ∧ bc (nI s) < fe) := fun z => hz z.1; rw [nI_1, hNo hz2]; exact ih (s + 1) (by omega) _ _ _ _ hI hY hF0) | (have hz2 : ¬ (nI s &&& τ 0 4 = 0 ∧ bc (nI s) < fe) := fun z => absurd z.2 (by rw [hfe]; exact Int32.not_lt.mpr b61); rw [nI_1, hNo hz2]; exact ih (s + 1) (by omega) _ _ _ _ hI hY hF0)
        · have hz : nI s &&& τ 0 4 = 0 := by
            rw [e4]
            exact (hb s (by omega)).1.mp b43
          refine s_iload (n := 48) dX5_quietBy_46 rfl rfl ?_
          refine s_if_lt (n := 51) (tgt := 64) dX5_quietBy_48 rfl rfl (fun b48 => ?_) (fun b48 => ?_)
          · exact absurd b48 (nI_lt0 (by omega))
          · refine s_iload (n := 53) dX5_quietBy_51 rfl rfl ?_
            refine s_s1 (M' := MX5_ones) (n := 56) dX5_quietBy_53 rfl wd_X5_191 okX5_ones rfl (by omega) ⟨Nat.le_refl _, Nat.le_refl _⟩ (y_ones (d := d - 1) (s := s) (by omega)) ?_
            rintro v53 hh53 ⟨rfl, rfl⟩
            refine s_iload (n := 58) dX5_quietBy_56 rfl rfl ?_
            refine s_s1 (M' := MX5_ones) (n := 61) dX5_quietBy_58 rfl wd_X5_191 okX5_ones rfl (by omega) ⟨Nat.le_refl _, Nat.le_refl _⟩ (y_ones (d := d - 1) (s := q) hq) ?_
            rintro v58 hh58 ⟨rfl, rfl⟩
            refine s_icmp_ge (n := 64) (tgt := 136) dX5_quietBy_61 rfl rfl (fun b61 => ?_) (fun b61 => ?_)
            · refine s_iinc (n := 139) (v := _ + 1) (ls' := [_, _, _, _, _, _, _]) dX5_quietBy_136 rfl rfl rfl rfl rfl ?_
              refine s_goto (tgt := 31) dX5_quietBy_139 rfl ?_
              first | (have hz2 : ¬ (nI s &&& τ 0 4 = 0 ∧ bc (nI s) < fe) := fun z => hz z.1; rw [nI_1, hNo hz2]; exact ih (s + 1) (by omega) _ _ _ _ hI hY hF0) | (have hz2 : ¬ (nI s &&& τ 0 4 = 0 ∧ bc (nI s) < fe) := fun z => absurd z.2 (by rw [hfe]; exact Int32.not_lt.mpr b61); rw [nI_1, hNo hz2]; exact ih (s + 1) (by omega) _ _ _ _ hI hY hF0)
            · exact hcut ⟨hz, by rw [hfe]; exact Int32.not_le.mp b61⟩
set_option maxRecDepth 100000 in
set_option maxHeartbeats 4000000 in
theorem y_quietP {G : mj_G} {h : mj_H} {d : Nat} {τ : Nat → Nat → Int32} (hY : YS G h τ) {n : Nat} (hn : τ 0 2 = nI n) (h7 : n ≤ 7) (hok : okB n (τ 0)) {k h4 : Nat} (e4 : τ 0 4 = nI h4) (hh : h4 < 2 ^ n) (hk : k ≤ 100) (hd : 4 ≤ d) : mj_con G MX5_quietBy d 0 0 [.ref (G.1 + 220), .int (-1), .int (nI k)] h (fun v h' => v = some (.int (feF n k (τ 0) clP (2 ^ n) 0 (-1000000) 8)) ∧ YS G h' (u2 (asS τ) 0 (τ 0)) ∧ mj_fr 220 13 h h') := by
  refine mj_conV okX5_quietBy (ls := [some (.ref (G.1 + 220)), some (.int (-1)), some (.int (nI k)), none, none, none, none]) rfl rfl ?_
  obtain ⟨y0, y1, y2, y3, y4, y5, y6, y7, y8, y9, y10, y11, y12⟩ := id hY
  refine s_aload_n (n := 1) (i := 0) dX5_quietBy_0 rfl rfl rfl ?_
  refine s_v0 (M' := MX5_putAside) (n := 4) (ci := 5) dX5_quietBy_1 rfl wd_X5_174 okX5_putAside rfl rfl (by omega) ⟨Nat.le_refl _, Nat.le_refl _⟩ (by assumption) (y_pa (d := d - 1) hY) ?_
  rintro v1 hh1 ⟨rfl, hY1, hF1⟩
  obtain ⟨y0, y1, y2, y3, y4, y5, y6, y7, y8, y9, y10, y11, y12⟩ := id hY1
  replace y4 : hh1.2 224 = mj_ar 0 48 (τ 0) := y4
  replace y0 : hh1.2 220 = YO G (τ 12) := y0
  refine s_iconst (n := 5) (v := 1) dX5_quietBy_4 rfl (by decide) ?_
  refine s_aload_n (n := 6) (i := 0) dX5_quietBy_5 rfl rfl rfl ?_
  refine gf_X5_19 (n := 9) rfl dX5_quietBy_6 rfl (by assumption) (by rfl) ?_
  refine s_iconst (n := 10) (v := 2) dX5_quietBy_9 rfl (by decide) ?_
  refine s_iald (n := 11) dX5_quietBy_10 rfl (by assumption) (mj_ixe (j := 2) rfl (by omega)) ?_
  refine s_ishl (n := 12) dX5_quietBy_11 rfl ?_
  refine s_iconst (n := 13) (v := 1) dX5_quietBy_12 rfl (by decide) ?_
  refine s_isub (n := 14) dX5_quietBy_13 rfl ?_
  refine s_aload_n (n := 15) (i := 0) dX5_quietBy_14 rfl rfl rfl ?_
  refine gf_X5_19 (n := 18) rfl dX5_quietBy_15 rfl (by assumption) (by rfl) ?_
  refine s_iconst (n := 19) (v := 4) dX5_quietBy_18 rfl (by decide) ?_
  refine s_iald (n := 20) dX5_quietBy_19 rfl (by assumption) (mj_ixe (j := 4) rfl (by omega)) ?_
  refine s_iconst (n := 21) (v := (-1)) dX5_quietBy_20 rfl (by decide) ?_
  refine s_ixor (n := 22) dX5_quietBy_21 rfl ?_
  refine s_iand (n := 23) dX5_quietBy_22 rfl ?_
  rw [hn, e4, (bits_all n (by omega) h4 hh).1]
  refine s_istore_n (n := 24) (i := 3) (ls' := [_, _, _, _, _, _, _]) dX5_quietBy_23 rfl rfl rfl rfl rfl ?_
  refine s_ldc (n := 26) dX5_quietBy_24 rfl wd_X5_186 ?_
  refine s_istore (n := 28) (i := 4) (ls' := [_, _, _, _, _, _, _]) dX5_quietBy_26 rfl rfl rfl rfl ?_
  refine s_iconst (n := 29) (v := 0) dX5_quietBy_28 rfl (by decide) ?_
  refine s_istore (n := 31) (i := 5) (ls' := [_, _, _, _, _, _, _]) dX5_quietBy_29 rfl rfl rfl rfl ?_
  exact l_qbP hok e4 hh hk hd (2 ^ n) 0 (by omega) _ _ _ _ (Or.inl ⟨rfl, rfl⟩) hY1 hF1
set_option maxRecDepth 100000 in
set_option maxHeartbeats 4000000 in
theorem l_qbJ {G : mj_G} {h0 : mj_H} {d n k h4 : Nat} {τ : Nat → Nat → Int32} {j : Nat} (hj : j < 7) (hok : okB n (τ 0)) (e4 : τ 0 4 = nI h4) (hh : h4 < 2 ^ n) (hk : k ≤ 100) (hd : 4 ≤ d) : ∀ (r s : Nat), s + r = 2 ^ n → ∀ (h : mj_H) (wh fe : Int32) (o6 : Option Value), qbI wh fe → YS G h (u2 (asS τ) 0 (τ 0)) → mj_fr 220 13 h0 h → mj_wp G MX5_quietBy d 0 0 31 [some (.ref (G.1 + 220)), some (.int (nI j)), some (.int (nI k)), some (.int (nI (2 ^ n - 1 - h4))), some (.int wh), some (.int (nI s)), o6] [] h 0 0 (fun v h' => v = some (.int (feF n k (τ 0) (clJ j) r s wh fe)) ∧ YS G h' (u2 (asS τ) 0 (τ 0)) ∧ mj_fr 220 13 h0 h') := by
  have h7 : n ≤ 7 := hok.1.2.1
  have hp := p2_le h7
  have hb := (bits_all n (by omega) h4 hh).2
  intro r
  induction r with
  | zero =>
    intro s hs h wh fe o6 hI hY hF0
    obtain ⟨y0, y1, y2, y3, y4, y5, y6, y7, y8, y9, y10, y11, y12⟩ := id hY
    replace y4 : h.2 224 = mj_ar 0 48 (τ 0) := y4
    replace y0 : h.2 220 = YO G (τ 12) := y0
    refine s_iload (n := 33) dX5_quietBy_31 rfl rfl ?_
    refine s_iload_n (n := 34) (i := 3) dX5_quietBy_33 rfl rfl rfl ?_
    refine s_icmp_gt (n := 37) (tgt := 142) dX5_quietBy_34 rfl rfl (fun b34 => ?_) (fun b34 => ?_)
    · refine s_iload (n := 144) dX5_quietBy_142 rfl rfl ?_
      refine s_ireturn dX5_quietBy_144 rfl (rfl) (Nat.le_refl _) (Nat.le_refl _) ?_
      exact ⟨rfl, hY, hF0⟩
    · exact absurd ((nI_ltE (by omega) (by omega)).mpr (by omega)) b34
  | succ r ih =>
    intro s hs h wh fe o6 hI hY hF0
    obtain ⟨y0, y1, y2, y3, y4, y5, y6, y7, y8, y9, y10, y11, y12⟩ := id hY
    replace y4 : h.2 224 = mj_ar 0 48 (τ 0) := y4
    replace y0 : h.2 220 = YO G (τ 12) := y0
    have hcut : (nI s &&& τ 0 4 = 0 ∧ bc (nI s) < fe) → mj_wp G MX5_quietBy d 0 0 64 [some (.ref (G.1 + 220)), some (.int (nI j)), some (.int (nI k)), some (.int (nI (2 ^ n - 1 - h4))), some (.int wh), some (.int (nI s)), o6] [] h 0 0 (fun v h' => v = some (.int (feF n k (τ 0) (clJ j) (r + 1) s wh fe)) ∧ YS G h' (u2 (asS τ) 0 (τ 0)) ∧ mj_fr 220 13 h0 h') := by
      intro hC
      refine s_aload_n (n := 65) (i := 0) dX5_quietBy_64 rfl rfl rfl ?_
      refine gf_X5_19 (n := 68) rfl dX5_quietBy_65 rfl (by assumption) (by rfl) ?_
      refine s_iconst (n := 69) (v := 4) dX5_quietBy_68 rfl (by decide) ?_
      refine s_dup2 (n := 70) dX5_quietBy_69 rfl rfl rfl ?_
      refine s_iald (n := 71) dX5_quietBy_70 rfl (by assumption) (mj_ixe (j := 4) rfl (by omega)) ?_
      refine s_iload (n := 73) dX5_quietBy_71 rfl rfl ?_
      refine s_ior (n := 74) dX5_quietBy_73 rfl ?_
      refine s_iast (n := 75) dX5_quietBy_74 rfl (by assumption) (mj_ixe (j := 4) rfl (by omega)) ?_
      refine YA_0 hY (fun h1 hY1 hF1 => ?_)
      rw [u2_u2] at hY1
      obtain ⟨y0, y1, y2, y3, y4, y5, y6, y7, y8, y9, y10, y11, y12⟩ := id hY1
      replace y4 : h1.2 224 = mj_ar 0 48 (upd (τ 0) 4 (τ 0 4 ||| nI s)) := y4
      replace y0 : h1.2 220 = YO G (τ 12) := y0
      refine s_aload_n (n := 76) (i := 0) dX5_quietBy_75 rfl rfl rfl ?_
      refine s_iload_n (n := 77) (i := 2) dX5_quietBy_76 rfl rfl rfl ?_
      refine s_v1 (M' := MX5_goOn) (n := 80) (ci := 5) dX5_quietBy_77 rfl wd_X5_177 okX5_goOn rfl rfl (by omega) ⟨Nat.le_refl _, Nat.le_refl _⟩ (by assumption) (y_goOn (d := d - 1) hY1 (n := n) (m := k) (okB_up hok (Or.inl rfl)) (by omega) (by omega)) ?_
      rintro v77 hh77 ⟨rfl, hY2, hF2⟩
      obtain ⟨y0, y1, y2, y3, y4, y5, y6, y7, y8, y9, y10, y11, y12⟩ := id hY2
      replace y4 : hh77.2 224 = mj_ar 0 48 (mns n k (upd (τ 0) 4 (τ 0 4 ||| nI s))) := y4
      replace y0 : hh77.2 220 = YO G (τ 12) := y0
      refine s_iload_n (n := 81) (i := 1) dX5_quietBy_80 rfl rfl rfl ?_
      refine s_if_ge (n := 84) (tgt := 99) dX5_quietBy_81 rfl rfl (fun b81 => ?_) (fun b81 => ?_)
      · refine s_aload_n (n := 100) (i := 0) dX5_quietBy_99 rfl rfl rfl ?_
        refine gf_X5_19 (n := 103) rfl dX5_quietBy_100 rfl (by assumption) (by rfl) ?_
        refine s_bipush (n := 105) (v := 34) dX5_quietBy_103 rfl (by decide) ?_
        refine s_iload_n (n := 106) (i := 1) dX5_quietBy_105 rfl rfl rfl ?_
        refine s_iadd (n := 107) dX5_quietBy_106 rfl ?_
        refine s_iald (n := 108) dX5_quietBy_107 rfl (by assumption) (mj_ixa (o := 34) rfl (by omega)) ?_
        refine s_if_ne (n := 111) (tgt := 115) dX5_quietBy_108 rfl rfl (fun b108 => ?_) (fun b108 => ?_)
        · have hcl : clJ j (mns n k (upd (τ 0) 4 (τ 0 4 ||| nI s))) = 0 := if_neg b108
          refine s_iconst (n := 116) (v := 0) dX5_quietBy_115 rfl (by decide) ?_
          refine s_istore (n := 118) (i := 6) (ls' := [_, _, _, _, _, _, _]) dX5_quietBy_116 rfl rfl rfl rfl ?_
          refine s_iload (n := 120) dX5_quietBy_118 rfl rfl ?_
          refine s_if_eq (n := 123) (tgt := 128) dX5_quietBy_120 rfl rfl (fun b120 => ?_) (fun b120 => ?_)
          · have k120 := b120
            refine s_iload (n := 130) dX5_quietBy_128 rfl rfl ?_
            refine s_istore (n := 132) (i := 4) (ls' := [_, _, _, _, _, _, _]) dX5_quietBy_130 rfl rfl rfl rfl ?_
            refine s_aload_n (n := 133) (i := 0) dX5_quietBy_132 rfl rfl rfl ?_
            refine s_v0 (M' := MX5_takeBack) (n := 136) (ci := 5) dX5_quietBy_133 rfl wd_X5_180 okX5_takeBack rfl rfl (by omega) ⟨Nat.le_refl _, Nat.le_refl _⟩ (by assumption) (y_tb (d := d - 1) hY2 (fun q hq => (mns_o h7 hq k).trans (up_ne (by omega)))) ?_
            rintro v133 hh133 ⟨rfl, hY9, hF9⟩
            have hFa := fr_tr (fr_tr hF0 (fr_tr hF1 hF2)) hF9
            obtain ⟨y0, y1, y2, y3, y4, y5, y6, y7, y8, y9, y10, y11, y12⟩ := id hY9
            replace y4 : hh133.2 224 = mj_ar 0 48 (τ 0) := y4
            replace y0 : hh133.2 220 = YO G (τ 12) := y0
            refine s_iinc (n := 139) (v := _ + 1) (ls' := [_, _, _, _, _, _, _]) dX5_quietBy_136 rfl rfl rfl rfl rfl ?_
            refine s_goto (tgt := 31) dX5_quietBy_139 rfl ?_
            rw [nI_1]
            unfold feF
            first | exact absurd k120 one_ne | exact absurd rfl k120 | (rw [if_pos ⟨hC, by exact hcl⟩]; exact ih (s + 1) (by omega) _ _ _ _ (Or.inr ⟨s, by omega, rfl, rfl⟩) hY9 hFa) | (rw [if_neg (fun z => absurd hcl z.2)]; exact ih (s + 1) (by omega) _ _ _ _ hI hY9 hFa)
          · have k120 := b120
            refine s_iload (n := 125) dX5_quietBy_123 rfl rfl ?_
            refine s_goto (tgt := 130) dX5_quietBy_125 rfl ?_
            refine s_istore (n := 132) (i := 4) (ls' := [_, _, _, _, _, _, _]) dX5_quietBy_130 rfl rfl rfl rfl ?_
            refine s_aload_n (n := 133) (i := 0) dX5_quietBy_132 rfl rfl rfl ?_
            refine s_v0 (M' := MX5_takeBack) (n := 136) (ci := 5) dX5_quietBy_133 rfl wd_X5_180 okX5_takeBack rfl rfl (by omega) ⟨Nat.le_refl _, Nat.le_refl _⟩ (by assumption) (y_tb (d := d - 1) hY2 (fun q hq => (mns_o h7 hq k).trans (up_ne (by omega)))) ?_
            rintro v133 hh133 ⟨rfl, hY9, hF9⟩
            have hFa := fr_tr (fr_tr hF0 (fr_tr hF1 hF2)) hF9
            obtain ⟨y0, y1, y2, y3, y4, y5, y6, y7, y8, y9, y10, y11, y12⟩ := id hY9
            replace y4 : hh133.2 224 = mj_ar 0 48 (τ 0) := y4
            replace y0 : hh133.2 220 = YO G (τ 12) := y0
            refine s_iinc (n := 139) (v := _ + 1) (ls' := [_, _, _, _, _, _, _]) dX5_quietBy_136 rfl rfl rfl rfl rfl ?_
            refine s_goto (tgt := 31) dX5_quietBy_139 rfl ?_
            rw [nI_1]
            unfold feF
            first | exact absurd k120 one_ne | exact absurd rfl k120 | (rw [if_pos ⟨hC, by exact hcl⟩]; exact ih (s + 1) (by omega) _ _ _ _ (Or.inr ⟨s, by omega, rfl, rfl⟩) hY9 hFa) | (rw [if_neg (fun z => absurd hcl z.2)]; exact ih (s + 1) (by omega) _ _ _ _ hI hY9 hFa)
        · have hcl : ¬ clJ j (mns n k (upd (τ 0) 4 (τ 0 4 ||| nI s))) = 0 := by
            unfold clJ
            rw [if_pos b108]
            exact one_ne
          refine s_iconst (n := 112) (v := 1) dX5_quietBy_111 rfl (by decide) ?_
          refine s_goto (tgt := 116) dX5_quietBy_112 rfl ?_
          refine s_istore (n := 118) (i := 6) (ls' := [_, _, _, _, _, _, _]) dX5_quietBy_116 rfl rfl rfl rfl ?_
          refine s_iload (n := 120) dX5_quietBy_118 rfl rfl ?_
          refine s_if_eq (n := 123) (tgt := 128) dX5_quietBy_120 rfl rfl (fun b120 => ?_) (fun b120 => ?_)
          · have k120 := b120
            refine s_iload (n := 130) dX5_quietBy_128 rfl rfl ?_
            refine s_istore (n := 132) (i := 4) (ls' := [_, _, _, _, _, _, _]) dX5_quietBy_130 rfl rfl rfl rfl ?_
            refine s_aload_n (n := 133) (i := 0) dX5_quietBy_132 rfl rfl rfl ?_
            refine s_v0 (M' := MX5_takeBack) (n := 136) (ci := 5) dX5_quietBy_133 rfl wd_X5_180 okX5_takeBack rfl rfl (by omega) ⟨Nat.le_refl _, Nat.le_refl _⟩ (by assumption) (y_tb (d := d - 1) hY2 (fun q hq => (mns_o h7 hq k).trans (up_ne (by omega)))) ?_
            rintro v133 hh133 ⟨rfl, hY9, hF9⟩
            have hFa := fr_tr (fr_tr hF0 (fr_tr hF1 hF2)) hF9
            obtain ⟨y0, y1, y2, y3, y4, y5, y6, y7, y8, y9, y10, y11, y12⟩ := id hY9
            replace y4 : hh133.2 224 = mj_ar 0 48 (τ 0) := y4
            replace y0 : hh133.2 220 = YO G (τ 12) := y0
            refine s_iinc (n := 139) (v := _ + 1) (ls' := [_, _, _, _, _, _, _]) dX5_quietBy_136 rfl rfl rfl rfl rfl ?_
            refine s_goto (tgt := 31) dX5_quietBy_139 rfl ?_
            rw [nI_1]
            unfold feF
            first | exact absurd k120 one_ne | exact absurd rfl k120 | (rw [if_pos ⟨hC, by exact hcl⟩]; exact ih (s + 1) (by omega) _ _ _ _ (Or.inr ⟨s, by omega, rfl, rfl⟩) hY9 hFa) | (rw [if_neg (fun z => absurd hcl z.2)]; exact ih (s + 1) (by omega) _ _ _ _ hI hY9 hFa)
          · have k120 := b120
            refine s_iload (n := 125) dX5_quietBy_123 rfl rfl ?_
            refine s_goto (tgt := 130) dX5_quietBy_125 rfl ?_
            refine s_istore (n := 132) (i := 4) (ls' := [_, _, _, _, _, _, _]) dX5_quietBy_130 rfl rfl rfl rfl ?_
            refine s_aload_n (n := 133) (i := 0) dX5_quietBy_132 rfl rfl rfl ?_
            refine s_v0 (M' := MX5_takeBack) (n := 136) (ci := 5) dX5_quietBy_133 rfl wd_X5_180 okX5_takeBack rfl rfl (by omega) ⟨Nat.le_refl _, Nat.le_refl _⟩ (by assumption) (y_tb (d := d - 1) hY2 (fun q hq => (mns_o h7 hq k).trans (up_ne (by omega)))) ?_
            rintro v133 hh133 ⟨rfl, hY9, hF9⟩
            have hFa := fr_tr (fr_tr hF0 (fr_tr hF1 hF2)) hF9
            obtain ⟨y0, y1, y2, y3, y4, y5, y6, y7, y8, y9, y10, y11, y12⟩ := id hY9
            replace y4 : hh133.2 224 = mj_ar 0 48 (τ 0) := y4
            replace y0 : hh133.2 220 = YO G (τ 12) := y0
            refine s_iinc (n := 139) (v := _ + 1) (ls' := [_, _, _, _, _, _, _]) dX5_quietBy_136 rfl rfl rfl rfl rfl ?_
            refine s_goto (tgt := 31) dX5_quietBy_139 rfl ?_
            rw [nI_1]
            unfold feF
            first | exact absurd k120 one_ne | exact absurd rfl k120 | (rw [if_pos ⟨hC, by exact hcl⟩]; exact ih (s + 1) (by omega) _ _ _ _ (Or.inr ⟨s, by omega, rfl, rfl⟩) hY9 hFa) | (rw [if_neg (fun z => absurd hcl z.2)]; exact ih (s + 1) (by omega) _ _ _ _ hI hY9 hFa)
      · exact absurd (Int32.not_lt.mp (nI_lt0 (by omega))) b81
    have hNo : ¬ (nI s &&& τ 0 4 = 0 ∧ bc (nI s) < fe) → feF n k (τ 0) (clJ j) (r + 1) s wh fe = feF n k (τ 0) (clJ j) r (s + 1) wh fe := by
      intro z
      show (if _ then _ else _) = _
      rw [if_neg (fun y => z y.1)]
    have hSk : 2 ^ n - 1 - h4 < s → feF n k (τ 0) (clJ j) (r + 1) s wh fe = wh := fun z => feF_skip (r + 1) s (fun q h1 h2 => by rw [e4]; exact (hb q (by omega)).2 (by omega))
    have hIc := hI
    rcases hIc with ⟨hw, hfe⟩ | ⟨q, hq, hw, hfe⟩
    · have bs := bc_all s (by omega)
      refine s_iload (n := 33) dX5_quietBy_31 rfl rfl ?_
      refine s_iload_n (n := 34) (i := 3) dX5_quietBy_33 rfl rfl rfl ?_
      refine s_icmp_gt (n := 37) (tgt := 142) dX5_quietBy_34 rfl rfl (fun b34 => ?_) (fun b34 => ?_)
      · refine s_iload (n := 144) dX5_quietBy_142 rfl rfl ?_
        refine s_ireturn dX5_quietBy_144 rfl (rfl) (Nat.le_refl _) (Nat.le_refl _) ?_
        exact ⟨by rw [hSk ((nI_ltE (by omega) (by omega)).mp b34)], hY, hF0⟩
      · refine s_iload (n := 39) dX5_quietBy_37 rfl rfl ?_
        refine s_iload_n (n := 40) (i := 3) dX5_quietBy_39 rfl rfl rfl ?_
        refine s_iconst (n := 41) (v := (-1)) dX5_quietBy_40 rfl (by decide) ?_
        refine s_ixor (n := 42) dX5_quietBy_41 rfl ?_
        refine s_iand (n := 43) dX5_quietBy_42 rfl ?_
        refine s_if_ne (n := 46) (tgt := 136) dX5_quietBy_43 rfl rfl (fun b43 => ?_) (fun b43 => ?_)
        · have hz : ¬ nI s &&& τ 0 4 = 0 := by
            rw [e4]
            exact fun z => b43 ((hb s (by omega)).1.mpr z)
          refine s_iinc (n := 139) (v := _ + 1) (ls' := [_, _, _, _, _, _, _]) dX5_quietBy_136 rfl rfl rfl rfl rfl ?_
          refine s_goto (tgt := 31) dX5_quietBy_139 rfl ?_
          rw [nI_1, hNo (fun z => hz z.1)]
          exact ih (s + 1) (by omega) _ _ _ _ hI hY hF0
        · have hz : nI s &&& τ 0 4 = 0 := by
            rw [e4]
            exact (hb s (by omega)).1.mp b43
          refine s_iload (n := 48) dX5_quietBy_46 rfl rfl ?_
          refine s_if_lt (n := 51) (tgt := 64) dX5_quietBy_48 rfl rfl (fun b48 => ?_) (fun b48 => ?_)
          · exact hcut ⟨hz, by rw [hfe]; exact bs⟩
          · exact absurd (by rw [hw]; decide) b48
    · subst hw
      refine s_iload (n := 33) dX5_quietBy_31 rfl rfl ?_
      refine s_iload_n (n := 34) (i := 3) dX5_quietBy_33 rfl rfl rfl ?_
      refine s_icmp_gt (n := 37) (tgt := 142) dX5_quietBy_34 rfl rfl (fun b34 => ?_) (fun b34 => ?_)
      · refine s_iload (n := 144) dX5_quietBy_142 rfl rfl ?_
        refine s_ireturn dX5_quietBy_144 rfl (rfl) (Nat.le_refl _) (Nat.le_refl _) ?_
        exact ⟨by rw [hSk ((nI_ltE (by omega) (by omega)).mp b34)], hY, hF0⟩
      · refine s_iload (n := 39) dX5_quietBy_37 rfl rfl ?_
        refine s_iload_n (n := 40) (i := 3) dX5_quietBy_39 rfl rfl rfl ?_
        refine s_iconst (n := 41) (v := (-1)) dX5_quietBy_40 rfl (by decide) ?_
        refine s_ixor (n := 42) dX5_quietBy_41 rfl ?_
        refine s_iand (n := 43) dX5_quietBy_42 rfl ?_
        refine s_if_ne (n := 46) (tgt := 136) dX5_quietBy_43 rfl rfl (fun b43 => ?_) (fun b43 => ?_)
        · have hz : ¬ nI s &&& τ 0 4 = 0 := by
            rw [e4]
            exact fun z => b43 ((hb s (by omega)).1.mpr z)
          refine s_iinc (n := 139) (v := _ + 1) (ls' := [_, _, _, _, _, _, _]) dX5_quietBy_136 rfl rfl rfl rfl rfl ?_
          refine s_goto (tgt := 31) dX5_quietBy_139 rfl ?_
          first | (have hz2 : ¬ (nI s &&& τ 0 4 = 0 ∧ bc (nI s) < fe) := fun z => hz z.1; rw [nI_1, hNo hz2]; exact ih (s + 1) (by omega) _ _ _ _ hI hY hF0) | (have hz2 : ¬ (nI s &&& τ 0 4 = 0 ∧ bc (nI s) < fe) := fun z => absurd z.2 (by rw [hfe]; exact Int32.not_lt.mpr b61); rw [nI_1, hNo hz2]; exact ih (s + 1) (by omega) _ _ _ _ hI hY hF0)
        · have hz : nI s &&& τ 0 4 = 0 := by
            rw [e4]
            exact (hb s (by omega)).1.mp b43
          refine s_iload (n := 48) dX5_quietBy_46 rfl rfl ?_
          refine s_if_lt (n := 51) (tgt := 64) dX5_quietBy_48 rfl rfl (fun b48 => ?_) (fun b48 => ?_)
          · exact absurd b48 (nI_lt0 (by omega))
          · refine s_iload (n := 53) dX5_quietBy_51 rfl rfl ?_
            refine s_s1 (M' := MX5_ones) (n := 56) dX5_quietBy_53 rfl wd_X5_191 okX5_ones rfl (by omega) ⟨Nat.le_refl _, Nat.le_refl _⟩ (y_ones (d := d - 1) (s := s) (by omega)) ?_
            rintro v53 hh53 ⟨rfl, rfl⟩
            refine s_iload (n := 58) dX5_quietBy_56 rfl rfl ?_
            refine s_s1 (M' := MX5_ones) (n := 61) dX5_quietBy_58 rfl wd_X5_191 okX5_ones rfl (by omega) ⟨Nat.le_refl _, Nat.le_refl _⟩ (y_ones (d := d - 1) (s := q) hq) ?_
            rintro v58 hh58 ⟨rfl, rfl⟩
            refine s_icmp_ge (n := 64) (tgt := 136) dX5_quietBy_61 rfl rfl (fun b61 => ?_) (fun b61 => ?_)
            · refine s_iinc (n := 139) (v := _ + 1) (ls' := [_, _, _, _, _, _, _]) dX5_quietBy_136 rfl rfl rfl rfl rfl ?_
              refine s_goto (tgt := 31) dX5_quietBy_139 rfl ?_
              first | (have hz2 : ¬ (nI s &&& τ 0 4 = 0 ∧ bc (nI s) < fe) := fun z => hz z.1; rw [nI_1, hNo hz2]; exact ih (s + 1) (by omega) _ _ _ _ hI hY hF0) | (have hz2 : ¬ (nI s &&& τ 0 4 = 0 ∧ bc (nI s) < fe) := fun z => absurd z.2 (by rw [hfe]; exact Int32.not_lt.mpr b61); rw [nI_1, hNo hz2]; exact ih (s + 1) (by omega) _ _ _ _ hI hY hF0)
            · exact hcut ⟨hz, by rw [hfe]; exact Int32.not_le.mp b61⟩
set_option maxRecDepth 100000 in
set_option maxHeartbeats 4000000 in
theorem y_quietJ {G : mj_G} {h : mj_H} {d : Nat} {τ : Nat → Nat → Int32} (hY : YS G h τ) {n : Nat} (hn : τ 0 2 = nI n) (h7 : n ≤ 7) (hok : okB n (τ 0)) {j : Nat} (hj : j < 7) {k h4 : Nat} (e4 : τ 0 4 = nI h4) (hh : h4 < 2 ^ n) (hk : k ≤ 100) (hd : 4 ≤ d) : mj_con G MX5_quietBy d 0 0 [.ref (G.1 + 220), .int (nI j), .int (nI k)] h (fun v h' => v = some (.int (feF n k (τ 0) (clJ j) (2 ^ n) 0 (-1000000) 8)) ∧ YS G h' (u2 (asS τ) 0 (τ 0)) ∧ mj_fr 220 13 h h') := by
  refine mj_conV okX5_quietBy (ls := [some (.ref (G.1 + 220)), some (.int (nI j)), some (.int (nI k)), none, none, none, none]) rfl rfl ?_
  obtain ⟨y0, y1, y2, y3, y4, y5, y6, y7, y8, y9, y10, y11, y12⟩ := id hY
  refine s_aload_n (n := 1) (i := 0) dX5_quietBy_0 rfl rfl rfl ?_
  refine s_v0 (M' := MX5_putAside) (n := 4) (ci := 5) dX5_quietBy_1 rfl wd_X5_174 okX5_putAside rfl rfl (by omega) ⟨Nat.le_refl _, Nat.le_refl _⟩ (by assumption) (y_pa (d := d - 1) hY) ?_
  rintro v1 hh1 ⟨rfl, hY1, hF1⟩
  obtain ⟨y0, y1, y2, y3, y4, y5, y6, y7, y8, y9, y10, y11, y12⟩ := id hY1
  replace y4 : hh1.2 224 = mj_ar 0 48 (τ 0) := y4
  replace y0 : hh1.2 220 = YO G (τ 12) := y0
  refine s_iconst (n := 5) (v := 1) dX5_quietBy_4 rfl (by decide) ?_
  refine s_aload_n (n := 6) (i := 0) dX5_quietBy_5 rfl rfl rfl ?_
  refine gf_X5_19 (n := 9) rfl dX5_quietBy_6 rfl (by assumption) (by rfl) ?_
  refine s_iconst (n := 10) (v := 2) dX5_quietBy_9 rfl (by decide) ?_
  refine s_iald (n := 11) dX5_quietBy_10 rfl (by assumption) (mj_ixe (j := 2) rfl (by omega)) ?_
  refine s_ishl (n := 12) dX5_quietBy_11 rfl ?_
  refine s_iconst (n := 13) (v := 1) dX5_quietBy_12 rfl (by decide) ?_
  refine s_isub (n := 14) dX5_quietBy_13 rfl ?_
  refine s_aload_n (n := 15) (i := 0) dX5_quietBy_14 rfl rfl rfl ?_
  refine gf_X5_19 (n := 18) rfl dX5_quietBy_15 rfl (by assumption) (by rfl) ?_
  refine s_iconst (n := 19) (v := 4) dX5_quietBy_18 rfl (by decide) ?_
  refine s_iald (n := 20) dX5_quietBy_19 rfl (by assumption) (mj_ixe (j := 4) rfl (by omega)) ?_
  refine s_iconst (n := 21) (v := (-1)) dX5_quietBy_20 rfl (by decide) ?_
  refine s_ixor (n := 22) dX5_quietBy_21 rfl ?_
  refine s_iand (n := 23) dX5_quietBy_22 rfl ?_
  rw [hn, e4, (bits_all n (by omega) h4 hh).1]
  refine s_istore_n (n := 24) (i := 3) (ls' := [_, _, _, _, _, _, _]) dX5_quietBy_23 rfl rfl rfl rfl rfl ?_
  refine s_ldc (n := 26) dX5_quietBy_24 rfl wd_X5_186 ?_
  refine s_istore (n := 28) (i := 4) (ls' := [_, _, _, _, _, _, _]) dX5_quietBy_26 rfl rfl rfl rfl ?_
  refine s_iconst (n := 29) (v := 0) dX5_quietBy_28 rfl (by decide) ?_
  refine s_istore (n := 31) (i := 5) (ls' := [_, _, _, _, _, _, _]) dX5_quietBy_29 rfl rfl rfl rfl ?_
  exact l_qbJ hj hok e4 hh hk hd (2 ^ n) 0 (by omega) _ _ _ _ (Or.inl ⟨rfl, rfl⟩) hY1 hF1
set_option maxRecDepth 100000 in
set_option maxHeartbeats 4000000 in
theorem y_hushes_bad {G : mj_G} {h : mj_H} {d : Nat} {τ : Nat → Nat → Int32} (hY : YS G h τ) {n : Nat} (hn : τ 0 2 = nI n) (h7 : n ≤ 7) {x y z : Int32} (hb : ¬ (Hs n x ∧ Wi y 1 40 ∧ Wi z 0 1)) (hd : 2 ≤ d) : mj_con G MX5_hushes d 0 0 [.ref (G.1 + 220), .int x, .int y, .int z] h (rI (-1000001) h) := by
  refine mj_conV okX5_hushes (ls := [some (.ref (G.1 + 220)), some (.int x), some (.int y), some (.int z), none]) rfl rfl ?_
  obtain ⟨y0, y1, y2, y3, y4, y5, y6, y7, y8, y9, y10, y11, y12⟩ := id hY
  refine s_aload_n (n := 1) (i := 0) dX5_hushes_0 rfl rfl rfl ?_
  refine s_iload_n (n := 2) (i := 1) dX5_hushes_1 rfl rfl rfl ?_
  refine s_v1 (M' := MX5_isHouse) (n := 5) (ci := 5) dX5_hushes_2 rfl wd_X5_155 okX5_isHouse rfl rfl (by omega) ⟨Nat.le_refl _, Nat.le_refl _⟩ (by assumption) (y_isHouse (d := d - 1) hY hn h7 (by omega)) ?_
  rintro v2 hh2 ⟨rfl, rfl⟩
  refine s_if_eq (n := 8) (tgt := 27) dX5_hushes_5 rfl rfl (fun b5 => ?_) (fun b5 => ?_)
  · refine s_ldc (n := 29) dX5_hushes_27 rfl wd_X5_64 ?_
    refine s_ireturn dX5_hushes_29 rfl (rfl) (Nat.le_refl _) (Nat.le_refl _) ?_
    exact ⟨rfl, rfl⟩
  · refine s_iload_n (n := 9) (i := 2) dX5_hushes_8 rfl rfl rfl ?_
    refine s_i2l (n := 10) dX5_hushes_9 rfl ?_
    refine s_lconst (n := 11) (v := 1) dX5_hushes_10 rfl (by decide) ?_
    refine s_ldc2 (n := 14) dX5_hushes_11 rfl wd_X5_194 ?_
    refine s_s3 (M' := MX5_in) (n := 17) dX5_hushes_14 rfl wd_X5_54 okX5_in rfl (by omega) ⟨Nat.le_refl _, Nat.le_refl _⟩ (y_in (d := d - 1) (A := 1) (B := 40) (by decide) (by decide)) ?_
    rintro v14 hh14 ⟨rfl, rfl⟩
    refine s_if_eq (n := 20) (tgt := 27) dX5_hushes_17 rfl rfl (fun b17 => ?_) (fun b17 => ?_)
    · refine s_ldc (n := 29) dX5_hushes_27 rfl wd_X5_64 ?_
      refine s_ireturn dX5_hushes_29 rfl (rfl) (Nat.le_refl _) (Nat.le_refl _) ?_
      exact ⟨rfl, rfl⟩
    · refine s_iload_n (n := 21) (i := 3) dX5_hushes_20 rfl rfl rfl ?_
      refine s_s1 (M' := MX5_isWhat) (n := 24) dX5_hushes_21 rfl wd_X5_183 okX5_isWhat rfl (by omega) ⟨Nat.le_refl _, Nat.le_refl _⟩ (y_isWhat (d := d - 1) (by omega)) ?_
      rintro v21 hh21 ⟨rfl, rfl⟩
      refine s_if_ne (n := 27) (tgt := 30) dX5_hushes_24 rfl rfl (fun b24 => ?_) (fun b24 => ?_)
      · exact absurd (⟨if1 b5, if1 b17, if1 b24⟩) hb
      · refine s_ldc (n := 29) dX5_hushes_27 rfl wd_X5_64 ?_
        refine s_ireturn dX5_hushes_29 rfl (rfl) (Nat.le_refl _) (Nat.le_refl _) ?_
        exact ⟨rfl, rfl⟩
theorem hmW_n {w x : Int32} (hx : x = -1000000 ∨ ∃ q, q < 128 ∧ x = nI q) (h : x < 0 ∨ w = 1) : hmW x w = x := by
  unfold hmW
  rw [if_pos]
  rcases h with h | h
  · rcases hx with hx | ⟨q, hq, hx⟩
    · exact Or.inl hx
    · rw [hx] at h
      exact absurd h (nI_lt0 (by omega))
  · exact Or.inr h
theorem hmW_y {w x : Int32} (h : ¬ x < 0) (h1 : ¬ w = 1) : hmW x w = bc x := by
  unfold hmW
  rw [if_neg]
  rintro (z | z)
  · rw [z] at h
    exact h (by decide)
  · exact h1 z
set_option maxRecDepth 100000 in
set_option maxHeartbeats 4000000 in
theorem y_hushes {G : mj_G} {h : mj_H} {d : Nat} {τ : Nat → Nat → Int32} (hY : YS G h τ) {n : Nat} (hn : τ 0 2 = nI n) (h7 : n ≤ 7) (hok : okB n (τ 0)) {h4 : Nat} (e4 : τ 0 4 = nI h4) (hh : h4 < 2 ^ n) {j k : Nat} (hj : j < n) (hk : k ≤ 40) (hk1 : 1 ≤ k) {w : Int32} (hw : Wi w 0 1) (hd : 5 ≤ d) : mj_con G MX5_hushes d 0 0 [.ref (G.1 + 220), .int (nI j), .int (nI k), .int w] h (fun v h' => v = some (.int (hmW (feF n k (τ 0) (clJ j) (2 ^ n) 0 (-1000000) 8) w)) ∧ YS G h' (u2 (asS τ) 0 (τ 0)) ∧ mj_fr 220 13 h h') := by
  refine mj_conV okX5_hushes (ls := [some (.ref (G.1 + 220)), some (.int (nI j)), some (.int (nI k)), some (.int w), none]) rfl rfl ?_
  obtain ⟨y0, y1, y2, y3, y4, y5, y6, y7, y8, y9, y10, y11, y12⟩ := id hY
  have hp := p2_le h7
  have hx : _ ∨ _ := feF_c (n := n) (k := k) (T := τ 0) (clr := (clJ j)) (2 ^ n) 0 (-1000000) 8 (by omega) (Or.inl rfl)
  refine s_aload_n (n := 1) (i := 0) dX5_hushes_0 rfl rfl rfl ?_
  refine s_iload_n (n := 2) (i := 1) dX5_hushes_1 rfl rfl rfl ?_
  refine s_v1 (M' := MX5_isHouse) (n := 5) (ci := 5) dX5_hushes_2 rfl wd_X5_155 okX5_isHouse rfl rfl (by omega) ⟨Nat.le_refl _, Nat.le_refl _⟩ (by assumption) (y_isHouse (d := d - 1) hY hn h7 (by omega)) ?_
  rintro v2 hh2 ⟨rfl, rfl⟩
  refine s_if_eq (n := 8) (tgt := 27) dX5_hushes_5 rfl rfl (fun b5 => ?_) (fun b5 => ?_)
  · exact absurd (Hs_n hj h7) (if0 b5)
  · refine s_iload_n (n := 9) (i := 2) dX5_hushes_8 rfl rfl rfl ?_
    refine s_i2l (n := 10) dX5_hushes_9 rfl ?_
    refine s_lconst (n := 11) (v := 1) dX5_hushes_10 rfl (by decide) ?_
    refine s_ldc2 (n := 14) dX5_hushes_11 rfl wd_X5_194 ?_
    refine s_s3 (M' := MX5_in) (n := 17) dX5_hushes_14 rfl wd_X5_54 okX5_in rfl (by omega) ⟨Nat.le_refl _, Nat.le_refl _⟩ (y_in (d := d - 1) (A := 1) (B := 40) (by decide) (by decide)) ?_
    rintro v14 hh14 ⟨rfl, rfl⟩
    refine s_if_eq (n := 20) (tgt := 27) dX5_hushes_17 rfl rfl (fun b17 => ?_) (fun b17 => ?_)
    · exact absurd (Wi_n (by omega) (by omega) (by omega)) (if0 b17)
    · refine s_iload_n (n := 21) (i := 3) dX5_hushes_20 rfl rfl rfl ?_
      refine s_s1 (M' := MX5_isWhat) (n := 24) dX5_hushes_21 rfl wd_X5_183 okX5_isWhat rfl (by omega) ⟨Nat.le_refl _, Nat.le_refl _⟩ (y_isWhat (d := d - 1) (by omega)) ?_
      rintro v21 hh21 ⟨rfl, rfl⟩
      refine s_if_ne (n := 27) (tgt := 30) dX5_hushes_24 rfl rfl (fun b24 => ?_) (fun b24 => ?_)
      · refine s_aload_n (n := 31) (i := 0) dX5_hushes_30 rfl rfl rfl ?_
        refine s_iload_n (n := 32) (i := 1) dX5_hushes_31 rfl rfl rfl ?_
        refine s_iload_n (n := 33) (i := 2) dX5_hushes_32 rfl rfl rfl ?_
        refine s_v2 (M' := MX5_quietBy) (n := 36) (ci := 5) dX5_hushes_33 rfl wd_X5_196 okX5_quietBy rfl rfl (by omega) ⟨Nat.le_refl _, Nat.le_refl _⟩ (by assumption) (y_quietJ (d := d - 1) hY hn h7 hok (by omega) e4 hh (by omega) (by omega)) ?_
        rintro v33 hh33 ⟨rfl, hY1, hF1⟩
        refine s_istore (n := 38) (i := 4) (ls' := [_, _, _, _, _]) dX5_hushes_36 rfl rfl rfl rfl ?_
        refine s_iload (n := 40) dX5_hushes_38 rfl rfl ?_
        refine s_if_lt (n := 43) (tgt := 48) dX5_hushes_40 rfl rfl (fun b40 => ?_) (fun b40 => ?_)
        · have hm := hmW_n (w := w) hx (Or.inl b40)
          refine s_iload (n := 50) dX5_hushes_48 rfl rfl ?_
          refine s_goto (tgt := 58) dX5_hushes_50 rfl ?_
          refine s_ireturn dX5_hushes_58 rfl (rfl) (Nat.le_refl _) (Nat.le_refl _) ?_
          refine ⟨?_, hY1, hF1⟩
          first | rw [hm] | (rw [hxq] at hm; rw [hm])
        · refine s_iload_n (n := 44) (i := 3) dX5_hushes_43 rfl rfl rfl ?_
          refine s_iconst (n := 45) (v := 1) dX5_hushes_44 rfl (by decide) ?_
          refine s_icmp_ne (n := 48) (tgt := 53) dX5_hushes_45 rfl rfl (fun b45 => ?_) (fun b45 => ?_)
          · have hm := hmW_y b40 b45
            obtain ⟨q, hq, hxq⟩ := hx.resolve_left (fun z => b40 (by rw [z]; decide))
            refine s_iload (n := 55) dX5_hushes_53 rfl rfl ?_
            rw [hxq]
            refine s_s1 (M' := MX5_ones) (n := 58) dX5_hushes_55 rfl wd_X5_191 okX5_ones rfl (by omega) ⟨Nat.le_refl _, Nat.le_refl _⟩ (y_ones (d := d - 1) (s := q) hq) ?_
            rintro v55 hh55 ⟨rfl, rfl⟩
            refine s_ireturn dX5_hushes_58 rfl (rfl) (Nat.le_refl _) (Nat.le_refl _) ?_
            refine ⟨?_, hY1, hF1⟩
            first | rw [hm] | (rw [hxq] at hm; rw [hm])
          · have hm := hmW_n (w := w) hx (Or.inr b45)
            refine s_iload (n := 50) dX5_hushes_48 rfl rfl ?_
            refine s_goto (tgt := 58) dX5_hushes_50 rfl ?_
            refine s_ireturn dX5_hushes_58 rfl (rfl) (Nat.le_refl _) (Nat.le_refl _) ?_
            refine ⟨?_, hY1, hF1⟩
            first | rw [hm] | (rw [hxq] at hm; rw [hm])
      · exact absurd (hw) (if0 b24)
set_option maxRecDepth 100000 in
set_option maxHeartbeats 4000000 in
theorem y_spares_st {G : mj_G} {h : mj_H} {d : Nat} {τ : Nat → Nat → Int32} (hY : YS G h τ) {x y : Int32} (hb : τ 12 1 = 0) (hd : 2 ≤ d) : mj_con G MX5_spares d 0 0 [.ref (G.1 + 220), .int x, .int y] h (rI (-1000002) h) := by
  refine mj_conV okX5_spares (ls := [some (.ref (G.1 + 220)), some (.int x), some (.int y), none]) rfl rfl ?_
  obtain ⟨y0, y1, y2, y3, y4, y5, y6, y7, y8, y9, y10, y11, y12⟩ := id hY
  refine s_aload_n (n := 1) (i := 0) dX5_spares_0 rfl rfl rfl ?_
  refine gf_X5_132 (n := 4) rfl dX5_spares_1 rfl (by assumption) (by rfl) ?_
  refine s_if_ne (n := 7) (tgt := 10) dX5_spares_4 rfl rfl (fun b4 => ?_) (fun b4 => ?_)
  · exact absurd hb b4
  · refine s_ldc (n := 9) dX5_spares_7 rfl wd_X5_146 ?_
    refine s_ireturn dX5_spares_9 rfl (rfl) (Nat.le_refl _) (Nat.le_refl _) ?_
    exact ⟨rfl, rfl⟩
set_option maxRecDepth 100000 in
set_option maxHeartbeats 4000000 in
theorem y_spares_bad {G : mj_G} {h : mj_H} {d : Nat} {τ : Nat → Nat → Int32} (hY : YS G h τ) {x y : Int32} (hT : ¬ τ 12 1 = 0) (hb : ¬ (Wi x 1 40 ∧ Wi y 0 1)) (hd : 2 ≤ d) : mj_con G MX5_spares d 0 0 [.ref (G.1 + 220), .int x, .int y] h (rI (-1000001) h) := by
  refine mj_conV okX5_spares (ls := [some (.ref (G.1 + 220)), some (.int x), some (.int y), none]) rfl rfl ?_
  obtain ⟨y0, y1, y2, y3, y4, y5, y6, y7, y8, y9, y10, y11, y12⟩ := id hY
  refine s_aload_n (n := 1) (i := 0) dX5_spares_0 rfl rfl rfl ?_
  refine gf_X5_132 (n := 4) rfl dX5_spares_1 rfl (by assumption) (by rfl) ?_
  refine s_if_ne (n := 7) (tgt := 10) dX5_spares_4 rfl rfl (fun b4 => ?_) (fun b4 => ?_)
  · refine s_iload_n (n := 11) (i := 1) dX5_spares_10 rfl rfl rfl ?_
    refine s_i2l (n := 12) dX5_spares_11 rfl ?_
    refine s_lconst (n := 13) (v := 1) dX5_spares_12 rfl (by decide) ?_
    refine s_ldc2 (n := 16) dX5_spares_13 rfl wd_X5_194 ?_
    refine s_s3 (M' := MX5_in) (n := 19) dX5_spares_16 rfl wd_X5_54 okX5_in rfl (by omega) ⟨Nat.le_refl _, Nat.le_refl _⟩ (y_in (d := d - 1) (A := 1) (B := 40) (by decide) (by decide)) ?_
    rintro v16 hh16 ⟨rfl, rfl⟩
    refine s_if_eq (n := 22) (tgt := 29) dX5_spares_19 rfl rfl (fun b19 => ?_) (fun b19 => ?_)
    · refine s_ldc (n := 31) dX5_spares_29 rfl wd_X5_64 ?_
      refine s_ireturn dX5_spares_31 rfl (rfl) (Nat.le_refl _) (Nat.le_refl _) ?_
      exact ⟨rfl, rfl⟩
    · refine s_iload_n (n := 23) (i := 2) dX5_spares_22 rfl rfl rfl ?_
      refine s_s1 (M' := MX5_isWhat) (n := 26) dX5_spares_23 rfl wd_X5_183 okX5_isWhat rfl (by omega) ⟨Nat.le_refl _, Nat.le_refl _⟩ (y_isWhat (d := d - 1) (by omega)) ?_
      rintro v23 hh23 ⟨rfl, rfl⟩
      refine s_if_ne (n := 29) (tgt := 32) dX5_spares_26 rfl rfl (fun b26 => ?_) (fun b26 => ?_)
      · exact absurd (⟨if1 b19, if1 b26⟩) hb
      · refine s_ldc (n := 31) dX5_spares_29 rfl wd_X5_64 ?_
        refine s_ireturn dX5_spares_31 rfl (rfl) (Nat.le_refl _) (Nat.le_refl _) ?_
        exact ⟨rfl, rfl⟩
  · exact absurd b4 hT
set_option maxRecDepth 100000 in
set_option maxHeartbeats 4000000 in
theorem y_spares {G : mj_G} {h : mj_H} {d : Nat} {τ : Nat → Nat → Int32} (hY : YS G h τ) {n : Nat} (hn : τ 0 2 = nI n) (h7 : n ≤ 7) (hok : okB n (τ 0)) {h4 : Nat} (e4 : τ 0 4 = nI h4) (hh : h4 < 2 ^ n) {k : Nat} (hk : k ≤ 40) (hk1 : 1 ≤ k) (hT : ¬ τ 12 1 = 0) {w : Int32} (hw : Wi w 0 1) (hd : 5 ≤ d) : mj_con G MX5_spares d 0 0 [.ref (G.1 + 220), .int (nI k), .int w] h (fun v h' => v = some (.int (hmW (feF n k (τ 0) clP (2 ^ n) 0 (-1000000) 8) w)) ∧ YS G h' (u2 (asS τ) 0 (τ 0)) ∧ mj_fr 220 13 h h') := by
  refine mj_conV okX5_spares (ls := [some (.ref (G.1 + 220)), some (.int (nI k)), some (.int w), none]) rfl rfl ?_
  obtain ⟨y0, y1, y2, y3, y4, y5, y6, y7, y8, y9, y10, y11, y12⟩ := id hY
  have hp := p2_le h7
  have hx : _ ∨ _ := feF_c (n := n) (k := k) (T := τ 0) (clr := clP) (2 ^ n) 0 (-1000000) 8 (by omega) (Or.inl rfl)
  refine s_aload_n (n := 1) (i := 0) dX5_spares_0 rfl rfl rfl ?_
  refine gf_X5_132 (n := 4) rfl dX5_spares_1 rfl (by assumption) (by rfl) ?_
  refine s_if_ne (n := 7) (tgt := 10) dX5_spares_4 rfl rfl (fun b4 => ?_) (fun b4 => ?_)
  · refine s_iload_n (n := 11) (i := 1) dX5_spares_10 rfl rfl rfl ?_
    refine s_i2l (n := 12) dX5_spares_11 rfl ?_
    refine s_lconst (n := 13) (v := 1) dX5_spares_12 rfl (by decide) ?_
    refine s_ldc2 (n := 16) dX5_spares_13 rfl wd_X5_194 ?_
    refine s_s3 (M' := MX5_in) (n := 19) dX5_spares_16 rfl wd_X5_54 okX5_in rfl (by omega) ⟨Nat.le_refl _, Nat.le_refl _⟩ (y_in (d := d - 1) (A := 1) (B := 40) (by decide) (by decide)) ?_
    rintro v16 hh16 ⟨rfl, rfl⟩
    refine s_if_eq (n := 22) (tgt := 29) dX5_spares_19 rfl rfl (fun b19 => ?_) (fun b19 => ?_)
    · exact absurd (Wi_n (by omega) (by omega) (by omega)) (if0 b19)
    · refine s_iload_n (n := 23) (i := 2) dX5_spares_22 rfl rfl rfl ?_
      refine s_s1 (M' := MX5_isWhat) (n := 26) dX5_spares_23 rfl wd_X5_183 okX5_isWhat rfl (by omega) ⟨Nat.le_refl _, Nat.le_refl _⟩ (y_isWhat (d := d - 1) (by omega)) ?_
      rintro v23 hh23 ⟨rfl, rfl⟩
      refine s_if_ne (n := 29) (tgt := 32) dX5_spares_26 rfl rfl (fun b26 => ?_) (fun b26 => ?_)
      · refine s_aload_n (n := 33) (i := 0) dX5_spares_32 rfl rfl rfl ?_
        refine s_iconst (n := 34) (v := (-1)) dX5_spares_33 rfl (by decide) ?_
        refine s_iload_n (n := 35) (i := 1) dX5_spares_34 rfl rfl rfl ?_
        refine s_v2 (M' := MX5_quietBy) (n := 38) (ci := 5) dX5_spares_35 rfl wd_X5_196 okX5_quietBy rfl rfl (by omega) ⟨Nat.le_refl _, Nat.le_refl _⟩ (by assumption) (y_quietP (d := d - 1) hY hn h7 hok e4 hh (by omega) (by omega)) ?_
        rintro v35 hh35 ⟨rfl, hY1, hF1⟩
        refine s_istore_n (n := 39) (i := 3) (ls' := [_, _, _, _]) dX5_spares_38 rfl rfl rfl rfl rfl ?_
        refine s_iload_n (n := 40) (i := 3) dX5_spares_39 rfl rfl rfl ?_
        refine s_if_lt (n := 43) (tgt := 48) dX5_spares_40 rfl rfl (fun b40 => ?_) (fun b40 => ?_)
        · have hm := hmW_n (w := w) hx (Or.inl b40)
          refine s_iload_n (n := 49) (i := 3) dX5_spares_48 rfl rfl rfl ?_
          refine s_goto (tgt := 56) dX5_spares_49 rfl ?_
          refine s_ireturn dX5_spares_56 rfl (rfl) (Nat.le_refl _) (Nat.le_refl _) ?_
          refine ⟨?_, hY1, hF1⟩
          first | rw [hm] | (rw [hxq] at hm; rw [hm])
        · refine s_iload_n (n := 44) (i := 2) dX5_spares_43 rfl rfl rfl ?_
          refine s_iconst (n := 45) (v := 1) dX5_spares_44 rfl (by decide) ?_
          refine s_icmp_ne (n := 48) (tgt := 52) dX5_spares_45 rfl rfl (fun b45 => ?_) (fun b45 => ?_)
          · have hm := hmW_y b40 b45
            obtain ⟨q, hq, hxq⟩ := hx.resolve_left (fun z => b40 (by rw [z]; decide))
            refine s_iload_n (n := 53) (i := 3) dX5_spares_52 rfl rfl rfl ?_
            rw [hxq]
            refine s_s1 (M' := MX5_ones) (n := 56) dX5_spares_53 rfl wd_X5_191 okX5_ones rfl (by omega) ⟨Nat.le_refl _, Nat.le_refl _⟩ (y_ones (d := d - 1) (s := q) hq) ?_
            rintro v53 hh53 ⟨rfl, rfl⟩
            refine s_ireturn dX5_spares_56 rfl (rfl) (Nat.le_refl _) (Nat.le_refl _) ?_
            refine ⟨?_, hY1, hF1⟩
            first | rw [hm] | (rw [hxq] at hm; rw [hm])
          · have hm := hmW_n (w := w) hx (Or.inr b45)
            refine s_iload_n (n := 49) (i := 3) dX5_spares_48 rfl rfl rfl ?_
            refine s_goto (tgt := 56) dX5_spares_49 rfl ?_
            refine s_ireturn dX5_spares_56 rfl (rfl) (Nat.le_refl _) (Nat.le_refl _) ?_
            refine ⟨?_, hY1, hF1⟩
            first | rw [hm] | (rw [hxq] at hm; rw [hm])
      · exact absurd (hw) (if0 b26)
  · exact absurd b4 hT
set_option maxRecDepth 100000 in
set_option maxHeartbeats 4000000 in
theorem y_from_bad {G : mj_G} {h : mj_H} {d : Nat} {τ : Nat → Nat → Int32} (hY : YS G h τ) {n : Nat} (hn : τ 0 2 = nI n) (h7 : n ≤ 7) {x y : Int32} (hb : ¬ (Hs n x ∧ Wi y 1 40)) (hd : 2 ≤ d) : mj_con G MX5_from d 0 0 [.ref (G.1 + 220), .int x, .int y] h (rI (-1000001) h) := by
  refine mj_conV okX5_from (ls := [some (.ref (G.1 + 220)), some (.int x), some (.int y), none]) rfl rfl ?_
  obtain ⟨y0, y1, y2, y3, y4, y5, y6, y7, y8, y9, y10, y11, y12⟩ := id hY
  refine s_aload_n (n := 1) (i := 0) dX5_from_0 rfl rfl rfl ?_
  refine s_iload_n (n := 2) (i := 1) dX5_from_1 rfl rfl rfl ?_
  refine s_v1 (M' := MX5_isHouse) (n := 5) (ci := 5) dX5_from_2 rfl wd_X5_155 okX5_isHouse rfl rfl (by omega) ⟨Nat.le_refl _, Nat.le_refl _⟩ (by assumption) (y_isHouse (d := d - 1) hY hn h7 (by omega)) ?_
  rintro v2 hh2 ⟨rfl, rfl⟩
  refine s_if_eq (n := 8) (tgt := 20) dX5_from_5 rfl rfl (fun b5 => ?_) (fun b5 => ?_)
  · refine s_ldc (n := 22) dX5_from_20 rfl wd_X5_64 ?_
    refine s_ireturn dX5_from_22 rfl (rfl) (Nat.le_refl _) (Nat.le_refl _) ?_
    exact ⟨rfl, rfl⟩
  · refine s_iload_n (n := 9) (i := 2) dX5_from_8 rfl rfl rfl ?_
    refine s_i2l (n := 10) dX5_from_9 rfl ?_
    refine s_lconst (n := 11) (v := 1) dX5_from_10 rfl (by decide) ?_
    refine s_ldc2 (n := 14) dX5_from_11 rfl wd_X5_194 ?_
    refine s_s3 (M' := MX5_in) (n := 17) dX5_from_14 rfl wd_X5_54 okX5_in rfl (by omega) ⟨Nat.le_refl _, Nat.le_refl _⟩ (y_in (d := d - 1) (A := 1) (B := 40) (by decide) (by decide)) ?_
    rintro v14 hh14 ⟨rfl, rfl⟩
    refine s_if_ne (n := 20) (tgt := 23) dX5_from_17 rfl rfl (fun b17 => ?_) (fun b17 => ?_)
    · exact absurd (⟨if1 b5, if1 b17⟩) hb
    · refine s_ldc (n := 22) dX5_from_20 rfl wd_X5_64 ?_
      refine s_ireturn dX5_from_22 rfl (rfl) (Nat.le_refl _) (Nat.le_refl _) ?_
      exact ⟨rfl, rfl⟩
set_option maxRecDepth 100000 in
set_option maxHeartbeats 4000000 in
theorem y_from {G : mj_G} {h : mj_H} {d : Nat} {τ : Nat → Nat → Int32} (hY : YS G h τ) {n : Nat} (hn : τ 0 2 = nI n) (h7 : n ≤ 7) (hok : okB n (τ 0)) {j k : Nat} (hj : j < n) (hk : k ≤ 40) (hk1 : 1 ≤ k) (hd : 5 ≤ d) : mj_con G MX5_from d 0 0 [.ref (G.1 + 220), .int (nI j), .int (nI k)] h (fun v h' => v = some (.int (mns n k (τ 0) 5 - mns n k (upd (τ 0) 4 (τ 0 4 ||| (1 <<< (nI j &&& 31)))) 5 + 1000)) ∧ YS G h' (u2 (asS τ) 0 (τ 0)) ∧ mj_fr 220 13 h h') := by
  refine mj_conV okX5_from (ls := [some (.ref (G.1 + 220)), some (.int (nI j)), some (.int (nI k)), none]) rfl rfl ?_
  obtain ⟨y0, y1, y2, y3, y4, y5, y6, y7, y8, y9, y10, y11, y12⟩ := id hY
  refine s_aload_n (n := 1) (i := 0) dX5_from_0 rfl rfl rfl ?_
  refine s_iload_n (n := 2) (i := 1) dX5_from_1 rfl rfl rfl ?_
  refine s_v1 (M' := MX5_isHouse) (n := 5) (ci := 5) dX5_from_2 rfl wd_X5_155 okX5_isHouse rfl rfl (by omega) ⟨Nat.le_refl _, Nat.le_refl _⟩ (by assumption) (y_isHouse (d := d - 1) hY hn h7 (by omega)) ?_
  rintro v2 hh2 ⟨rfl, rfl⟩
  refine s_if_eq (n := 8) (tgt := 20) dX5_from_5 rfl rfl (fun b5 => ?_) (fun b5 => ?_)
  · exact absurd (Hs_n hj h7) (if0 b5)
  · refine s_iload_n (n := 9) (i := 2) dX5_from_8 rfl rfl rfl ?_
    refine s_i2l (n := 10) dX5_from_9 rfl ?_
    refine s_lconst (n := 11) (v := 1) dX5_from_10 rfl (by decide) ?_
    refine s_ldc2 (n := 14) dX5_from_11 rfl wd_X5_194 ?_
    refine s_s3 (M' := MX5_in) (n := 17) dX5_from_14 rfl wd_X5_54 okX5_in rfl (by omega) ⟨Nat.le_refl _, Nat.le_refl _⟩ (y_in (d := d - 1) (A := 1) (B := 40) (by decide) (by decide)) ?_
    rintro v14 hh14 ⟨rfl, rfl⟩
    refine s_if_ne (n := 20) (tgt := 23) dX5_from_17 rfl rfl (fun b17 => ?_) (fun b17 => ?_)
    · refine s_aload_n (n := 24) (i := 0) dX5_from_23 rfl rfl rfl ?_
      refine s_v0 (M' := MX5_putAside) (n := 27) (ci := 5) dX5_from_24 rfl wd_X5_174 okX5_putAside rfl rfl (by omega) ⟨Nat.le_refl _, Nat.le_refl _⟩ (by assumption) (y_pa (d := d - 1) hY) ?_
      rintro v24 hh24 ⟨rfl, hY1, hF1⟩
      obtain ⟨y0, y1, y2, y3, y4, y5, y6, y7, y8, y9, y10, y11, y12⟩ := id hY1
      replace y4 : hh24.2 224 = mj_ar 0 48 (τ 0) := y4
      replace y0 : hh24.2 220 = YO G (τ 12) := y0
      refine s_aload_n (n := 28) (i := 0) dX5_from_27 rfl rfl rfl ?_
      refine s_iload_n (n := 29) (i := 2) dX5_from_28 rfl rfl rfl ?_
      refine s_v1 (M' := MX5_pondBy) (n := 32) (ci := 5) dX5_from_29 rfl wd_X5_200 okX5_pondBy rfl rfl (by omega) ⟨Nat.le_refl _, Nat.le_refl _⟩ (by assumption) (y_pondBy (d := d - 1) hY1 (n := n) (m := k) hok rfl48 (by omega) (by omega)) ?_
      rintro v29 hh29 ⟨rfl, hY2, hF2⟩
      obtain ⟨y0, y1, y2, y3, y4, y5, y6, y7, y8, y9, y10, y11, y12⟩ := id hY2
      replace y4 : hh29.2 224 = mj_ar 0 48 (τ 0) := y4
      replace y0 : hh29.2 220 = YO G (τ 12) := y0
      refine s_istore_n (n := 33) (i := 3) (ls' := [_, _, _, _]) dX5_from_32 rfl rfl rfl rfl rfl ?_
      refine s_aload_n (n := 34) (i := 0) dX5_from_33 rfl rfl rfl ?_
      refine gf_X5_19 (n := 37) rfl dX5_from_34 rfl (by assumption) (by rfl) ?_
      refine s_iconst (n := 38) (v := 4) dX5_from_37 rfl (by decide) ?_
      refine s_dup2 (n := 39) dX5_from_38 rfl rfl rfl ?_
      refine s_iald (n := 40) dX5_from_39 rfl (by assumption) (mj_ixe (j := 4) rfl (by omega)) ?_
      refine s_iconst (n := 41) (v := 1) dX5_from_40 rfl (by decide) ?_
      refine s_iload_n (n := 42) (i := 1) dX5_from_41 rfl rfl rfl ?_
      refine s_ishl (n := 43) dX5_from_42 rfl ?_
      refine s_ior (n := 44) dX5_from_43 rfl ?_
      refine s_iast (n := 45) dX5_from_44 rfl (by assumption) (mj_ixe (j := 4) rfl (by omega)) ?_
      refine YA_0 hY2 (fun h3 hY3 hF3 => ?_)
      rw [u2_u2] at hY3
      obtain ⟨y0, y1, y2, y3, y4, y5, y6, y7, y8, y9, y10, y11, y12⟩ := id hY3
      replace y4 : h3.2 224 = mj_ar 0 48 (upd (τ 0) 4 (τ 0 4 ||| (1 <<< (nI j &&& 31)))) := y4
      replace y0 : h3.2 220 = YO G (τ 12) := y0
      refine s_iload_n (n := 46) (i := 3) dX5_from_45 rfl rfl rfl ?_
      refine s_aload_n (n := 47) (i := 0) dX5_from_46 rfl rfl rfl ?_
      refine s_iload_n (n := 48) (i := 2) dX5_from_47 rfl rfl rfl ?_
      refine s_v1 (M' := MX5_pondBy) (n := 51) (ci := 5) dX5_from_48 rfl wd_X5_200 okX5_pondBy rfl rfl (by omega) ⟨Nat.le_refl _, Nat.le_refl _⟩ (by assumption) (y_pondBy (d := d - 1) hY3 (n := n) (m := k) (okB_up hok (Or.inl rfl)) (fun q hq => up_ne (by omega)) (by omega) (by omega)) ?_
      rintro v48 hh48 ⟨rfl, hY4, hF4⟩
      obtain ⟨y0, y1, y2, y3, y4, y5, y6, y7, y8, y9, y10, y11, y12⟩ := id hY4
      replace y4 : hh48.2 224 = mj_ar 0 48 (τ 0) := y4
      replace y0 : hh48.2 220 = YO G (τ 12) := y0
      refine s_isub (n := 52) dX5_from_51 rfl ?_
      refine s_sipush (n := 55) (v := 1000) dX5_from_52 rfl (by decide) ?_
      refine s_iadd (n := 56) dX5_from_55 rfl ?_
      refine s_ireturn dX5_from_56 rfl (rfl) (Nat.le_refl _) (Nat.le_refl _) ?_
      exact ⟨rfl, hY4, fr_tr hF1 (fr_tr hF2 (fr_tr hF3 hF4))⟩
    · exact absurd (Wi_n (by omega) (by omega) (by omega)) (if0 b17)
set_option maxRecDepth 100000 in
set_option maxHeartbeats 4000000 in
theorem y_loud_bad {G : mj_G} {h : mj_H} {d : Nat} {τ : Nat → Nat → Int32} (hY : YS G h τ) {n : Nat} (hn : τ 0 2 = nI n) (h7 : n ≤ 7) {x y : Int32} (hb : ¬ (Hs n x ∧ Wi y 1 99)) (hd : 2 ≤ d) : mj_con G MX5_loud d 0 0 [.ref (G.1 + 220), .int x, .int y] h (rI (-1000001) h) := by
  refine mj_conV okX5_loud (ls := [some (.ref (G.1 + 220)), some (.int x), some (.int y), none, none]) rfl rfl ?_
  obtain ⟨y0, y1, y2, y3, y4, y5, y6, y7, y8, y9, y10, y11, y12⟩ := id hY
  refine s_aload_n (n := 1) (i := 0) dX5_loud_0 rfl rfl rfl ?_
  refine s_iload_n (n := 2) (i := 1) dX5_loud_1 rfl rfl rfl ?_
  refine s_v1 (M' := MX5_isHouse) (n := 5) (ci := 5) dX5_loud_2 rfl wd_X5_155 okX5_isHouse rfl rfl (by omega) ⟨Nat.le_refl _, Nat.le_refl _⟩ (by assumption) (y_isHouse (d := d - 1) hY hn h7 (by omega)) ?_
  rintro v2 hh2 ⟨rfl, rfl⟩
  refine s_if_eq (n := 8) (tgt := 20) dX5_loud_5 rfl rfl (fun b5 => ?_) (fun b5 => ?_)
  · refine s_ldc (n := 22) dX5_loud_20 rfl wd_X5_64 ?_
    refine s_ireturn dX5_loud_22 rfl (rfl) (Nat.le_refl _) (Nat.le_refl _) ?_
    exact ⟨rfl, rfl⟩
  · refine s_iload_n (n := 9) (i := 2) dX5_loud_8 rfl rfl rfl ?_
    refine s_i2l (n := 10) dX5_loud_9 rfl ?_
    refine s_lconst (n := 11) (v := 1) dX5_loud_10 rfl (by decide) ?_
    refine s_ldc2 (n := 14) dX5_loud_11 rfl wd_X5_162 ?_
    refine s_s3 (M' := MX5_in) (n := 17) dX5_loud_14 rfl wd_X5_54 okX5_in rfl (by omega) ⟨Nat.le_refl _, Nat.le_refl _⟩ (y_in (d := d - 1) (A := 1) (B := 99) (by decide) (by decide)) ?_
    rintro v14 hh14 ⟨rfl, rfl⟩
    refine s_if_ne (n := 20) (tgt := 23) dX5_loud_17 rfl rfl (fun b17 => ?_) (fun b17 => ?_)
    · exact absurd (⟨if1 b5, if1 b17⟩) hb
    · refine s_ldc (n := 22) dX5_loud_20 rfl wd_X5_64 ?_
      refine s_ireturn dX5_loud_22 rfl (rfl) (Nat.le_refl _) (Nat.le_refl _) ?_
      exact ⟨rfl, rfl⟩
theorem mns_1 {n : Nat} {T : Nat → Int32} (h7 : n ≤ 7) : ∀ k, mns n k T 1 = T 1
  | 0 => rfl
  | k + 1 => (mn_same h7 (by omega) (by omega) (by omega)).trans (mns_1 h7 k)
set_option maxRecDepth 100000 in
set_option maxHeartbeats 4000000 in
theorem l_yloud_x {G : mj_G} {h0 h : mj_H} {d j k i z : Nat} {τ : Nat → Nat → Int32} (hv : z < 100) (hY : YS G h (u2 (asS τ) 0 (τ 0))) (hF0 : mj_fr 220 13 h0 h) : mj_wp G MX5_loud d 0 0 33 [some (.ref (G.1 + 220)), some (.int (nI j)), some (.int (nI k)), some (.int (nI z)), some (.int (nI i))] [] h 0 0 (fun v h' => v = some (.int (nI z)) ∧ YS G h' (u2 (asS τ) 0 (τ 0)) ∧ mj_fr 220 13 h0 h') := by
  refine s_iload (n := 35) dX5_loud_33 rfl rfl ?_
  refine s_bipush (n := 37) (v := 20) dX5_loud_35 rfl (by decide) ?_
  refine s_icmp_gt (n := 40) (tgt := 82) dX5_loud_37 rfl rfl (fun b37 => ?_) (fun b37 => ?_)
  · refine s_iload_n (n := 83) (i := 3) dX5_loud_82 rfl rfl rfl ?_
    refine s_ireturn dX5_loud_83 rfl (rfl) (Nat.le_refl _) (Nat.le_refl _) ?_
    exact ⟨rfl, hY, hF0⟩
  · refine s_iload_n (n := 41) (i := 3) dX5_loud_40 rfl rfl rfl ?_
    refine s_if_ge (n := 44) (tgt := 82) dX5_loud_41 rfl rfl (fun b41 => ?_) (fun b41 => ?_)
    · refine s_iload_n (n := 83) (i := 3) dX5_loud_82 rfl rfl rfl ?_
      refine s_ireturn dX5_loud_83 rfl (rfl) (Nat.le_refl _) (Nat.le_refl _) ?_
      exact ⟨rfl, hY, hF0⟩
    · exact absurd (Int32.not_lt.mp (nI_lt0 (by omega))) b41
set_option maxRecDepth 100000 in
set_option maxHeartbeats 4000000 in
theorem l_yloud {G : mj_G} {h0 : mj_H} {d n j k : Nat} {τ : Nat → Nat → Int32} (hok : okB n (τ 0)) (hj : j < n) (hk : k ≤ 99) (hd : 5 ≤ d) : ∀ (r i : Nat), i + r = 21 → ∀ (h : mj_H), YS G h (u2 (asS τ) 0 (τ 0)) → mj_fr 220 13 h0 h → mj_wp G MX5_loud d 0 0 33 [some (.ref (G.1 + 220)), some (.int (nI j)), some (.int (nI k)), some (.int (-1000000)), some (.int (nI i))] [] h 0 0 (fun v h' => v = some (.int (loF n j k (τ 0) r i)) ∧ YS G h' (u2 (asS τ) 0 (τ 0)) ∧ mj_fr 220 13 h0 h') := by
  have h7 : n ≤ 7 := hok.1.2.1
  intro r
  induction r with
  | zero =>
    intro i hi h hY hF0
    obtain ⟨y0, y1, y2, y3, y4, y5, y6, y7, y8, y9, y10, y11, y12⟩ := id hY
    replace y4 : h.2 224 = mj_ar 0 48 (τ 0) := y4
    replace y0 : h.2 220 = YO G (τ 12) := y0
    refine s_iload (n := 35) dX5_loud_33 rfl rfl ?_
    refine s_bipush (n := 37) (v := 20) dX5_loud_35 rfl (by decide) ?_
    refine s_icmp_gt (n := 40) (tgt := 82) dX5_loud_37 rfl rfl (fun b37 => ?_) (fun b37 => ?_)
    · refine s_iload_n (n := 83) (i := 3) dX5_loud_82 rfl rfl rfl ?_
      refine s_ireturn dX5_loud_83 rfl (rfl) (Nat.le_refl _) (Nat.le_refl _) ?_
      exact ⟨rfl, hY, hF0⟩
    · exact absurd ((nI_ltE (a := 20) (by omega) (by omega)).mpr (by omega)) b37
  | succ r ih =>
    intro i hi h hY hF0
    obtain ⟨y0, y1, y2, y3, y4, y5, y6, y7, y8, y9, y10, y11, y12⟩ := id hY
    replace y4 : h.2 224 = mj_ar 0 48 (τ 0) := y4
    replace y0 : h.2 220 = YO G (τ 12) := y0
    have e1 : mns n k (upd (τ 0) (13 + j) (nI i)) 1 = τ 0 1 := by
      rw [mns_1 h7, up_ne (by omega)]
    refine s_iload (n := 35) dX5_loud_33 rfl rfl ?_
    refine s_bipush (n := 37) (v := 20) dX5_loud_35 rfl (by decide) ?_
    refine s_icmp_gt (n := 40) (tgt := 82) dX5_loud_37 rfl rfl (fun b37 => ?_) (fun b37 => ?_)
    · exfalso
      have q9 := (nI_ltE (a := 20) (by omega) (by omega)).mp b37
      omega
    · refine s_iload_n (n := 41) (i := 3) dX5_loud_40 rfl rfl rfl ?_
      refine s_if_ge (n := 44) (tgt := 82) dX5_loud_41 rfl rfl (fun b41 => ?_) (fun b41 => ?_)
      · exact absurd b41 (by decide)
      · refine s_aload_n (n := 45) (i := 0) dX5_loud_44 rfl rfl rfl ?_
        refine gf_X5_19 (n := 48) rfl dX5_loud_45 rfl (by assumption) (by rfl) ?_
        refine s_bipush (n := 50) (v := 13) dX5_loud_48 rfl (by decide) ?_
        refine s_iload_n (n := 51) (i := 1) dX5_loud_50 rfl rfl rfl ?_
        refine s_iadd (n := 52) dX5_loud_51 rfl ?_
        refine s_iload (n := 54) dX5_loud_52 rfl rfl ?_
        refine s_iast (n := 55) dX5_loud_54 rfl (by assumption) (mj_ixa (o := 13) rfl (by omega)) ?_
        refine YA_0 hY (fun h1 hY1 hF1 => ?_)
        rw [u2_u2] at hY1
        obtain ⟨y0, y1, y2, y3, y4, y5, y6, y7, y8, y9, y10, y11, y12⟩ := id hY1
        replace y4 : h1.2 224 = mj_ar 0 48 (upd (τ 0) (13 + j) (nI i)) := y4
        replace y0 : h1.2 220 = YO G (τ 12) := y0
        refine s_aload_n (n := 56) (i := 0) dX5_loud_55 rfl rfl rfl ?_
        refine s_iload_n (n := 57) (i := 2) dX5_loud_56 rfl rfl rfl ?_
        refine s_v1 (M' := MX5_pondBy) (n := 60) (ci := 5) dX5_loud_57 rfl wd_X5_200 okX5_pondBy rfl rfl (by omega) ⟨Nat.le_refl _, Nat.le_refl _⟩ (by assumption) (y_pondBy (d := d - 1) hY1 (n := n) (m := k) (okB_talk hok (by omega) (Wi_n (by omega) (by omega) (by omega))) (fun q hq => up_ne (by omega)) (by omega) (by omega)) ?_
        rintro v57 hh57 ⟨rfl, hY2, hF2⟩
        obtain ⟨y0, y1, y2, y3, y4, y5, y6, y7, y8, y9, y10, y11, y12⟩ := id hY2
        replace y4 : hh57.2 224 = mj_ar 0 48 (τ 0) := y4
        replace y0 : hh57.2 220 = YO G (τ 12) := y0
        refine s_aload_n (n := 61) (i := 0) dX5_loud_60 rfl rfl rfl ?_
        refine gf_X5_19 (n := 64) rfl dX5_loud_61 rfl (by assumption) (by rfl) ?_
        refine s_iconst (n := 65) (v := 1) dX5_loud_64 rfl (by decide) ?_
        refine s_iald (n := 66) dX5_loud_65 rfl (by assumption) (mj_ixe (j := 1) rfl (by omega)) ?_
        refine s_icmp_le (n := 69) (tgt := 74) dX5_loud_66 rfl rfl (fun b66 => ?_) (fun b66 => ?_)
        · have q : ¬ mns n k (upd (τ 0) (13 + j) (nI i)) 1 < mns n k (upd (τ 0) (13 + j) (nI i)) 5 := by
            rw [e1]
            exact Int32.not_lt.mpr b66
          refine s_iload_n (n := 75) (i := 3) dX5_loud_74 rfl rfl rfl ?_
          refine s_istore_n (n := 76) (i := 3) (ls' := [_, _, _, _, _]) dX5_loud_75 rfl rfl rfl rfl rfl ?_
          refine s_iinc (n := 79) (v := _ + 1) (ls' := [_, _, _, _, _]) dX5_loud_76 rfl rfl rfl rfl rfl ?_
          refine s_goto (tgt := 33) dX5_loud_79 rfl ?_
          rw [nI_1]
          unfold loF
          first | (rw [if_pos (by exact q)]; exact l_yloud_x (by omega) hY2 (fr_tr hF0 (fr_tr hF1 hF2))) | (rw [if_neg (by exact q)]; exact ih (i + 1) (by omega) _ hY2 (fr_tr hF0 (fr_tr hF1 hF2)))
        · have q : mns n k (upd (τ 0) (13 + j) (nI i)) 1 < mns n k (upd (τ 0) (13 + j) (nI i)) 5 := by
            rw [e1]
            exact Int32.not_le.mp b66
          refine s_iload (n := 71) dX5_loud_69 rfl rfl ?_
          refine s_goto (tgt := 75) dX5_loud_71 rfl ?_
          refine s_istore_n (n := 76) (i := 3) (ls' := [_, _, _, _, _]) dX5_loud_75 rfl rfl rfl rfl rfl ?_
          refine s_iinc (n := 79) (v := _ + 1) (ls' := [_, _, _, _, _]) dX5_loud_76 rfl rfl rfl rfl rfl ?_
          refine s_goto (tgt := 33) dX5_loud_79 rfl ?_
          rw [nI_1]
          unfold loF
          first | (rw [if_pos (by exact q)]; exact l_yloud_x (by omega) hY2 (fr_tr hF0 (fr_tr hF1 hF2))) | (rw [if_neg (by exact q)]; exact ih (i + 1) (by omega) _ hY2 (fr_tr hF0 (fr_tr hF1 hF2)))
set_option maxRecDepth 100000 in
set_option maxHeartbeats 4000000 in
theorem y_loud {G : mj_G} {h : mj_H} {d : Nat} {τ : Nat → Nat → Int32} (hY : YS G h τ) {n : Nat} (hn : τ 0 2 = nI n) (h7 : n ≤ 7) (hok : okB n (τ 0)) {j k : Nat} (hj : j < n) (hk : k ≤ 99) (hk1 : 1 ≤ k) (hd : 5 ≤ d) : mj_con G MX5_loud d 0 0 [.ref (G.1 + 220), .int (nI j), .int (nI k)] h (fun v h' => v = some (.int (loF n j k (τ 0) 21 0)) ∧ YS G h' (u2 (asS τ) 0 (τ 0)) ∧ mj_fr 220 13 h h') := by
  refine mj_conV okX5_loud (ls := [some (.ref (G.1 + 220)), some (.int (nI j)), some (.int (nI k)), none, none]) rfl rfl ?_
  obtain ⟨y0, y1, y2, y3, y4, y5, y6, y7, y8, y9, y10, y11, y12⟩ := id hY
  refine s_aload_n (n := 1) (i := 0) dX5_loud_0 rfl rfl rfl ?_
  refine s_iload_n (n := 2) (i := 1) dX5_loud_1 rfl rfl rfl ?_
  refine s_v1 (M' := MX5_isHouse) (n := 5) (ci := 5) dX5_loud_2 rfl wd_X5_155 okX5_isHouse rfl rfl (by omega) ⟨Nat.le_refl _, Nat.le_refl _⟩ (by assumption) (y_isHouse (d := d - 1) hY hn h7 (by omega)) ?_
  rintro v2 hh2 ⟨rfl, rfl⟩
  refine s_if_eq (n := 8) (tgt := 20) dX5_loud_5 rfl rfl (fun b5 => ?_) (fun b5 => ?_)
  · exact absurd (Hs_n hj h7) (if0 b5)
  · refine s_iload_n (n := 9) (i := 2) dX5_loud_8 rfl rfl rfl ?_
    refine s_i2l (n := 10) dX5_loud_9 rfl ?_
    refine s_lconst (n := 11) (v := 1) dX5_loud_10 rfl (by decide) ?_
    refine s_ldc2 (n := 14) dX5_loud_11 rfl wd_X5_162 ?_
    refine s_s3 (M' := MX5_in) (n := 17) dX5_loud_14 rfl wd_X5_54 okX5_in rfl (by omega) ⟨Nat.le_refl _, Nat.le_refl _⟩ (y_in (d := d - 1) (A := 1) (B := 99) (by decide) (by decide)) ?_
    rintro v14 hh14 ⟨rfl, rfl⟩
    refine s_if_ne (n := 20) (tgt := 23) dX5_loud_17 rfl rfl (fun b17 => ?_) (fun b17 => ?_)
    · refine s_aload_n (n := 24) (i := 0) dX5_loud_23 rfl rfl rfl ?_
      refine s_v0 (M' := MX5_putAside) (n := 27) (ci := 5) dX5_loud_24 rfl wd_X5_174 okX5_putAside rfl rfl (by omega) ⟨Nat.le_refl _, Nat.le_refl _⟩ (by assumption) (y_pa (d := d - 1) hY) ?_
      rintro v24 hh24 ⟨rfl, hY1, hF1⟩
      obtain ⟨y0, y1, y2, y3, y4, y5, y6, y7, y8, y9, y10, y11, y12⟩ := id hY1
      replace y4 : hh24.2 224 = mj_ar 0 48 (τ 0) := y4
      replace y0 : hh24.2 220 = YO G (τ 12) := y0
      refine s_ldc (n := 29) dX5_loud_27 rfl wd_X5_186 ?_
      refine s_istore_n (n := 30) (i := 3) (ls' := [_, _, _, _, _]) dX5_loud_29 rfl rfl rfl rfl rfl ?_
      refine s_iconst (n := 31) (v := 0) dX5_loud_30 rfl (by decide) ?_
      refine s_istore (n := 33) (i := 4) (ls' := [_, _, _, _, _]) dX5_loud_31 rfl rfl rfl rfl ?_
      exact l_yloud hok hj hk hd 21 0 (by omega) _ hY1 hF1
    · exact absurd (Wi_n (by omega) (by omega) (by omega)) (if0 b17)
set_option maxRecDepth 100000 in
set_option maxHeartbeats 4000000 in
theorem y_catches_st {G : mj_G} {h : mj_H} {d : Nat} {τ : Nat → Nat → Int32} (hY : YS G h τ) {x y : Int32} (hb : τ 12 1 = 0) (hd : 2 ≤ d) : mj_con G MX5_catches d 0 0 [.ref (G.1 + 220), .int x, .int y] h (rI (-1000002) h) := by
  refine mj_conV okX5_catches (ls := [some (.ref (G.1 + 220)), some (.int x), some (.int y), none, none, none, none]) rfl rfl ?_
  obtain ⟨y0, y1, y2, y3, y4, y5, y6, y7, y8, y9, y10, y11, y12⟩ := id hY
  refine s_aload_n (n := 1) (i := 0) dX5_catches_0 rfl rfl rfl ?_
  refine gf_X5_132 (n := 4) rfl dX5_catches_1 rfl (by assumption) (by rfl) ?_
  refine s_if_ne (n := 7) (tgt := 10) dX5_catches_4 rfl rfl (fun b4 => ?_) (fun b4 => ?_)
  · exact absurd hb b4
  · refine s_ldc (n := 9) dX5_catches_7 rfl wd_X5_146 ?_
    refine s_ireturn dX5_catches_9 rfl (rfl) (Nat.le_refl _) (Nat.le_refl _) ?_
    exact ⟨rfl, rfl⟩
set_option maxRecDepth 100000 in
set_option maxHeartbeats 4000000 in
theorem y_catches_bad {G : mj_G} {h : mj_H} {d : Nat} {τ : Nat → Nat → Int32} (hY : YS G h τ) {x y : Int32} (hT : ¬ τ 12 1 = 0) (hb : ¬ (Wi x 1 40 ∧ Wi y 0 1)) (hd : 2 ≤ d) : mj_con G MX5_catches d 0 0 [.ref (G.1 + 220), .int x, .int y] h (rI (-1000001) h) := by
  refine mj_conV okX5_catches (ls := [some (.ref (G.1 + 220)), some (.int x), some (.int y), none, none, none, none]) rfl rfl ?_
  obtain ⟨y0, y1, y2, y3, y4, y5, y6, y7, y8, y9, y10, y11, y12⟩ := id hY
  refine s_aload_n (n := 1) (i := 0) dX5_catches_0 rfl rfl rfl ?_
  refine gf_X5_132 (n := 4) rfl dX5_catches_1 rfl (by assumption) (by rfl) ?_
  refine s_if_ne (n := 7) (tgt := 10) dX5_catches_4 rfl rfl (fun b4 => ?_) (fun b4 => ?_)
  · refine s_iload_n (n := 11) (i := 1) dX5_catches_10 rfl rfl rfl ?_
    refine s_i2l (n := 12) dX5_catches_11 rfl ?_
    refine s_lconst (n := 13) (v := 1) dX5_catches_12 rfl (by decide) ?_
    refine s_ldc2 (n := 16) dX5_catches_13 rfl wd_X5_194 ?_
    refine s_s3 (M' := MX5_in) (n := 19) dX5_catches_16 rfl wd_X5_54 okX5_in rfl (by omega) ⟨Nat.le_refl _, Nat.le_refl _⟩ (y_in (d := d - 1) (A := 1) (B := 40) (by decide) (by decide)) ?_
    rintro v16 hh16 ⟨rfl, rfl⟩
    refine s_if_eq (n := 22) (tgt := 29) dX5_catches_19 rfl rfl (fun b19 => ?_) (fun b19 => ?_)
    · refine s_ldc (n := 31) dX5_catches_29 rfl wd_X5_64 ?_
      refine s_ireturn dX5_catches_31 rfl (rfl) (Nat.le_refl _) (Nat.le_refl _) ?_
      exact ⟨rfl, rfl⟩
    · refine s_iload_n (n := 23) (i := 2) dX5_catches_22 rfl rfl rfl ?_
      refine s_s1 (M' := MX5_isWhat) (n := 26) dX5_catches_23 rfl wd_X5_183 okX5_isWhat rfl (by omega) ⟨Nat.le_refl _, Nat.le_refl _⟩ (y_isWhat (d := d - 1) (by omega)) ?_
      rintro v23 hh23 ⟨rfl, rfl⟩
      refine s_if_ne (n := 29) (tgt := 32) dX5_catches_26 rfl rfl (fun b26 => ?_) (fun b26 => ?_)
      · exact absurd (⟨if1 b19, if1 b26⟩) hb
      · refine s_ldc (n := 31) dX5_catches_29 rfl wd_X5_64 ?_
        refine s_ireturn dX5_catches_31 rfl (rfl) (Nat.le_refl _) (Nat.le_refl _) ?_
        exact ⟨rfl, rfl⟩
  · exact absurd b4 hT
set_option maxRecDepth 100000 in
set_option maxHeartbeats 4000000 in
theorem l_ycatches {G : mj_G} {h0 : mj_H} {d n k : Nat} {τ : Nat → Nat → Int32} {w : Int32} (hok : okB n (τ 0)) (hk : k ≤ 40) (hd : 5 ≤ d) : ∀ (r i : Nat), i + r = n → ∀ (h : mj_H) (wh le : Int32) (o6 : Option Value), YS G h (u2 (asS τ) 0 (τ 0)) → mj_fr 220 13 h0 h → mj_wp G MX5_catches d 0 0 45 [some (.ref (G.1 + 220)), some (.int (nI k)), some (.int w), some (.int wh), some (.int le), some (.int (nI i)), o6] [] h 0 0 (fun v h' => v = some (.int (if w = 0 then (caF n k (τ 0) r i wh le).1 else (caF n k (τ 0) r i wh le).2)) ∧ YS G h' (u2 (asS τ) 0 (τ 0)) ∧ mj_fr 220 13 h0 h') := by
  have h7 : n ≤ 7 := hok.1.2.1
  intro r
  induction r with
  | zero =>
    intro i hi h wh le o6 hY hF0
    have hin : i = n := by omega
    subst hin
    obtain ⟨y0, y1, y2, y3, y4, y5, y6, y7, y8, y9, y10, y11, y12⟩ := id hY
    replace y4 : h.2 224 = mj_ar 0 48 (τ 0) := y4
    replace y0 : h.2 220 = YO G (τ 12) := y0
    refine s_iload (n := 47) dX5_catches_45 rfl rfl ?_
    refine s_aload_n (n := 48) (i := 0) dX5_catches_47 rfl rfl rfl ?_
    refine gf_X5_19 (n := 51) rfl dX5_catches_48 rfl (by assumption) (by rfl) ?_
    refine s_iconst (n := 52) (v := 2) dX5_catches_51 rfl (by decide) ?_
    refine s_iald (n := 53) dX5_catches_52 rfl (by assumption) (mj_ixe (j := 2) rfl (by omega)) ?_
    rw [hok.1.1]
    refine s_icmp_ge (n := 56) (tgt := 122) dX5_catches_53 rfl rfl (fun b53 => ?_) (fun b53 => ?_)
    · refine s_iload_n (n := 123) (i := 2) dX5_catches_122 rfl rfl rfl ?_
      refine s_if_ne (n := 126) (tgt := 130) dX5_catches_123 rfl rfl (fun b123 => ?_) (fun b123 => ?_)
      · refine s_iload (n := 132) dX5_catches_130 rfl rfl ?_
        refine s_ireturn dX5_catches_132 rfl (rfl) (Nat.le_refl _) (Nat.le_refl _) ?_
        refine ⟨?_, hY, hF0⟩
        first | rw [if_pos b123] | rw [if_neg b123]
        first | done | rfl
      · refine s_iload_n (n := 127) (i := 3) dX5_catches_126 rfl rfl rfl ?_
        refine s_goto (tgt := 132) dX5_catches_127 rfl ?_
        refine s_ireturn dX5_catches_132 rfl (rfl) (Nat.le_refl _) (Nat.le_refl _) ?_
        refine ⟨?_, hY, hF0⟩
        first | rw [if_pos b123] | rw [if_neg b123]
        first | done | rfl
    · exact absurd (Int32.le_refl _) b53
  | succ r ih =>
    intro i hi h wh le o6 hY hF0
    obtain ⟨y0, y1, y2, y3, y4, y5, y6, y7, y8, y9, y10, y11, y12⟩ := id hY
    replace y4 : h.2 224 = mj_ar 0 48 (τ 0) := y4
    replace y0 : h.2 220 = YO G (τ 12) := y0
    refine s_iload (n := 47) dX5_catches_45 rfl rfl ?_
    refine s_aload_n (n := 48) (i := 0) dX5_catches_47 rfl rfl rfl ?_
    refine gf_X5_19 (n := 51) rfl dX5_catches_48 rfl (by assumption) (by rfl) ?_
    refine s_iconst (n := 52) (v := 2) dX5_catches_51 rfl (by decide) ?_
    refine s_iald (n := 53) dX5_catches_52 rfl (by assumption) (mj_ixe (j := 2) rfl (by omega)) ?_
    rw [hok.1.1]
    refine s_icmp_ge (n := 56) (tgt := 122) dX5_catches_53 rfl rfl (fun b53 => ?_) (fun b53 => ?_)
    · exact absurd ((nI_leE (by omega) (by omega)).mp b53) (by omega)
    · refine s_aload_n (n := 57) (i := 0) dX5_catches_56 rfl rfl rfl ?_
      refine gf_X5_19 (n := 60) rfl dX5_catches_57 rfl (by assumption) (by rfl) ?_
      refine s_bipush (n := 62) (v := 27) dX5_catches_60 rfl (by decide) ?_
      refine s_iload (n := 64) dX5_catches_62 rfl rfl ?_
      refine s_iadd (n := 65) dX5_catches_64 rfl ?_
      refine s_bipush (n := 67) (v := 9) dX5_catches_65 rfl (by decide) ?_
      refine s_iast (n := 68) dX5_catches_67 rfl (by assumption) (mj_ixa (o := 27) rfl (by omega)) ?_
      refine YA_0 hY (fun h1 hY1 hF1 => ?_)
      rw [u2_u2] at hY1
      obtain ⟨y0, y1, y2, y3, y4, y5, y6, y7, y8, y9, y10, y11, y12⟩ := id hY1
      replace y4 : h1.2 224 = mj_ar 0 48 (upd (τ 0) (27 + i) 9) := y4
      replace y0 : h1.2 220 = YO G (τ 12) := y0
      refine s_aload_n (n := 69) (i := 0) dX5_catches_68 rfl rfl rfl ?_
      refine gf_X5_19 (n := 72) rfl dX5_catches_69 rfl (by assumption) (by rfl) ?_
      refine s_bipush (n := 74) (v := 41) dX5_catches_72 rfl (by decide) ?_
      refine s_iload (n := 76) dX5_catches_74 rfl rfl ?_
      refine s_iadd (n := 77) dX5_catches_76 rfl ?_
      refine s_iconst (n := 78) (v := 0) dX5_catches_77 rfl (by decide) ?_
      refine s_iast (n := 79) dX5_catches_78 rfl (by assumption) (mj_ixa (o := 41) rfl (by omega)) ?_
      refine YA_0 hY1 (fun h2 hY2 hF2 => ?_)
      rw [u2_u2] at hY2
      obtain ⟨y0, y1, y2, y3, y4, y5, y6, y7, y8, y9, y10, y11, y12⟩ := id hY2
      replace y4 : h2.2 224 = mj_ar 0 48 (upd (upd (τ 0) (27 + i) 9) (41 + i) 0) := y4
      replace y0 : h2.2 220 = YO G (τ 12) := y0
      refine s_aload_n (n := 80) (i := 0) dX5_catches_79 rfl rfl rfl ?_
      refine s_iload_n (n := 81) (i := 1) dX5_catches_80 rfl rfl rfl ?_
      refine s_v1 (M' := MX5_pondBy) (n := 84) (ci := 5) dX5_catches_81 rfl wd_X5_200 okX5_pondBy rfl rfl (by omega) ⟨Nat.le_refl _, Nat.le_refl _⟩ (by assumption) (y_pondBy (d := d - 1) hY2 (n := n) (m := k) (okB_up (okB_up hok (by omega)) (by omega)) (fun q hq => (up_ne (by omega)).trans (up_ne (by omega))) (by omega) (by omega)) ?_
      rintro v81 hh81 ⟨rfl, hY3, hF3⟩
      obtain ⟨y0, y1, y2, y3, y4, y5, y6, y7, y8, y9, y10, y11, y12⟩ := id hY3
      replace y4 : hh81.2 224 = mj_ar 0 48 (τ 0) := y4
      replace y0 : hh81.2 220 = YO G (τ 12) := y0
      refine s_istore (n := 86) (i := 6) (ls' := [_, _, _, _, _, _, _]) dX5_catches_84 rfl rfl rfl rfl ?_
      refine s_iload (n := 88) dX5_catches_86 rfl rfl ?_
      refine s_iload (n := 90) dX5_catches_88 rfl rfl ?_
      refine s_icmp_ge (n := 93) (tgt := 98) dX5_catches_90 rfl rfl (fun b90 => ?_) (fun b90 => ?_)
      · have q : ¬ mns n k (upd (upd (τ 0) (27 + i) 9) (41 + i) 0) 5 < le := Int32.not_lt.mpr b90
        have ce : caF n k (τ 0) (r + 1) i wh le = caF n k (τ 0) r (i + 1) wh le := if_neg q
        refine s_iload_n (n := 99) (i := 3) dX5_catches_98 rfl rfl rfl ?_
        refine s_istore_n (n := 100) (i := 3) (ls' := [_, _, _, _, _, _, _]) dX5_catches_99 rfl rfl rfl rfl rfl ?_
        refine s_iload (n := 102) dX5_catches_100 rfl rfl ?_
        refine s_iload (n := 104) dX5_catches_102 rfl rfl ?_
        refine s_icmp_ge (n := 107) (tgt := 112) dX5_catches_104 rfl rfl (fun b104 => ?_) (fun b104 => ?_)
        · refine s_iload (n := 114) dX5_catches_112 rfl rfl ?_
          refine s_istore (n := 116) (i := 4) (ls' := [_, _, _, _, _, _, _]) dX5_catches_114 rfl rfl rfl rfl ?_
          refine s_iinc (n := 119) (v := _ + 1) (ls' := [_, _, _, _, _, _, _]) dX5_catches_116 rfl rfl rfl rfl rfl ?_
          refine s_goto (tgt := 45) dX5_catches_119 rfl ?_
          rw [nI_1]
          first | exact absurd b104 b90 | exact absurd b90 b104 | (rw [ce]; exact ih (i + 1) (by omega) _ _ _ _ hY3 (fr_tr hF0 (fr_tr hF1 (fr_tr hF2 hF3))))
        · refine s_iload (n := 109) dX5_catches_107 rfl rfl ?_
          refine s_goto (tgt := 114) dX5_catches_109 rfl ?_
          refine s_istore (n := 116) (i := 4) (ls' := [_, _, _, _, _, _, _]) dX5_catches_114 rfl rfl rfl rfl ?_
          refine s_iinc (n := 119) (v := _ + 1) (ls' := [_, _, _, _, _, _, _]) dX5_catches_116 rfl rfl rfl rfl rfl ?_
          refine s_goto (tgt := 45) dX5_catches_119 rfl ?_
          rw [nI_1]
          first | exact absurd b104 b90 | exact absurd b90 b104 | (rw [ce]; exact ih (i + 1) (by omega) _ _ _ _ hY3 (fr_tr hF0 (fr_tr hF1 (fr_tr hF2 hF3))))
      · have q : mns n k (upd (upd (τ 0) (27 + i) 9) (41 + i) 0) 5 < le := Int32.not_le.mp b90
        have ce : caF n k (τ 0) (r + 1) i wh le = caF n k (τ 0) r (i + 1) (nI i) (mns n k (upd (upd (τ 0) (27 + i) 9) (41 + i) 0) 5) := if_pos q
        refine s_iload (n := 95) dX5_catches_93 rfl rfl ?_
        refine s_goto (tgt := 99) dX5_catches_95 rfl ?_
        refine s_istore_n (n := 100) (i := 3) (ls' := [_, _, _, _, _, _, _]) dX5_catches_99 rfl rfl rfl rfl rfl ?_
        refine s_iload (n := 102) dX5_catches_100 rfl rfl ?_
        refine s_iload (n := 104) dX5_catches_102 rfl rfl ?_
        refine s_icmp_ge (n := 107) (tgt := 112) dX5_catches_104 rfl rfl (fun b104 => ?_) (fun b104 => ?_)
        · refine s_iload (n := 114) dX5_catches_112 rfl rfl ?_
          refine s_istore (n := 116) (i := 4) (ls' := [_, _, _, _, _, _, _]) dX5_catches_114 rfl rfl rfl rfl ?_
          refine s_iinc (n := 119) (v := _ + 1) (ls' := [_, _, _, _, _, _, _]) dX5_catches_116 rfl rfl rfl rfl rfl ?_
          refine s_goto (tgt := 45) dX5_catches_119 rfl ?_
          rw [nI_1]
          first | exact absurd b104 b90 | exact absurd b90 b104 | (rw [ce]; exact ih (i + 1) (by omega) _ _ _ _ hY3 (fr_tr hF0 (fr_tr hF1 (fr_tr hF2 hF3))))
        · refine s_iload (n := 109) dX5_catches_107 rfl rfl ?_
          refine s_goto (tgt := 114) dX5_catches_109 rfl ?_
          refine s_istore (n := 116) (i := 4) (ls' := [_, _, _, _, _, _, _]) dX5_catches_114 rfl rfl rfl rfl ?_
          refine s_iinc (n := 119) (v := _ + 1) (ls' := [_, _, _, _, _, _, _]) dX5_catches_116 rfl rfl rfl rfl rfl ?_
          refine s_goto (tgt := 45) dX5_catches_119 rfl ?_
          rw [nI_1]
          first | exact absurd b104 b90 | exact absurd b90 b104 | (rw [ce]; exact ih (i + 1) (by omega) _ _ _ _ hY3 (fr_tr hF0 (fr_tr hF1 (fr_tr hF2 hF3))))
set_option maxRecDepth 100000 in
set_option maxHeartbeats 4000000 in
theorem y_catches {G : mj_G} {h : mj_H} {d : Nat} {τ : Nat → Nat → Int32} (hY : YS G h τ) {n : Nat} (hn : τ 0 2 = nI n) (h7 : n ≤ 7) (hok : okB n (τ 0)) {k : Nat} (hk : k ≤ 40) (hk1 : 1 ≤ k) (hT : ¬ τ 12 1 = 0) {w : Int32} (hw : Wi w 0 1) (hd : 5 ≤ d) : mj_con G MX5_catches d 0 0 [.ref (G.1 + 220), .int (nI k), .int w] h (fun v h' => v = some (.int (if w = 0 then (caF n k (τ 0) n 0 0 99999).1 else (caF n k (τ 0) n 0 0 99999).2)) ∧ YS G h' (u2 (asS τ) 0 (τ 0)) ∧ mj_fr 220 13 h h') := by
  refine mj_conV okX5_catches (ls := [some (.ref (G.1 + 220)), some (.int (nI k)), some (.int w), none, none, none, none]) rfl rfl ?_
  obtain ⟨y0, y1, y2, y3, y4, y5, y6, y7, y8, y9, y10, y11, y12⟩ := id hY
  refine s_aload_n (n := 1) (i := 0) dX5_catches_0 rfl rfl rfl ?_
  refine gf_X5_132 (n := 4) rfl dX5_catches_1 rfl (by assumption) (by rfl) ?_
  refine s_if_ne (n := 7) (tgt := 10) dX5_catches_4 rfl rfl (fun b4 => ?_) (fun b4 => ?_)
  · refine s_iload_n (n := 11) (i := 1) dX5_catches_10 rfl rfl rfl ?_
    refine s_i2l (n := 12) dX5_catches_11 rfl ?_
    refine s_lconst (n := 13) (v := 1) dX5_catches_12 rfl (by decide) ?_
    refine s_ldc2 (n := 16) dX5_catches_13 rfl wd_X5_194 ?_
    refine s_s3 (M' := MX5_in) (n := 19) dX5_catches_16 rfl wd_X5_54 okX5_in rfl (by omega) ⟨Nat.le_refl _, Nat.le_refl _⟩ (y_in (d := d - 1) (A := 1) (B := 40) (by decide) (by decide)) ?_
    rintro v16 hh16 ⟨rfl, rfl⟩
    refine s_if_eq (n := 22) (tgt := 29) dX5_catches_19 rfl rfl (fun b19 => ?_) (fun b19 => ?_)
    · exact absurd (Wi_n (by omega) (by omega) (by omega)) (if0 b19)
    · refine s_iload_n (n := 23) (i := 2) dX5_catches_22 rfl rfl rfl ?_
      refine s_s1 (M' := MX5_isWhat) (n := 26) dX5_catches_23 rfl wd_X5_183 okX5_isWhat rfl (by omega) ⟨Nat.le_refl _, Nat.le_refl _⟩ (y_isWhat (d := d - 1) (by omega)) ?_
      rintro v23 hh23 ⟨rfl, rfl⟩
      refine s_if_ne (n := 29) (tgt := 32) dX5_catches_26 rfl rfl (fun b26 => ?_) (fun b26 => ?_)
      · refine s_aload_n (n := 33) (i := 0) dX5_catches_32 rfl rfl rfl ?_
        refine s_v0 (M' := MX5_putAside) (n := 36) (ci := 5) dX5_catches_33 rfl wd_X5_174 okX5_putAside rfl rfl (by omega) ⟨Nat.le_refl _, Nat.le_refl _⟩ (by assumption) (y_pa (d := d - 1) hY) ?_
        rintro v33 hh33 ⟨rfl, hY1, hF1⟩
        obtain ⟨y0, y1, y2, y3, y4, y5, y6, y7, y8, y9, y10, y11, y12⟩ := id hY1
        replace y4 : hh33.2 224 = mj_ar 0 48 (τ 0) := y4
        replace y0 : hh33.2 220 = YO G (τ 12) := y0
        refine s_iconst (n := 37) (v := 0) dX5_catches_36 rfl (by decide) ?_
        refine s_istore_n (n := 38) (i := 3) (ls' := [_, _, _, _, _, _, _]) dX5_catches_37 rfl rfl rfl rfl rfl ?_
        refine s_ldc (n := 40) dX5_catches_38 rfl wd_X5_199 ?_
        refine s_istore (n := 42) (i := 4) (ls' := [_, _, _, _, _, _, _]) dX5_catches_40 rfl rfl rfl rfl ?_
        refine s_iconst (n := 43) (v := 0) dX5_catches_42 rfl (by decide) ?_
        refine s_istore (n := 45) (i := 5) (ls' := [_, _, _, _, _, _, _]) dX5_catches_43 rfl rfl rfl rfl ?_
        exact l_ycatches hok hk hd n 0 (by omega) _ _ _ _ hY1 hF1
      · exact absurd (hw) (if0 b26)
  · exact absurd b4 hT
