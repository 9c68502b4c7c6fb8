theorem lN_mod {a m : Nat} (ha : a < 2147483648) (h0 : 0 < m) (hm : m < 2147483648) : lN a - lN a / lN m * lN m = lN (a % m) := pk_lRem (by omega) h0 (by omega)
theorem okB_drw {n a : Nat} {T : Nat → Int32} (h0 : 0 < n) (h : okB n T) : okB n (drw n a T) := by
  have h7 := h.1.2.1
  have hm := Nat.mod_lt a h0
  have h21 := Nat.mod_lt a (by omega : 0 < 21)
  have q := okB_talk (x := nI (a % 21)) h (by omega : a % n < 7) (Wi_n (by omega) (by omega) (by omega))
  unfold drw
  split
  · exact okB_low q ⟨by decide, by decide⟩
  · exact q
theorem drw_o {n a k : Nat} {T : Nat → Int32} (h0 : 0 < n) (h7 : n ≤ 7) (hk : 48 ≤ k) : drw n a T k = T k := by
  have hm := Nat.mod_lt a h0
  unfold drw lowP
  split
  · rw [up_ne (by omega), up_ne (by omega)]
  · rw [up_ne (by omega)]
theorem lN_z {a : Nat} (h : a < 2147483648) : lN a = 0 ↔ a = 0 := by
  constructor
  · intro q
    have e := congrArg Int64.toInt q
    rw [lN_toInt h] at e
    have : (0 : Int64).toInt = 0 := by decide
    omega
  · intro q
    subst q
    rfl
set_option maxRecDepth 100000 in
set_option maxHeartbeats 4000000 in
theorem y_drawn_st {G : mj_G} {h : mj_H} {d : Nat} {τ : Nat → Nat → Int32} (hY : YS G h τ) {x y z : Int32} (hb : τ 12 1 = 0) (hd : 2 ≤ d) : mj_con G MX5_drawn d 0 0 [.ref (G.1 + 220), .int x, .int y, .int z] h (rI (-1000002) h) := by
  refine mj_conV okX5_drawn (ls := [some (.ref (G.1 + 220)), some (.int x), some (.int y), some (.int z), none, none, none, none]) rfl rfl ?_
  obtain ⟨y0, y1, y2, y3, y4, y5, y6, y7, y8, y9, y10, y11, y12⟩ := id hY
  refine s_aload_n (n := 1) (i := 0) dX5_drawn_0 rfl rfl rfl ?_
  refine gf_X5_132 (n := 4) rfl dX5_drawn_1 rfl (by assumption) (by rfl) ?_
  refine s_if_ne (n := 7) (tgt := 10) dX5_drawn_4 rfl rfl (fun b4 => ?_) (fun b4 => ?_)
  · exact absurd hb b4
  · refine s_ldc (n := 9) dX5_drawn_7 rfl wd_X5_146 ?_
    refine s_ireturn dX5_drawn_9 rfl (rfl) (Nat.le_refl _) (Nat.le_refl _) ?_
    exact ⟨rfl, rfl⟩
set_option maxRecDepth 100000 in
set_option maxHeartbeats 4000000 in
theorem y_drawn_bad {G : mj_G} {h : mj_H} {d : Nat} {τ : Nat → Nat → Int32} (hY : YS G h τ) {x y z : Int32} (hT : ¬ τ 12 1 = 0) (hb : ¬ (Wi x 0 60 ∧ Wi y 1 999999 ∧ Wi z 0 1)) (hd : 2 ≤ d) : mj_con G MX5_drawn d 0 0 [.ref (G.1 + 220), .int x, .int y, .int z] h (rI (-1000001) h) := by
  refine mj_conV okX5_drawn (ls := [some (.ref (G.1 + 220)), some (.int x), some (.int y), some (.int z), none, none, none, none]) rfl rfl ?_
  obtain ⟨y0, y1, y2, y3, y4, y5, y6, y7, y8, y9, y10, y11, y12⟩ := id hY
  refine s_aload_n (n := 1) (i := 0) dX5_drawn_0 rfl rfl rfl ?_
  refine gf_X5_132 (n := 4) rfl dX5_drawn_1 rfl (by assumption) (by rfl) ?_
  refine s_if_ne (n := 7) (tgt := 10) dX5_drawn_4 rfl rfl (fun b4 => ?_) (fun b4 => ?_)
  · refine s_iload_n (n := 11) (i := 1) dX5_drawn_10 rfl rfl rfl ?_
    refine s_i2l (n := 12) dX5_drawn_11 rfl ?_
    refine s_lconst (n := 13) (v := 0) dX5_drawn_12 rfl (by decide) ?_
    refine s_ldc2 (n := 16) dX5_drawn_13 rfl wd_X5_219 ?_
    refine s_s3 (M' := MX5_in) (n := 19) dX5_drawn_16 rfl wd_X5_54 okX5_in rfl (by omega) ⟨Nat.le_refl _, Nat.le_refl _⟩ (y_in (d := d - 1) (A := 0) (B := 60) (by decide) (by decide)) ?_
    rintro v16 hh16 ⟨rfl, rfl⟩
    refine s_if_eq (n := 22) (tgt := 41) dX5_drawn_19 rfl rfl (fun b19 => ?_) (fun b19 => ?_)
    · refine s_ldc (n := 43) dX5_drawn_41 rfl wd_X5_64 ?_
      refine s_ireturn dX5_drawn_43 rfl (rfl) (Nat.le_refl _) (Nat.le_refl _) ?_
      exact ⟨rfl, rfl⟩
    · refine s_iload_n (n := 23) (i := 2) dX5_drawn_22 rfl rfl rfl ?_
      refine s_i2l (n := 24) dX5_drawn_23 rfl ?_
      refine s_lconst (n := 25) (v := 1) dX5_drawn_24 rfl (by decide) ?_
      refine s_ldc2 (n := 28) dX5_drawn_25 rfl wd_X5_221 ?_
      refine s_s3 (M' := MX5_in) (n := 31) dX5_drawn_28 rfl wd_X5_54 okX5_in rfl (by omega) ⟨Nat.le_refl _, Nat.le_refl _⟩ (y_in (d := d - 1) (A := 1) (B := 999999) (by decide) (by decide)) ?_
      rintro v28 hh28 ⟨rfl, rfl⟩
      refine s_if_eq (n := 34) (tgt := 41) dX5_drawn_31 rfl rfl (fun b31 => ?_) (fun b31 => ?_)
      · refine s_ldc (n := 43) dX5_drawn_41 rfl wd_X5_64 ?_
        refine s_ireturn dX5_drawn_43 rfl (rfl) (Nat.le_refl _) (Nat.le_refl _) ?_
        exact ⟨rfl, rfl⟩
      · refine s_iload_n (n := 35) (i := 3) dX5_drawn_34 rfl rfl rfl ?_
        refine s_s1 (M' := MX5_isWhat) (n := 38) dX5_drawn_35 rfl wd_X5_183 okX5_isWhat rfl (by omega) ⟨Nat.le_refl _, Nat.le_refl _⟩ (y_isWhat (d := d - 1) (by omega)) ?_
        rintro v35 hh35 ⟨rfl, rfl⟩
        refine s_if_ne (n := 41) (tgt := 44) dX5_drawn_38 rfl rfl (fun b38 => ?_) (fun b38 => ?_)
        · exact absurd (⟨if1 b19, if1 b31, if1 b38⟩) hb
        · refine s_ldc (n := 43) dX5_drawn_41 rfl wd_X5_64 ?_
          refine s_ireturn dX5_drawn_43 rfl (rfl) (Nat.le_refl _) (Nat.le_refl _) ?_
          exact ⟨rfl, rfl⟩
  · exact absurd b4 hT
set_option maxRecDepth 100000 in
set_option maxHeartbeats 4000000 in
theorem l_ydrawn {G : mj_G} {h0 : mj_H} {d n k : Nat} {τ : Nat → Nat → Int32} {w y : Int32} (hn0 : 0 < n) (hk : k ≤ 60) (hd : 4 ≤ d) : ∀ (r i : Nat), i + r = k → ∀ (h : mj_H) (F : Nat → Int32) (a : Nat) (mo : Int32), a < 2147483648 → YS G h (u2 (asS τ) 0 F) → okB n F → (∀ k, 48 ≤ k → F k = τ 0 k) → mj_fr 220 13 h0 h → mj_wp G MX5_drawn d 0 0 58 [some (.ref (G.1 + 220)), some (.int (nI k)), some (.int y), some (.int w), some (.long (lN a)), none, some (.int mo), some (.int (nI i))] [] h 0 0 (fun v h' => v = some (.int (if w = 0 then (drF n r a F mo).1 5 else (drF n r a F mo).2)) ∧ YS G h' (u2 (asS τ) 0 (τ 0)) ∧ mj_fr 220 13 h0 h') := by
  intro r
  induction r with
  | zero =>
    intro i hi h F a mo ha hY hok ho hF0
    obtain ⟨y0, y1, y2, y3, y4, y5, y6, y7, y8, y9, y10, y11, y12⟩ := id hY
    replace y4 : h.2 224 = mj_ar 0 48 (F) := y4
    replace y0 : h.2 220 = YO G (τ 12) := y0
    refine s_iload (n := 60) dX5_drawn_58 rfl rfl ?_
    refine s_iload_n (n := 61) (i := 1) dX5_drawn_60 rfl rfl rfl ?_
    refine s_icmp_ge (n := 64) (tgt := 152) dX5_drawn_61 rfl rfl (fun b61 => ?_) (fun b61 => ?_)
    · refine s_iload_n (n := 153) (i := 3) dX5_drawn_152 rfl rfl rfl ?_
      refine s_if_ne (n := 156) (tgt := 165) dX5_drawn_153 rfl rfl (fun b153 => ?_) (fun b153 => ?_)
      · refine s_iload (n := 167) dX5_drawn_165 rfl rfl ?_
        refine s_istore (n := 169) (i := 7) (ls' := [_, _, _, _, _, _, _, _]) dX5_drawn_167 rfl rfl rfl rfl ?_
        refine s_aload_n (n := 170) (i := 0) dX5_drawn_169 rfl rfl rfl ?_
        refine s_v0 (M' := MX5_takeBack) (n := 173) (ci := 5) dX5_drawn_170 rfl wd_X5_180 okX5_takeBack rfl rfl (by omega) ⟨Nat.le_refl _, Nat.le_refl _⟩ (by assumption) (y_tb (d := d - 1) hY (ho)) ?_
        rintro v170 hh170 ⟨rfl, hY9, hF9⟩
        have hFa := fr_tr (hF0) hF9
        obtain ⟨y0, y1, y2, y3, y4, y5, y6, y7, y8, y9, y10, y11, y12⟩ := id hY9
        replace y4 : hh170.2 224 = mj_ar 0 48 (τ 0) := y4
        replace y0 : hh170.2 220 = YO G (τ 12) := y0
        refine s_iload (n := 175) dX5_drawn_173 rfl rfl ?_
        refine s_ireturn dX5_drawn_175 rfl (rfl) (Nat.le_refl _) (Nat.le_refl _) ?_
        refine ⟨?_, hY9, hFa⟩
        first | rw [if_neg b153] | rw [if_pos b153]
        first | done | rfl
      · refine s_aload_n (n := 157) (i := 0) dX5_drawn_156 rfl rfl rfl ?_
        refine gf_X5_19 (n := 160) rfl dX5_drawn_157 rfl (by assumption) (by rfl) ?_
        refine s_iconst (n := 161) (v := 5) dX5_drawn_160 rfl (by decide) ?_
        refine s_iald (n := 162) dX5_drawn_161 rfl (by assumption) (mj_ixe (j := 5) rfl (by omega)) ?_
        refine s_goto (tgt := 167) dX5_drawn_162 rfl ?_
        refine s_istore (n := 169) (i := 7) (ls' := [_, _, _, _, _, _, _, _]) dX5_drawn_167 rfl rfl rfl rfl ?_
        refine s_aload_n (n := 170) (i := 0) dX5_drawn_169 rfl rfl rfl ?_
        refine s_v0 (M' := MX5_takeBack) (n := 173) (ci := 5) dX5_drawn_170 rfl wd_X5_180 okX5_takeBack rfl rfl (by omega) ⟨Nat.le_refl _, Nat.le_refl _⟩ (by assumption) (y_tb (d := d - 1) hY (ho)) ?_
        rintro v170 hh170 ⟨rfl, hY9, hF9⟩
        have hFa := fr_tr (hF0) hF9
        obtain ⟨y0, y1, y2, y3, y4, y5, y6, y7, y8, y9, y10, y11, y12⟩ := id hY9
        replace y4 : hh170.2 224 = mj_ar 0 48 (τ 0) := y4
        replace y0 : hh170.2 220 = YO G (τ 12) := y0
        refine s_iload (n := 175) dX5_drawn_173 rfl rfl ?_
        refine s_ireturn dX5_drawn_175 rfl (rfl) (Nat.le_refl _) (Nat.le_refl _) ?_
        refine ⟨?_, hY9, hFa⟩
        first | rw [if_neg b153] | rw [if_pos b153]
        first | done | rfl
    · exact absurd ((nI_leE (by omega) (by omega)).mpr (by omega)) b61
  | succ r ih =>
    intro i hi h F a mo ha hY hok ho hF0
    have h7 := hok.1.2.1
    have hm := Nat.mod_lt (nxt a) hn0
    have hx := @nxt_lt a
    have okd := okB_drw (a := nxt a) hn0 hok
    obtain ⟨y0, y1, y2, y3, y4, y5, y6, y7, y8, y9, y10, y11, y12⟩ := id hY
    replace y4 : h.2 224 = mj_ar 0 48 (F) := y4
    replace y0 : h.2 220 = YO G (τ 12) := y0
    have dE : drF n (r + 1) a F mo = drF n r (nxt a) (mn n (drw n (nxt a) F)) (if mo < mn n (drw n (nxt a) F) 5 then mn n (drw n (nxt a) F) 5 else mo) := rfl
    refine s_iload (n := 60) dX5_drawn_58 rfl rfl ?_
    refine s_iload_n (n := 61) (i := 1) dX5_drawn_60 rfl rfl rfl ?_
    refine s_icmp_ge (n := 64) (tgt := 152) dX5_drawn_61 rfl rfl (fun b61 => ?_) (fun b61 => ?_)
    · exact absurd ((nI_leE (by omega) (by omega)).mp b61) (by omega)
    · refine s_lload (n := 66) dX5_drawn_64 rfl rfl ?_
      refine s_ldc2 (n := 69) dX5_drawn_66 rfl wd_X5_223 ?_
      refine s_lmul (n := 70) dX5_drawn_69 rfl ?_
      refine s_ldc2 (n := 73) dX5_drawn_70 rfl wd_X5_225 ?_
      refine s_lrem (n := 74) dX5_drawn_73 rfl (by decide) ?_
      rw [lN_nxt ha]
      refine s_lstore (n := 76) (i := 4) (ls' := [_, _, _, _, _, _, _, _]) dX5_drawn_74 rfl rfl rfl rfl ?_
      refine s_aload_n (n := 77) (i := 0) dX5_drawn_76 rfl rfl rfl ?_
      refine gf_X5_19 (n := 80) rfl dX5_drawn_77 rfl (by assumption) (by rfl) ?_
      refine s_bipush (n := 82) (v := 13) dX5_drawn_80 rfl (by decide) ?_
      refine s_lload (n := 84) dX5_drawn_82 rfl rfl ?_
      refine s_aload_n (n := 85) (i := 0) dX5_drawn_84 rfl rfl rfl ?_
      refine gf_X5_19 (n := 88) rfl dX5_drawn_85 rfl (by assumption) (by rfl) ?_
      refine s_iconst (n := 89) (v := 2) dX5_drawn_88 rfl (by decide) ?_
      refine s_iald (n := 90) dX5_drawn_89 rfl (by assumption) (mj_ixe (j := 2) rfl (by omega)) ?_
      rw [hok.1.1]
      refine s_i2l (n := 91) dX5_drawn_90 rfl ?_
      rw [nI_l (by omega)]
      refine s_lrem (n := 92) dX5_drawn_91 rfl (fun z => absurd ((lN_z (by omega)).mp z) (by omega)) ?_
      rw [lN_mod (by omega) hn0 (by omega)]
      refine s_l2i (n := 93) dX5_drawn_92 rfl ?_
      rw [lN_i]
      refine s_iadd (n := 94) dX5_drawn_93 rfl ?_
      refine s_lload (n := 96) dX5_drawn_94 rfl rfl ?_
      refine s_ldc2 (n := 99) dX5_drawn_96 rfl wd_X5_227 ?_
      refine s_lrem (n := 100) dX5_drawn_99 rfl (by decide) ?_
      rw [show lN (nxt a) - lN (nxt a) / 21 * 21 = lN (nxt a % 21) from lN_mod (m := 21) (by omega) (by omega) (by omega)]
      refine s_l2i (n := 101) dX5_drawn_100 rfl ?_
      rw [lN_i]
      refine s_iast (n := 102) dX5_drawn_101 rfl (by assumption) (mj_ixa (o := 13) rfl (by omega)) ?_
      refine YA_0 hY (fun h1 hY1 hF1 => ?_)
      rw [u2_u2] at hY1
      obtain ⟨y0, y1, y2, y3, y4, y5, y6, y7, y8, y9, y10, y11, y12⟩ := id hY1
      replace y4 : h1.2 224 = mj_ar 0 48 (upd F (13 + nxt a % n) (nI (nxt a % 21))) := y4
      replace y0 : h1.2 220 = YO G (τ 12) := y0
      refine s_lload (n := 104) dX5_drawn_102 rfl rfl ?_
      refine s_ldc2 (n := 107) dX5_drawn_104 rfl wd_X5_160 ?_
      refine s_lrem (n := 108) dX5_drawn_107 rfl (by decide) ?_
      rw [show lN (nxt a) - lN (nxt a) / 9 * 9 = lN (nxt a % 9) from lN_mod (m := 9) (by omega) (by omega) (by omega)]
      refine s_lconst (n := 109) (v := 0) dX5_drawn_108 rfl (by decide) ?_
      refine s_lcmp (n := 110) dX5_drawn_109 rfl ?_
      refine s_if_ne (n := 113) (tgt := 118) dX5_drawn_110 rfl rfl (fun b110 => ?_) (fun b110 => ?_)
      · have h9 : ¬ nxt a % 9 = 0 := fun z => b110 (lc0.mpr ((lN_z (by omega)).mpr z))
        have hY2 : YS G h1 (u2 (asS τ) 0 (drw n (nxt a) F)) := by
          rw [show drw n (nxt a) F = upd F (13 + nxt a % n) (nI (nxt a % 21)) from by unfold drw; rw [if_neg h9]]
          exact hY1
        have hFz := hF1
        refine s_aload_n (n := 119) (i := 0) dX5_drawn_118 rfl rfl rfl ?_
        refine s_v0 (M' := MX5_oneMinute) (n := 122) (ci := 5) dX5_drawn_119 rfl wd_X5_152 okX5_oneMinute rfl rfl (by omega) ⟨Nat.le_refl _, Nat.le_refl _⟩ (by assumption) (y_om (d := d - 1) (F := drw n (nxt a) F) hY2 (n := n) okd (by omega)) ?_
        rintro v119 hh119 ⟨rfl, hY3, hF3⟩
        obtain ⟨y0, y1, y2, y3, y4, y5, y6, y7, y8, y9, y10, y11, y12⟩ := id hY3
        replace y4 : hh119.2 224 = mj_ar 0 48 (mn n (drw n (nxt a) F)) := y4
        replace y0 : hh119.2 220 = YO G (τ 12) := y0
        refine s_aload_n (n := 123) (i := 0) dX5_drawn_122 rfl rfl rfl ?_
        refine gf_X5_19 (n := 126) rfl dX5_drawn_123 rfl (by assumption) (by rfl) ?_
        refine s_iconst (n := 127) (v := 5) dX5_drawn_126 rfl (by decide) ?_
        refine s_iald (n := 128) dX5_drawn_127 rfl (by assumption) (mj_ixe (j := 5) rfl (by omega)) ?_
        refine s_iload (n := 130) dX5_drawn_128 rfl rfl ?_
        refine s_icmp_le (n := 133) (tgt := 142) dX5_drawn_130 rfl rfl (fun b130 => ?_) (fun b130 => ?_)
        · rw [if_neg (Int32.not_lt.mpr b130)] at dE
          refine s_iload (n := 144) dX5_drawn_142 rfl rfl ?_
          refine s_istore (n := 146) (i := 6) (ls' := [_, _, _, _, _, _, _, _]) dX5_drawn_144 rfl rfl rfl rfl ?_
          refine s_iinc (n := 149) (v := _ + 1) (ls' := [_, _, _, _, _, _, _, _]) dX5_drawn_146 rfl rfl rfl rfl rfl ?_
          refine s_goto (tgt := 58) dX5_drawn_149 rfl ?_
          have hFm := fr_tr hFz hF3
          rw [nI_1, dE]
          exact ih (i + 1) (by omega) _ _ _ _ (by omega) hY3 (okB_mn okd) (fun q hq => ((mn_o h7 hq).trans (drw_o hn0 h7 hq)).trans (ho q hq)) (fr_tr hF0 hFm)
        · rw [if_pos (Int32.not_le.mp b130)] at dE
          refine s_aload_n (n := 134) (i := 0) dX5_drawn_133 rfl rfl rfl ?_
          refine gf_X5_19 (n := 137) rfl dX5_drawn_134 rfl (by assumption) (by rfl) ?_
          refine s_iconst (n := 138) (v := 5) dX5_drawn_137 rfl (by decide) ?_
          refine s_iald (n := 139) dX5_drawn_138 rfl (by assumption) (mj_ixe (j := 5) rfl (by omega)) ?_
          refine s_goto (tgt := 144) dX5_drawn_139 rfl ?_
          refine s_istore (n := 146) (i := 6) (ls' := [_, _, _, _, _, _, _, _]) dX5_drawn_144 rfl rfl rfl rfl ?_
          refine s_iinc (n := 149) (v := _ + 1) (ls' := [_, _, _, _, _, _, _, _]) dX5_drawn_146 rfl rfl rfl rfl rfl ?_
          refine s_goto (tgt := 58) dX5_drawn_149 rfl ?_
          have hFm := fr_tr hFz hF3
          rw [nI_1, dE]
          exact ih (i + 1) (by omega) _ _ _ _ (by omega) hY3 (okB_mn okd) (fun q hq => ((mn_o h7 hq).trans (drw_o hn0 h7 hq)).trans (ho q hq)) (fr_tr hF0 hFm)
      · have h9 : nxt a % 9 = 0 := (lN_z (by omega)).mp (lc0.mp b110)
        refine s_aload_n (n := 114) (i := 0) dX5_drawn_113 rfl rfl rfl ?_
        refine s_iconst (n := 115) (v := 5) dX5_drawn_114 rfl (by decide) ?_
        refine s_v1 (M' := MX5_letOff) (n := 118) (ci := 5) dX5_drawn_115 rfl wd_X5_164 okX5_letOff rfl rfl (by omega) ⟨Nat.le_refl _, Nat.le_refl _⟩ (by assumption) (y_letOff (d := d - 1) (F := upd F (13 + nxt a % n) (nI (nxt a % 21))) (x := 5) hY1 (by show Wi ((upd F (13 + nxt a % n) (nI (nxt a % 21))) 5) 0 9999; rw [up_ne (by omega)]; exact hok.2.2.2) ⟨by decide, by decide⟩) ?_
        rintro v115 hh115 ⟨rfl, hY2, hF2⟩
        rw [show lowP (upd F (13 + nxt a % n) (nI (nxt a % 21))) 5 = drw n (nxt a) F from by unfold drw; rw [if_pos h9]] at hY2
        have hFz := fr_tr hF1 hF2
        obtain ⟨y0, y1, y2, y3, y4, y5, y6, y7, y8, y9, y10, y11, y12⟩ := id hY2
        replace y4 : hh115.2 224 = mj_ar 0 48 (drw n (nxt a) F) := y4
        replace y0 : hh115.2 220 = YO G (τ 12) := y0
        refine s_aload_n (n := 119) (i := 0) dX5_drawn_118 rfl rfl rfl ?_
        refine s_v0 (M' := MX5_oneMinute) (n := 122) (ci := 5) dX5_drawn_119 rfl wd_X5_152 okX5_oneMinute rfl rfl (by omega) ⟨Nat.le_refl _, Nat.le_refl _⟩ (by assumption) (y_om (d := d - 1) (F := drw n (nxt a) F) hY2 (n := n) okd (by omega)) ?_
        rintro v119 hh119 ⟨rfl, hY3, hF3⟩
        obtain ⟨y0, y1, y2, y3, y4, y5, y6, y7, y8, y9, y10, y11, y12⟩ := id hY3
        replace y4 : hh119.2 224 = mj_ar 0 48 (mn n (drw n (nxt a) F)) := y4
        replace y0 : hh119.2 220 = YO G (τ 12) := y0
        refine s_aload_n (n := 123) (i := 0) dX5_drawn_122 rfl rfl rfl ?_
        refine gf_X5_19 (n := 126) rfl dX5_drawn_123 rfl (by assumption) (by rfl) ?_
        refine s_iconst (n := 127) (v := 5) dX5_drawn_126 rfl (by decide) ?_
        refine s_iald (n := 128) dX5_drawn_127 rfl (by assumption) (mj_ixe (j := 5) rfl (by omega)) ?_
        refine s_iload (n := 130) dX5_drawn_128 rfl rfl ?_
        refine s_icmp_le (n := 133) (tgt := 142) dX5_drawn_130 rfl rfl (fun b130 => ?_) (fun b130 => ?_)
        · rw [if_neg (Int32.not_lt.mpr b130)] at dE
          refine s_iload (n := 144) dX5_drawn_142 rfl rfl ?_
          refine s_istore (n := 146) (i := 6) (ls' := [_, _, _, _, _, _, _, _]) dX5_drawn_144 rfl rfl rfl rfl ?_
          refine s_iinc (n := 149) (v := _ + 1) (ls' := [_, _, _, _, _, _, _, _]) dX5_drawn_146 rfl rfl rfl rfl rfl ?_
          refine s_goto (tgt := 58) dX5_drawn_149 rfl ?_
          have hFm := fr_tr hFz hF3
          rw [nI_1, dE]
          exact ih (i + 1) (by omega) _ _ _ _ (by omega) hY3 (okB_mn okd) (fun q hq => ((mn_o h7 hq).trans (drw_o hn0 h7 hq)).trans (ho q hq)) (fr_tr hF0 hFm)
        · rw [if_pos (Int32.not_le.mp b130)] at dE
          refine s_aload_n (n := 134) (i := 0) dX5_drawn_133 rfl rfl rfl ?_
          refine gf_X5_19 (n := 137) rfl dX5_drawn_134 rfl (by assumption) (by rfl) ?_
          refine s_iconst (n := 138) (v := 5) dX5_drawn_137 rfl (by decide) ?_
          refine s_iald (n := 139) dX5_drawn_138 rfl (by assumption) (mj_ixe (j := 5) rfl (by omega)) ?_
          refine s_goto (tgt := 144) dX5_drawn_139 rfl ?_
          refine s_istore (n := 146) (i := 6) (ls' := [_, _, _, _, _, _, _, _]) dX5_drawn_144 rfl rfl rfl rfl ?_
          refine s_iinc (n := 149) (v := _ + 1) (ls' := [_, _, _, _, _, _, _, _]) dX5_drawn_146 rfl rfl rfl rfl rfl ?_
          refine s_goto (tgt := 58) dX5_drawn_149 rfl ?_
          have hFm := fr_tr hFz hF3
          rw [nI_1, dE]
          exact ih (i + 1) (by omega) _ _ _ _ (by omega) hY3 (okB_mn okd) (fun q hq => ((mn_o h7 hq).trans (drw_o hn0 h7 hq)).trans (ho q hq)) (fr_tr hF0 hFm)
set_option maxRecDepth 100000 in
set_option maxHeartbeats 4000000 in
theorem y_drawn {G : mj_G} {h : mj_H} {d : Nat} {τ : Nat → Nat → Int32} (hY : YS G h τ) {n : Nat} (hn : τ 0 2 = nI n) (h7 : n ≤ 7) (hok : okB n (τ 0)) {k s : Nat} (hk : k ≤ 60) (hs1 : 1 ≤ s) (hs2 : s ≤ 999999) (hT : ¬ τ 12 1 = 0) (hn0 : 0 < n) {w : Int32} (hw : Wi w 0 1) (hd : 4 ≤ d) : mj_con G MX5_drawn d 0 0 [.ref (G.1 + 220), .int (nI k), .int (nI s), .int w] h (fun v h' => v = some (.int (if w = 0 then (drF n k s (τ 0) 0).1 5 else (drF n k s (τ 0) 0).2)) ∧ YS G h' (u2 (asS τ) 0 (τ 0)) ∧ mj_fr 220 13 h h') := by
  refine mj_conV okX5_drawn (ls := [some (.ref (G.1 + 220)), some (.int (nI k)), some (.int (nI s)), some (.int w), none, none, none, none]) rfl rfl ?_
  obtain ⟨y0, y1, y2, y3, y4, y5, y6, y7, y8, y9, y10, y11, y12⟩ := id hY
  refine s_aload_n (n := 1) (i := 0) dX5_drawn_0 rfl rfl rfl ?_
  refine gf_X5_132 (n := 4) rfl dX5_drawn_1 rfl (by assumption) (by rfl) ?_
  refine s_if_ne (n := 7) (tgt := 10) dX5_drawn_4 rfl rfl (fun b4 => ?_) (fun b4 => ?_)
  · refine s_iload_n (n := 11) (i := 1) dX5_drawn_10 rfl rfl rfl ?_
    refine s_i2l (n := 12) dX5_drawn_11 rfl ?_
    refine s_lconst (n := 13) (v := 0) dX5_drawn_12 rfl (by decide) ?_
    refine s_ldc2 (n := 16) dX5_drawn_13 rfl wd_X5_219 ?_
    refine s_s3 (M' := MX5_in) (n := 19) dX5_drawn_16 rfl wd_X5_54 okX5_in rfl (by omega) ⟨Nat.le_refl _, Nat.le_refl _⟩ (y_in (d := d - 1) (A := 0) (B := 60) (by decide) (by decide)) ?_
    rintro v16 hh16 ⟨rfl, rfl⟩
    refine s_if_eq (n := 22) (tgt := 41) dX5_drawn_19 rfl rfl (fun b19 => ?_) (fun b19 => ?_)
    · exact absurd (Wi_n (by omega) (by omega) (by omega)) (if0 b19)
    · refine s_iload_n (n := 23) (i := 2) dX5_drawn_22 rfl rfl rfl ?_
      refine s_i2l (n := 24) dX5_drawn_23 rfl ?_
      refine s_lconst (n := 25) (v := 1) dX5_drawn_24 rfl (by decide) ?_
      refine s_ldc2 (n := 28) dX5_drawn_25 rfl wd_X5_221 ?_
      refine s_s3 (M' := MX5_in) (n := 31) dX5_drawn_28 rfl wd_X5_54 okX5_in rfl (by omega) ⟨Nat.le_refl _, Nat.le_refl _⟩ (y_in (d := d - 1) (A := 1) (B := 999999) (by decide) (by decide)) ?_
      rintro v28 hh28 ⟨rfl, rfl⟩
      refine s_if_eq (n := 34) (tgt := 41) dX5_drawn_31 rfl rfl (fun b31 => ?_) (fun b31 => ?_)
      · exact absurd (Wi_n (by omega) (by omega) (by omega)) (if0 b31)
      · refine s_iload_n (n := 35) (i := 3) dX5_drawn_34 rfl rfl rfl ?_
        refine s_s1 (M' := MX5_isWhat) (n := 38) dX5_drawn_35 rfl wd_X5_183 okX5_isWhat rfl (by omega) ⟨Nat.le_refl _, Nat.le_refl _⟩ (y_isWhat (d := d - 1) (by omega)) ?_
        rintro v35 hh35 ⟨rfl, rfl⟩
        refine s_if_ne (n := 41) (tgt := 44) dX5_drawn_38 rfl rfl (fun b38 => ?_) (fun b38 => ?_)
        · refine s_aload_n (n := 45) (i := 0) dX5_drawn_44 rfl rfl rfl ?_
          refine s_v0 (M' := MX5_putAside) (n := 48) (ci := 5) dX5_drawn_45 rfl wd_X5_174 okX5_putAside rfl rfl (by omega) ⟨Nat.le_refl _, Nat.le_refl _⟩ (by assumption) (y_pa (d := d - 1) hY) ?_
          rintro v45 hh45 ⟨rfl, hY1, hF1⟩
          obtain ⟨y0, y1, y2, y3, y4, y5, y6, y7, y8, y9, y10, y11, y12⟩ := id hY1
          replace y4 : hh45.2 224 = mj_ar 0 48 (τ 0) := y4
          replace y0 : hh45.2 220 = YO G (τ 12) := y0
          refine s_iload_n (n := 49) (i := 2) dX5_drawn_48 rfl rfl rfl ?_
          refine s_i2l (n := 50) dX5_drawn_49 rfl ?_
          rw [nI_l (by omega)]
          refine s_lstore (n := 52) (i := 4) (ls' := [_, _, _, _, _, _, _, _]) dX5_drawn_50 rfl rfl rfl rfl ?_
          refine s_iconst (n := 53) (v := 0) dX5_drawn_52 rfl (by decide) ?_
          refine s_istore (n := 55) (i := 6) (ls' := [_, _, _, _, _, _, _, _]) dX5_drawn_53 rfl rfl rfl rfl ?_
          refine s_iconst (n := 56) (v := 0) dX5_drawn_55 rfl (by decide) ?_
          refine s_istore (n := 58) (i := 7) (ls' := [_, _, _, _, _, _, _, _]) dX5_drawn_56 rfl rfl rfl rfl ?_
          exact l_ydrawn hn0 hk hd k 0 (by omega) _ _ _ _ (by omega) hY1 hok rfl48 hF1
        · exact absurd (hw) (if0 b38)
  · exact absurd b4 hT
