def bldQ (f : Nat → Int32) (l i n : Nat) (W : Nat → Int32) : Nat → Int32 := bldY W n (kdF (tok f l i)) (tkV f l (tkN f l 1 i)) (tkV f l (tkN f l 3 i)) (tkV f l (tkN f l 5 i))
theorem l44 : lt 44 := Or.inr (Or.inl rfl)
theorem l59 : lt 59 := Or.inr (Or.inr rfl)
theorem nI_13 {n : Nat} : (13 : Int32) + nI n = nI (13 + n) := nI_add 13 n
theorem nI_20 {n : Nat} : (20 : Int32) + nI n = nI (20 + n) := nI_add 20 n
theorem nI_27 {n : Nat} : (27 : Int32) + nI n = nI (27 + n) := nI_add 27 n
set_option maxRecDepth 100000 in
set_option maxHeartbeats 4000000 in
theorem f_house0 {G : mj_G} {h : mj_H} {d : Nat} {τ : Nat → Nat → Int32} {X : Nat → Int32} (hY : YS G h (u2 τ 12 X)) {l i : Nat} (hS : tS (τ 5) l X i) {n : Nat} (b75 : kdY (tok (τ 5) l i) = 0) (k0 : kdF (tok (τ 5) l i) = -1) (hd : 4 ≤ d) : mj_wp G MX5_readHouse d 0 0 84 [some (.ref (G.1 + 220)), some (.int (kdY (tok (τ 5) l i))), some (.int (nI n))] [] h 0 0 (pR G h τ l X (bldQ (τ 5) l i n (τ 6)) (hsP (τ 5) l i n)) := by
  obtain ⟨y0, y1, y2, y3, y4, y5, y6, y7, y8, y9, y10, y11, y12⟩ := id hY
  replace y0 : h.2 220 = YO G (X) := y0
  replace y7 : h.2 227 = mj_ar 0 48 (τ 6) := y7
  obtain ⟨s1, s2, s3, s4, s5, s6⟩ := id hS
  refine s_aload_n (n := 85) (i := 0) dX5_readHouse_84 rfl rfl rfl ?_
  refine s_iload_n (n := 86) (i := 1) dX5_readHouse_85 rfl rfl rfl ?_
  refine s_if_ne (n := 89) (tgt := 93) dX5_readHouse_86 rfl rfl (fun b86 => ?_) (fun b86 => ?_)
  · exact absurd b75 b86
  · refine s_iconst (n := 90) (v := 1) dX5_readHouse_89 rfl (by decide) ?_
    refine s_goto (tgt := 94) dX5_readHouse_90 rfl ?_
    refine s_v1 (M' := MX5_faults) (n := 97) (ci := 5) dX5_readHouse_94 rfl wd_X5_108 okX5_faults rfl rfl (by omega) ⟨Nat.le_refl _, Nat.le_refl _⟩ (by assumption) (y_faults (d := d - 1) hY) ?_
    rintro v94 hh94 ⟨rfl, hY1, hF1⟩
    refine s_ireturn dX5_readHouse_97 rfl (rfl) (Nat.le_refl _) (Nat.le_refl _) ?_
    rw [show hsP (τ 5) l i n = (1, i) from hsP_1 k0]
    exact ⟨rfl, _, τ 6, (u2_self (σ := τ) (i := 6)).symm ▸ hY1, hF1, fun k hk => up_ne (by omega), fun z => absurd z one_ne, fun _ => ⟨up_eq, (up_ne (by omega)).trans s2⟩⟩
set_option maxRecDepth 100000 in
set_option maxHeartbeats 4000000 in
theorem f_house3 {G : mj_G} {h : mj_H} {d : Nat} {τ : Nat → Nat → Int32} {X : Nat → Int32} (hY : YS G h (u2 τ 12 X)) {l i : Nat} (hS : tS (τ 5) l X i) {n : Nat} (b75 : ¬ kdY (tok (τ 5) l i) = 0) (k0 : ¬ kdF (tok (τ 5) l i) = -1) (n7 : ¬ n < 7) (hd : 4 ≤ d) : mj_wp G MX5_readHouse d 0 0 84 [some (.ref (G.1 + 220)), some (.int (kdY (tok (τ 5) l i))), some (.int (nI n))] [] h 0 0 (pR G h τ l X (bldQ (τ 5) l i n (τ 6)) (hsP (τ 5) l i n)) := by
  obtain ⟨y0, y1, y2, y3, y4, y5, y6, y7, y8, y9, y10, y11, y12⟩ := id hY
  replace y0 : h.2 220 = YO G (X) := y0
  replace y7 : h.2 227 = mj_ar 0 48 (τ 6) := y7
  obtain ⟨s1, s2, s3, s4, s5, s6⟩ := id hS
  refine s_aload_n (n := 85) (i := 0) dX5_readHouse_84 rfl rfl rfl ?_
  refine s_iload_n (n := 86) (i := 1) dX5_readHouse_85 rfl rfl rfl ?_
  refine s_if_ne (n := 89) (tgt := 93) dX5_readHouse_86 rfl rfl (fun b86 => ?_) (fun b86 => ?_)
  · refine s_iconst (n := 94) (v := 3) dX5_readHouse_93 rfl (by decide) ?_
    refine s_v1 (M' := MX5_faults) (n := 97) (ci := 5) dX5_readHouse_94 rfl wd_X5_108 okX5_faults rfl rfl (by omega) ⟨Nat.le_refl _, Nat.le_refl _⟩ (by assumption) (y_faults (d := d - 1) hY) ?_
    rintro v94 hh94 ⟨rfl, hY1, hF1⟩
    refine s_ireturn dX5_readHouse_97 rfl (rfl) (Nat.le_refl _) (Nat.le_refl _) ?_
    rw [show hsP (τ 5) l i n = (3, i) from hsP_3 k0 n7]
    exact ⟨rfl, _, τ 6, (u2_self (σ := τ) (i := 6)).symm ▸ hY1, hF1, fun k hk => up_ne (by omega), fun z => absurd z three_ne, fun _ => ⟨up_eq, (up_ne (by omega)).trans s2⟩⟩
  · exact absurd b86 b75
set_option maxRecDepth 100000 in
set_option maxHeartbeats 4000000 in
theorem r_house {G : mj_G} {h : mj_H} {d : Nat} {τ : Nat → Nat → Int32} {X : Nat → Int32} (hY : YS G h (u2 τ 12 X)) {l i : Nat} (hS : tS (τ 5) l X i) (hl : l ≤ 120) (hi : i ≤ l) (hb : bts (τ 5) l) {n : Nat} (hn : τ 6 2 = nI n) (h7 : n ≤ 7) (hd : 4 ≤ d) : mj_wp G MX5_readHouse d 0 0 66 [some (.ref (G.1 + 220)), none, none] [.int (kdY (tok (τ 5) l i))] h 0 0 (pR G h τ l X (bldQ (τ 5) l i n (τ 6)) (hsP (τ 5) l i n)) := by
  obtain ⟨y0, y1, y2, y3, y4, y5, y6, y7, y8, y9, y10, y11, y12⟩ := id hY
  replace y0 : h.2 220 = YO G (X) := y0
  replace y7 : h.2 227 = mj_ar 0 48 (τ 6) := y7
  obtain ⟨s1, s2, s3, s4, s5, s6⟩ := id hS
  refine s_istore_n (n := 67) (i := 1) (ls' := [_, _, _]) dX5_readHouse_66 rfl rfl rfl rfl rfl ?_
  refine s_aload_n (n := 68) (i := 0) dX5_readHouse_67 rfl rfl rfl ?_
  refine gf_X5_28 (n := 71) rfl dX5_readHouse_68 rfl (by assumption) (by rfl) ?_
  refine s_iconst (n := 72) (v := 2) dX5_readHouse_71 rfl (by decide) ?_
  refine s_iald (n := 73) dX5_readHouse_72 rfl (by assumption) (mj_ixe (j := 2) rfl (by omega)) ?_
  rw [show τ 6 2 = nI n from hn]
  refine s_istore_n (n := 74) (i := 2) (ls' := [_, _, _]) dX5_readHouse_73 rfl rfl rfl rfl rfl ?_
  refine s_iload_n (n := 75) (i := 1) dX5_readHouse_74 rfl rfl rfl ?_
  refine s_if_eq (n := 78) (tgt := 84) dX5_readHouse_75 rfl rfl (fun b75 => ?_) (fun b75 => ?_)
  · have k0 := kdY_z.mp b75
    exact f_house0 hY hS b75 k0 hd
  · have k0 : ¬ kdF (tok (τ 5) l i) = -1 := fun z => b75 (kdY_z.mpr z)
    have ek : kdY (tok (τ 5) l i) = kdF (tok (τ 5) l i) := if_neg k0
    refine s_iload_n (n := 79) (i := 2) dX5_readHouse_78 rfl rfl rfl ?_
    refine s_bipush (n := 81) (v := 7) dX5_readHouse_79 rfl (by decide) ?_
    refine s_icmp_ne (n := 84) (tgt := 98) dX5_readHouse_81 rfl rfl (fun b81 => ?_) (fun b81 => ?_)
    · have n7 : n < 7 := by
        have : n ≠ 7 := fun z => b81 (congrArg nI z)
        omega
      rw [ek]
      refine s_aload_n (n := 99) (i := 0) dX5_readHouse_98 rfl rfl rfl ?_
      refine s_v0 (M' := MX5_nextToken) (n := 102) (ci := 5) dX5_readHouse_99 rfl wd_X5_111 okX5_nextToken rfl rfl (by omega) ⟨Nat.le_refl _, Nat.le_refl _⟩ (by assumption) (y_next (d := d - 1) hY s1 s3 hl (tkE_l hi) hb (by omega)) ?_
      rintro v99 hh99 ⟨rfl, X2, hY2, hS2, hK2, hF2⟩
      obtain ⟨y0, y1, y2, y3, y4, y5, y6, y7, y8, y9, y10, y11, y12⟩ := id hY2
      replace y0 : hh99.2 220 = YO G (X2) := y0
      replace y7 : hh99.2 227 = mj_ar 0 48 (τ 6) := y7
      refine s_aload_n (n := 103) (i := 0) dX5_readHouse_102 rfl rfl rfl ?_
      refine gf_X5_28 (n := 106) rfl dX5_readHouse_103 rfl (by assumption) (by rfl) ?_
      refine s_bipush (n := 108) (v := 6) dX5_readHouse_106 rfl (by decide) ?_
      refine s_iload_n (n := 109) (i := 2) dX5_readHouse_108 rfl rfl rfl ?_
      refine s_iadd (n := 110) dX5_readHouse_109 rfl ?_
      refine s_iload_n (n := 111) (i := 1) dX5_readHouse_110 rfl rfl rfl ?_
      refine s_iast (n := 112) dX5_readHouse_111 rfl (by assumption) (mj_ixa (o := 6) rfl (by omega)) ?_
      refine YA_6 (τ := u2 τ 12 X2) hY2 (fun h3 hY3 hF3 => ?_)
      rw [u2_comm (i := 12) (j := 6) (by omega)] at hY3
      obtain ⟨y0, y1, y2, y3, y4, y5, y6, y7, y8, y9, y10, y11, y12⟩ := id hY3
      replace y0 : h3.2 220 = YO G (X2) := y0
      replace y7 : h3.2 227 = mj_ar 0 48 (upd (τ 6) (6 + n) (kdF (tok (τ 5) l i))) := y7
      refine s_aload_n (n := 113) (i := 0) dX5_readHouse_112 rfl rfl rfl ?_
      refine gf_X5_28 (n := 116) rfl dX5_readHouse_113 rfl (by assumption) (by rfl) ?_
      refine s_iconst (n := 117) (v := 2) dX5_readHouse_116 rfl (by decide) ?_
      refine s_dup2 (n := 118) dX5_readHouse_117 rfl rfl rfl ?_
      refine s_iald (n := 119) dX5_readHouse_118 rfl (by assumption) (mj_ixe (j := 2) rfl (by omega)) ?_
      rw [up_ne (by omega), hn]
      refine s_iconst (n := 120) (v := 1) dX5_readHouse_119 rfl (by decide) ?_
      refine s_iadd (n := 121) dX5_readHouse_120 rfl ?_
      rw [nI_1]
      refine s_iast (n := 122) dX5_readHouse_121 rfl (by assumption) (mj_ixe (j := 2) rfl (by omega)) ?_
      refine YA_6 (τ := u2 (u2 τ 6 (upd (τ 6) (6 + n) (kdF (tok (τ 5) l i)))) 12 X2) hY3 (fun h4 hY4 hF4 => ?_)
      rw [u2_comm (i := 12) (j := 6) (by omega), u2_u2] at hY4
      obtain ⟨y0, y1, y2, y3, y4, y5, y6, y7, y8, y9, y10, y11, y12⟩ := id hY4
      replace y0 : h4.2 220 = YO G (X2) := y0
      replace y7 : h4.2 227 = mj_ar 0 48 (upd (upd (τ 6) (6 + n) (kdF (tok (τ 5) l i))) 2 (nI (n + 1))) := y7
      refine s_aload_n (n := 123) (i := 0) dX5_readHouse_122 rfl rfl rfl ?_
      refine s_iconst (n := 124) (v := 0) dX5_readHouse_123 rfl (by decide) ?_
      refine s_bipush (n := 126) (v := 20) dX5_readHouse_124 rfl (by decide) ?_
      refine s_bipush (n := 128) (v := 13) dX5_readHouse_126 rfl (by decide) ?_
      refine s_iload_n (n := 129) (i := 2) dX5_readHouse_128 rfl rfl rfl ?_
      refine s_iadd (n := 130) dX5_readHouse_129 rfl ?_
      rw [nI_13]
      refine s_bipush (n := 132) (v := 44) dX5_readHouse_130 rfl (by decide) ?_
      refine s_v4 (M' := MX5_takesNumber) (n := 135) (ci := 5) dX5_readHouse_132 rfl wd_X5_117 okX5_takesNumber rfl rfl (by omega) ⟨Nat.le_refl _, Nat.le_refl _⟩ (by assumption) (y_takesNumber (d := d - 1) (τ := u2 τ 6 (upd (upd (τ 6) (6 + n) (kdF (tok (τ 5) l i))) 2 (nI (n + 1)))) hY4 hS2 hl (tkE_l hi) hb (a := 0) (b := 20) (o := 13 + n) (by decide) (by decide) (by omega) l44 (by omega)) ?_
      rintro v132 hh132 ⟨rfl, X5, V5, hY5, hF5, hK5, ok5, no5⟩
      rw [u2_u2] at hY5
      obtain ⟨y0, y1, y2, y3, y4, y5, y6, y7, y8, y9, y10, y11, y12⟩ := id hY5
      replace y0 : hh132.2 220 = YO G (X5) := y0
      refine s_if_eq (n := 138) (tgt := 174) dX5_readHouse_135 rfl rfl (fun b135 => ?_) (fun b135 => ?_)
      · have q5 : ¬ (nb (τ 5) l 0 20 44 (tkE (τ 5) l i)).1 = 0 := if0 b135
        have e : hsP (τ 5) l i n = nb (τ 5) l 0 20 44 (tkE (τ 5) l i) := by
          rw [hsP_h k0 n7, houP_nb, sq_n q5]
        have hres : pR G h τ l X (bldQ (τ 5) l i n (τ 6)) (hsP (τ 5) l i n) (some (.int 0)) hh132 := by
          rw [e]
          exact ⟨by rw [if_neg q5], X5, V5, hY5, fr_tr hF2 (fr_tr hF3 (fr_tr hF4 hF5)), fun k hk => (hK5 k hk).trans (hK2 k (by omega)), fun z => absurd z q5, no5⟩
        refine s_iconst (n := 175) (v := 0) dX5_readHouse_174 rfl (by decide) ?_
        refine s_ireturn dX5_readHouse_175 rfl (rfl) (Nat.le_refl _) (Nat.le_refl _) ?_
        exact hres
      · have q5 : (nb (τ 5) l 0 20 44 (tkE (τ 5) l i)).1 = 0 := if1 b135
        obtain ⟨hS5, hw5⟩ := ok5 q5
        subst hw5
        have e5 := nb_2 q5
        have l5 : (nb (τ 5) l 0 20 44 (tkE (τ 5) l i)).2 ≤ l := by
          rw [e5]
          exact tkE_l (tkE_l (tkE_l hi))
        refine s_aload_n (n := 139) (i := 0) dX5_readHouse_138 rfl rfl rfl ?_
        refine s_iconst (n := 140) (v := 1) dX5_readHouse_139 rfl (by decide) ?_
        refine s_bipush (n := 142) (v := 9) dX5_readHouse_140 rfl (by decide) ?_
        refine s_bipush (n := 144) (v := 20) dX5_readHouse_142 rfl (by decide) ?_
        refine s_iload_n (n := 145) (i := 2) dX5_readHouse_144 rfl rfl rfl ?_
        refine s_iadd (n := 146) dX5_readHouse_145 rfl ?_
        rw [nI_20]
        refine s_bipush (n := 148) (v := 44) dX5_readHouse_146 rfl (by decide) ?_
        refine s_v4 (M' := MX5_takesNumber) (n := 151) (ci := 5) dX5_readHouse_148 rfl wd_X5_117 okX5_takesNumber rfl rfl (by omega) ⟨Nat.le_refl _, Nat.le_refl _⟩ (by assumption) (y_takesNumber (d := d - 1) (τ := u2 τ 6 (upd (upd (upd (τ 6) (6 + n) (kdF (tok (τ 5) l i))) 2 (nI (n + 1))) (13 + n) (tkV (τ 5) l (tkE (τ 5) l i)))) hY5 hS5 hl l5 hb (a := 1) (b := 9) (o := 20 + n) (by decide) (by decide) (by omega) l44 (by omega)) ?_
        rintro v148 hh148 ⟨rfl, X6, V6, hY6, hF6, hK6, ok6, no6⟩
        rw [u2_u2] at hY6
        obtain ⟨y0, y1, y2, y3, y4, y5, y6, y7, y8, y9, y10, y11, y12⟩ := id hY6
        replace y0 : hh148.2 220 = YO G (X6) := y0
        refine s_if_eq (n := 154) (tgt := 174) dX5_readHouse_151 rfl rfl (fun b151 => ?_) (fun b151 => ?_)
        · have q6 : ¬ (nb (τ 5) l 1 9 44 (nb (τ 5) l 0 20 44 (tkE (τ 5) l i)).2).1 = 0 := if0 b151
          have e : hsP (τ 5) l i n = nb (τ 5) l 1 9 44 (nb (τ 5) l 0 20 44 (tkE (τ 5) l i)).2 := by
            rw [hsP_h k0 n7, houP_nb, sq_0 q5, sq_n q6]
          have hres : pR G h τ l X (bldQ (τ 5) l i n (τ 6)) (hsP (τ 5) l i n) (some (.int 0)) hh148 := by
            rw [e]
            exact ⟨by rw [if_neg q6], X6, V6, hY6, fr_tr hF2 (fr_tr hF3 (fr_tr hF4 (fr_tr hF5 hF6))), fun k hk => (hK6 k hk).trans ((hK5 k hk).trans (hK2 k (by omega))), fun z => absurd z q6, no6⟩
          refine s_iconst (n := 175) (v := 0) dX5_readHouse_174 rfl (by decide) ?_
          refine s_ireturn dX5_readHouse_175 rfl (rfl) (Nat.le_refl _) (Nat.le_refl _) ?_
          exact hres
        · have q6 : (nb (τ 5) l 1 9 44 (nb (τ 5) l 0 20 44 (tkE (τ 5) l i)).2).1 = 0 := if1 b151
          obtain ⟨hS6, hw6⟩ := ok6 q6
          subst hw6
          have e6 := nb_2 q6
          have l6 : (nb (τ 5) l 1 9 44 (nb (τ 5) l 0 20 44 (tkE (τ 5) l i)).2).2 ≤ l := by
            rw [e6]
            exact tkE_l (tkE_l l5)
          refine s_aload_n (n := 155) (i := 0) dX5_readHouse_154 rfl rfl rfl ?_
          refine s_iconst (n := 156) (v := 0) dX5_readHouse_155 rfl (by decide) ?_
          refine s_bipush (n := 158) (v := 9) dX5_readHouse_156 rfl (by decide) ?_
          refine s_bipush (n := 160) (v := 27) dX5_readHouse_158 rfl (by decide) ?_
          refine s_iload_n (n := 161) (i := 2) dX5_readHouse_160 rfl rfl rfl ?_
          refine s_iadd (n := 162) dX5_readHouse_161 rfl ?_
          rw [nI_27]
          refine s_bipush (n := 164) (v := 59) dX5_readHouse_162 rfl (by decide) ?_
          refine s_v4 (M' := MX5_takesNumber) (n := 167) (ci := 5) dX5_readHouse_164 rfl wd_X5_117 okX5_takesNumber rfl rfl (by omega) ⟨Nat.le_refl _, Nat.le_refl _⟩ (by assumption) (y_takesNumber (d := d - 1) (τ := u2 τ 6 (upd (upd (upd (upd (τ 6) (6 + n) (kdF (tok (τ 5) l i))) 2 (nI (n + 1))) (13 + n) (tkV (τ 5) l (tkE (τ 5) l i))) (20 + n) (tkV (τ 5) l (nb (τ 5) l 0 20 44 (tkE (τ 5) l i)).2))) hY6 hS6 hl l6 hb (a := 0) (b := 9) (o := 27 + n) (by decide) (by decide) (by omega) l59 (by omega)) ?_
          rintro v164 hh164 ⟨rfl, X7, V7, hY7, hF7, hK7, ok7, no7⟩
          rw [u2_u2] at hY7
          obtain ⟨y0, y1, y2, y3, y4, y5, y6, y7, y8, y9, y10, y11, y12⟩ := id hY7
          replace y0 : hh164.2 220 = YO G (X7) := y0
          refine s_if_eq (n := 170) (tgt := 174) dX5_readHouse_167 rfl rfl (fun b167 => ?_) (fun b167 => ?_)
          · have q7 : ¬ (nb (τ 5) l 0 9 59 (nb (τ 5) l 1 9 44 (nb (τ 5) l 0 20 44 (tkE (τ 5) l i)).2).2).1 = 0 := if0 b167
            have e : hsP (τ 5) l i n = nb (τ 5) l 0 9 59 (nb (τ 5) l 1 9 44 (nb (τ 5) l 0 20 44 (tkE (τ 5) l i)).2).2 := by
              rw [hsP_h k0 n7, houP_nb, sq_0 q5, sq_0 q6]
            have hres : pR G h τ l X (bldQ (τ 5) l i n (τ 6)) (hsP (τ 5) l i n) (some (.int 0)) hh164 := by
              rw [e]
              exact ⟨by rw [if_neg q7], X7, V7, hY7, fr_tr hF2 (fr_tr hF3 (fr_tr hF4 (fr_tr hF5 (fr_tr hF6 hF7)))), fun k hk => (hK7 k hk).trans ((hK6 k hk).trans ((hK5 k hk).trans (hK2 k (by omega)))), fun z => absurd z q7, no7⟩
            refine s_iconst (n := 175) (v := 0) dX5_readHouse_174 rfl (by decide) ?_
            refine s_ireturn dX5_readHouse_175 rfl (rfl) (Nat.le_refl _) (Nat.le_refl _) ?_
            exact hres
          · have q7 : (nb (τ 5) l 0 9 59 (nb (τ 5) l 1 9 44 (nb (τ 5) l 0 20 44 (tkE (τ 5) l i)).2).2).1 = 0 := if1 b167
            obtain ⟨hS7, hw7⟩ := ok7 q7
            subst hw7
            have e : hsP (τ 5) l i n = nb (τ 5) l 0 9 59 (nb (τ 5) l 1 9 44 (nb (τ 5) l 0 20 44 (tkE (τ 5) l i)).2).2 := by
              rw [hsP_h k0 n7, houP_nb, sq_0 q5, sq_0 q6]
            have hres : pR G h τ l X (bldQ (τ 5) l i n (τ 6)) (hsP (τ 5) l i n) (some (.int 1)) hh164 := by
              rw [e]
              refine ⟨by rw [if_pos q7], X7, _, hY7, fr_tr hF2 (fr_tr hF3 (fr_tr hF4 (fr_tr hF5 (fr_tr hF6 hF7)))), fun k hk => (hK7 k hk).trans ((hK6 k hk).trans ((hK5 k hk).trans (hK2 k (by omega)))), fun z => ⟨hS7, ?_⟩, no7⟩
              unfold bldQ bldY
              rw [show tkN (τ 5) l 5 i = (nb (τ 5) l 1 9 44 (nb (τ 5) l 0 20 44 (tkE (τ 5) l i)).2).2 from by rw [e6, e5]; rfl, show tkN (τ 5) l 3 i = (nb (τ 5) l 0 20 44 (tkE (τ 5) l i)).2 from by rw [e5]; rfl]
              rfl
            refine s_iconst (n := 171) (v := 1) dX5_readHouse_170 rfl (by decide) ?_
            refine s_goto (tgt := 175) dX5_readHouse_171 rfl ?_
            refine s_ireturn dX5_readHouse_175 rfl (rfl) (Nat.le_refl _) (Nat.le_refl _) ?_
            exact hres
    · have n7 : ¬ n < 7 := by
        have := nI_inj (b := 7) (by omega) (by omega) b81
        omega
      exact f_house3 hY hS b75 k0 n7 hd
set_option maxRecDepth 100000 in
set_option maxHeartbeats 4000000 in
theorem y_readHouse {G : mj_G} {h : mj_H} {d : Nat} {τ : Nat → Nat → Int32} {X : Nat → Int32} (hY : YS G h (u2 τ 12 X)) {l i : Nat} (hS : tS (τ 5) l X i) (hl : l ≤ 120) (hi : i ≤ l) (hb : bts (τ 5) l) {n : Nat} (hn : τ 6 2 = nI n) (h7 : n ≤ 7) (hd : 4 ≤ d) : mj_con G MX5_readHouse d 0 0 [.ref (G.1 + 220)] h (pR G h τ l X (bldQ (τ 5) l i n (τ 6)) (hsP (τ 5) l i n)) := by
  refine mj_conV okX5_readHouse (ls := [some (.ref (G.1 + 220)), none, none]) rfl rfl ?_
  obtain ⟨y0, y1, y2, y3, y4, y5, y6, y7, y8, y9, y10, y11, y12⟩ := id hY
  replace y0 : h.2 220 = YO G (X) := y0
  replace y7 : h.2 227 = mj_ar 0 48 (τ 6) := y7
  obtain ⟨s1, s2, s3, s4, s5, s6⟩ := id hS
  refine s_aload_n (n := 1) (i := 0) dX5_readHouse_0 rfl rfl rfl ?_
  refine s_bipush (n := 3) (v := 107) dX5_readHouse_1 rfl (by decide) ?_
  refine s_v1 (M' := MX5_isLetter) (n := 6) (ci := 5) dX5_readHouse_3 rfl wd_X5_105 okX5_isLetter rfl rfl (by omega) ⟨Nat.le_refl _, Nat.le_refl _⟩ (by assumption) (y_isLetter (d := d - 1) hY hS (by decide)) ?_
  rintro v3 hh3 ⟨rfl, rfl⟩
  refine s_if_eq (n := 9) (tgt := 13) dX5_readHouse_6 rfl rfl (fun b6 => ?_) (fun b6 => ?_)
  · have q107 : ¬ tok (τ 5) l i = 107 := if0 b6
    refine s_aload_n (n := 14) (i := 0) dX5_readHouse_13 rfl rfl rfl ?_
    refine s_bipush (n := 16) (v := 104) dX5_readHouse_14 rfl (by decide) ?_
    refine s_v1 (M' := MX5_isLetter) (n := 19) (ci := 5) dX5_readHouse_16 rfl wd_X5_105 okX5_isLetter rfl rfl (by omega) ⟨Nat.le_refl _, Nat.le_refl _⟩ (by assumption) (y_isLetter (d := d - 1) hY hS (by decide)) ?_
    rintro v16 hh16 ⟨rfl, rfl⟩
    refine s_if_eq (n := 22) (tgt := 26) dX5_readHouse_19 rfl rfl (fun b19 => ?_) (fun b19 => ?_)
    · have q104 : ¬ tok (τ 5) l i = 104 := if0 b19
      refine s_aload_n (n := 27) (i := 0) dX5_readHouse_26 rfl rfl rfl ?_
      refine s_bipush (n := 29) (v := 109) dX5_readHouse_27 rfl (by decide) ?_
      refine s_v1 (M' := MX5_isLetter) (n := 32) (ci := 5) dX5_readHouse_29 rfl wd_X5_105 okX5_isLetter rfl rfl (by omega) ⟨Nat.le_refl _, Nat.le_refl _⟩ (by assumption) (y_isLetter (d := d - 1) hY hS (by decide)) ?_
      rintro v29 hh29 ⟨rfl, rfl⟩
      refine s_if_eq (n := 35) (tgt := 39) dX5_readHouse_32 rfl rfl (fun b32 => ?_) (fun b32 => ?_)
      · have q109 : ¬ tok (τ 5) l i = 109 := if0 b32
        refine s_aload_n (n := 40) (i := 0) dX5_readHouse_39 rfl rfl rfl ?_
        refine s_bipush (n := 42) (v := 115) dX5_readHouse_40 rfl (by decide) ?_
        refine s_v1 (M' := MX5_isLetter) (n := 45) (ci := 5) dX5_readHouse_42 rfl wd_X5_105 okX5_isLetter rfl rfl (by omega) ⟨Nat.le_refl _, Nat.le_refl _⟩ (by assumption) (y_isLetter (d := d - 1) hY hS (by decide)) ?_
        rintro v42 hh42 ⟨rfl, rfl⟩
        refine s_if_eq (n := 48) (tgt := 52) dX5_readHouse_45 rfl rfl (fun b45 => ?_) (fun b45 => ?_)
        · have q115 : ¬ tok (τ 5) l i = 115 := if0 b45
          refine s_aload_n (n := 53) (i := 0) dX5_readHouse_52 rfl rfl rfl ?_
          refine s_bipush (n := 55) (v := 110) dX5_readHouse_53 rfl (by decide) ?_
          refine s_v1 (M' := MX5_isLetter) (n := 58) (ci := 5) dX5_readHouse_55 rfl wd_X5_105 okX5_isLetter rfl rfl (by omega) ⟨Nat.le_refl _, Nat.le_refl _⟩ (by assumption) (y_isLetter (d := d - 1) hY hS (by decide)) ?_
          rintro v55 hh55 ⟨rfl, rfl⟩
          refine s_if_eq (n := 61) (tgt := 65) dX5_readHouse_58 rfl rfl (fun b58 => ?_) (fun b58 => ?_)
          · have q110 : ¬ tok (τ 5) l i = 110 := if0 b58
            have e : kdY (tok (τ 5) l i) = 0 := kdY_z.mpr (kdY_n q107 q104 q109 q115 q110)
            refine s_iconst (n := 66) (v := 0) dX5_readHouse_65 rfl (by decide) ?_
            rw [← e]
            exact r_house hY hS hl hi hb hn h7 hd
          · have q : tok (τ 5) l i = 110 := if1 b58
            have e : kdY (tok (τ 5) l i) = 5 := by rw [q]; decide
            refine s_iconst (n := 62) (v := 5) dX5_readHouse_61 rfl (by decide) ?_
            refine s_goto (tgt := 66) dX5_readHouse_62 rfl ?_
            rw [← e]
            exact r_house hY hS hl hi hb hn h7 hd
        · have q : tok (τ 5) l i = 115 := if1 b45
          have e : kdY (tok (τ 5) l i) = 4 := by rw [q]; decide
          refine s_iconst (n := 49) (v := 4) dX5_readHouse_48 rfl (by decide) ?_
          refine s_goto (tgt := 66) dX5_readHouse_49 rfl ?_
          rw [← e]
          exact r_house hY hS hl hi hb hn h7 hd
      · have q : tok (τ 5) l i = 109 := if1 b32
        have e : kdY (tok (τ 5) l i) = 3 := by rw [q]; decide
        refine s_iconst (n := 36) (v := 3) dX5_readHouse_35 rfl (by decide) ?_
        refine s_goto (tgt := 66) dX5_readHouse_36 rfl ?_
        rw [← e]
        exact r_house hY hS hl hi hb hn h7 hd
    · have q : tok (τ 5) l i = 104 := if1 b19
      have e : kdY (tok (τ 5) l i) = 2 := by rw [q]; decide
      refine s_iconst (n := 23) (v := 2) dX5_readHouse_22 rfl (by decide) ?_
      refine s_goto (tgt := 66) dX5_readHouse_23 rfl ?_
      rw [← e]
      exact r_house hY hS hl hi hb hn h7 hd
  · have q : tok (τ 5) l i = 107 := if1 b6
    have e : kdY (tok (τ 5) l i) = 1 := by rw [q]; decide
    refine s_iconst (n := 10) (v := 1) dX5_readHouse_9 rfl (by decide) ?_
    refine s_goto (tgt := 66) dX5_readHouse_10 rfl ?_
    rw [← e]
    exact r_house hY hS hl hi hb hn h7 hd
