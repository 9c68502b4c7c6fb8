def caF (n k : Nat) (T : Nat → Int32) : Nat → Nat → Int32 → Int32 → Int32 × Int32
  | 0, _, wh, le => (wh, le)
  | r + 1, i, wh, le => if mns n k (upd (upd T (27 + i) 9) (41 + i) 0) 5 < le then caF n k T r (i + 1) (nI i) (mns n k (upd (upd T (27 + i) 9) (41 + i) 0) 5) else caF n k T r (i + 1) wh le
set_option maxRecDepth 100000 in
set_option maxHeartbeats 4000000 in
theorem k_catches_st {G : mj_G} {h : mj_H} {d : Nat} {σ : Nat → Nat → Int32} (hX : XS G h σ) {x y : Int32} (hb : ¬ 0 < σ 0 2) (hd : 2 ≤ d) : mj_con G MX4_catches d 0 0 [.ref (G.1 + 0), .int x, .int y] h (rI (-1000002) h) := by
  refine mj_conV okX4_catches (ls := [some (.ref (G.1 + 0)), some (.int x), some (.int y), none, none, none]) rfl rfl ?_
  obtain ⟨x0, x1, xt, xn, xf, xa, x188, x189, xr, xi⟩ := id hX
  obtain ⟨n0, n1, n2, n3, n4, n5, n6⟩ := id xn
  have a18 := xa.1
  have t2 := xt.1
  have t3 := xt.2
  refine s_aload_n (n := 1) (i := 0) dX4_catches_0 rfl rfl rfl ?_
  refine gf_X4_25 (n := 4) rfl dX4_catches_1 rfl (by assumption) (by rfl) ?_
  refine s_v0 (M' := MX2_stands) (n := 7) (ci := 2) dX4_catches_4 rfl wd_X4_137 okX2_stands rfl rfl (by omega) ⟨Nat.le_refl _, Nat.le_refl _⟩ (by assumption) (c_stands (d := d - 1) xn) ?_
  rintro v4 hh4 ⟨rfl, rfl⟩
  refine s_if_ne (n := 10) (tgt := 13) dX4_catches_7 rfl rfl (fun b7 => ?_) (fun b7 => ?_)
  · exact absurd (if1 b7) (hb)
  · refine s_ldc (n := 12) dX4_catches_10 rfl wd_X4_136 ?_
    refine s_ireturn dX4_catches_12 rfl (rfl) (Nat.le_refl _) (Nat.le_refl _) ?_
    exact ⟨rfl, rfl⟩
set_option maxRecDepth 100000 in
set_option maxHeartbeats 4000000 in
theorem k_catches_bad {G : mj_G} {h : mj_H} {d : Nat} {σ : Nat → Nat → Int32} (hX : XS G h σ) {x y : Int32} (h0 : 0 < σ 0 2) (hb : ¬ (Wi x 1 40 ∧ Wi y 0 1)) (hd : 2 ≤ d) : mj_con G MX4_catches d 0 0 [.ref (G.1 + 0), .int x, .int y] h (rI (-1000001) h) := by
  refine mj_conV okX4_catches (ls := [some (.ref (G.1 + 0)), some (.int x), some (.int y), none, none, none]) rfl rfl ?_
  obtain ⟨x0, x1, xt, xn, xf, xa, x188, x189, xr, xi⟩ := id hX
  obtain ⟨n0, n1, n2, n3, n4, n5, n6⟩ := id xn
  have a18 := xa.1
  have t2 := xt.1
  have t3 := xt.2
  refine s_aload_n (n := 1) (i := 0) dX4_catches_0 rfl rfl rfl ?_
  refine gf_X4_25 (n := 4) rfl dX4_catches_1 rfl (by assumption) (by rfl) ?_
  refine s_v0 (M' := MX2_stands) (n := 7) (ci := 2) dX4_catches_4 rfl wd_X4_137 okX2_stands rfl rfl (by omega) ⟨Nat.le_refl _, Nat.le_refl _⟩ (by assumption) (c_stands (d := d - 1) xn) ?_
  rintro v4 hh4 ⟨rfl, rfl⟩
  refine s_if_ne (n := 10) (tgt := 13) dX4_catches_7 rfl rfl (fun b7 => ?_) (fun b7 => ?_)
  · refine s_iload_n (n := 14) (i := 1) dX4_catches_13 rfl rfl rfl ?_
    refine s_iconst (n := 15) (v := 1) dX4_catches_14 rfl (by decide) ?_
    refine s_bipush (n := 17) (v := 40) dX4_catches_15 rfl (by decide) ?_
    refine s_s3 (M' := MX4_isWithin) (n := 20) dX4_catches_17 rfl wd_X4_52 okX4_isWithin rfl (by omega) ⟨Nat.le_refl _, Nat.le_refl _⟩ (c_within (d := d - 1) (A := 1) (B := 40) (by decide) (by decide)) ?_
    rintro v17 hh17 ⟨rfl, rfl⟩
    refine s_if_eq (n := 23) (tgt := 32) dX4_catches_20 rfl rfl (fun b20 => ?_) (fun b20 => ?_)
    · refine s_ldc (n := 34) dX4_catches_32 rfl wd_X4_56 ?_
      refine s_ireturn dX4_catches_34 rfl (rfl) (Nat.le_refl _) (Nat.le_refl _) ?_
      exact ⟨rfl, rfl⟩
    · refine s_iload_n (n := 24) (i := 2) dX4_catches_23 rfl rfl rfl ?_
      refine s_iconst (n := 25) (v := 0) dX4_catches_24 rfl (by decide) ?_
      refine s_iconst (n := 26) (v := 1) dX4_catches_25 rfl (by decide) ?_
      refine s_s3 (M' := MX4_isWithin) (n := 29) dX4_catches_26 rfl wd_X4_52 okX4_isWithin rfl (by omega) ⟨Nat.le_refl _, Nat.le_refl _⟩ (c_within (d := d - 1) (A := 0) (B := 1) (by decide) (by decide)) ?_
      rintro v26 hh26 ⟨rfl, rfl⟩
      refine s_if_ne (n := 32) (tgt := 35) dX4_catches_29 rfl rfl (fun b29 => ?_) (fun b29 => ?_)
      · exact absurd (⟨if1 b20, if1 b29⟩) hb
      · refine s_ldc (n := 34) dX4_catches_32 rfl wd_X4_56 ?_
        refine s_ireturn dX4_catches_34 rfl (rfl) (Nat.le_refl _) (Nat.le_refl _) ?_
        exact ⟨rfl, rfl⟩
  · exact absurd (h0) (if0 b7)
set_option maxRecDepth 100000 in
set_option maxHeartbeats 4000000 in
theorem l_catches {G : mj_G} {h0 : mj_H} {d n k : Nat} {σ : Nat → Nat → Int32} {w : Int32} (hn : σ 0 2 = nI n) (h7 : n ≤ 7) (hk : k ≤ 40) (hok : okK n (σ 0)) (hd : 6 ≤ d) : ∀ (r i : Nat), i + r = n → ∀ (h : mj_H) (F : Nat → Int32) (wh le : Int32), XS G h (u2 σ 1 F) → mj_fr 0 220 h0 h → mj_wp G MX4_catches d 0 0 45 [some (.ref (G.1 + 0)), some (.int (nI k)), some (.int w), some (.int wh), some (.int le), some (.int (nI i))] [] h 0 0 (rF G σ (if w = 0 then (caF n k (σ 0) r i wh le).1 else (caF n k (σ 0) r i wh le).2) h0) := by
  intro r
  induction r with
  | zero =>
    intro i hi h F wh le hX hFx
    obtain ⟨x0, x1, xt, xn, xf, xa, x188, x189, xr, xi⟩ := id hX
    replace x0 : _ = XO G (σ 42) := x0
    replace xn : mj_St G _ 4 (σ 0) := xn
    replace xf : mj_St G _ 11 (F) := xf
    obtain ⟨n0, n1, n2, n3, n4, n5, n6⟩ := id xn
    obtain ⟨f0, f1, f2, f3, f4, f5, f6⟩ := id xf
    refine s_iload (n := 47) dX4_catches_45 rfl rfl ?_
    refine s_aload_n (n := 48) (i := 0) dX4_catches_47 rfl rfl rfl ?_
    refine gf_X4_25 (n := 51) rfl dX4_catches_48 rfl (by assumption) (by rfl) ?_
    refine gf_X4_127 (n := 54) rfl dX4_catches_51 rfl (by assumption) (by rfl) ?_
    refine s_icmp_ge (n := 57) (tgt := 117) dX4_catches_54 rfl rfl (fun b54 => ?_) (fun b54 => ?_)
    · refine s_iload_n (n := 118) (i := 2) dX4_catches_117 rfl rfl rfl ?_
      refine s_if_ne (n := 121) (tgt := 125) dX4_catches_118 rfl rfl (fun b118 => ?_) (fun b118 => ?_)
      · refine s_iload (n := 127) dX4_catches_125 rfl rfl ?_
        refine s_ireturn dX4_catches_127 rfl (rfl) (Nat.le_refl _) (Nat.le_refl _) ?_
        refine ⟨?_, _, hX, hFx⟩
        first | rw [if_neg b118] | rw [if_pos b118]
        rfl
      · refine s_iload_n (n := 122) (i := 3) dX4_catches_121 rfl rfl rfl ?_
        refine s_goto (tgt := 127) dX4_catches_122 rfl ?_
        refine s_ireturn dX4_catches_127 rfl (rfl) (Nat.le_refl _) (Nat.le_refl _) ?_
        refine ⟨?_, _, hX, hFx⟩
        first | rw [if_neg b118] | rw [if_pos b118]
        rfl
    · rw [hn] at b54
      exact absurd ((nI_leE (by omega) (by omega)).mpr (by omega)) b54
  | succ r ih =>
    intro i hi h F wh le hX hFx
    obtain ⟨x0, x1, xt, xn, xf, xa, x188, x189, xr, xi⟩ := id hX
    replace x0 : _ = XO G (σ 42) := x0
    replace xn : mj_St G _ 4 (σ 0) := xn
    replace xf : mj_St G _ 11 (F) := xf
    obtain ⟨n0, n1, n2, n3, n4, n5, n6⟩ := id xn
    obtain ⟨f0, f1, f2, f3, f4, f5, f6⟩ := id xf
    refine s_iload (n := 47) dX4_catches_45 rfl rfl ?_
    refine s_aload_n (n := 48) (i := 0) dX4_catches_47 rfl rfl rfl ?_
    refine gf_X4_25 (n := 51) rfl dX4_catches_48 rfl (by assumption) (by rfl) ?_
    refine gf_X4_127 (n := 54) rfl dX4_catches_51 rfl (by assumption) (by rfl) ?_
    refine s_icmp_ge (n := 57) (tgt := 117) dX4_catches_54 rfl rfl (fun b54 => ?_) (fun b54 => ?_)
    · rw [hn] at b54
      exact absurd ((nI_leE (by omega) (by omega)).mp b54) (by omega)
    · refine s_aload_n (n := 58) (i := 0) dX4_catches_57 rfl rfl rfl ?_
      refine gf_X4_29 (n := 61) rfl dX4_catches_58 rfl (by assumption) (by rfl) ?_
      refine s_aload_n (n := 62) (i := 0) dX4_catches_61 rfl rfl rfl ?_
      refine gf_X4_25 (n := 65) rfl dX4_catches_62 rfl (by assumption) (by rfl) ?_
      refine s_v1 (M' := MX2_takeFrom) (n := 68) (ci := 2) dX4_catches_65 rfl wd_X4_120 okX2_takeFrom rfl rfl (by omega) ⟨Nat.le_refl _, Nat.le_refl _⟩ (by assumption) (c_takeFrom (d := d - 1) xf xn (by omega) (by omega)) ?_
      rintro v65 hh65 ⟨rfl, hS1, hF1⟩
      replace hX := XS_for2 hX hS1 hF1
      replace hFx := fr_tr hFx (fr_wid (p' := 0) (w' := 220) hF1 (by omega) (by omega))
      obtain ⟨x0, x1, xt, xn, xf, xa, x188, x189, xr, xi⟩ := id hX
      replace x0 : _ = XO G (σ 42) := x0
      replace xn : mj_St G _ 4 (σ 0) := xn
      replace xf : mj_St G _ 11 (σ 0) := xf
      obtain ⟨n0, n1, n2, n3, n4, n5, n6⟩ := id xn
      obtain ⟨f0, f1, f2, f3, f4, f5, f6⟩ := id xf
      refine s_aload_n (n := 69) (i := 0) dX4_catches_68 rfl rfl rfl ?_
      refine gf_X4_29 (n := 72) rfl dX4_catches_69 rfl (by assumption) (by rfl) ?_
      refine s_iload (n := 74) dX4_catches_72 rfl rfl ?_
      refine s_bipush (n := 76) (v := 9) dX4_catches_74 rfl (by decide) ?_
      refine s_v2 (M' := MX2_putBars) (n := 79) (ci := 2) dX4_catches_76 rfl wd_X4_167 okX2_putBars rfl rfl (by omega) ⟨Nat.le_refl _, Nat.le_refl _⟩ (by assumption) (c_putBars (d := d - 1) xf (by omega)) ?_
      rintro v76 hh76 ⟨rfl, hS2, hF2⟩
      replace hX := XS_for2 hX hS2 hF2
      replace hFx := fr_tr hFx (fr_wid (p' := 0) (w' := 220) hF2 (by omega) (by omega))
      obtain ⟨x0, x1, xt, xn, xf, xa, x188, x189, xr, xi⟩ := id hX
      replace x0 : _ = XO G (σ 42) := x0
      replace xn : mj_St G _ 4 (σ 0) := xn
      replace xf : mj_St G _ 11 (upd (upd (σ 0) (27 + i) 9) (41 + i) 0) := xf
      obtain ⟨n0, n1, n2, n3, n4, n5, n6⟩ := id xn
      obtain ⟨f0, f1, f2, f3, f4, f5, f6⟩ := id xf
      refine s_aload_n (n := 80) (i := 0) dX4_catches_79 rfl rfl rfl ?_
      refine gf_X4_29 (n := 83) rfl dX4_catches_80 rfl (by assumption) (by rfl) ?_
      refine s_iload_n (n := 84) (i := 1) dX4_catches_83 rfl rfl rfl ?_
      refine s_v1 (M' := MX2_passMinutes) (n := 87) (ci := 2) dX4_catches_84 rfl wd_X4_196 okX2_passMinutes rfl rfl (by omega) ⟨Nat.le_refl _, Nat.le_refl _⟩ (by assumption) (c_passMinutes (d := d - 1) xf (okK_up (okK_up hok (by omega) (by omega)) (by omega) (by omega)) (by omega) (by omega)) ?_
      rintro v84 hh84 ⟨rfl, hS2, hF2⟩
      replace hX := XS_for2 hX hS2 hF2
      replace hFx := fr_tr hFx (fr_wid (p' := 0) (w' := 220) hF2 (by omega) (by omega))
      obtain ⟨x0, x1, xt, xn, xf, xa, x188, x189, xr, xi⟩ := id hX
      replace x0 : _ = XO G (σ 42) := x0
      replace xn : mj_St G _ 4 (σ 0) := xn
      replace xf : mj_St G _ 11 (mns n k (upd (upd (σ 0) (27 + i) 9) (41 + i) 0)) := xf
      obtain ⟨n0, n1, n2, n3, n4, n5, n6⟩ := id xn
      obtain ⟨f0, f1, f2, f3, f4, f5, f6⟩ := id xf
      refine s_aload_n (n := 88) (i := 0) dX4_catches_87 rfl rfl rfl ?_
      refine gf_X4_29 (n := 91) rfl dX4_catches_88 rfl (by assumption) (by rfl) ?_
      refine gf_X4_149 (n := 94) rfl dX4_catches_91 rfl (by assumption) (by rfl) ?_
      refine s_iload (n := 96) dX4_catches_94 rfl rfl ?_
      refine s_icmp_ge (n := 99) (tgt := 111) dX4_catches_96 rfl rfl (fun b96 => ?_) (fun b96 => ?_)
      · have e : caF n k (σ 0) (r + 1) i wh le = caF n k (σ 0) r (i + 1) wh le := by
          show (if mns n k (upd (upd (σ 0) (27 + i) 9) (41 + i) 0) 5 < le then _ else _) = _
          rw [if_neg (Int32.not_lt.mpr b96)]
        refine s_iinc (n := 114) (v := _ + 1) (ls' := [_, _, _, _, _, _]) dX4_catches_111 rfl rfl rfl rfl rfl ?_
        refine s_goto (tgt := 45) dX4_catches_114 rfl ?_
        rw [nI_1, e]
        exact ih (i + 1) (by omega) _ _ _ _ hX hFx
      · have e : caF n k (σ 0) (r + 1) i wh le = caF n k (σ 0) r (i + 1) (nI i) (mns n k (upd (upd (σ 0) (27 + i) 9) (41 + i) 0) 5) := by
          show (if mns n k (upd (upd (σ 0) (27 + i) 9) (41 + i) 0) 5 < le then _ else _) = _
          rw [if_pos (Int32.not_le.mp b96)]
        refine s_aload_n (n := 100) (i := 0) dX4_catches_99 rfl rfl rfl ?_
        refine gf_X4_29 (n := 103) rfl dX4_catches_100 rfl (by assumption) (by rfl) ?_
        refine gf_X4_149 (n := 106) rfl dX4_catches_103 rfl (by assumption) (by rfl) ?_
        refine s_istore (n := 108) (i := 4) (ls' := [_, _, _, _, _, _]) dX4_catches_106 rfl rfl rfl rfl ?_
        refine s_iload (n := 110) dX4_catches_108 rfl rfl ?_
        refine s_istore_n (n := 111) (i := 3) (ls' := [_, _, _, _, _, _]) dX4_catches_110 rfl rfl rfl rfl rfl ?_
        refine s_iinc (n := 114) (v := _ + 1) (ls' := [_, _, _, _, _, _]) dX4_catches_111 rfl rfl rfl rfl rfl ?_
        refine s_goto (tgt := 45) dX4_catches_114 rfl ?_
        rw [nI_1, e]
        exact ih (i + 1) (by omega) _ _ _ _ hX hFx
set_option maxRecDepth 100000 in
set_option maxHeartbeats 4000000 in
theorem k_catches {G : mj_G} {h : mj_H} {d : Nat} {σ : Nat → Nat → Int32} (hX : XS G h σ) {n : Nat} (hn : σ 0 2 = nI n) (h7 : n ≤ 7) (hok : okK n (σ 0)) {k : Nat} (hk : k ≤ 40) (hk1 : 1 ≤ k) (h0 : 0 < σ 0 2) {w : Int32} (hw : Wi w 0 1) (hd : 6 ≤ d) : mj_con G MX4_catches d 0 0 [.ref (G.1 + 0), .int (nI k), .int w] h (rF G σ (if w = 0 then (caF n k (σ 0) n 0 0 10000).1 else (caF n k (σ 0) n 0 0 10000).2) h) := by
  refine mj_conV okX4_catches (ls := [some (.ref (G.1 + 0)), some (.int (nI k)), some (.int w), none, none, none]) rfl rfl ?_
  replace hX := XS_f hX
  obtain ⟨x0, x1, xt, xn, xf, xa, x188, x189, xr, xi⟩ := id hX
  replace x0 : _ = XO G (σ 42) := x0
  replace xn : mj_St G _ 4 (σ 0) := xn
  replace xf : mj_St G _ 11 (σ 1) := xf
  obtain ⟨n0, n1, n2, n3, n4, n5, n6⟩ := id xn
  obtain ⟨f0, f1, f2, f3, f4, f5, f6⟩ := id xf
  refine s_aload_n (n := 1) (i := 0) dX4_catches_0 rfl rfl rfl ?_
  refine gf_X4_25 (n := 4) rfl dX4_catches_1 rfl (by assumption) (by rfl) ?_
  refine s_v0 (M' := MX2_stands) (n := 7) (ci := 2) dX4_catches_4 rfl wd_X4_137 okX2_stands rfl rfl (by omega) ⟨Nat.le_refl _, Nat.le_refl _⟩ (by assumption) (c_stands (d := d - 1) xn) ?_
  rintro v4 hh4 ⟨rfl, rfl⟩
  refine s_if_ne (n := 10) (tgt := 13) dX4_catches_7 rfl rfl (fun b7 => ?_) (fun b7 => ?_)
  · refine s_iload_n (n := 14) (i := 1) dX4_catches_13 rfl rfl rfl ?_
    refine s_iconst (n := 15) (v := 1) dX4_catches_14 rfl (by decide) ?_
    refine s_bipush (n := 17) (v := 40) dX4_catches_15 rfl (by decide) ?_
    refine s_s3 (M' := MX4_isWithin) (n := 20) dX4_catches_17 rfl wd_X4_52 okX4_isWithin rfl (by omega) ⟨Nat.le_refl _, Nat.le_refl _⟩ (c_within (d := d - 1) (A := 1) (B := 40) (by decide) (by decide)) ?_
    rintro v17 hh17 ⟨rfl, rfl⟩
    refine s_if_eq (n := 23) (tgt := 32) dX4_catches_20 rfl rfl (fun b20 => ?_) (fun b20 => ?_)
    · exact absurd (Wi_n (by omega) (by omega) (by omega)) (if0 b20)
    · refine s_iload_n (n := 24) (i := 2) dX4_catches_23 rfl rfl rfl ?_
      refine s_iconst (n := 25) (v := 0) dX4_catches_24 rfl (by decide) ?_
      refine s_iconst (n := 26) (v := 1) dX4_catches_25 rfl (by decide) ?_
      refine s_s3 (M' := MX4_isWithin) (n := 29) dX4_catches_26 rfl wd_X4_52 okX4_isWithin rfl (by omega) ⟨Nat.le_refl _, Nat.le_refl _⟩ (c_within (d := d - 1) (A := 0) (B := 1) (by decide) (by decide)) ?_
      rintro v26 hh26 ⟨rfl, rfl⟩
      refine s_if_ne (n := 32) (tgt := 35) dX4_catches_29 rfl rfl (fun b29 => ?_) (fun b29 => ?_)
      · refine s_iconst (n := 36) (v := 0) dX4_catches_35 rfl (by decide) ?_
        refine s_istore_n (n := 37) (i := 3) (ls' := [_, _, _, _, _, _]) dX4_catches_36 rfl rfl rfl rfl rfl ?_
        refine s_sipush (n := 40) (v := 10000) dX4_catches_37 rfl (by decide) ?_
        refine s_istore (n := 42) (i := 4) (ls' := [_, _, _, _, _, _]) dX4_catches_40 rfl rfl rfl rfl ?_
        refine s_iconst (n := 43) (v := 0) dX4_catches_42 rfl (by decide) ?_
        refine s_istore (n := 45) (i := 5) (ls' := [_, _, _, _, _, _]) dX4_catches_43 rfl rfl rfl rfl ?_
        exact l_catches hn h7 hk hok (by omega) n 0 (by omega) _ _ _ _ hX fr_rf
      · exact absurd (hw) (if0 b29)
  · exact absurd (h0) (if0 b7)
theorem shl_n {n : Nat} (h : n ≤ 7) : (1 : Int32) <<< (nI n &&& 31) = nI (2 ^ n) := by
  match n, h with
  | 0, _ => decide
  | 1, _ => decide
  | 2, _ => decide
  | 3, _ => decide
  | 4, _ => decide
  | 5, _ => decide
  | 6, _ => decide
  | 7, _ => decide
theorem pow_le7 {n : Nat} (h : n ≤ 7) : 2 ^ n ≤ 128 := Nat.le_trans (Nat.pow_le_pow_right (by omega) h) (by decide)
/-- the fewest to be hushed: sets s .. on, which and fewest so far -/
def feF (n k : Nat) (T : Nat → Int32) (clr : (Nat → Int32) → Int32) : Nat → Nat → Int32 → Int32 → Int32
  | 0, _, wh, _ => wh
  | r + 1, s, wh, fe => if (nI s &&& T 4 = 0 ∧ bc (nI s) < fe) ∧ ¬ clr (mns n k (upd T 4 (T 4 ||| nI s))) = 0 then feF n k T clr r (s + 1) (nI s) (bc (nI s)) else feF n k T clr r (s + 1) wh fe
set_option maxRecDepth 100000 in
set_option maxHeartbeats 4000000 in
theorem l_fewest {G : mj_G} {h0 : mj_H} {d n k : Nat} {σ : Nat → Nat → Int32} {pl : Int32} {clr : (Nat → Int32) → Int32} (hclr : ∀ (h : mj_H) (T : Nat → Int32), mj_St G h 11 T → mj_con G MX2_isClearAt (d - 1) 0 0 [.ref (G.1 + 11), .int pl] h (rI (clr T) h)) (hn : σ 0 2 = nI n) (h7 : n ≤ 7) (hk : k ≤ 40) (hok : okK n (σ 0)) (hd : 6 ≤ d) : ∀ (r i : Nat), i + r = 2 ^ n → ∀ (h : mj_H) (F : Nat → Int32) (wh fe : Int32) (l6 : Option Value), XS G h (u2 σ 1 F) → mj_fr 0 220 h0 h → mj_wp G MX4_fewestToHush d 0 0 10 [some (.ref (G.1 + 0)), some (.int pl), some (.int (nI k)), some (.int wh), some (.int fe), some (.int (nI i)), l6] [] h 0 0 (rF G σ (feF n k (σ 0) clr r i wh fe) h0) := by
  have hp := pow_le7 h7
  intro r
  induction r with
  | zero =>
    intro i hi h F wh fe l6 hX hFx
    obtain ⟨x0, x1, xt, xn, xf, xa, x188, x189, xr, xi⟩ := id hX
    replace x0 : _ = XO G (σ 42) := x0
    replace xn : mj_St G _ 4 (σ 0) := xn
    replace xf : mj_St G _ 11 (F) := xf
    obtain ⟨n0, n1, n2, n3, n4, n5, n6⟩ := id xn
    obtain ⟨f0, f1, f2, f3, f4, f5, f6⟩ := id xf
    refine s_iload (n := 12) dX4_fewestToHush_10 rfl rfl ?_
    refine s_iconst (n := 13) (v := 1) dX4_fewestToHush_12 rfl (by decide) ?_
    refine s_aload_n (n := 14) (i := 0) dX4_fewestToHush_13 rfl rfl rfl ?_
    refine gf_X4_25 (n := 17) rfl dX4_fewestToHush_14 rfl (by assumption) (by rfl) ?_
    refine gf_X4_127 (n := 20) rfl dX4_fewestToHush_17 rfl (by assumption) (by rfl) ?_
    rw [hn]
    refine s_ishl (n := 21) dX4_fewestToHush_20 rfl ?_
    rw [shl_n h7]
    refine s_icmp_ge (n := 24) (tgt := 82) dX4_fewestToHush_21 rfl rfl (fun b21 => ?_) (fun b21 => ?_)
    · refine s_iload_n (n := 83) (i := 3) dX4_fewestToHush_82 rfl rfl rfl ?_
      refine s_ireturn dX4_fewestToHush_83 rfl (rfl) (Nat.le_refl _) (Nat.le_refl _) ?_
      exact ⟨rfl, _, hX, hFx⟩
    · exact absurd ((nI_leE (by omega) (by omega)).mpr (by omega)) b21
  | succ r ih =>
    intro i hi h F wh fe l6 hX hFx
    obtain ⟨x0, x1, xt, xn, xf, xa, x188, x189, xr, xi⟩ := id hX
    replace x0 : _ = XO G (σ 42) := x0
    replace xn : mj_St G _ 4 (σ 0) := xn
    replace xf : mj_St G _ 11 (F) := xf
    obtain ⟨n0, n1, n2, n3, n4, n5, n6⟩ := id xn
    obtain ⟨f0, f1, f2, f3, f4, f5, f6⟩ := id xf
    refine s_iload (n := 12) dX4_fewestToHush_10 rfl rfl ?_
    refine s_iconst (n := 13) (v := 1) dX4_fewestToHush_12 rfl (by decide) ?_
    refine s_aload_n (n := 14) (i := 0) dX4_fewestToHush_13 rfl rfl rfl ?_
    refine gf_X4_25 (n := 17) rfl dX4_fewestToHush_14 rfl (by assumption) (by rfl) ?_
    refine gf_X4_127 (n := 20) rfl dX4_fewestToHush_17 rfl (by assumption) (by rfl) ?_
    rw [hn]
    refine s_ishl (n := 21) dX4_fewestToHush_20 rfl ?_
    rw [shl_n h7]
    refine s_icmp_ge (n := 24) (tgt := 82) dX4_fewestToHush_21 rfl rfl (fun b21 => ?_) (fun b21 => ?_)
    · exact absurd ((nI_leE (by omega) (by omega)).mp b21) (by omega)
    · refine s_iload (n := 26) dX4_fewestToHush_24 rfl rfl ?_
      refine s_s1 (M' := MJ6_bitCount_0f7a4) (n := 29) dX4_fewestToHush_26 rfl wd_X4_233 okJ6_bitCount_0f7a4 rfl (by omega) ⟨Nat.le_refl _, Nat.le_refl _⟩ (c_bitCount (d := d - 1)) ?_
      rintro v26 hh26 ⟨rfl, rfl⟩
      refine s_istore (n := 31) (i := 6) (ls' := [_, _, _, _, _, _, _]) dX4_fewestToHush_29 rfl rfl rfl rfl ?_
      refine s_iload (n := 33) dX4_fewestToHush_31 rfl rfl ?_
      refine s_aload_n (n := 34) (i := 0) dX4_fewestToHush_33 rfl rfl rfl ?_
      refine gf_X4_25 (n := 37) rfl dX4_fewestToHush_34 rfl (by assumption) (by rfl) ?_
      refine gf_X4_161 (n := 40) rfl dX4_fewestToHush_37 rfl (by assumption) (by rfl) ?_
      refine s_iand (n := 41) dX4_fewestToHush_40 rfl ?_
      refine s_if_ne (n := 44) (tgt := 76) dX4_fewestToHush_41 rfl rfl (fun b41 => ?_) (fun b41 => ?_)
      · have e : feF n k (σ 0) clr (r + 1) i wh fe = feF n k (σ 0) clr r (i + 1) wh fe := by
          show (if _ then _ else _) = _
          rw [if_neg (fun q => b41 q.1.1)]
        refine s_iinc (n := 79) (v := _ + 1) (ls' := [_, _, _, _, _, _, _]) dX4_fewestToHush_76 rfl rfl rfl rfl rfl ?_
        refine s_goto (tgt := 10) dX4_fewestToHush_79 rfl ?_
        rw [nI_1, e]
        exact ih (i + 1) (by omega) _ _ _ _ _ hX hFx
      · refine s_iload (n := 46) dX4_fewestToHush_44 rfl rfl ?_
        refine s_iload (n := 48) dX4_fewestToHush_46 rfl rfl ?_
        refine s_icmp_ge (n := 51) (tgt := 76) dX4_fewestToHush_48 rfl rfl (fun b48 => ?_) (fun b48 => ?_)
        · have e : feF n k (σ 0) clr (r + 1) i wh fe = feF n k (σ 0) clr r (i + 1) wh fe := by
            show (if _ then _ else _) = _
            rw [if_neg (fun q => absurd q.1.2 (Int32.not_lt.mpr b48))]
          refine s_iinc (n := 79) (v := _ + 1) (ls' := [_, _, _, _, _, _, _]) dX4_fewestToHush_76 rfl rfl rfl rfl rfl ?_
          refine s_goto (tgt := 10) dX4_fewestToHush_79 rfl ?_
          rw [nI_1, e]
          exact ih (i + 1) (by omega) _ _ _ _ _ hX hFx
        · refine s_aload_n (n := 52) (i := 0) dX4_fewestToHush_51 rfl rfl rfl ?_
          refine s_iload (n := 54) dX4_fewestToHush_52 rfl rfl ?_
          refine s_iload_n (n := 55) (i := 2) dX4_fewestToHush_54 rfl rfl rfl ?_
          refine s_v2 (M' := MX4_foreseeHushed) (n := 58) (ci := 4) dX4_fewestToHush_55 rfl wd_X4_209 okX4_foreseeHushed rfl rfl (by omega) ⟨Nat.le_refl _, Nat.le_refl _⟩ (by assumption) (c_foresee (d := d - 1) hX hok (by omega) (by omega)) ?_
          rintro v55 hh55 ⟨rfl, hX1, hF1⟩
          replace hX := hX1
          replace hFx := fr_tr hFx hF1
          obtain ⟨x0, x1, xt, xn, xf, xa, x188, x189, xr, xi⟩ := id hX
          replace x0 : _ = XO G (σ 42) := x0
          replace xn : mj_St G _ 4 (σ 0) := xn
          replace xf : mj_St G _ 11 (mns n k (upd (σ 0) 4 (σ 0 4 ||| nI i))) := xf
          obtain ⟨n0, n1, n2, n3, n4, n5, n6⟩ := id xn
          obtain ⟨f0, f1, f2, f3, f4, f5, f6⟩ := id xf
          refine s_aload_n (n := 59) (i := 0) dX4_fewestToHush_58 rfl rfl rfl ?_
          refine gf_X4_29 (n := 62) rfl dX4_fewestToHush_59 rfl (by assumption) (by rfl) ?_
          refine s_iload_n (n := 63) (i := 1) dX4_fewestToHush_62 rfl rfl rfl ?_
          refine s_v1 (M' := MX2_isClearAt) (n := 66) (ci := 2) dX4_fewestToHush_63 rfl wd_X4_279 okX2_isClearAt rfl rfl (by omega) ⟨Nat.le_refl _, Nat.le_refl _⟩ (by assumption) (hclr _ _ xf) ?_
          rintro v63 hh63 ⟨rfl, rfl⟩
          refine s_if_eq (n := 69) (tgt := 76) dX4_fewestToHush_66 rfl rfl (fun b66 => ?_) (fun b66 => ?_)
          · have e : feF n k (σ 0) clr (r + 1) i wh fe = feF n k (σ 0) clr r (i + 1) wh fe := by
              show (if _ then _ else _) = _
              rw [if_neg (fun q => q.2 b66)]
            refine s_iinc (n := 79) (v := _ + 1) (ls' := [_, _, _, _, _, _, _]) dX4_fewestToHush_76 rfl rfl rfl rfl rfl ?_
            refine s_goto (tgt := 10) dX4_fewestToHush_79 rfl ?_
            rw [nI_1, e]
            exact ih (i + 1) (by omega) _ _ _ _ _ hX hFx
          · have e : feF n k (σ 0) clr (r + 1) i wh fe = feF n k (σ 0) clr r (i + 1) (nI i) (bc (nI i)) := by
              show (if _ then _ else _) = _
              rw [if_pos ⟨⟨b41, Int32.not_le.mp b48⟩, b66⟩]
            refine s_iload (n := 71) dX4_fewestToHush_69 rfl rfl ?_
            refine s_istore_n (n := 72) (i := 3) (ls' := [_, _, _, _, _, _, _]) dX4_fewestToHush_71 rfl rfl rfl rfl rfl ?_
            refine s_iload (n := 74) dX4_fewestToHush_72 rfl rfl ?_
            refine s_istore (n := 76) (i := 4) (ls' := [_, _, _, _, _, _, _]) dX4_fewestToHush_74 rfl rfl rfl rfl ?_
            refine s_iinc (n := 79) (v := _ + 1) (ls' := [_, _, _, _, _, _, _]) dX4_fewestToHush_76 rfl rfl rfl rfl rfl ?_
            refine s_goto (tgt := 10) dX4_fewestToHush_79 rfl ?_
            rw [nI_1, e]
            exact ih (i + 1) (by omega) _ _ _ _ _ hX hFx
set_option maxRecDepth 100000 in
set_option maxHeartbeats 4000000 in
theorem c_fewest {G : mj_G} {h : mj_H} {d : Nat} {σ : Nat → Nat → Int32} {F : Nat → Int32} (hX : XS G h (u2 σ 1 F)) {n k : Nat} {pl : Int32} {clr : (Nat → Int32) → Int32} (hclr : ∀ (h : mj_H) (T : Nat → Int32), mj_St G h 11 T → mj_con G MX2_isClearAt (d - 1) 0 0 [.ref (G.1 + 11), .int pl] h (rI (clr T) h)) (hn : σ 0 2 = nI n) (h7 : n ≤ 7) (hk : k ≤ 40) (hok : okK n (σ 0)) (hd : 6 ≤ d) : mj_con G MX4_fewestToHush d 0 0 [.ref (G.1 + 0), .int pl, .int (nI k)] h (rF G σ (feF n k (σ 0) clr (2 ^ n) 0 (-1000000) 8) h) := by
  refine mj_conV okX4_fewestToHush (ls := [some (.ref (G.1 + 0)), some (.int pl), some (.int (nI k)), none, none, none, none]) rfl rfl ?_
  obtain ⟨x0, x1, xt, xn, xf, xa, x188, x189, xr, xi⟩ := id hX
  replace x0 : _ = XO G (σ 42) := x0
  replace xn : mj_St G _ 4 (σ 0) := xn
  replace xf : mj_St G _ 11 (F) := xf
  obtain ⟨n0, n1, n2, n3, n4, n5, n6⟩ := id xn
  obtain ⟨f0, f1, f2, f3, f4, f5, f6⟩ := id xf
  refine s_ldc (n := 2) dX4_fewestToHush_0 rfl wd_X4_199 ?_
  refine s_istore_n (n := 3) (i := 3) (ls' := [_, _, _, _, _, _, _]) dX4_fewestToHush_2 rfl rfl rfl rfl rfl ?_
  refine s_bipush (n := 5) (v := 8) dX4_fewestToHush_3 rfl (by decide) ?_
  refine s_istore (n := 7) (i := 4) (ls' := [_, _, _, _, _, _, _]) dX4_fewestToHush_5 rfl rfl rfl rfl ?_
  refine s_iconst (n := 8) (v := 0) dX4_fewestToHush_7 rfl (by decide) ?_
  refine s_istore (n := 10) (i := 5) (ls' := [_, _, _, _, _, _, _]) dX4_fewestToHush_8 rfl rfl rfl rfl ?_
  exact l_fewest hclr hn h7 hk hok (by omega) (2 ^ n) 0 (by omega) _ _ _ _ _ hX fr_rf
def hmW (x w : Int32) : Int32 := if x = -1000000 ∨ w = 1 then x else bc x
set_option maxRecDepth 100000 in
set_option maxHeartbeats 4000000 in
theorem c_howMany {G : mj_G} {h : mj_H} {d : Nat} {x w : Int32} (hd : 1 ≤ d) : mj_con G MX4_howManyOrWhich d 0 0 [.int x, .int w] h (rI (hmW x w) h) := by
  refine mj_conS okX4_howManyOrWhich (ls := [some (.int x), some (.int w)]) rfl rfl ?_
  refine s_iload_n (n := 1) (i := 0) dX4_howManyOrWhich_0 rfl rfl rfl ?_
  refine s_ldc (n := 3) dX4_howManyOrWhich_1 rfl wd_X4_199 ?_
  refine s_icmp_eq (n := 6) (tgt := 11) dX4_howManyOrWhich_3 rfl rfl (fun b3 => ?_) (fun b3 => ?_)
  · refine s_iload_n (n := 12) (i := 0) dX4_howManyOrWhich_11 rfl rfl rfl ?_
    refine s_goto (tgt := 19) dX4_howManyOrWhich_12 rfl ?_
    refine s_ireturn dX4_howManyOrWhich_19 rfl (rfl) (Nat.le_refl _) (Nat.le_refl _) ?_
    refine rI_ok ?_
    unfold hmW
    first | rw [if_pos (Or.inl b3)] | rw [if_pos (Or.inr b8)] | rw [if_neg (fun q => q.elim b3 b8)]
  · refine s_iload_n (n := 7) (i := 1) dX4_howManyOrWhich_6 rfl rfl rfl ?_
    refine s_iconst (n := 8) (v := 1) dX4_howManyOrWhich_7 rfl (by decide) ?_
    refine s_icmp_ne (n := 11) (tgt := 15) dX4_howManyOrWhich_8 rfl rfl (fun b8 => ?_) (fun b8 => ?_)
    · refine s_iload_n (n := 16) (i := 0) dX4_howManyOrWhich_15 rfl rfl rfl ?_
      refine s_s1 (M' := MJ6_bitCount_0f7a4) (n := 19) dX4_howManyOrWhich_16 rfl wd_X4_233 okJ6_bitCount_0f7a4 rfl (by omega) ⟨Nat.le_refl _, Nat.le_refl _⟩ (c_bitCount (d := d - 1)) ?_
      rintro v16 hh16 ⟨rfl, rfl⟩
      refine s_ireturn dX4_howManyOrWhich_19 rfl (rfl) (Nat.le_refl _) (Nat.le_refl _) ?_
      refine rI_ok ?_
      unfold hmW
      first | rw [if_pos (Or.inl b3)] | rw [if_pos (Or.inr b8)] | rw [if_neg (fun q => q.elim b3 b8)]
    · refine s_iload_n (n := 12) (i := 0) dX4_howManyOrWhich_11 rfl rfl rfl ?_
      refine s_goto (tgt := 19) dX4_howManyOrWhich_12 rfl ?_
      refine s_ireturn dX4_howManyOrWhich_19 rfl (rfl) (Nat.le_refl _) (Nat.le_refl _) ?_
      refine rI_ok ?_
      unfold hmW
      first | rw [if_pos (Or.inl b3)] | rw [if_pos (Or.inr b8)] | rw [if_neg (fun q => q.elim b3 b8)]
set_option maxRecDepth 100000 in
set_option maxHeartbeats 4000000 in
theorem k_hushes_bad {G : mj_G} {h : mj_H} {d : Nat} {σ : Nat → Nat → Int32} (hX : XS G h σ) {n : Nat} (hn : σ 0 2 = nI n) (h7 : n ≤ 7) {x y z : Int32} (hb : ¬ (Hs n x ∧ Wi y 1 40 ∧ Wi z 0 1)) (hd : 2 ≤ d) : mj_con G MX4_hushes d 0 0 [.ref (G.1 + 0), .int x, .int y, .int z] h (rI (-1000001) h) := by
  refine mj_conV okX4_hushes (ls := [some (.ref (G.1 + 0)), some (.int x), some (.int y), some (.int z)]) rfl rfl ?_
  obtain ⟨x0, x1, xt, xn, xf, xa, x188, x189, xr, xi⟩ := id hX
  obtain ⟨n0, n1, n2, n3, n4, n5, n6⟩ := id xn
  have a18 := xa.1
  have t2 := xt.1
  have t3 := xt.2
  refine s_aload_n (n := 1) (i := 0) dX4_hushes_0 rfl rfl rfl ?_
  refine s_iload_n (n := 2) (i := 1) dX4_hushes_1 rfl rfl rfl ?_
  refine s_v1 (M' := MX4_isHouse) (n := 5) (ci := 4) dX4_hushes_2 rfl wd_X4_152 okX4_isHouse rfl rfl (by omega) ⟨Nat.le_refl _, Nat.le_refl _⟩ (by assumption) (c_isHouse (d := d - 1) hX hn h7 (by omega)) ?_
  rintro v2 hh2 ⟨rfl, rfl⟩
  refine s_if_eq (n := 8) (tgt := 27) dX4_hushes_5 rfl rfl (fun b5 => ?_) (fun b5 => ?_)
  · refine s_ldc (n := 29) dX4_hushes_27 rfl wd_X4_56 ?_
    refine s_ireturn dX4_hushes_29 rfl (rfl) (Nat.le_refl _) (Nat.le_refl _) ?_
    exact ⟨rfl, rfl⟩
  · refine s_iload_n (n := 9) (i := 2) dX4_hushes_8 rfl rfl rfl ?_
    refine s_iconst (n := 10) (v := 1) dX4_hushes_9 rfl (by decide) ?_
    refine s_bipush (n := 12) (v := 40) dX4_hushes_10 rfl (by decide) ?_
    refine s_s3 (M' := MX4_isWithin) (n := 15) dX4_hushes_12 rfl wd_X4_52 okX4_isWithin rfl (by omega) ⟨Nat.le_refl _, Nat.le_refl _⟩ (c_within (d := d - 1) (A := 1) (B := 40) (by decide) (by decide)) ?_
    rintro v12 hh12 ⟨rfl, rfl⟩
    refine s_if_eq (n := 18) (tgt := 27) dX4_hushes_15 rfl rfl (fun b15 => ?_) (fun b15 => ?_)
    · refine s_ldc (n := 29) dX4_hushes_27 rfl wd_X4_56 ?_
      refine s_ireturn dX4_hushes_29 rfl (rfl) (Nat.le_refl _) (Nat.le_refl _) ?_
      exact ⟨rfl, rfl⟩
    · refine s_iload_n (n := 19) (i := 3) dX4_hushes_18 rfl rfl rfl ?_
      refine s_iconst (n := 20) (v := 0) dX4_hushes_19 rfl (by decide) ?_
      refine s_iconst (n := 21) (v := 1) dX4_hushes_20 rfl (by decide) ?_
      refine s_s3 (M' := MX4_isWithin) (n := 24) dX4_hushes_21 rfl wd_X4_52 okX4_isWithin rfl (by omega) ⟨Nat.le_refl _, Nat.le_refl _⟩ (c_within (d := d - 1) (A := 0) (B := 1) (by decide) (by decide)) ?_
      rintro v21 hh21 ⟨rfl, rfl⟩
      refine s_if_ne (n := 27) (tgt := 30) dX4_hushes_24 rfl rfl (fun b24 => ?_) (fun b24 => ?_)
      · exact absurd (⟨if1 b5, if1 b15, if1 b24⟩) hb
      · refine s_ldc (n := 29) dX4_hushes_27 rfl wd_X4_56 ?_
        refine s_ireturn dX4_hushes_29 rfl (rfl) (Nat.le_refl _) (Nat.le_refl _) ?_
        exact ⟨rfl, rfl⟩
def clP (T : Nat → Int32) : Int32 := if T 1 < T 5 then 0 else 1
def clJ (j : Nat) (T : Nat → Int32) : Int32 := if T (34 + j) = 0 then 1 else 0
set_option maxRecDepth 100000 in
set_option maxHeartbeats 4000000 in
theorem k_hushes {G : mj_G} {h : mj_H} {d : Nat} {σ : Nat → Nat → Int32} (hX : XS G h σ) {n : Nat} (hn : σ 0 2 = nI n) (h7 : n ≤ 7) (hok : okK n (σ 0)) {j k : Nat} (hj : j < n) (hk : k ≤ 40) (hk1 : 1 ≤ k) {w : Int32} (hw : Wi w 0 1) (hd : 7 ≤ d) : mj_con G MX4_hushes d 0 0 [.ref (G.1 + 0), .int (nI j), .int (nI k), .int w] h (rF G σ (hmW (feF n k (σ 0) (clJ j) (2 ^ n) 0 (-1000000) 8) w) h) := by
  refine mj_conV okX4_hushes (ls := [some (.ref (G.1 + 0)), some (.int (nI j)), some (.int (nI k)), some (.int w)]) rfl rfl ?_
  replace hX := XS_f hX
  obtain ⟨x0, x1, xt, xn, xf, xa, x188, x189, xr, xi⟩ := id hX
  replace x0 : _ = XO G (σ 42) := x0
  replace xn : mj_St G _ 4 (σ 0) := xn
  replace xf : mj_St G _ 11 (σ 1) := xf
  obtain ⟨n0, n1, n2, n3, n4, n5, n6⟩ := id xn
  obtain ⟨f0, f1, f2, f3, f4, f5, f6⟩ := id xf
  refine s_aload_n (n := 1) (i := 0) dX4_hushes_0 rfl rfl rfl ?_
  refine s_iload_n (n := 2) (i := 1) dX4_hushes_1 rfl rfl rfl ?_
  refine s_v1 (M' := MX4_isHouse) (n := 5) (ci := 4) dX4_hushes_2 rfl wd_X4_152 okX4_isHouse rfl rfl (by omega) ⟨Nat.le_refl _, Nat.le_refl _⟩ (by assumption) (c_isHouse2 (d := d - 1) hX hn h7 (by omega)) ?_
  rintro v2 hh2 ⟨rfl, rfl⟩
  refine s_if_eq (n := 8) (tgt := 27) dX4_hushes_5 rfl rfl (fun b5 => ?_) (fun b5 => ?_)
  · exact absurd (Hs_n hj h7) (if0 b5)
  · refine s_iload_n (n := 9) (i := 2) dX4_hushes_8 rfl rfl rfl ?_
    refine s_iconst (n := 10) (v := 1) dX4_hushes_9 rfl (by decide) ?_
    refine s_bipush (n := 12) (v := 40) dX4_hushes_10 rfl (by decide) ?_
    refine s_s3 (M' := MX4_isWithin) (n := 15) dX4_hushes_12 rfl wd_X4_52 okX4_isWithin rfl (by omega) ⟨Nat.le_refl _, Nat.le_refl _⟩ (c_within (d := d - 1) (A := 1) (B := 40) (by decide) (by decide)) ?_
    rintro v12 hh12 ⟨rfl, rfl⟩
    refine s_if_eq (n := 18) (tgt := 27) dX4_hushes_15 rfl rfl (fun b15 => ?_) (fun b15 => ?_)
    · exact absurd (Wi_n (by omega) (by omega) (by omega)) (if0 b15)
    · refine s_iload_n (n := 19) (i := 3) dX4_hushes_18 rfl rfl rfl ?_
      refine s_iconst (n := 20) (v := 0) dX4_hushes_19 rfl (by decide) ?_
      refine s_iconst (n := 21) (v := 1) dX4_hushes_20 rfl (by decide) ?_
      refine s_s3 (M' := MX4_isWithin) (n := 24) dX4_hushes_21 rfl wd_X4_52 okX4_isWithin rfl (by omega) ⟨Nat.le_refl _, Nat.le_refl _⟩ (c_within (d := d - 1) (A := 0) (B := 1) (by decide) (by decide)) ?_
      rintro v21 hh21 ⟨rfl, rfl⟩
      refine s_if_ne (n := 27) (tgt := 30) dX4_hushes_24 rfl rfl (fun b24 => ?_) (fun b24 => ?_)
      · refine s_aload_n (n := 31) (i := 0) dX4_hushes_30 rfl rfl rfl ?_
        refine s_iload_n (n := 32) (i := 1) dX4_hushes_31 rfl rfl rfl ?_
        refine s_iload_n (n := 33) (i := 2) dX4_hushes_32 rfl rfl rfl ?_
        refine s_v2 (M' := MX4_fewestToHush) (n := 36) (ci := 4) dX4_hushes_33 rfl wd_X4_203 okX4_fewestToHush rfl rfl (by omega) ⟨Nat.le_refl _, Nat.le_refl _⟩ (by assumption) (c_fewest (d := d - 1) (clr := clJ j) hX (fun _ _ q => c_clearAt q (by omega)) hn h7 hk hok (by omega)) ?_
        rintro v33 hh33 ⟨rfl, F1, hX1, hF1⟩
        refine s_iload_n (n := 37) (i := 3) dX4_hushes_36 rfl rfl rfl ?_
        refine s_s2 (M' := MX4_howManyOrWhich) (n := 40) dX4_hushes_37 rfl wd_X4_206 okX4_howManyOrWhich rfl (by omega) ⟨Nat.le_refl _, Nat.le_refl _⟩ (c_howMany (d := d - 1) (by omega)) ?_
        rintro v37 hh37 ⟨rfl, rfl⟩
        refine s_ireturn dX4_hushes_40 rfl (rfl) (Nat.le_refl _) (Nat.le_refl _) ?_
        exact ⟨rfl, _, hX1, hF1⟩
      · exact absurd (hw) (if0 b24)
set_option maxRecDepth 100000 in
set_option maxHeartbeats 4000000 in
theorem k_spares_st {G : mj_G} {h : mj_H} {d : Nat} {σ : Nat → Nat → Int32} (hX : XS G h σ) {x y : Int32} (hb : ¬ 0 < σ 0 2) (hd : 2 ≤ d) : mj_con G MX4_spares d 0 0 [.ref (G.1 + 0), .int x, .int y] h (rI (-1000002) h) := by
  refine mj_conV okX4_spares (ls := [some (.ref (G.1 + 0)), some (.int x), some (.int y)]) rfl rfl ?_
  obtain ⟨x0, x1, xt, xn, xf, xa, x188, x189, xr, xi⟩ := id hX
  obtain ⟨n0, n1, n2, n3, n4, n5, n6⟩ := id xn
  have a18 := xa.1
  have t2 := xt.1
  have t3 := xt.2
  refine s_aload_n (n := 1) (i := 0) dX4_spares_0 rfl rfl rfl ?_
  refine gf_X4_25 (n := 4) rfl dX4_spares_1 rfl (by assumption) (by rfl) ?_
  refine s_v0 (M' := MX2_stands) (n := 7) (ci := 2) dX4_spares_4 rfl wd_X4_137 okX2_stands rfl rfl (by omega) ⟨Nat.le_refl _, Nat.le_refl _⟩ (by assumption) (c_stands (d := d - 1) xn) ?_
  rintro v4 hh4 ⟨rfl, rfl⟩
  refine s_if_ne (n := 10) (tgt := 13) dX4_spares_7 rfl rfl (fun b7 => ?_) (fun b7 => ?_)
  · exact absurd (if1 b7) (hb)
  · refine s_ldc (n := 12) dX4_spares_10 rfl wd_X4_136 ?_
    refine s_ireturn dX4_spares_12 rfl (rfl) (Nat.le_refl _) (Nat.le_refl _) ?_
    exact ⟨rfl, rfl⟩
set_option maxRecDepth 100000 in
set_option maxHeartbeats 4000000 in
theorem k_spares_bad {G : mj_G} {h : mj_H} {d : Nat} {σ : Nat → Nat → Int32} (hX : XS G h σ) {x y : Int32} (h0 : 0 < σ 0 2) (hb : ¬ (Wi x 1 40 ∧ Wi y 0 1)) (hd : 2 ≤ d) : mj_con G MX4_spares d 0 0 [.ref (G.1 + 0), .int x, .int y] h (rI (-1000001) h) := by
  refine mj_conV okX4_spares (ls := [some (.ref (G.1 + 0)), some (.int x), some (.int y)]) rfl rfl ?_
  obtain ⟨x0, x1, xt, xn, xf, xa, x188, x189, xr, xi⟩ := id hX
  obtain ⟨n0, n1, n2, n3, n4, n5, n6⟩ := id xn
  have a18 := xa.1
  have t2 := xt.1
  have t3 := xt.2
  refine s_aload_n (n := 1) (i := 0) dX4_spares_0 rfl rfl rfl ?_
  refine gf_X4_25 (n := 4) rfl dX4_spares_1 rfl (by assumption) (by rfl) ?_
  refine s_v0 (M' := MX2_stands) (n := 7) (ci := 2) dX4_spares_4 rfl wd_X4_137 okX2_stands rfl rfl (by omega) ⟨Nat.le_refl _, Nat.le_refl _⟩ (by assumption) (c_stands (d := d - 1) xn) ?_
  rintro v4 hh4 ⟨rfl, rfl⟩
  refine s_if_ne (n := 10) (tgt := 13) dX4_spares_7 rfl rfl (fun b7 => ?_) (fun b7 => ?_)
  · refine s_iload_n (n := 14) (i := 1) dX4_spares_13 rfl rfl rfl ?_
    refine s_iconst (n := 15) (v := 1) dX4_spares_14 rfl (by decide) ?_
    refine s_bipush (n := 17) (v := 40) dX4_spares_15 rfl (by decide) ?_
    refine s_s3 (M' := MX4_isWithin) (n := 20) dX4_spares_17 rfl wd_X4_52 okX4_isWithin rfl (by omega) ⟨Nat.le_refl _, Nat.le_refl _⟩ (c_within (d := d - 1) (A := 1) (B := 40) (by decide) (by decide)) ?_
    rintro v17 hh17 ⟨rfl, rfl⟩
    refine s_if_eq (n := 23) (tgt := 32) dX4_spares_20 rfl rfl (fun b20 => ?_) (fun b20 => ?_)
    · refine s_ldc (n := 34) dX4_spares_32 rfl wd_X4_56 ?_
      refine s_ireturn dX4_spares_34 rfl (rfl) (Nat.le_refl _) (Nat.le_refl _) ?_
      exact ⟨rfl, rfl⟩
    · refine s_iload_n (n := 24) (i := 2) dX4_spares_23 rfl rfl rfl ?_
      refine s_iconst (n := 25) (v := 0) dX4_spares_24 rfl (by decide) ?_
      refine s_iconst (n := 26) (v := 1) dX4_spares_25 rfl (by decide) ?_
      refine s_s3 (M' := MX4_isWithin) (n := 29) dX4_spares_26 rfl wd_X4_52 okX4_isWithin rfl (by omega) ⟨Nat.le_refl _, Nat.le_refl _⟩ (c_within (d := d - 1) (A := 0) (B := 1) (by decide) (by decide)) ?_
      rintro v26 hh26 ⟨rfl, rfl⟩
      refine s_if_ne (n := 32) (tgt := 35) dX4_spares_29 rfl rfl (fun b29 => ?_) (fun b29 => ?_)
      · exact absurd (⟨if1 b20, if1 b29⟩) hb
      · refine s_ldc (n := 34) dX4_spares_32 rfl wd_X4_56 ?_
        refine s_ireturn dX4_spares_34 rfl (rfl) (Nat.le_refl _) (Nat.le_refl _) ?_
        exact ⟨rfl, rfl⟩
  · exact absurd (h0) (if0 b7)
set_option maxRecDepth 100000 in
set_option maxHeartbeats 4000000 in
theorem k_spares {G : mj_G} {h : mj_H} {d : Nat} {σ : Nat → Nat → Int32} (hX : XS G h σ) {n : Nat} (hn : σ 0 2 = nI n) (h7 : n ≤ 7) (hok : okK n (σ 0)) {k : Nat} (hk : k ≤ 40) (hk1 : 1 ≤ k) (h0 : 0 < σ 0 2) {w : Int32} (hw : Wi w 0 1) (hd : 7 ≤ d) : mj_con G MX4_spares d 0 0 [.ref (G.1 + 0), .int (nI k), .int w] h (rF G σ (hmW (feF n k (σ 0) clP (2 ^ n) 0 (-1000000) 8) w) h) := by
  refine mj_conV okX4_spares (ls := [some (.ref (G.1 + 0)), some (.int (nI k)), some (.int w)]) rfl rfl ?_
  replace hX := XS_f hX
  obtain ⟨x0, x1, xt, xn, xf, xa, x188, x189, xr, xi⟩ := id hX
  replace x0 : _ = XO G (σ 42) := x0
  replace xn : mj_St G _ 4 (σ 0) := xn
  replace xf : mj_St G _ 11 (σ 1) := xf
  obtain ⟨n0, n1, n2, n3, n4, n5, n6⟩ := id xn
  obtain ⟨f0, f1, f2, f3, f4, f5, f6⟩ := id xf
  refine s_aload_n (n := 1) (i := 0) dX4_spares_0 rfl rfl rfl ?_
  refine gf_X4_25 (n := 4) rfl dX4_spares_1 rfl (by assumption) (by rfl) ?_
  refine s_v0 (M' := MX2_stands) (n := 7) (ci := 2) dX4_spares_4 rfl wd_X4_137 okX2_stands rfl rfl (by omega) ⟨Nat.le_refl _, Nat.le_refl _⟩ (by assumption) (c_stands (d := d - 1) xn) ?_
  rintro v4 hh4 ⟨rfl, rfl⟩
  refine s_if_ne (n := 10) (tgt := 13) dX4_spares_7 rfl rfl (fun b7 => ?_) (fun b7 => ?_)
  · refine s_iload_n (n := 14) (i := 1) dX4_spares_13 rfl rfl rfl ?_
    refine s_iconst (n := 15) (v := 1) dX4_spares_14 rfl (by decide) ?_
    refine s_bipush (n := 17) (v := 40) dX4_spares_15 rfl (by decide) ?_
    refine s_s3 (M' := MX4_isWithin) (n := 20) dX4_spares_17 rfl wd_X4_52 okX4_isWithin rfl (by omega) ⟨Nat.le_refl _, Nat.le_refl _⟩ (c_within (d := d - 1) (A := 1) (B := 40) (by decide) (by decide)) ?_
    rintro v17 hh17 ⟨rfl, rfl⟩
    refine s_if_eq (n := 23) (tgt := 32) dX4_spares_20 rfl rfl (fun b20 => ?_) (fun b20 => ?_)
    · exact absurd (Wi_n (by omega) (by omega) (by omega)) (if0 b20)
    · refine s_iload_n (n := 24) (i := 2) dX4_spares_23 rfl rfl rfl ?_
      refine s_iconst (n := 25) (v := 0) dX4_spares_24 rfl (by decide) ?_
      refine s_iconst (n := 26) (v := 1) dX4_spares_25 rfl (by decide) ?_
      refine s_s3 (M' := MX4_isWithin) (n := 29) dX4_spares_26 rfl wd_X4_52 okX4_isWithin rfl (by omega) ⟨Nat.le_refl _, Nat.le_refl _⟩ (c_within (d := d - 1) (A := 0) (B := 1) (by decide) (by decide)) ?_
      rintro v26 hh26 ⟨rfl, rfl⟩
      refine s_if_ne (n := 32) (tgt := 35) dX4_spares_29 rfl rfl (fun b29 => ?_) (fun b29 => ?_)
      · refine s_aload_n (n := 36) (i := 0) dX4_spares_35 rfl rfl rfl ?_
        refine s_iconst (n := 37) (v := (-1)) dX4_spares_36 rfl (by decide) ?_
        refine s_iload_n (n := 38) (i := 1) dX4_spares_37 rfl rfl rfl ?_
        refine s_v2 (M' := MX4_fewestToHush) (n := 41) (ci := 4) dX4_spares_38 rfl wd_X4_203 okX4_fewestToHush rfl rfl (by omega) ⟨Nat.le_refl _, Nat.le_refl _⟩ (by assumption) (c_fewest (d := d - 1) (clr := clP) hX (fun _ _ q => c_clearPond q (by omega)) hn h7 hk hok (by omega)) ?_
        rintro v38 hh38 ⟨rfl, F1, hX1, hF1⟩
        refine s_iload_n (n := 42) (i := 2) dX4_spares_41 rfl rfl rfl ?_
        refine s_s2 (M' := MX4_howManyOrWhich) (n := 45) dX4_spares_42 rfl wd_X4_206 okX4_howManyOrWhich rfl (by omega) ⟨Nat.le_refl _, Nat.le_refl _⟩ (c_howMany (d := d - 1) (by omega)) ?_
        rintro v42 hh42 ⟨rfl, rfl⟩
        refine s_ireturn dX4_spares_45 rfl (rfl) (Nat.le_refl _) (Nat.le_refl _) ?_
        exact ⟨rfl, _, hX1, hF1⟩
      · exact absurd (hw) (if0 b29)
  · exact absurd (h0) (if0 b7)
def nxt (a : Nat) : Nat := a * 16807 % 2147483647
def drF (n : Nat) : Nat → Nat → (Nat → Int32) → Int32 → (Nat → Int32) × Int32
  | 0, _, T, mo => (T, mo)
  | r + 1, a, T, mo => drF n r (nxt a) (mn n (drw n (nxt a) T)) (if mo < mn n (drw n (nxt a) T) 5 then mn n (drw n (nxt a) T) 5 else mo)
theorem nxt_lt {a : Nat} : nxt a < 2147483647 := Nat.mod_lt _ (by omega)
theorem lN_nxt {a : Nat} (h : a < 2147483648) : lN a * 16807 - lN a * 16807 / 2147483647 * 2147483647 = lN (nxt a) := by
  have e : lN a * 16807 = lN (a * 16807) := lN_mul a 16807
  rw [e]
  exact pk_lRem (b := 2147483647) (by omega) (by omega) (by omega)
theorem okK_drw {n a : Nat} {T : Nat → Int32} (h0 : 0 < n) (h : okK n T) : okK n (drw n a T) := by
  have h7 := h.2.1
  have hm := Nat.mod_lt a h0
  unfold drw lowP
  split
  · exact okK_up (okK_up h (by omega) (by omega)) (by omega) (by omega)
  · exact okK_up h (by omega) (by omega)
set_option maxRecDepth 100000 in
set_option maxHeartbeats 4000000 in
theorem k_drawn_st {G : mj_G} {h : mj_H} {d : Nat} {σ : Nat → Nat → Int32} (hX : XS G h σ) {x y z : Int32} (hb : ¬ 0 < σ 0 2) (hd : 2 ≤ d) : mj_con G MX4_drawn d 0 0 [.ref (G.1 + 0), .int x, .int y, .int z] h (rI (-1000002) h) := by
  refine mj_conV okX4_drawn (ls := [some (.ref (G.1 + 0)), some (.int x), some (.int y), some (.int z), none, none, none, none]) rfl rfl ?_
  obtain ⟨x0, x1, xt, xn, xf, xa, x188, x189, xr, xi⟩ := id hX
  obtain ⟨n0, n1, n2, n3, n4, n5, n6⟩ := id xn
  have a18 := xa.1
  have t2 := xt.1
  have t3 := xt.2
  refine s_aload_n (n := 1) (i := 0) dX4_drawn_0 rfl rfl rfl ?_
  refine gf_X4_25 (n := 4) rfl dX4_drawn_1 rfl (by assumption) (by rfl) ?_
  refine s_v0 (M' := MX2_stands) (n := 7) (ci := 2) dX4_drawn_4 rfl wd_X4_137 okX2_stands rfl rfl (by omega) ⟨Nat.le_refl _, Nat.le_refl _⟩ (by assumption) (c_stands (d := d - 1) xn) ?_
  rintro v4 hh4 ⟨rfl, rfl⟩
  refine s_if_ne (n := 10) (tgt := 13) dX4_drawn_7 rfl rfl (fun b7 => ?_) (fun b7 => ?_)
  · exact absurd (if1 b7) (hb)
  · refine s_ldc (n := 12) dX4_drawn_10 rfl wd_X4_136 ?_
    refine s_ireturn dX4_drawn_12 rfl (rfl) (Nat.le_refl _) (Nat.le_refl _) ?_
    exact ⟨rfl, rfl⟩
set_option maxRecDepth 100000 in
set_option maxHeartbeats 4000000 in
theorem k_drawn_bad {G : mj_G} {h : mj_H} {d : Nat} {σ : Nat → Nat → Int32} (hX : XS G h σ) {x y z : Int32} (h0 : 0 < σ 0 2) (hb : ¬ (Wi x 0 60 ∧ Wi y 1 999999 ∧ Wi z 0 1)) (hd : 2 ≤ d) : mj_con G MX4_drawn d 0 0 [.ref (G.1 + 0), .int x, .int y, .int z] h (rI (-1000001) h) := by
  refine mj_conV okX4_drawn (ls := [some (.ref (G.1 + 0)), some (.int x), some (.int y), some (.int z), none, none, none, none]) rfl rfl ?_
  obtain ⟨x0, x1, xt, xn, xf, xa, x188, x189, xr, xi⟩ := id hX
  obtain ⟨n0, n1, n2, n3, n4, n5, n6⟩ := id xn
  have a18 := xa.1
  have t2 := xt.1
  have t3 := xt.2
  refine s_aload_n (n := 1) (i := 0) dX4_drawn_0 rfl rfl rfl ?_
  refine gf_X4_25 (n := 4) rfl dX4_drawn_1 rfl (by assumption) (by rfl) ?_
  refine s_v0 (M' := MX2_stands) (n := 7) (ci := 2) dX4_drawn_4 rfl wd_X4_137 okX2_stands rfl rfl (by omega) ⟨Nat.le_refl _, Nat.le_refl _⟩ (by assumption) (c_stands (d := d - 1) xn) ?_
  rintro v4 hh4 ⟨rfl, rfl⟩
  refine s_if_ne (n := 10) (tgt := 13) dX4_drawn_7 rfl rfl (fun b7 => ?_) (fun b7 => ?_)
  · refine s_iload_n (n := 14) (i := 1) dX4_drawn_13 rfl rfl rfl ?_
    refine s_iconst (n := 15) (v := 0) dX4_drawn_14 rfl (by decide) ?_
    refine s_bipush (n := 17) (v := 60) dX4_drawn_15 rfl (by decide) ?_
    refine s_s3 (M' := MX4_isWithin) (n := 20) dX4_drawn_17 rfl wd_X4_52 okX4_isWithin rfl (by omega) ⟨Nat.le_refl _, Nat.le_refl _⟩ (c_within (d := d - 1) (A := 0) (B := 60) (by decide) (by decide)) ?_
    rintro v17 hh17 ⟨rfl, rfl⟩
    refine s_if_eq (n := 23) (tgt := 42) dX4_drawn_20 rfl rfl (fun b20 => ?_) (fun b20 => ?_)
    · refine s_ldc (n := 44) dX4_drawn_42 rfl wd_X4_56 ?_
      refine s_ireturn dX4_drawn_44 rfl (rfl) (Nat.le_refl _) (Nat.le_refl _) ?_
      exact ⟨rfl, rfl⟩
    · refine s_iload_n (n := 24) (i := 2) dX4_drawn_23 rfl rfl rfl ?_
      refine s_iconst (n := 25) (v := 1) dX4_drawn_24 rfl (by decide) ?_
      refine s_ldc (n := 27) dX4_drawn_25 rfl wd_X4_246 ?_
      refine s_s3 (M' := MX4_isWithin) (n := 30) dX4_drawn_27 rfl wd_X4_52 okX4_isWithin rfl (by omega) ⟨Nat.le_refl _, Nat.le_refl _⟩ (c_within (d := d - 1) (A := 1) (B := 999999) (by decide) (by decide)) ?_
      rintro v27 hh27 ⟨rfl, rfl⟩
      refine s_if_eq (n := 33) (tgt := 42) dX4_drawn_30 rfl rfl (fun b30 => ?_) (fun b30 => ?_)
      · refine s_ldc (n := 44) dX4_drawn_42 rfl wd_X4_56 ?_
        refine s_ireturn dX4_drawn_44 rfl (rfl) (Nat.le_refl _) (Nat.le_refl _) ?_
        exact ⟨rfl, rfl⟩
      · refine s_iload_n (n := 34) (i := 3) dX4_drawn_33 rfl rfl rfl ?_
        refine s_iconst (n := 35) (v := 0) dX4_drawn_34 rfl (by decide) ?_
        refine s_iconst (n := 36) (v := 1) dX4_drawn_35 rfl (by decide) ?_
        refine s_s3 (M' := MX4_isWithin) (n := 39) dX4_drawn_36 rfl wd_X4_52 okX4_isWithin rfl (by omega) ⟨Nat.le_refl _, Nat.le_refl _⟩ (c_within (d := d - 1) (A := 0) (B := 1) (by decide) (by decide)) ?_
        rintro v36 hh36 ⟨rfl, rfl⟩
        refine s_if_ne (n := 42) (tgt := 45) dX4_drawn_39 rfl rfl (fun b39 => ?_) (fun b39 => ?_)
        · exact absurd (⟨if1 b20, if1 b30, if1 b39⟩) hb
        · refine s_ldc (n := 44) dX4_drawn_42 rfl wd_X4_56 ?_
          refine s_ireturn dX4_drawn_44 rfl (rfl) (Nat.le_refl _) (Nat.le_refl _) ?_
          exact ⟨rfl, rfl⟩
  · exact absurd (h0) (if0 b7)
set_option maxRecDepth 100000 in
set_option maxHeartbeats 4000000 in
theorem l_drawn {G : mj_G} {h0 : mj_H} {d n k : Nat} {σ : Nat → Nat → Int32} {w y : Int32} (hn0 : 0 < n) (hk : k ≤ 60) (hd : 6 ≤ d) : ∀ (r i : Nat), i + r = k → ∀ (h : mj_H) (F : Nat → Int32) (a : Nat) (mo : Int32), a < 2147483648 → XS G h (u2 σ 1 F) → okK n F → mj_fr 0 220 h0 h → mj_wp G MX4_drawn d 0 0 66 [some (.ref (G.1 + 0)), some (.int (nI k)), some (.int y), some (.int w), some (.long (lN a)), none, some (.int mo), some (.int (nI i))] [] h 0 0 (rF G σ (if w = 0 then (drF n r a F mo).1 5 else (drF n r a F mo).2) h0) := by
  intro r
  induction r with
  | zero =>
    intro i hi h F a mo ha hX hok hFx
    obtain ⟨x0, x1, xt, xn, xf, xa, x188, x189, xr, xi⟩ := id hX
    replace x0 : _ = XO G (σ 42) := x0
    replace xn : mj_St G _ 4 (σ 0) := xn
    replace xf : mj_St G _ 11 (F) := xf
    obtain ⟨n0, n1, n2, n3, n4, n5, n6⟩ := id xn
    obtain ⟨f0, f1, f2, f3, f4, f5, f6⟩ := id xf
    refine s_iload (n := 68) dX4_drawn_66 rfl rfl ?_
    refine s_iload_n (n := 69) (i := 1) dX4_drawn_68 rfl rfl rfl ?_
    refine s_icmp_ge (n := 72) (tgt := 121) dX4_drawn_69 rfl rfl (fun b69 => ?_) (fun b69 => ?_)
    · refine s_iload_n (n := 122) (i := 3) dX4_drawn_121 rfl rfl rfl ?_
      refine s_if_ne (n := 125) (tgt := 135) dX4_drawn_122 rfl rfl (fun b122 => ?_) (fun b122 => ?_)
      · refine s_iload (n := 137) dX4_drawn_135 rfl rfl ?_
        refine s_ireturn dX4_drawn_137 rfl (rfl) (Nat.le_refl _) (Nat.le_refl _) ?_
        refine ⟨?_, _, hX, hFx⟩
        first | rw [if_neg b122] | rw [if_pos b122]
        rfl
      · refine s_aload_n (n := 126) (i := 0) dX4_drawn_125 rfl rfl rfl ?_
        refine gf_X4_29 (n := 129) rfl dX4_drawn_126 rfl (by assumption) (by rfl) ?_
        refine gf_X4_149 (n := 132) rfl dX4_drawn_129 rfl (by assumption) (by rfl) ?_
        refine s_goto (tgt := 137) dX4_drawn_132 rfl ?_
        refine s_ireturn dX4_drawn_137 rfl (rfl) (Nat.le_refl _) (Nat.le_refl _) ?_
        refine ⟨?_, _, hX, hFx⟩
        first | rw [if_neg b122] | rw [if_pos b122]
        rfl
    · exact absurd ((nI_leE (by omega) (by omega)).mpr (by omega)) b69
  | succ r ih =>
    intro i hi h F a mo ha hX hok hFx
    obtain ⟨x0, x1, xt, xn, xf, xa, x188, x189, xr, xi⟩ := id hX
    replace x0 : _ = XO G (σ 42) := x0
    replace xn : mj_St G _ 4 (σ 0) := xn
    replace xf : mj_St G _ 11 (F) := xf
    obtain ⟨n0, n1, n2, n3, n4, n5, n6⟩ := id xn
    obtain ⟨f0, f1, f2, f3, f4, f5, f6⟩ := id xf
    refine s_iload (n := 68) dX4_drawn_66 rfl rfl ?_
    refine s_iload_n (n := 69) (i := 1) dX4_drawn_68 rfl rfl rfl ?_
    refine s_icmp_ge (n := 72) (tgt := 121) dX4_drawn_69 rfl rfl (fun b69 => ?_) (fun b69 => ?_)
    · exact absurd ((nI_leE (by omega) (by omega)).mp b69) (by omega)
    · refine s_lload (n := 74) dX4_drawn_72 rfl rfl ?_
      refine s_ldc2 (n := 77) dX4_drawn_74 rfl wd_X4_247 ?_
      refine s_lmul (n := 78) dX4_drawn_77 rfl ?_
      refine s_ldc2 (n := 81) dX4_drawn_78 rfl wd_X4_249 ?_
      refine s_lrem (n := 82) dX4_drawn_81 rfl (by first | assumption | decide) ?_
      rw [lN_nxt ha]
      refine s_lstore (n := 84) (i := 4) (ls' := [_, _, _, _, _, _, _, _]) dX4_drawn_82 rfl rfl rfl rfl ?_
      refine s_aload_n (n := 85) (i := 0) dX4_drawn_84 rfl rfl rfl ?_
      refine gf_X4_29 (n := 88) rfl dX4_drawn_85 rfl (by assumption) (by rfl) ?_
      refine s_lload (n := 90) dX4_drawn_88 rfl rfl ?_
      refine s_l2i (n := 91) dX4_drawn_90 rfl ?_
      rw [lN_i]
      refine s_v1 (M' := MX2_takeDraw) (n := 94) (ci := 2) dX4_drawn_91 rfl wd_X4_251 okX2_takeDraw rfl rfl (by omega) ⟨Nat.le_refl _, Nat.le_refl _⟩ (by assumption) (c_takeDraw (d := d - 1) xf hok.1 hn0 hok.2.1 (by have := @nxt_lt a; omega) (by omega)) ?_
      rintro v91 hh91 ⟨rfl, hS2, hF2⟩
      replace hX := XS_for2 hX hS2 hF2
      replace hFx := fr_tr hFx (fr_wid (p' := 0) (w' := 220) hF2 (by omega) (by omega))
      obtain ⟨x0, x1, xt, xn, xf, xa, x188, x189, xr, xi⟩ := id hX
      replace x0 : _ = XO G (σ 42) := x0
      replace xn : mj_St G _ 4 (σ 0) := xn
      replace xf : mj_St G _ 11 (drw n (nxt a) F) := xf
      obtain ⟨n0, n1, n2, n3, n4, n5, n6⟩ := id xn
      obtain ⟨f0, f1, f2, f3, f4, f5, f6⟩ := id xf
      refine s_aload_n (n := 95) (i := 0) dX4_drawn_94 rfl rfl rfl ?_
      refine gf_X4_29 (n := 98) rfl dX4_drawn_95 rfl (by assumption) (by rfl) ?_
      refine s_v0 (M' := MX2_passMinute) (n := 101) (ci := 2) dX4_drawn_98 rfl wd_X4_146 okX2_passMinute rfl rfl (by omega) ⟨Nat.le_refl _, Nat.le_refl _⟩ (by assumption) (c_passMinute (d := d - 1) xf (okK_drw hn0 hok) (by omega)) ?_
      rintro v98 hh98 ⟨rfl, hS2, hF2⟩
      replace hX := XS_for2 hX hS2 hF2
      replace hFx := fr_tr hFx (fr_wid (p' := 0) (w' := 220) hF2 (by omega) (by omega))
      obtain ⟨x0, x1, xt, xn, xf, xa, x188, x189, xr, xi⟩ := id hX
      replace x0 : _ = XO G (σ 42) := x0
      replace xn : mj_St G _ 4 (σ 0) := xn
      replace xf : mj_St G _ 11 (mn n (drw n (nxt a) F)) := xf
      obtain ⟨n0, n1, n2, n3, n4, n5, n6⟩ := id xn
      obtain ⟨f0, f1, f2, f3, f4, f5, f6⟩ := id xf
      refine s_iload (n := 103) dX4_drawn_101 rfl rfl ?_
      refine s_aload_n (n := 104) (i := 0) dX4_drawn_103 rfl rfl rfl ?_
      refine gf_X4_29 (n := 107) rfl dX4_drawn_104 rfl (by assumption) (by rfl) ?_
      refine gf_X4_149 (n := 110) rfl dX4_drawn_107 rfl (by assumption) (by rfl) ?_
      refine s_max (n := 113) dX4_drawn_110 rfl wd_X4_254 (by omega) (by simp [Value.category]) (Nat.le_refl _) (Nat.le_refl _) ?_
      refine s_istore (n := 115) (i := 6) (ls' := [_, _, _, _, _, _, _, _]) dX4_drawn_113 rfl rfl rfl rfl ?_
      refine s_iinc (n := 118) (v := _ + 1) (ls' := [_, _, _, _, _, _, _, _]) dX4_drawn_115 rfl rfl rfl rfl rfl ?_
      refine s_goto (tgt := 66) dX4_drawn_118 rfl ?_
      rw [nI_1]
      exact ih (i + 1) (by omega) _ _ _ _ (by have := @nxt_lt a; omega) hX (okK_mn (okK_drw hn0 hok)) hFx
set_option maxRecDepth 100000 in
set_option maxHeartbeats 4000000 in
theorem k_drawn {G : mj_G} {h : mj_H} {d : Nat} {σ : Nat → Nat → Int32} (hX : XS G h σ) {n : Nat} (hn : σ 0 2 = nI n) (h7 : n ≤ 7) (hok : okK n (σ 0)) {k s : Nat} (hk : k ≤ 60) (hs1 : 1 ≤ s) (hs2 : s ≤ 999999) (h0 : 0 < σ 0 2) (hn0 : 0 < n) {w : Int32} (hw : Wi w 0 1) (hd : 6 ≤ d) : mj_con G MX4_drawn d 0 0 [.ref (G.1 + 0), .int (nI k), .int (nI s), .int w] h (rF G σ (if w = 0 then (drF n k s (σ 0) 0).1 5 else (drF n k s (σ 0) 0).2) h) := by
  refine mj_conV okX4_drawn (ls := [some (.ref (G.1 + 0)), some (.int (nI k)), some (.int (nI s)), some (.int w), none, none, none, none]) rfl rfl ?_
  replace hX := XS_f hX
  obtain ⟨x0, x1, xt, xn, xf, xa, x188, x189, xr, xi⟩ := id hX
  replace x0 : _ = XO G (σ 42) := x0
  replace xn : mj_St G _ 4 (σ 0) := xn
  replace xf : mj_St G _ 11 (σ 1) := xf
  obtain ⟨n0, n1, n2, n3, n4, n5, n6⟩ := id xn
  obtain ⟨f0, f1, f2, f3, f4, f5, f6⟩ := id xf
  refine s_aload_n (n := 1) (i := 0) dX4_drawn_0 rfl rfl rfl ?_
  refine gf_X4_25 (n := 4) rfl dX4_drawn_1 rfl (by assumption) (by rfl) ?_
  refine s_v0 (M' := MX2_stands) (n := 7) (ci := 2) dX4_drawn_4 rfl wd_X4_137 okX2_stands rfl rfl (by omega) ⟨Nat.le_refl _, Nat.le_refl _⟩ (by assumption) (c_stands (d := d - 1) xn) ?_
  rintro v4 hh4 ⟨rfl, rfl⟩
  refine s_if_ne (n := 10) (tgt := 13) dX4_drawn_7 rfl rfl (fun b7 => ?_) (fun b7 => ?_)
  · refine s_iload_n (n := 14) (i := 1) dX4_drawn_13 rfl rfl rfl ?_
    refine s_iconst (n := 15) (v := 0) dX4_drawn_14 rfl (by decide) ?_
    refine s_bipush (n := 17) (v := 60) dX4_drawn_15 rfl (by decide) ?_
    refine s_s3 (M' := MX4_isWithin) (n := 20) dX4_drawn_17 rfl wd_X4_52 okX4_isWithin rfl (by omega) ⟨Nat.le_refl _, Nat.le_refl _⟩ (c_within (d := d - 1) (A := 0) (B := 60) (by decide) (by decide)) ?_
    rintro v17 hh17 ⟨rfl, rfl⟩
    refine s_if_eq (n := 23) (tgt := 42) dX4_drawn_20 rfl rfl (fun b20 => ?_) (fun b20 => ?_)
    · exact absurd (Wi_n (by omega) (by omega) (by omega)) (if0 b20)
    · refine s_iload_n (n := 24) (i := 2) dX4_drawn_23 rfl rfl rfl ?_
      refine s_iconst (n := 25) (v := 1) dX4_drawn_24 rfl (by decide) ?_
      refine s_ldc (n := 27) dX4_drawn_25 rfl wd_X4_246 ?_
      refine s_s3 (M' := MX4_isWithin) (n := 30) dX4_drawn_27 rfl wd_X4_52 okX4_isWithin rfl (by omega) ⟨Nat.le_refl _, Nat.le_refl _⟩ (c_within (d := d - 1) (A := 1) (B := 999999) (by decide) (by decide)) ?_
      rintro v27 hh27 ⟨rfl, rfl⟩
      refine s_if_eq (n := 33) (tgt := 42) dX4_drawn_30 rfl rfl (fun b30 => ?_) (fun b30 => ?_)
      · exact absurd (Wi_n (by omega) (by omega) (by omega)) (if0 b30)
      · refine s_iload_n (n := 34) (i := 3) dX4_drawn_33 rfl rfl rfl ?_
        refine s_iconst (n := 35) (v := 0) dX4_drawn_34 rfl (by decide) ?_
        refine s_iconst (n := 36) (v := 1) dX4_drawn_35 rfl (by decide) ?_
        refine s_s3 (M' := MX4_isWithin) (n := 39) dX4_drawn_36 rfl wd_X4_52 okX4_isWithin rfl (by omega) ⟨Nat.le_refl _, Nat.le_refl _⟩ (c_within (d := d - 1) (A := 0) (B := 1) (by decide) (by decide)) ?_
        rintro v36 hh36 ⟨rfl, rfl⟩
        refine s_if_ne (n := 42) (tgt := 45) dX4_drawn_39 rfl rfl (fun b39 => ?_) (fun b39 => ?_)
        · refine s_aload_n (n := 46) (i := 0) dX4_drawn_45 rfl rfl rfl ?_
          refine gf_X4_29 (n := 49) rfl dX4_drawn_46 rfl (by assumption) (by rfl) ?_
          refine s_aload_n (n := 50) (i := 0) dX4_drawn_49 rfl rfl rfl ?_
          refine gf_X4_25 (n := 53) rfl dX4_drawn_50 rfl (by assumption) (by rfl) ?_
          refine s_v1 (M' := MX2_takeFrom) (n := 56) (ci := 2) dX4_drawn_53 rfl wd_X4_120 okX2_takeFrom rfl rfl (by omega) ⟨Nat.le_refl _, Nat.le_refl _⟩ (by assumption) (c_takeFrom (d := d - 1) xf xn (by omega) (by omega)) ?_
          rintro v53 hh53 ⟨rfl, hS1, hF1⟩
          replace hX := XS_for2 hX hS1 hF1
          have hFx := fr_wid (p' := 0) (w' := 220) hF1 (by omega) (by omega)
          obtain ⟨x0, x1, xt, xn, xf, xa, x188, x189, xr, xi⟩ := id hX
          replace x0 : _ = XO G (σ 42) := x0
          replace xn : mj_St G _ 4 (σ 0) := xn
          replace xf : mj_St G _ 11 (σ 0) := xf
          obtain ⟨n0, n1, n2, n3, n4, n5, n6⟩ := id xn
          obtain ⟨f0, f1, f2, f3, f4, f5, f6⟩ := id xf
          refine s_iload_n (n := 57) (i := 2) dX4_drawn_56 rfl rfl rfl ?_
          refine s_i2l (n := 58) dX4_drawn_57 rfl ?_
          rw [nI_l (by omega)]
          refine s_lstore (n := 60) (i := 4) (ls' := [_, _, _, _, _, _, _, _]) dX4_drawn_58 rfl rfl rfl rfl ?_
          refine s_iconst (n := 61) (v := 0) dX4_drawn_60 rfl (by decide) ?_
          refine s_istore (n := 63) (i := 6) (ls' := [_, _, _, _, _, _, _, _]) dX4_drawn_61 rfl rfl rfl rfl ?_
          refine s_iconst (n := 64) (v := 0) dX4_drawn_63 rfl (by decide) ?_
          refine s_istore (n := 66) (i := 7) (ls' := [_, _, _, _, _, _, _, _]) dX4_drawn_64 rfl rfl rfl rfl ?_
          exact l_drawn hn0 hk (by omega) k 0 (by omega) _ _ s _ (by omega) hX hok hFx
        · exact absurd (hw) (if0 b39)
  · exact absurd (h0) (if0 b7)
def asF (n j : Nat) (it : Nat → Int32) (i : Nat) : Nat → Nat → (Nat → Int32) → Int32
  | 0, _, _ => 1
  | r + 1, m, T => if mn n T (34 + j) = it (i + m) then asF n j it i r (m + 1) (mn n T) else 0
theorem mj_ixs {i m N : Nat} (h : i + m < N ∧ N < 2147483648) : mj_ix (nI i + nI m) N (i + m) := by
  rw [nI_add]
  exact mj_ixn h
theorem XS_rw {G : mj_G} {h : mj_H} {σ : Nat → Nat → Int32} {F : Nat → Int32} (hX : XS G h (u2 σ 1 F)) {r : Nat} (hr : r < 8) : mj_Rw G h (190 + 2 * r) (σ 29 r) (σ 30 r) (σ (34 + r)) := by
  have q := hX.2.2.2.2.2.2.2.2.1 r hr
  rw [u2_ne (by omega), u2_ne (by omega), u2_ne (by omega)] at q
  exact q
set_option maxRecDepth 100000 in
set_option maxHeartbeats 4000000 in
theorem l_isAsTold {G : mj_G} {h0 : mj_H} {d n j a i k : Nat} {σ : Nat → Nat → Int32} (hj : j < 7) (ha : a < 8) (hik : i + k ≤ 40) (hd : 4 ≤ d) : ∀ (r m : Nat), m + r = k → ∀ (h : mj_H) (F : Nat → Int32), XS G h (u2 σ 1 F) → okK n F → mj_fr 0 220 h0 h → mj_wp G MX4_isAsTold d 0 0 3 [some (.ref (G.1 + 0)), some (.int (nI j)), some (.ref (G.1 + (190 + 2 * a))), some (.int (nI i)), some (.int (nI k)), some (.int (nI m))] [] h 0 0 (rF G σ (asF n j (σ (34 + a)) i r m F) h0) := by
  intro r
  induction r with
  | zero =>
    intro m hm h F hX hok hFx
    obtain ⟨x0, x1, xt, xn, xf, xa, x188, x189, xr, xi⟩ := id hX
    replace x0 : _ = XO G (σ 42) := x0
    replace xn : mj_St G _ 4 (σ 0) := xn
    replace xf : mj_St G _ 11 (F) := xf
    obtain ⟨n0, n1, n2, n3, n4, n5, n6⟩ := id xn
    obtain ⟨f0, f1, f2, f3, f4, f5, f6⟩ := id xf
    refine s_iload (n := 5) dX4_isAsTold_3 rfl rfl ?_
    refine s_iload (n := 7) dX4_isAsTold_5 rfl rfl ?_
    refine s_icmp_ge (n := 10) (tgt := 46) dX4_isAsTold_7 rfl rfl (fun b7 => ?_) (fun b7 => ?_)
    · refine s_iconst (n := 47) (v := 1) dX4_isAsTold_46 rfl (by decide) ?_
      refine s_ireturn dX4_isAsTold_47 rfl (rfl) (Nat.le_refl _) (Nat.le_refl _) ?_
      exact ⟨rfl, _, hX, hFx⟩
    · exact absurd ((nI_leE (by omega) (by omega)).mpr (by omega)) b7
  | succ r ih =>
    intro m hm h F hX hok hFx
    obtain ⟨x0, x1, xt, xn, xf, xa, x188, x189, xr, xi⟩ := id hX
    replace x0 : _ = XO G (σ 42) := x0
    replace xn : mj_St G _ 4 (σ 0) := xn
    replace xf : mj_St G _ 11 (F) := xf
    obtain ⟨n0, n1, n2, n3, n4, n5, n6⟩ := id xn
    obtain ⟨f0, f1, f2, f3, f4, f5, f6⟩ := id xf
    refine s_iload (n := 5) dX4_isAsTold_3 rfl rfl ?_
    refine s_iload (n := 7) dX4_isAsTold_5 rfl rfl ?_
    refine s_icmp_ge (n := 10) (tgt := 46) dX4_isAsTold_7 rfl rfl (fun b7 => ?_) (fun b7 => ?_)
    · exact absurd ((nI_leE (by omega) (by omega)).mp b7) (by omega)
    · refine s_aload_n (n := 11) (i := 0) dX4_isAsTold_10 rfl rfl rfl ?_
      refine gf_X4_29 (n := 14) rfl dX4_isAsTold_11 rfl (by assumption) (by rfl) ?_
      refine s_v0 (M' := MX2_passMinute) (n := 17) (ci := 2) dX4_isAsTold_14 rfl wd_X4_146 okX2_passMinute rfl rfl (by omega) ⟨Nat.le_refl _, Nat.le_refl _⟩ (by assumption) (c_passMinute (d := d - 1) xf (hok) (by omega)) ?_
      rintro v14 hh14 ⟨rfl, hS2, hF2⟩
      replace hX := XS_for2 hX hS2 hF2
      replace hFx := fr_tr hFx (fr_wid (p' := 0) (w' := 220) hF2 (by omega) (by omega))
      obtain ⟨x0, x1, xt, xn, xf, xa, x188, x189, xr, xi⟩ := id hX
      replace x0 : _ = XO G (σ 42) := x0
      replace xn : mj_St G _ 4 (σ 0) := xn
      replace xf : mj_St G _ 11 (mn n (F)) := xf
      obtain ⟨n0, n1, n2, n3, n4, n5, n6⟩ := id xn
      obtain ⟨f0, f1, f2, f3, f4, f5, f6⟩ := id xf
      have r0 := (XS_rw hX ha).1
      have r1 := (XS_rw hX ha).2
      refine s_aload_n (n := 18) (i := 0) dX4_isAsTold_17 rfl rfl rfl ?_
      refine gf_X4_29 (n := 21) rfl dX4_isAsTold_18 rfl (by assumption) (by rfl) ?_
      refine gf_X4_180 (n := 24) rfl dX4_isAsTold_21 rfl (by assumption) (by rfl) ?_
      refine s_iload_n (n := 25) (i := 1) dX4_isAsTold_24 rfl rfl rfl ?_
      first | refine s_ials (n := 26) dX4_isAsTold_25 rfl (by assumption) (mj_ixn (by omega)) ?_ | refine s_iald (n := 26) dX4_isAsTold_25 rfl (by assumption) (mj_ixn (by omega)) ?_
      refine s_aload_n (n := 27) (i := 2) dX4_isAsTold_26 rfl rfl rfl ?_
      refine gf_X4_87 (n := 30) rfl dX4_isAsTold_27 rfl (by assumption) (by rfl) ?_
      refine s_iload_n (n := 31) (i := 3) dX4_isAsTold_30 rfl rfl rfl ?_
      refine s_iload (n := 33) dX4_isAsTold_31 rfl rfl ?_
      refine s_iadd (n := 34) dX4_isAsTold_33 rfl ?_
      first | refine s_ials (n := 35) dX4_isAsTold_34 rfl (by assumption) (mj_ixs (by omega)) ?_ | refine s_iald (n := 35) dX4_isAsTold_34 rfl (by assumption) (mj_ixs (by omega)) ?_
      refine s_icmp_eq (n := 38) (tgt := 40) dX4_isAsTold_35 rfl rfl (fun b35 => ?_) (fun b35 => ?_)
      · refine s_iinc (n := 43) (v := _ + 1) (ls' := [_, _, _, _, _, _]) dX4_isAsTold_40 rfl rfl rfl rfl rfl ?_
        refine s_goto (tgt := 3) dX4_isAsTold_43 rfl ?_
        rw [nI_1]
        unfold asF
        rw [if_pos b35]
        exact ih (m + 1) (by omega) _ _ hX (okK_mn hok) hFx
      · refine s_iconst (n := 39) (v := 0) dX4_isAsTold_38 rfl (by decide) ?_
        refine s_ireturn dX4_isAsTold_39 rfl (rfl) (Nat.le_refl _) (Nat.le_refl _) ?_
        unfold asF
        rw [if_neg b35]
        exact ⟨rfl, _, hX, hFx⟩
set_option maxRecDepth 100000 in
set_option maxHeartbeats 4000000 in
theorem c_isAsTold {G : mj_G} {h : mj_H} {d : Nat} {σ : Nat → Nat → Int32} {F : Nat → Int32} (hX : XS G h (u2 σ 1 F)) {n j a i k : Nat} (hj : j < 7) (ha : a < 8) (hik : i + k ≤ 40) (hok : okK n F) (hd : 4 ≤ d) : mj_con G MX4_isAsTold d 0 0 [.ref (G.1 + 0), .int (nI j), .ref (G.1 + (190 + 2 * a)), .int (nI i), .int (nI k)] h (rF G σ (asF n j (σ (34 + a)) i k 0 F) h) := by
  refine mj_conV okX4_isAsTold (ls := [some (.ref (G.1 + 0)), some (.int (nI j)), some (.ref (G.1 + (190 + 2 * a))), some (.int (nI i)), some (.int (nI k)), none]) rfl rfl ?_
  obtain ⟨x0, x1, xt, xn, xf, xa, x188, x189, xr, xi⟩ := id hX
  replace x0 : _ = XO G (σ 42) := x0
  replace xn : mj_St G _ 4 (σ 0) := xn
  replace xf : mj_St G _ 11 (F) := xf
  obtain ⟨n0, n1, n2, n3, n4, n5, n6⟩ := id xn
  obtain ⟨f0, f1, f2, f3, f4, f5, f6⟩ := id xf
  refine s_iconst (n := 1) (v := 0) dX4_isAsTold_0 rfl (by decide) ?_
  refine s_istore (n := 3) (i := 5) (ls' := [_, _, _, _, _, _]) dX4_isAsTold_1 rfl rfl rfl rfl ?_
  exact l_isAsTold hj ha hik (by omega) k 0 (by omega) _ _ hX hok fr_rf
def fitF (n j j2 o : Nat) (it : Nat → Int32) (i k : Nat) (T : Nat → Int32) : Nat → Nat → Int32 → Int32
  | 0, _, acc => acc
  | r + 1, v, acc => if asF n j2 it i k 0 (upd T (o + j) (nI v)) = 0 then fitF n j j2 o it i k T r (v + 1) acc else fitF n j j2 o it i k T r (v + 1) (acc ||| (1 <<< (nI v &&& 31)))
theorem okK_kind {n j v : Nat} {T : Nat → Int32} (h : okK n T) (hj : j < n) (h1 : 1 ≤ v) (h5 : v ≤ 5) : okK n (upd T (6 + j) (nI v)) := by
  have h7 := h.2.1
  refine ⟨by rw [up_ne (by omega)]; exact h.1, h7, fun i hi => ?_⟩
  rw [up_ne (by omega)]
  refine ⟨(h.2.2 i hi).1, ?_⟩
  by_cases e : i = j
  · subst e
    rw [up_eq]
    match v, h1, h5 with
    | 1, _, _ => exact Or.inl rfl
    | 2, _, _ => exact Or.inr (Or.inl rfl)
    | 3, _, _ => exact Or.inr (Or.inr (Or.inl rfl))
    | 4, _, _ => exact Or.inr (Or.inr (Or.inr (Or.inl rfl)))
    | 5, _, _ => exact Or.inr (Or.inr (Or.inr (Or.inr rfl)))
  · rw [up_ne (by omega)]
    exact (h.2.2 i hi).2
theorem okK_keeps {n j v : Nat} {T : Nat → Int32} (h : okK n T) (hj : j < n) (h1 : 1 ≤ v) (h5 : v ≤ 9) : okK n (upd T (20 + j) (nI v)) := by
  have h7 := h.2.1
  refine ⟨by rw [up_ne (by omega)]; exact h.1, h7, fun i hi => ?_⟩
  rw [up_ne (j := 6 + i) (by omega)]
  refine ⟨?_, (h.2.2 i hi).2⟩
  by_cases e : i = j
  · subst e
    rw [up_eq]
    exact (nI_ltE (a := 0) (by omega) (by omega)).mpr (by omega)
  · rw [up_ne (by omega)]
    exact (h.2.2 i hi).1
set_option maxRecDepth 100000 in
set_option maxHeartbeats 4000000 in
theorem l_fit0 {G : mj_G} {h0 : mj_H} {d n j j2 a i k : Nat} {σ : Nat → Nat → Int32} (hj : j < n) (hj2 : j2 < n) (ha : a < 8) (hik : i + k ≤ 40) (hok : okK n (σ 0)) (hd : 5 ≤ d) : ∀ (r v : Nat), v + r = 6 → 1 ≤ v → ∀ (h : mj_H) (F : Nat → Int32) (acc : Int32), XS G h (u2 σ 1 F) → mj_fr 0 220 h0 h → mj_wp G MX4_allThatFit d 0 0 41 [some (.ref (G.1 + 0)), some (.int (nI j)), some (.int 0), some (.int (nI j2)), some (.ref (G.1 + (190 + 2 * a))), some (.int (nI i)), some (.int (nI k)), some (.int 1), some (.int 5), some (.int acc), some (.int (nI v))] [] h 0 0 (rF G σ (fitF n j j2 6 (σ (34 + a)) i k (σ 0) r v acc) h0) := by
  have h7 := hok.2.1
  intro r
  induction r with
  | zero =>
    intro v hv hv1 h F acc hX hFx
    obtain ⟨x0, x1, xt, xn, xf, xa, x188, x189, xr, xi⟩ := id hX
    replace x0 : _ = XO G (σ 42) := x0
    replace xn : mj_St G _ 4 (σ 0) := xn
    replace xf : mj_St G _ 11 (F) := xf
    obtain ⟨n0, n1, n2, n3, n4, n5, n6⟩ := id xn
    obtain ⟨f0, f1, f2, f3, f4, f5, f6⟩ := id xf
    refine s_iload (n := 43) dX4_allThatFit_41 rfl rfl ?_
    refine s_iload (n := 45) dX4_allThatFit_43 rfl rfl ?_
    refine s_icmp_gt (n := 48) (tgt := 156) dX4_allThatFit_45 rfl rfl (fun b45 => ?_) (fun b45 => ?_)
    · refine s_iload (n := 158) dX4_allThatFit_156 rfl rfl ?_
      refine s_ireturn dX4_allThatFit_158 rfl (rfl) (Nat.le_refl _) (Nat.le_refl _) ?_
      exact ⟨rfl, _, hX, hFx⟩
    · exact absurd ((nI_ltE (a := 5) (by omega) (by omega)).mpr (by omega)) b45
  | succ r ih =>
    intro v hv hv1 h F acc hX hFx
    obtain ⟨x0, x1, xt, xn, xf, xa, x188, x189, xr, xi⟩ := id hX
    replace x0 : _ = XO G (σ 42) := x0
    replace xn : mj_St G _ 4 (σ 0) := xn
    replace xf : mj_St G _ 11 (F) := xf
    obtain ⟨n0, n1, n2, n3, n4, n5, n6⟩ := id xn
    obtain ⟨f0, f1, f2, f3, f4, f5, f6⟩ := id xf
    refine s_iload (n := 43) dX4_allThatFit_41 rfl rfl ?_
    refine s_iload (n := 45) dX4_allThatFit_43 rfl rfl ?_
    refine s_icmp_gt (n := 48) (tgt := 156) dX4_allThatFit_45 rfl rfl (fun b45 => ?_) (fun b45 => ?_)
    · exact absurd ((nI_ltE (a := 5) (by omega) (by omega)).mp b45) (by omega)
    · refine s_aload_n (n := 49) (i := 0) dX4_allThatFit_48 rfl rfl rfl ?_
      refine gf_X4_29 (n := 52) rfl dX4_allThatFit_49 rfl (by assumption) (by rfl) ?_
      refine s_aload_n (n := 53) (i := 0) dX4_allThatFit_52 rfl rfl rfl ?_
      refine gf_X4_25 (n := 56) rfl dX4_allThatFit_53 rfl (by assumption) (by rfl) ?_
      refine s_v1 (M' := MX2_takeFrom) (n := 59) (ci := 2) dX4_allThatFit_56 rfl wd_X4_120 okX2_takeFrom rfl rfl (by omega) ⟨Nat.le_refl _, Nat.le_refl _⟩ (by assumption) (c_takeFrom (d := d - 1) xf xn (by omega) (by omega)) ?_
      rintro v56 hh56 ⟨rfl, hS1, hF1⟩
      replace hX := XS_for2 hX hS1 hF1
      replace hFx := fr_tr hFx (fr_wid (p' := 0) (w' := 220) hF1 (by omega) (by omega))
      obtain ⟨x0, x1, xt, xn, xf, xa, x188, x189, xr, xi⟩ := id hX
      replace x0 : _ = XO G (σ 42) := x0
      replace xn : mj_St G _ 4 (σ 0) := xn
      replace xf : mj_St G _ 11 (σ 0) := xf
      obtain ⟨n0, n1, n2, n3, n4, n5, n6⟩ := id xn
      obtain ⟨f0, f1, f2, f3, f4, f5, f6⟩ := id xf
      refine s_iload_n (n := 60) (i := 2) dX4_allThatFit_59 rfl rfl rfl ?_
      refine t_X4_allThatFit_60 dX4_allThatFit_60 (fun e0 => ?_) (fun e1 => ?_) (fun e0 e1 => ?_)
      · refine s_aload_n (n := 89) (i := 0) dX4_allThatFit_88 rfl rfl rfl ?_
        refine gf_X4_29 (n := 92) rfl dX4_allThatFit_89 rfl (by assumption) (by rfl) ?_
        refine gf_X4_259 (n := 95) rfl dX4_allThatFit_92 rfl (by assumption) (by rfl) ?_
        refine s_iload_n (n := 96) (i := 1) dX4_allThatFit_95 rfl rfl rfl ?_
        refine s_iload (n := 98) dX4_allThatFit_96 rfl rfl ?_
        refine s_iast (n := 99) dX4_allThatFit_98 rfl (by assumption) (mj_ixn (by omega)) ?_
        refine XF_kind (by omega) hX (fun h2 hX2 hF2 => ?_)
        replace hX := hX2
        replace hFx := fr_tr hFx hF2
        obtain ⟨x0, x1, xt, xn, xf, xa, x188, x189, xr, xi⟩ := id hX
        replace x0 : _ = XO G (σ 42) := x0
        replace xn : mj_St G _ 4 (σ 0) := xn
        replace xf : mj_St G _ 11 (upd (σ 0) (6 + j) (nI v)) := xf
        obtain ⟨n0, n1, n2, n3, n4, n5, n6⟩ := id xn
        obtain ⟨f0, f1, f2, f3, f4, f5, f6⟩ := id xf
        refine s_goto (tgt := 127) dX4_allThatFit_99 rfl ?_
        refine s_aload_n (n := 128) (i := 0) dX4_allThatFit_127 rfl rfl rfl ?_
        refine s_iload_n (n := 129) (i := 3) dX4_allThatFit_128 rfl rfl rfl ?_
        refine s_aload (n := 131) dX4_allThatFit_129 rfl rfl ?_
        refine s_iload (n := 133) dX4_allThatFit_131 rfl rfl ?_
        refine s_iload (n := 135) dX4_allThatFit_133 rfl rfl ?_
        refine s_v4 (M' := MX4_isAsTold) (n := 138) (ci := 4) dX4_allThatFit_135 rfl wd_X4_282 okX4_isAsTold rfl rfl (by omega) ⟨Nat.le_refl _, Nat.le_refl _⟩ (by assumption) (c_isAsTold (d := d - 1) hX (by omega) ha hik (okK_kind hok hj (by omega) (by omega)) (by omega)) ?_
        rintro v135 hh135 ⟨rfl, F2, hX2, hF3⟩
        replace hX := hX2
        replace hFx := fr_tr hFx hF3
        obtain ⟨x0, x1, xt, xn, xf, xa, x188, x189, xr, xi⟩ := id hX
        replace x0 : _ = XO G (σ 42) := x0
        replace xn : mj_St G _ 4 (σ 0) := xn
        replace xf : mj_St G _ 11 (F2) := xf
        obtain ⟨n0, n1, n2, n3, n4, n5, n6⟩ := id xn
        obtain ⟨f0, f1, f2, f3, f4, f5, f6⟩ := id xf
        refine s_if_eq (n := 141) (tgt := 150) dX4_allThatFit_138 rfl rfl (fun b138 => ?_) (fun b138 => ?_)
        · have e : fitF n j j2 6 (σ (34 + a)) i k (σ 0) (r + 1) v acc = fitF n j j2 6 (σ (34 + a)) i k (σ 0) r (v + 1) acc := if_pos b138
          refine s_iinc (n := 153) (v := _ + 1) (ls' := [_, _, _, _, _, _, _, _, _, _, _]) dX4_allThatFit_150 rfl rfl rfl rfl rfl ?_
          refine s_goto (tgt := 41) dX4_allThatFit_153 rfl ?_
          rw [nI_1, e]
          exact ih (v + 1) (by omega) (by omega) _ _ _ hX hFx
        · have e : fitF n j j2 6 (σ (34 + a)) i k (σ 0) (r + 1) v acc = fitF n j j2 6 (σ (34 + a)) i k (σ 0) r (v + 1) (acc ||| (1 <<< (nI v &&& 31))) := if_neg b138
          refine s_iload (n := 143) dX4_allThatFit_141 rfl rfl ?_
          refine s_iconst (n := 144) (v := 1) dX4_allThatFit_143 rfl (by decide) ?_
          refine s_iload (n := 146) dX4_allThatFit_144 rfl rfl ?_
          refine s_ishl (n := 147) dX4_allThatFit_146 rfl ?_
          refine s_ior (n := 148) dX4_allThatFit_147 rfl ?_
          refine s_istore (n := 150) (i := 9) (ls' := [_, _, _, _, _, _, _, _, _, _, _]) dX4_allThatFit_148 rfl rfl rfl rfl ?_
          refine s_iinc (n := 153) (v := _ + 1) (ls' := [_, _, _, _, _, _, _, _, _, _, _]) dX4_allThatFit_150 rfl rfl rfl rfl rfl ?_
          refine s_goto (tgt := 41) dX4_allThatFit_153 rfl ?_
          rw [nI_1, e]
          exact ih (v + 1) (by omega) (by omega) _ _ _ hX hFx
      · exact absurd e1 (by decide)
      · exact absurd rfl e0
set_option maxRecDepth 100000 in
set_option maxHeartbeats 4000000 in
theorem c_fit0 {G : mj_G} {h : mj_H} {d : Nat} {σ : Nat → Nat → Int32} {F : Nat → Int32} (hX : XS G h (u2 σ 1 F)) {n j j2 a i k : Nat} (hj : j < n) (hj2 : j2 < n) (ha : a < 8) (hik : i + k ≤ 40) (hok : okK n (σ 0)) (hd : 5 ≤ d) : mj_con G MX4_allThatFit d 0 0 [.ref (G.1 + 0), .int (nI j), .int 0, .int (nI j2), .ref (G.1 + (190 + 2 * a)), .int (nI i), .int (nI k)] h (rF G σ (fitF n j j2 6 (σ (34 + a)) i k (σ 0) 5 1 0) h) := by
  refine mj_conV okX4_allThatFit (ls := [some (.ref (G.1 + 0)), some (.int (nI j)), some (.int 0), some (.int (nI j2)), some (.ref (G.1 + (190 + 2 * a))), some (.int (nI i)), some (.int (nI k)), none, none, none, none]) rfl rfl ?_
  obtain ⟨x0, x1, xt, xn, xf, xa, x188, x189, xr, xi⟩ := id hX
  replace x0 : _ = XO G (σ 42) := x0
  replace xn : mj_St G _ 4 (σ 0) := xn
  replace xf : mj_St G _ 11 (F) := xf
  obtain ⟨n0, n1, n2, n3, n4, n5, n6⟩ := id xn
  obtain ⟨f0, f1, f2, f3, f4, f5, f6⟩ := id xf
  refine s_iload_n (n := 1) (i := 2) dX4_allThatFit_0 rfl rfl rfl ?_
  refine s_iconst (n := 2) (v := 1) dX4_allThatFit_1 rfl (by decide) ?_
  refine s_icmp_ne (n := 5) (tgt := 9) dX4_allThatFit_2 rfl rfl (fun b2 => ?_) (fun b2 => ?_)
  · refine s_iconst (n := 10) (v := 1) dX4_allThatFit_9 rfl (by decide) ?_
    refine s_istore (n := 12) (i := 7) (ls' := [_, _, _, _, _, _, _, _, _, _, _]) dX4_allThatFit_10 rfl rfl rfl rfl ?_
    refine s_iload_n (n := 13) (i := 2) dX4_allThatFit_12 rfl rfl rfl ?_
    refine s_if_ne (n := 16) (tgt := 20) dX4_allThatFit_13 rfl rfl (fun b13 => ?_) (fun b13 => ?_)
    · exact absurd rfl b13
    · refine s_iconst (n := 17) (v := 5) dX4_allThatFit_16 rfl (by decide) ?_
      refine s_goto (tgt := 32) dX4_allThatFit_17 rfl ?_
      refine s_istore (n := 34) (i := 8) (ls' := [_, _, _, _, _, _, _, _, _, _, _]) dX4_allThatFit_32 rfl rfl rfl rfl ?_
      refine s_iconst (n := 35) (v := 0) dX4_allThatFit_34 rfl (by decide) ?_
      refine s_istore (n := 37) (i := 9) (ls' := [_, _, _, _, _, _, _, _, _, _, _]) dX4_allThatFit_35 rfl rfl rfl rfl ?_
      refine s_iload (n := 39) dX4_allThatFit_37 rfl rfl ?_
      refine s_istore (n := 41) (i := 10) (ls' := [_, _, _, _, _, _, _, _, _, _, _]) dX4_allThatFit_39 rfl rfl rfl rfl ?_
      exact l_fit0 hj hj2 ha hik hok (by omega) 5 1 (by omega) (by omega) _ _ _ hX fr_rf
  · exact absurd b2 (by decide)
set_option maxRecDepth 100000 in
set_option maxHeartbeats 4000000 in
theorem l_fit1 {G : mj_G} {h0 : mj_H} {d n j j2 a i k : Nat} {σ : Nat → Nat → Int32} (hj : j < n) (hj2 : j2 < n) (ha : a < 8) (hik : i + k ≤ 40) (hok : okK n (σ 0)) (hd : 5 ≤ d) : ∀ (r v : Nat), v + r = 21 → 0 ≤ v → ∀ (h : mj_H) (F : Nat → Int32) (acc : Int32), XS G h (u2 σ 1 F) → mj_fr 0 220 h0 h → mj_wp G MX4_allThatFit d 0 0 41 [some (.ref (G.1 + 0)), some (.int (nI j)), some (.int 1), some (.int (nI j2)), some (.ref (G.1 + (190 + 2 * a))), some (.int (nI i)), some (.int (nI k)), some (.int 0), some (.int 20), some (.int acc), some (.int (nI v))] [] h 0 0 (rF G σ (fitF n j j2 13 (σ (34 + a)) i k (σ 0) r v acc) h0) := by
  have h7 := hok.2.1
  intro r
  induction r with
  | zero =>
    intro v hv hv1 h F acc hX hFx
    obtain ⟨x0, x1, xt, xn, xf, xa, x188, x189, xr, xi⟩ := id hX
    replace x0 : _ = XO G (σ 42) := x0
    replace xn : mj_St G _ 4 (σ 0) := xn
    replace xf : mj_St G _ 11 (F) := xf
    obtain ⟨n0, n1, n2, n3, n4, n5, n6⟩ := id xn
    obtain ⟨f0, f1, f2, f3, f4, f5, f6⟩ := id xf
    refine s_iload (n := 43) dX4_allThatFit_41 rfl rfl ?_
    refine s_iload (n := 45) dX4_allThatFit_43 rfl rfl ?_
    refine s_icmp_gt (n := 48) (tgt := 156) dX4_allThatFit_45 rfl rfl (fun b45 => ?_) (fun b45 => ?_)
    · refine s_iload (n := 158) dX4_allThatFit_156 rfl rfl ?_
      refine s_ireturn dX4_allThatFit_158 rfl (rfl) (Nat.le_refl _) (Nat.le_refl _) ?_
      exact ⟨rfl, _, hX, hFx⟩
    · exact absurd ((nI_ltE (a := 20) (by omega) (by omega)).mpr (by omega)) b45
  | succ r ih =>
    intro v hv hv1 h F acc hX hFx
    obtain ⟨x0, x1, xt, xn, xf, xa, x188, x189, xr, xi⟩ := id hX
    replace x0 : _ = XO G (σ 42) := x0
    replace xn : mj_St G _ 4 (σ 0) := xn
    replace xf : mj_St G _ 11 (F) := xf
    obtain ⟨n0, n1, n2, n3, n4, n5, n6⟩ := id xn
    obtain ⟨f0, f1, f2, f3, f4, f5, f6⟩ := id xf
    refine s_iload (n := 43) dX4_allThatFit_41 rfl rfl ?_
    refine s_iload (n := 45) dX4_allThatFit_43 rfl rfl ?_
    refine s_icmp_gt (n := 48) (tgt := 156) dX4_allThatFit_45 rfl rfl (fun b45 => ?_) (fun b45 => ?_)
    · exact absurd ((nI_ltE (a := 20) (by omega) (by omega)).mp b45) (by omega)
    · refine s_aload_n (n := 49) (i := 0) dX4_allThatFit_48 rfl rfl rfl ?_
      refine gf_X4_29 (n := 52) rfl dX4_allThatFit_49 rfl (by assumption) (by rfl) ?_
      refine s_aload_n (n := 53) (i := 0) dX4_allThatFit_52 rfl rfl rfl ?_
      refine gf_X4_25 (n := 56) rfl dX4_allThatFit_53 rfl (by assumption) (by rfl) ?_
      refine s_v1 (M' := MX2_takeFrom) (n := 59) (ci := 2) dX4_allThatFit_56 rfl wd_X4_120 okX2_takeFrom rfl rfl (by omega) ⟨Nat.le_refl _, Nat.le_refl _⟩ (by assumption) (c_takeFrom (d := d - 1) xf xn (by omega) (by omega)) ?_
      rintro v56 hh56 ⟨rfl, hS1, hF1⟩
      replace hX := XS_for2 hX hS1 hF1
      replace hFx := fr_tr hFx (fr_wid (p' := 0) (w' := 220) hF1 (by omega) (by omega))
      obtain ⟨x0, x1, xt, xn, xf, xa, x188, x189, xr, xi⟩ := id hX
      replace x0 : _ = XO G (σ 42) := x0
      replace xn : mj_St G _ 4 (σ 0) := xn
      replace xf : mj_St G _ 11 (σ 0) := xf
      obtain ⟨n0, n1, n2, n3, n4, n5, n6⟩ := id xn
      obtain ⟨f0, f1, f2, f3, f4, f5, f6⟩ := id xf
      refine s_iload_n (n := 60) (i := 2) dX4_allThatFit_59 rfl rfl rfl ?_
      refine t_X4_allThatFit_60 dX4_allThatFit_60 (fun e0 => ?_) (fun e1 => ?_) (fun e0 e1 => ?_)
      · exact absurd e0 (by decide)
      · refine s_aload_n (n := 103) (i := 0) dX4_allThatFit_102 rfl rfl rfl ?_
        refine gf_X4_29 (n := 106) rfl dX4_allThatFit_103 rfl (by assumption) (by rfl) ?_
        refine gf_X4_155 (n := 109) rfl dX4_allThatFit_106 rfl (by assumption) (by rfl) ?_
        refine s_iload_n (n := 110) (i := 1) dX4_allThatFit_109 rfl rfl rfl ?_
        refine s_iload (n := 112) dX4_allThatFit_110 rfl rfl ?_
        refine s_iast (n := 113) dX4_allThatFit_112 rfl (by assumption) (mj_ixn (by omega)) ?_
        refine XF_talk (by omega) hX (fun h2 hX2 hF2 => ?_)
        replace hX := hX2
        replace hFx := fr_tr hFx hF2
        obtain ⟨x0, x1, xt, xn, xf, xa, x188, x189, xr, xi⟩ := id hX
        replace x0 : _ = XO G (σ 42) := x0
        replace xn : mj_St G _ 4 (σ 0) := xn
        replace xf : mj_St G _ 11 (upd (σ 0) (13 + j) (nI v)) := xf
        obtain ⟨n0, n1, n2, n3, n4, n5, n6⟩ := id xn
        obtain ⟨f0, f1, f2, f3, f4, f5, f6⟩ := id xf
        refine s_goto (tgt := 127) dX4_allThatFit_113 rfl ?_
        refine s_aload_n (n := 128) (i := 0) dX4_allThatFit_127 rfl rfl rfl ?_
        refine s_iload_n (n := 129) (i := 3) dX4_allThatFit_128 rfl rfl rfl ?_
        refine s_aload (n := 131) dX4_allThatFit_129 rfl rfl ?_
        refine s_iload (n := 133) dX4_allThatFit_131 rfl rfl ?_
        refine s_iload (n := 135) dX4_allThatFit_133 rfl rfl ?_
        refine s_v4 (M' := MX4_isAsTold) (n := 138) (ci := 4) dX4_allThatFit_135 rfl wd_X4_282 okX4_isAsTold rfl rfl (by omega) ⟨Nat.le_refl _, Nat.le_refl _⟩ (by assumption) (c_isAsTold (d := d - 1) hX (by omega) ha hik (okK_up hok (by omega) (by omega)) (by omega)) ?_
        rintro v135 hh135 ⟨rfl, F2, hX2, hF3⟩
        replace hX := hX2
        replace hFx := fr_tr hFx hF3
        obtain ⟨x0, x1, xt, xn, xf, xa, x188, x189, xr, xi⟩ := id hX
        replace x0 : _ = XO G (σ 42) := x0
        replace xn : mj_St G _ 4 (σ 0) := xn
        replace xf : mj_St G _ 11 (F2) := xf
        obtain ⟨n0, n1, n2, n3, n4, n5, n6⟩ := id xn
        obtain ⟨f0, f1, f2, f3, f4, f5, f6⟩ := id xf
        refine s_if_eq (n := 141) (tgt := 150) dX4_allThatFit_138 rfl rfl (fun b138 => ?_) (fun b138 => ?_)
        · have e : fitF n j j2 13 (σ (34 + a)) i k (σ 0) (r + 1) v acc = fitF n j j2 13 (σ (34 + a)) i k (σ 0) r (v + 1) acc := if_pos b138
          refine s_iinc (n := 153) (v := _ + 1) (ls' := [_, _, _, _, _, _, _, _, _, _, _]) dX4_allThatFit_150 rfl rfl rfl rfl rfl ?_
          refine s_goto (tgt := 41) dX4_allThatFit_153 rfl ?_
          rw [nI_1, e]
          exact ih (v + 1) (by omega) (by omega) _ _ _ hX hFx
        · have e : fitF n j j2 13 (σ (34 + a)) i k (σ 0) (r + 1) v acc = fitF n j j2 13 (σ (34 + a)) i k (σ 0) r (v + 1) (acc ||| (1 <<< (nI v &&& 31))) := if_neg b138
          refine s_iload (n := 143) dX4_allThatFit_141 rfl rfl ?_
          refine s_iconst (n := 144) (v := 1) dX4_allThatFit_143 rfl (by decide) ?_
          refine s_iload (n := 146) dX4_allThatFit_144 rfl rfl ?_
          refine s_ishl (n := 147) dX4_allThatFit_146 rfl ?_
          refine s_ior (n := 148) dX4_allThatFit_147 rfl ?_
          refine s_istore (n := 150) (i := 9) (ls' := [_, _, _, _, _, _, _, _, _, _, _]) dX4_allThatFit_148 rfl rfl rfl rfl ?_
          refine s_iinc (n := 153) (v := _ + 1) (ls' := [_, _, _, _, _, _, _, _, _, _, _]) dX4_allThatFit_150 rfl rfl rfl rfl rfl ?_
          refine s_goto (tgt := 41) dX4_allThatFit_153 rfl ?_
          rw [nI_1, e]
          exact ih (v + 1) (by omega) (by omega) _ _ _ hX hFx
      · exact absurd rfl e1
set_option maxRecDepth 100000 in
set_option maxHeartbeats 4000000 in
theorem c_fit1 {G : mj_G} {h : mj_H} {d : Nat} {σ : Nat → Nat → Int32} {F : Nat → Int32} (hX : XS G h (u2 σ 1 F)) {n j j2 a i k : Nat} (hj : j < n) (hj2 : j2 < n) (ha : a < 8) (hik : i + k ≤ 40) (hok : okK n (σ 0)) (hd : 5 ≤ d) : mj_con G MX4_allThatFit d 0 0 [.ref (G.1 + 0), .int (nI j), .int 1, .int (nI j2), .ref (G.1 + (190 + 2 * a)), .int (nI i), .int (nI k)] h (rF G σ (fitF n j j2 13 (σ (34 + a)) i k (σ 0) 21 0 0) h) := by
  refine mj_conV okX4_allThatFit (ls := [some (.ref (G.1 + 0)), some (.int (nI j)), some (.int 1), some (.int (nI j2)), some (.ref (G.1 + (190 + 2 * a))), some (.int (nI i)), some (.int (nI k)), none, none, none, none]) rfl rfl ?_
  obtain ⟨x0, x1, xt, xn, xf, xa, x188, x189, xr, xi⟩ := id hX
  replace x0 : _ = XO G (σ 42) := x0
  replace xn : mj_St G _ 4 (σ 0) := xn
  replace xf : mj_St G _ 11 (F) := xf
  obtain ⟨n0, n1, n2, n3, n4, n5, n6⟩ := id xn
  obtain ⟨f0, f1, f2, f3, f4, f5, f6⟩ := id xf
  refine s_iload_n (n := 1) (i := 2) dX4_allThatFit_0 rfl rfl rfl ?_
  refine s_iconst (n := 2) (v := 1) dX4_allThatFit_1 rfl (by decide) ?_
  refine s_icmp_ne (n := 5) (tgt := 9) dX4_allThatFit_2 rfl rfl (fun b2 => ?_) (fun b2 => ?_)
  · exact absurd rfl b2
  · refine s_iconst (n := 6) (v := 0) dX4_allThatFit_5 rfl (by decide) ?_
    refine s_goto (tgt := 10) dX4_allThatFit_6 rfl ?_
    refine s_istore (n := 12) (i := 7) (ls' := [_, _, _, _, _, _, _, _, _, _, _]) dX4_allThatFit_10 rfl rfl rfl rfl ?_
    refine s_iload_n (n := 13) (i := 2) dX4_allThatFit_12 rfl rfl rfl ?_
    refine s_if_ne (n := 16) (tgt := 20) dX4_allThatFit_13 rfl rfl (fun b13 => ?_) (fun b13 => ?_)
    · refine s_iload_n (n := 21) (i := 2) dX4_allThatFit_20 rfl rfl rfl ?_
      refine s_iconst (n := 22) (v := 1) dX4_allThatFit_21 rfl (by decide) ?_
      refine s_icmp_ne (n := 25) (tgt := 30) dX4_allThatFit_22 rfl rfl (fun b22 => ?_) (fun b22 => ?_)
      · exact absurd rfl b22
      · refine s_bipush (n := 27) (v := 20) dX4_allThatFit_25 rfl (by decide) ?_
        refine s_goto (tgt := 32) dX4_allThatFit_27 rfl ?_
        refine s_istore (n := 34) (i := 8) (ls' := [_, _, _, _, _, _, _, _, _, _, _]) dX4_allThatFit_32 rfl rfl rfl rfl ?_
        refine s_iconst (n := 35) (v := 0) dX4_allThatFit_34 rfl (by decide) ?_
        refine s_istore (n := 37) (i := 9) (ls' := [_, _, _, _, _, _, _, _, _, _, _]) dX4_allThatFit_35 rfl rfl rfl rfl ?_
        refine s_iload (n := 39) dX4_allThatFit_37 rfl rfl ?_
        refine s_istore (n := 41) (i := 10) (ls' := [_, _, _, _, _, _, _, _, _, _, _]) dX4_allThatFit_39 rfl rfl rfl rfl ?_
        exact l_fit1 hj hj2 ha hik hok (by omega) 21 0 (by omega) (by omega) _ _ _ hX fr_rf
    · exact absurd b13 (by decide)
set_option maxRecDepth 100000 in
set_option maxHeartbeats 4000000 in
theorem l_fit2 {G : mj_G} {h0 : mj_H} {d n j j2 a i k : Nat} {σ : Nat → Nat → Int32} (hj : j < n) (hj2 : j2 < n) (ha : a < 8) (hik : i + k ≤ 40) (hok : okK n (σ 0)) (hd : 5 ≤ d) : ∀ (r v : Nat), v + r = 10 → 1 ≤ v → ∀ (h : mj_H) (F : Nat → Int32) (acc : Int32), XS G h (u2 σ 1 F) → mj_fr 0 220 h0 h → mj_wp G MX4_allThatFit d 0 0 41 [some (.ref (G.1 + 0)), some (.int (nI j)), some (.int 2), some (.int (nI j2)), some (.ref (G.1 + (190 + 2 * a))), some (.int (nI i)), some (.int (nI k)), some (.int 1), some (.int 9), some (.int acc), some (.int (nI v))] [] h 0 0 (rF G σ (fitF n j j2 20 (σ (34 + a)) i k (σ 0) r v acc) h0) := by
  have h7 := hok.2.1
  intro r
  induction r with
  | zero =>
    intro v hv hv1 h F acc hX hFx
    obtain ⟨x0, x1, xt, xn, xf, xa, x188, x189, xr, xi⟩ := id hX
    replace x0 : _ = XO G (σ 42) := x0
    replace xn : mj_St G _ 4 (σ 0) := xn
    replace xf : mj_St G _ 11 (F) := xf
    obtain ⟨n0, n1, n2, n3, n4, n5, n6⟩ := id xn
    obtain ⟨f0, f1, f2, f3, f4, f5, f6⟩ := id xf
    refine s_iload (n := 43) dX4_allThatFit_41 rfl rfl ?_
    refine s_iload (n := 45) dX4_allThatFit_43 rfl rfl ?_
    refine s_icmp_gt (n := 48) (tgt := 156) dX4_allThatFit_45 rfl rfl (fun b45 => ?_) (fun b45 => ?_)
    · refine s_iload (n := 158) dX4_allThatFit_156 rfl rfl ?_
      refine s_ireturn dX4_allThatFit_158 rfl (rfl) (Nat.le_refl _) (Nat.le_refl _) ?_
      exact ⟨rfl, _, hX, hFx⟩
    · exact absurd ((nI_ltE (a := 9) (by omega) (by omega)).mpr (by omega)) b45
  | succ r ih =>
    intro v hv hv1 h F acc hX hFx
    obtain ⟨x0, x1, xt, xn, xf, xa, x188, x189, xr, xi⟩ := id hX
    replace x0 : _ = XO G (σ 42) := x0
    replace xn : mj_St G _ 4 (σ 0) := xn
    replace xf : mj_St G _ 11 (F) := xf
    obtain ⟨n0, n1, n2, n3, n4, n5, n6⟩ := id xn
    obtain ⟨f0, f1, f2, f3, f4, f5, f6⟩ := id xf
    refine s_iload (n := 43) dX4_allThatFit_41 rfl rfl ?_
    refine s_iload (n := 45) dX4_allThatFit_43 rfl rfl ?_
    refine s_icmp_gt (n := 48) (tgt := 156) dX4_allThatFit_45 rfl rfl (fun b45 => ?_) (fun b45 => ?_)
    · exact absurd ((nI_ltE (a := 9) (by omega) (by omega)).mp b45) (by omega)
    · refine s_aload_n (n := 49) (i := 0) dX4_allThatFit_48 rfl rfl rfl ?_
      refine gf_X4_29 (n := 52) rfl dX4_allThatFit_49 rfl (by assumption) (by rfl) ?_
      refine s_aload_n (n := 53) (i := 0) dX4_allThatFit_52 rfl rfl rfl ?_
      refine gf_X4_25 (n := 56) rfl dX4_allThatFit_53 rfl (by assumption) (by rfl) ?_
      refine s_v1 (M' := MX2_takeFrom) (n := 59) (ci := 2) dX4_allThatFit_56 rfl wd_X4_120 okX2_takeFrom rfl rfl (by omega) ⟨Nat.le_refl _, Nat.le_refl _⟩ (by assumption) (c_takeFrom (d := d - 1) xf xn (by omega) (by omega)) ?_
      rintro v56 hh56 ⟨rfl, hS1, hF1⟩
      replace hX := XS_for2 hX hS1 hF1
      replace hFx := fr_tr hFx (fr_wid (p' := 0) (w' := 220) hF1 (by omega) (by omega))
      obtain ⟨x0, x1, xt, xn, xf, xa, x188, x189, xr, xi⟩ := id hX
      replace x0 : _ = XO G (σ 42) := x0
      replace xn : mj_St G _ 4 (σ 0) := xn
      replace xf : mj_St G _ 11 (σ 0) := xf
      obtain ⟨n0, n1, n2, n3, n4, n5, n6⟩ := id xn
      obtain ⟨f0, f1, f2, f3, f4, f5, f6⟩ := id xf
      refine s_iload_n (n := 60) (i := 2) dX4_allThatFit_59 rfl rfl rfl ?_
      refine t_X4_allThatFit_60 dX4_allThatFit_60 (fun e0 => ?_) (fun e1 => ?_) (fun e0 e1 => ?_)
      · exact absurd e0 (by decide)
      · exact absurd e1 (by decide)
      · refine s_aload_n (n := 117) (i := 0) dX4_allThatFit_116 rfl rfl rfl ?_
        refine gf_X4_29 (n := 120) rfl dX4_allThatFit_117 rfl (by assumption) (by rfl) ?_
        refine gf_X4_174 (n := 123) rfl dX4_allThatFit_120 rfl (by assumption) (by rfl) ?_
        refine s_iload_n (n := 124) (i := 1) dX4_allThatFit_123 rfl rfl rfl ?_
        refine s_iload (n := 126) dX4_allThatFit_124 rfl rfl ?_
        refine s_iast (n := 127) dX4_allThatFit_126 rfl (by assumption) (mj_ixn (by omega)) ?_
        refine XF_keeps (by omega) hX (fun h2 hX2 hF2 => ?_)
        replace hX := hX2
        replace hFx := fr_tr hFx hF2
        obtain ⟨x0, x1, xt, xn, xf, xa, x188, x189, xr, xi⟩ := id hX
        replace x0 : _ = XO G (σ 42) := x0
        replace xn : mj_St G _ 4 (σ 0) := xn
        replace xf : mj_St G _ 11 (upd (σ 0) (20 + j) (nI v)) := xf
        obtain ⟨n0, n1, n2, n3, n4, n5, n6⟩ := id xn
        obtain ⟨f0, f1, f2, f3, f4, f5, f6⟩ := id xf
        refine s_aload_n (n := 128) (i := 0) dX4_allThatFit_127 rfl rfl rfl ?_
        refine s_iload_n (n := 129) (i := 3) dX4_allThatFit_128 rfl rfl rfl ?_
        refine s_aload (n := 131) dX4_allThatFit_129 rfl rfl ?_
        refine s_iload (n := 133) dX4_allThatFit_131 rfl rfl ?_
        refine s_iload (n := 135) dX4_allThatFit_133 rfl rfl ?_
        refine s_v4 (M' := MX4_isAsTold) (n := 138) (ci := 4) dX4_allThatFit_135 rfl wd_X4_282 okX4_isAsTold rfl rfl (by omega) ⟨Nat.le_refl _, Nat.le_refl _⟩ (by assumption) (c_isAsTold (d := d - 1) hX (by omega) ha hik (okK_keeps hok hj (by omega) (by omega)) (by omega)) ?_
        rintro v135 hh135 ⟨rfl, F2, hX2, hF3⟩
        replace hX := hX2
        replace hFx := fr_tr hFx hF3
        obtain ⟨x0, x1, xt, xn, xf, xa, x188, x189, xr, xi⟩ := id hX
        replace x0 : _ = XO G (σ 42) := x0
        replace xn : mj_St G _ 4 (σ 0) := xn
        replace xf : mj_St G _ 11 (F2) := xf
        obtain ⟨n0, n1, n2, n3, n4, n5, n6⟩ := id xn
        obtain ⟨f0, f1, f2, f3, f4, f5, f6⟩ := id xf
        refine s_if_eq (n := 141) (tgt := 150) dX4_allThatFit_138 rfl rfl (fun b138 => ?_) (fun b138 => ?_)
        · have e : fitF n j j2 20 (σ (34 + a)) i k (σ 0) (r + 1) v acc = fitF n j j2 20 (σ (34 + a)) i k (σ 0) r (v + 1) acc := if_pos b138
          refine s_iinc (n := 153) (v := _ + 1) (ls' := [_, _, _, _, _, _, _, _, _, _, _]) dX4_allThatFit_150 rfl rfl rfl rfl rfl ?_
          refine s_goto (tgt := 41) dX4_allThatFit_153 rfl ?_
          rw [nI_1, e]
          exact ih (v + 1) (by omega) (by omega) _ _ _ hX hFx
        · have e : fitF n j j2 20 (σ (34 + a)) i k (σ 0) (r + 1) v acc = fitF n j j2 20 (σ (34 + a)) i k (σ 0) r (v + 1) (acc ||| (1 <<< (nI v &&& 31))) := if_neg b138
          refine s_iload (n := 143) dX4_allThatFit_141 rfl rfl ?_
          refine s_iconst (n := 144) (v := 1) dX4_allThatFit_143 rfl (by decide) ?_
          refine s_iload (n := 146) dX4_allThatFit_144 rfl rfl ?_
          refine s_ishl (n := 147) dX4_allThatFit_146 rfl ?_
          refine s_ior (n := 148) dX4_allThatFit_147 rfl ?_
          refine s_istore (n := 150) (i := 9) (ls' := [_, _, _, _, _, _, _, _, _, _, _]) dX4_allThatFit_148 rfl rfl rfl rfl ?_
          refine s_iinc (n := 153) (v := _ + 1) (ls' := [_, _, _, _, _, _, _, _, _, _, _]) dX4_allThatFit_150 rfl rfl rfl rfl rfl ?_
          refine s_goto (tgt := 41) dX4_allThatFit_153 rfl ?_
          rw [nI_1, e]
          exact ih (v + 1) (by omega) (by omega) _ _ _ hX hFx
set_option maxRecDepth 100000 in
set_option maxHeartbeats 4000000 in
theorem c_fit2 {G : mj_G} {h : mj_H} {d : Nat} {σ : Nat → Nat → Int32} {F : Nat → Int32} (hX : XS G h (u2 σ 1 F)) {n j j2 a i k : Nat} (hj : j < n) (hj2 : j2 < n) (ha : a < 8) (hik : i + k ≤ 40) (hok : okK n (σ 0)) (hd : 5 ≤ d) : mj_con G MX4_allThatFit d 0 0 [.ref (G.1 + 0), .int (nI j), .int 2, .int (nI j2), .ref (G.1 + (190 + 2 * a)), .int (nI i), .int (nI k)] h (rF G σ (fitF n j j2 20 (σ (34 + a)) i k (σ 0) 9 1 0) h) := by
  refine mj_conV okX4_allThatFit (ls := [some (.ref (G.1 + 0)), some (.int (nI j)), some (.int 2), some (.int (nI j2)), some (.ref (G.1 + (190 + 2 * a))), some (.int (nI i)), some (.int (nI k)), none, none, none, none]) rfl rfl ?_
  obtain ⟨x0, x1, xt, xn, xf, xa, x188, x189, xr, xi⟩ := id hX
  replace x0 : _ = XO G (σ 42) := x0
  replace xn : mj_St G _ 4 (σ 0) := xn
  replace xf : mj_St G _ 11 (F) := xf
  obtain ⟨n0, n1, n2, n3, n4, n5, n6⟩ := id xn
  obtain ⟨f0, f1, f2, f3, f4, f5, f6⟩ := id xf
  refine s_iload_n (n := 1) (i := 2) dX4_allThatFit_0 rfl rfl rfl ?_
  refine s_iconst (n := 2) (v := 1) dX4_allThatFit_1 rfl (by decide) ?_
  refine s_icmp_ne (n := 5) (tgt := 9) dX4_allThatFit_2 rfl rfl (fun b2 => ?_) (fun b2 => ?_)
  · refine s_iconst (n := 10) (v := 1) dX4_allThatFit_9 rfl (by decide) ?_
    refine s_istore (n := 12) (i := 7) (ls' := [_, _, _, _, _, _, _, _, _, _, _]) dX4_allThatFit_10 rfl rfl rfl rfl ?_
    refine s_iload_n (n := 13) (i := 2) dX4_allThatFit_12 rfl rfl rfl ?_
    refine s_if_ne (n := 16) (tgt := 20) dX4_allThatFit_13 rfl rfl (fun b13 => ?_) (fun b13 => ?_)
    · refine s_iload_n (n := 21) (i := 2) dX4_allThatFit_20 rfl rfl rfl ?_
      refine s_iconst (n := 22) (v := 1) dX4_allThatFit_21 rfl (by decide) ?_
      refine s_icmp_ne (n := 25) (tgt := 30) dX4_allThatFit_22 rfl rfl (fun b22 => ?_) (fun b22 => ?_)
      · refine s_bipush (n := 32) (v := 9) dX4_allThatFit_30 rfl (by decide) ?_
        refine s_istore (n := 34) (i := 8) (ls' := [_, _, _, _, _, _, _, _, _, _, _]) dX4_allThatFit_32 rfl rfl rfl rfl ?_
        refine s_iconst (n := 35) (v := 0) dX4_allThatFit_34 rfl (by decide) ?_
        refine s_istore (n := 37) (i := 9) (ls' := [_, _, _, _, _, _, _, _, _, _, _]) dX4_allThatFit_35 rfl rfl rfl rfl ?_
        refine s_iload (n := 39) dX4_allThatFit_37 rfl rfl ?_
        refine s_istore (n := 41) (i := 10) (ls' := [_, _, _, _, _, _, _, _, _, _, _]) dX4_allThatFit_39 rfl rfl rfl rfl ?_
        exact l_fit2 hj hj2 ha hik hok (by omega) 9 1 (by omega) (by omega) _ _ _ hX fr_rf
      · exact absurd b22 (by decide)
    · exact absurd b13 (by decide)
  · exact absurd b2 (by decide)
