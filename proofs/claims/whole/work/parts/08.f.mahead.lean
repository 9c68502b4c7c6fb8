theorem rfl48 {τ : Nat → Nat → Int32} : ∀ k, 48 ≤ k → τ 0 k = τ 0 k := fun _ _ => rfl
set_option maxRecDepth 100000 in
set_option maxHeartbeats 4000000 in
theorem y_pondBy {G : mj_G} {h : mj_H} {d : Nat} {τ : Nat → Nat → Int32} {F : Nat → Int32} (hY : YS G h (u2 (asS τ) 0 F)) {n m : Nat} (hok : okB n F) (ho : ∀ k, 48 ≤ k → F k = τ 0 k) (hm : m ≤ 100000) (hd : 4 ≤ d) : mj_con G MX5_pondBy d 0 0 [.ref (G.1 + 220), .int (nI m)] h (fun v h' => v = some (.int (mns n m F 5)) ∧ YS G h' (u2 (asS τ) 0 (τ 0)) ∧ mj_fr 220 13 h h') := by
  refine mj_conV okX5_pondBy (ls := [some (.ref (G.1 + 220)), some (.int (nI m)), none]) rfl rfl ?_
  obtain ⟨y0, y1, y2, y3, y4, y5, y6, y7, y8, y9, y10, y11, y12⟩ := id hY
  replace y4 : h.2 224 = mj_ar 0 48 (F) := y4
  replace y0 : h.2 220 = YO G (τ 12) := y0
  refine s_aload_n (n := 1) (i := 0) dX5_pondBy_0 rfl rfl rfl ?_
  refine s_iload_n (n := 2) (i := 1) dX5_pondBy_1 rfl rfl rfl ?_
  refine s_v1 (M' := MX5_goOn) (n := 5) (ci := 5) dX5_pondBy_2 rfl wd_X5_177 okX5_goOn rfl rfl (by omega) ⟨Nat.le_refl _, Nat.le_refl _⟩ (by assumption) (y_goOn (d := d - 1) hY (n := n) (m := m) hok hm (by omega)) ?_
  rintro v2 hh2 ⟨rfl, hY1, hF1⟩
  obtain ⟨y0, y1, y2, y3, y4, y5, y6, y7, y8, y9, y10, y11, y12⟩ := id hY1
  replace y4 : hh2.2 224 = mj_ar 0 48 (mns n m F) := y4
  replace y0 : hh2.2 220 = YO G (τ 12) := y0
  refine s_aload_n (n := 6) (i := 0) dX5_pondBy_5 rfl rfl rfl ?_
  refine gf_X5_19 (n := 9) rfl dX5_pondBy_6 rfl (by assumption) (by rfl) ?_
  refine s_iconst (n := 10) (v := 5) dX5_pondBy_9 rfl (by decide) ?_
  refine s_iald (n := 11) dX5_pondBy_10 rfl (by assumption) (mj_ixe (j := 5) rfl (by omega)) ?_
  refine s_istore_n (n := 12) (i := 2) (ls' := [_, _, _]) dX5_pondBy_11 rfl rfl rfl rfl rfl ?_
  refine s_aload_n (n := 13) (i := 0) dX5_pondBy_12 rfl rfl rfl ?_
  refine s_v0 (M' := MX5_takeBack) (n := 16) (ci := 5) dX5_pondBy_13 rfl wd_X5_180 okX5_takeBack rfl rfl (by omega) ⟨Nat.le_refl _, Nat.le_refl _⟩ (by assumption) (y_tb (d := d - 1) hY1 (fun k hk => (mns_o hok.1.2.1 hk m).trans (ho k hk))) ?_
  rintro v13 hh13 ⟨rfl, hY9, hF9⟩
  have hFa := fr_tr (hF1) hF9
  obtain ⟨y0, y1, y2, y3, y4, y5, y6, y7, y8, y9, y10, y11, y12⟩ := id hY9
  replace y4 : hh13.2 224 = mj_ar 0 48 (τ 0) := y4
  replace y0 : hh13.2 220 = YO G (τ 12) := y0
  refine s_iload_n (n := 17) (i := 2) dX5_pondBy_16 rfl rfl rfl ?_
  refine s_ireturn dX5_pondBy_17 rfl (rfl) (Nat.le_refl _) (Nat.le_refl _) ?_
  exact ⟨rfl, hY9, hFa⟩
set_option maxRecDepth 100000 in
set_option maxHeartbeats 4000000 in
theorem y_ahead_bad {G : mj_G} {h : mj_H} {d : Nat} {τ : Nat → Nat → Int32} (hY : YS G h τ) {n : Nat} (hn : τ 0 2 = nI n) (h7 : n ≤ 7) {x y : Int32} (hb : ¬ (Hs n x ∧ Wi y 0 99)) (hd : 2 ≤ d) : mj_con G MX5_ahead d 0 0 [.ref (G.1 + 220), .int x, .int y] h (rI (-1000001) h) := by
  refine mj_conV okX5_ahead (ls := [some (.ref (G.1 + 220)), some (.int x), some (.int y), none]) rfl rfl ?_
  obtain ⟨y0, y1, y2, y3, y4, y5, y6, y7, y8, y9, y10, y11, y12⟩ := id hY
  refine s_aload_n (n := 1) (i := 0) dX5_ahead_0 rfl rfl rfl ?_
  refine s_iload_n (n := 2) (i := 1) dX5_ahead_1 rfl rfl rfl ?_
  refine s_v1 (M' := MX5_isHouse) (n := 5) (ci := 5) dX5_ahead_2 rfl wd_X5_155 okX5_isHouse rfl rfl (by omega) ⟨Nat.le_refl _, Nat.le_refl _⟩ (by assumption) (y_isHouse (d := d - 1) hY hn h7 (by omega)) ?_
  rintro v2 hh2 ⟨rfl, rfl⟩
  refine s_if_eq (n := 8) (tgt := 20) dX5_ahead_5 rfl rfl (fun b5 => ?_) (fun b5 => ?_)
  · refine s_ldc (n := 22) dX5_ahead_20 rfl wd_X5_64 ?_
    refine s_ireturn dX5_ahead_22 rfl (rfl) (Nat.le_refl _) (Nat.le_refl _) ?_
    exact ⟨rfl, rfl⟩
  · refine s_iload_n (n := 9) (i := 2) dX5_ahead_8 rfl rfl rfl ?_
    refine s_i2l (n := 10) dX5_ahead_9 rfl ?_
    refine s_lconst (n := 11) (v := 0) dX5_ahead_10 rfl (by decide) ?_
    refine s_ldc2 (n := 14) dX5_ahead_11 rfl wd_X5_162 ?_
    refine s_s3 (M' := MX5_in) (n := 17) dX5_ahead_14 rfl wd_X5_54 okX5_in rfl (by omega) ⟨Nat.le_refl _, Nat.le_refl _⟩ (y_in (d := d - 1) (A := 0) (B := 99) (by decide) (by decide)) ?_
    rintro v14 hh14 ⟨rfl, rfl⟩
    refine s_if_ne (n := 20) (tgt := 23) dX5_ahead_17 rfl rfl (fun b17 => ?_) (fun b17 => ?_)
    · exact absurd (⟨if1 b5, if1 b17⟩) hb
    · refine s_ldc (n := 22) dX5_ahead_20 rfl wd_X5_64 ?_
      refine s_ireturn dX5_ahead_22 rfl (rfl) (Nat.le_refl _) (Nat.le_refl _) ?_
      exact ⟨rfl, rfl⟩
set_option maxRecDepth 100000 in
set_option maxHeartbeats 4000000 in
theorem y_ahead {G : mj_G} {h : mj_H} {d : Nat} {τ : Nat → Nat → Int32} (hY : YS G h τ) {n : Nat} (hn : τ 0 2 = nI n) (h7 : n ≤ 7) (hok : okB n (τ 0)) {j k : Nat} (hj : j < n) (hk : k ≤ 99) (hd : 4 ≤ d) : mj_con G MX5_ahead d 0 0 [.ref (G.1 + 220), .int (nI j), .int (nI k)] h (fun v h' => v = some (.int (mns n k (τ 0) (34 + j))) ∧ YS G h' (u2 (asS τ) 0 (τ 0)) ∧ mj_fr 220 13 h h') := by
  refine mj_conV okX5_ahead (ls := [some (.ref (G.1 + 220)), some (.int (nI j)), some (.int (nI k)), none]) rfl rfl ?_
  obtain ⟨y0, y1, y2, y3, y4, y5, y6, y7, y8, y9, y10, y11, y12⟩ := id hY
  refine s_aload_n (n := 1) (i := 0) dX5_ahead_0 rfl rfl rfl ?_
  refine s_iload_n (n := 2) (i := 1) dX5_ahead_1 rfl rfl rfl ?_
  refine s_v1 (M' := MX5_isHouse) (n := 5) (ci := 5) dX5_ahead_2 rfl wd_X5_155 okX5_isHouse rfl rfl (by omega) ⟨Nat.le_refl _, Nat.le_refl _⟩ (by assumption) (y_isHouse (d := d - 1) hY hn h7 (by omega)) ?_
  rintro v2 hh2 ⟨rfl, rfl⟩
  refine s_if_eq (n := 8) (tgt := 20) dX5_ahead_5 rfl rfl (fun b5 => ?_) (fun b5 => ?_)
  · exact absurd (Hs_n hj h7) (if0 b5)
  · refine s_iload_n (n := 9) (i := 2) dX5_ahead_8 rfl rfl rfl ?_
    refine s_i2l (n := 10) dX5_ahead_9 rfl ?_
    refine s_lconst (n := 11) (v := 0) dX5_ahead_10 rfl (by decide) ?_
    refine s_ldc2 (n := 14) dX5_ahead_11 rfl wd_X5_162 ?_
    refine s_s3 (M' := MX5_in) (n := 17) dX5_ahead_14 rfl wd_X5_54 okX5_in rfl (by omega) ⟨Nat.le_refl _, Nat.le_refl _⟩ (y_in (d := d - 1) (A := 0) (B := 99) (by decide) (by decide)) ?_
    rintro v14 hh14 ⟨rfl, rfl⟩
    refine s_if_ne (n := 20) (tgt := 23) dX5_ahead_17 rfl rfl (fun b17 => ?_) (fun b17 => ?_)
    · refine s_aload_n (n := 24) (i := 0) dX5_ahead_23 rfl rfl rfl ?_
      refine s_v0 (M' := MX5_putAside) (n := 27) (ci := 5) dX5_ahead_24 rfl wd_X5_174 okX5_putAside rfl rfl (by omega) ⟨Nat.le_refl _, Nat.le_refl _⟩ (by assumption) (y_pa (d := d - 1) hY) ?_
      rintro v24 hh24 ⟨rfl, hY1, hF1⟩
      obtain ⟨y0, y1, y2, y3, y4, y5, y6, y7, y8, y9, y10, y11, y12⟩ := id hY1
      replace y4 : hh24.2 224 = mj_ar 0 48 (τ 0) := y4
      replace y0 : hh24.2 220 = YO G (τ 12) := y0
      refine s_aload_n (n := 28) (i := 0) dX5_ahead_27 rfl rfl rfl ?_
      refine s_iload_n (n := 29) (i := 2) dX5_ahead_28 rfl rfl rfl ?_
      refine s_v1 (M' := MX5_goOn) (n := 32) (ci := 5) dX5_ahead_29 rfl wd_X5_177 okX5_goOn rfl rfl (by omega) ⟨Nat.le_refl _, Nat.le_refl _⟩ (by assumption) (y_goOn (d := d - 1) hY1 (n := n) (m := k) hok (by omega) (by omega)) ?_
      rintro v29 hh29 ⟨rfl, hY2, hF2⟩
      obtain ⟨y0, y1, y2, y3, y4, y5, y6, y7, y8, y9, y10, y11, y12⟩ := id hY2
      replace y4 : hh29.2 224 = mj_ar 0 48 (mns n k (τ 0)) := y4
      replace y0 : hh29.2 220 = YO G (τ 12) := y0
      refine s_aload_n (n := 33) (i := 0) dX5_ahead_32 rfl rfl rfl ?_
      refine gf_X5_19 (n := 36) rfl dX5_ahead_33 rfl (by assumption) (by rfl) ?_
      refine s_bipush (n := 38) (v := 34) dX5_ahead_36 rfl (by decide) ?_
      refine s_iload_n (n := 39) (i := 1) dX5_ahead_38 rfl rfl rfl ?_
      refine s_iadd (n := 40) dX5_ahead_39 rfl ?_
      refine s_iald (n := 41) dX5_ahead_40 rfl (by assumption) (mj_ixa (o := 34) rfl (by omega)) ?_
      refine s_istore_n (n := 42) (i := 3) (ls' := [_, _, _, _]) dX5_ahead_41 rfl rfl rfl rfl rfl ?_
      refine s_aload_n (n := 43) (i := 0) dX5_ahead_42 rfl rfl rfl ?_
      refine s_v0 (M' := MX5_takeBack) (n := 46) (ci := 5) dX5_ahead_43 rfl wd_X5_180 okX5_takeBack rfl rfl (by omega) ⟨Nat.le_refl _, Nat.le_refl _⟩ (by assumption) (y_tb (d := d - 1) hY2 (fun q hq => mns_o h7 hq k)) ?_
      rintro v43 hh43 ⟨rfl, hY9, hF9⟩
      have hFa := fr_tr (fr_tr hF1 hF2) hF9
      obtain ⟨y0, y1, y2, y3, y4, y5, y6, y7, y8, y9, y10, y11, y12⟩ := id hY9
      replace y4 : hh43.2 224 = mj_ar 0 48 (τ 0) := y4
      replace y0 : hh43.2 220 = YO G (τ 12) := y0
      refine s_iload_n (n := 47) (i := 3) dX5_ahead_46 rfl rfl rfl ?_
      refine s_ireturn dX5_ahead_47 rfl (rfl) (Nat.le_refl _) (Nat.le_refl _) ?_
      exact ⟨rfl, hY9, hFa⟩
    · exact absurd (Wi_n (by omega) (by omega) (by omega)) (if0 b17)
set_option maxRecDepth 100000 in
set_option maxHeartbeats 4000000 in
theorem y_pond_st {G : mj_G} {h : mj_H} {d : Nat} {τ : Nat → Nat → Int32} (hY : YS G h τ) {x y : Int32} (hb : τ 12 1 = 0) (hd : 2 ≤ d) : mj_con G MX5_pond d 0 0 [.ref (G.1 + 220), .int x, .int y] h (rI (-1000002) h) := by
  refine mj_conV okX5_pond (ls := [some (.ref (G.1 + 220)), some (.int x), some (.int y), none]) rfl rfl ?_
  obtain ⟨y0, y1, y2, y3, y4, y5, y6, y7, y8, y9, y10, y11, y12⟩ := id hY
  refine s_aload_n (n := 1) (i := 0) dX5_pond_0 rfl rfl rfl ?_
  refine gf_X5_132 (n := 4) rfl dX5_pond_1 rfl (by assumption) (by rfl) ?_
  refine s_if_ne (n := 7) (tgt := 10) dX5_pond_4 rfl rfl (fun b4 => ?_) (fun b4 => ?_)
  · exact absurd hb b4
  · refine s_ldc (n := 9) dX5_pond_7 rfl wd_X5_146 ?_
    refine s_ireturn dX5_pond_9 rfl (rfl) (Nat.le_refl _) (Nat.le_refl _) ?_
    exact ⟨rfl, rfl⟩
set_option maxRecDepth 100000 in
set_option maxHeartbeats 4000000 in
theorem y_pond_bad {G : mj_G} {h : mj_H} {d : Nat} {τ : Nat → Nat → Int32} (hY : YS G h τ) {x y : Int32} (hT : ¬ τ 12 1 = 0) (hb : ¬ (Wi x 0 99 ∧ Wi y 0 1)) (hd : 2 ≤ d) : mj_con G MX5_pond d 0 0 [.ref (G.1 + 220), .int x, .int y] h (rI (-1000001) h) := by
  refine mj_conV okX5_pond (ls := [some (.ref (G.1 + 220)), some (.int x), some (.int y), none]) rfl rfl ?_
  obtain ⟨y0, y1, y2, y3, y4, y5, y6, y7, y8, y9, y10, y11, y12⟩ := id hY
  refine s_aload_n (n := 1) (i := 0) dX5_pond_0 rfl rfl rfl ?_
  refine gf_X5_132 (n := 4) rfl dX5_pond_1 rfl (by assumption) (by rfl) ?_
  refine s_if_ne (n := 7) (tgt := 10) dX5_pond_4 rfl rfl (fun b4 => ?_) (fun b4 => ?_)
  · refine s_iload_n (n := 11) (i := 1) dX5_pond_10 rfl rfl rfl ?_
    refine s_i2l (n := 12) dX5_pond_11 rfl ?_
    refine s_lconst (n := 13) (v := 0) dX5_pond_12 rfl (by decide) ?_
    refine s_ldc2 (n := 16) dX5_pond_13 rfl wd_X5_162 ?_
    refine s_s3 (M' := MX5_in) (n := 19) dX5_pond_16 rfl wd_X5_54 okX5_in rfl (by omega) ⟨Nat.le_refl _, Nat.le_refl _⟩ (y_in (d := d - 1) (A := 0) (B := 99) (by decide) (by decide)) ?_
    rintro v16 hh16 ⟨rfl, rfl⟩
    refine s_if_eq (n := 22) (tgt := 29) dX5_pond_19 rfl rfl (fun b19 => ?_) (fun b19 => ?_)
    · refine s_ldc (n := 31) dX5_pond_29 rfl wd_X5_64 ?_
      refine s_ireturn dX5_pond_31 rfl (rfl) (Nat.le_refl _) (Nat.le_refl _) ?_
      exact ⟨rfl, rfl⟩
    · refine s_iload_n (n := 23) (i := 2) dX5_pond_22 rfl rfl rfl ?_
      refine s_s1 (M' := MX5_isWhat) (n := 26) dX5_pond_23 rfl wd_X5_183 okX5_isWhat rfl (by omega) ⟨Nat.le_refl _, Nat.le_refl _⟩ (y_isWhat (d := d - 1) (by omega)) ?_
      rintro v23 hh23 ⟨rfl, rfl⟩
      refine s_if_ne (n := 29) (tgt := 32) dX5_pond_26 rfl rfl (fun b26 => ?_) (fun b26 => ?_)
      · exact absurd (⟨if1 b19, if1 b26⟩) hb
      · refine s_ldc (n := 31) dX5_pond_29 rfl wd_X5_64 ?_
        refine s_ireturn dX5_pond_31 rfl (rfl) (Nat.le_refl _) (Nat.le_refl _) ?_
        exact ⟨rfl, rfl⟩
  · exact absurd b4 hT
set_option maxRecDepth 100000 in
set_option maxHeartbeats 4000000 in
theorem y_pond {G : mj_G} {h : mj_H} {d : Nat} {τ : Nat → Nat → Int32} (hY : YS G h τ) {n : Nat} (hn : τ 0 2 = nI n) (h7 : n ≤ 7) (hok : okB n (τ 0)) {k : Nat} (hk : k ≤ 99) (hT : ¬ τ 12 1 = 0) {w : Int32} (hw : Wi w 0 1) (hd : 4 ≤ d) : mj_con G MX5_pond d 0 0 [.ref (G.1 + 220), .int (nI k), .int w] h (fun v h' => v = some (.int (if w = 0 then mns n k (τ 0) 5 else sumF (mns n k (τ 0)) 41 n)) ∧ YS G h' (u2 (asS τ) 0 (τ 0)) ∧ mj_fr 220 13 h h') := by
  refine mj_conV okX5_pond (ls := [some (.ref (G.1 + 220)), some (.int (nI k)), some (.int w), none]) rfl rfl ?_
  obtain ⟨y0, y1, y2, y3, y4, y5, y6, y7, y8, y9, y10, y11, y12⟩ := id hY
  refine s_aload_n (n := 1) (i := 0) dX5_pond_0 rfl rfl rfl ?_
  refine gf_X5_132 (n := 4) rfl dX5_pond_1 rfl (by assumption) (by rfl) ?_
  refine s_if_ne (n := 7) (tgt := 10) dX5_pond_4 rfl rfl (fun b4 => ?_) (fun b4 => ?_)
  · refine s_iload_n (n := 11) (i := 1) dX5_pond_10 rfl rfl rfl ?_
    refine s_i2l (n := 12) dX5_pond_11 rfl ?_
    refine s_lconst (n := 13) (v := 0) dX5_pond_12 rfl (by decide) ?_
    refine s_ldc2 (n := 16) dX5_pond_13 rfl wd_X5_162 ?_
    refine s_s3 (M' := MX5_in) (n := 19) dX5_pond_16 rfl wd_X5_54 okX5_in rfl (by omega) ⟨Nat.le_refl _, Nat.le_refl _⟩ (y_in (d := d - 1) (A := 0) (B := 99) (by decide) (by decide)) ?_
    rintro v16 hh16 ⟨rfl, rfl⟩
    refine s_if_eq (n := 22) (tgt := 29) dX5_pond_19 rfl rfl (fun b19 => ?_) (fun b19 => ?_)
    · exact absurd (Wi_n (by omega) (by omega) (by omega)) (if0 b19)
    · refine s_iload_n (n := 23) (i := 2) dX5_pond_22 rfl rfl rfl ?_
      refine s_s1 (M' := MX5_isWhat) (n := 26) dX5_pond_23 rfl wd_X5_183 okX5_isWhat rfl (by omega) ⟨Nat.le_refl _, Nat.le_refl _⟩ (y_isWhat (d := d - 1) (by omega)) ?_
      rintro v23 hh23 ⟨rfl, rfl⟩
      refine s_if_ne (n := 29) (tgt := 32) dX5_pond_26 rfl rfl (fun b26 => ?_) (fun b26 => ?_)
      · refine s_aload_n (n := 33) (i := 0) dX5_pond_32 rfl rfl rfl ?_
        refine s_v0 (M' := MX5_putAside) (n := 36) (ci := 5) dX5_pond_33 rfl wd_X5_174 okX5_putAside rfl rfl (by omega) ⟨Nat.le_refl _, Nat.le_refl _⟩ (by assumption) (y_pa (d := d - 1) hY) ?_
        rintro v33 hh33 ⟨rfl, hY1, hF1⟩
        obtain ⟨y0, y1, y2, y3, y4, y5, y6, y7, y8, y9, y10, y11, y12⟩ := id hY1
        replace y4 : hh33.2 224 = mj_ar 0 48 (τ 0) := y4
        replace y0 : hh33.2 220 = YO G (τ 12) := y0
        refine s_aload_n (n := 37) (i := 0) dX5_pond_36 rfl rfl rfl ?_
        refine s_iload_n (n := 38) (i := 1) dX5_pond_37 rfl rfl rfl ?_
        refine s_v1 (M' := MX5_goOn) (n := 41) (ci := 5) dX5_pond_38 rfl wd_X5_177 okX5_goOn rfl rfl (by omega) ⟨Nat.le_refl _, Nat.le_refl _⟩ (by assumption) (y_goOn (d := d - 1) hY1 (n := n) (m := k) hok (by omega) (by omega)) ?_
        rintro v38 hh38 ⟨rfl, hY2, hF2⟩
        obtain ⟨y0, y1, y2, y3, y4, y5, y6, y7, y8, y9, y10, y11, y12⟩ := id hY2
        replace y4 : hh38.2 224 = mj_ar 0 48 (mns n k (τ 0)) := y4
        replace y0 : hh38.2 220 = YO G (τ 12) := y0
        refine s_iload_n (n := 42) (i := 2) dX5_pond_41 rfl rfl rfl ?_
        refine s_if_ne (n := 45) (tgt := 54) dX5_pond_42 rfl rfl (fun b42 => ?_) (fun b42 => ?_)
        · refine s_aload_n (n := 55) (i := 0) dX5_pond_54 rfl rfl rfl ?_
          refine s_bipush (n := 57) (v := 41) dX5_pond_55 rfl (by decide) ?_
          refine s_v1 (M' := MX5_sumOf) (n := 60) (ci := 5) dX5_pond_57 rfl wd_X5_171 okX5_sumOf rfl rfl (by omega) ⟨Nat.le_refl _, Nat.le_refl _⟩ (by assumption) (y_sumOf (d := d - 1) hY2 (n := n) (okB_mns hok k).1.1 h7 (o := 41) (by omega)) ?_
          rintro v57 hh57 ⟨rfl, rfl⟩
          refine s_istore_n (n := 61) (i := 3) (ls' := [_, _, _, _]) dX5_pond_60 rfl rfl rfl rfl rfl ?_
          refine s_aload_n (n := 62) (i := 0) dX5_pond_61 rfl rfl rfl ?_
          refine s_v0 (M' := MX5_takeBack) (n := 65) (ci := 5) dX5_pond_62 rfl wd_X5_180 okX5_takeBack rfl rfl (by omega) ⟨Nat.le_refl _, Nat.le_refl _⟩ (by assumption) (y_tb (d := d - 1) hY2 (fun q hq => mns_o h7 hq k)) ?_
          rintro v62 hh62 ⟨rfl, hY9, hF9⟩
          have hFa := fr_tr (fr_tr hF1 hF2) hF9
          obtain ⟨y0, y1, y2, y3, y4, y5, y6, y7, y8, y9, y10, y11, y12⟩ := id hY9
          replace y4 : hh62.2 224 = mj_ar 0 48 (τ 0) := y4
          replace y0 : hh62.2 220 = YO G (τ 12) := y0
          refine s_iload_n (n := 66) (i := 3) dX5_pond_65 rfl rfl rfl ?_
          refine s_ireturn dX5_pond_66 rfl (rfl) (Nat.le_refl _) (Nat.le_refl _) ?_
          refine ⟨?_, hY9, hFa⟩
          first | rw [if_pos b42] | rw [if_neg b42]
          first | done | rfl
        · refine s_aload_n (n := 46) (i := 0) dX5_pond_45 rfl rfl rfl ?_
          refine gf_X5_19 (n := 49) rfl dX5_pond_46 rfl (by assumption) (by rfl) ?_
          refine s_iconst (n := 50) (v := 5) dX5_pond_49 rfl (by decide) ?_
          refine s_iald (n := 51) dX5_pond_50 rfl (by assumption) (mj_ixe (j := 5) rfl (by omega)) ?_
          refine s_goto (tgt := 60) dX5_pond_51 rfl ?_
          refine s_istore_n (n := 61) (i := 3) (ls' := [_, _, _, _]) dX5_pond_60 rfl rfl rfl rfl rfl ?_
          refine s_aload_n (n := 62) (i := 0) dX5_pond_61 rfl rfl rfl ?_
          refine s_v0 (M' := MX5_takeBack) (n := 65) (ci := 5) dX5_pond_62 rfl wd_X5_180 okX5_takeBack rfl rfl (by omega) ⟨Nat.le_refl _, Nat.le_refl _⟩ (by assumption) (y_tb (d := d - 1) hY2 (fun q hq => mns_o h7 hq k)) ?_
          rintro v62 hh62 ⟨rfl, hY9, hF9⟩
          have hFa := fr_tr (fr_tr hF1 hF2) hF9
          obtain ⟨y0, y1, y2, y3, y4, y5, y6, y7, y8, y9, y10, y11, y12⟩ := id hY9
          replace y4 : hh62.2 224 = mj_ar 0 48 (τ 0) := y4
          replace y0 : hh62.2 220 = YO G (τ 12) := y0
          refine s_iload_n (n := 66) (i := 3) dX5_pond_65 rfl rfl rfl ?_
          refine s_ireturn dX5_pond_66 rfl (rfl) (Nat.le_refl _) (Nat.le_refl _) ?_
          refine ⟨?_, hY9, hFa⟩
          first | rw [if_pos b42] | rw [if_neg b42]
          first | done | rfl
      · exact absurd (hw) (if0 b26)
  · exact absurd b4 hT
set_option maxRecDepth 100000 in
set_option maxHeartbeats 4000000 in
theorem y_over_st {G : mj_G} {h : mj_H} {d : Nat} {τ : Nat → Nat → Int32} (hY : YS G h τ) (hb : τ 12 1 = 0) (hd : 2 ≤ d) : mj_con G MX5_over d 0 0 [.ref (G.1 + 220)] h (rI (-1000002) h) := by
  refine mj_conV okX5_over (ls := [some (.ref (G.1 + 220)), none, none]) rfl rfl ?_
  obtain ⟨y0, y1, y2, y3, y4, y5, y6, y7, y8, y9, y10, y11, y12⟩ := id hY
  refine s_aload_n (n := 1) (i := 0) dX5_over_0 rfl rfl rfl ?_
  refine gf_X5_132 (n := 4) rfl dX5_over_1 rfl (by assumption) (by rfl) ?_
  refine s_if_ne (n := 7) (tgt := 10) dX5_over_4 rfl rfl (fun b4 => ?_) (fun b4 => ?_)
  · exact absurd hb b4
  · refine s_ldc (n := 9) dX5_over_7 rfl wd_X5_146 ?_
    refine s_ireturn dX5_over_9 rfl (rfl) (Nat.le_refl _) (Nat.le_refl _) ?_
    exact ⟨rfl, rfl⟩
set_option maxRecDepth 100000 in
set_option maxHeartbeats 4000000 in
theorem l_yover {G : mj_G} {h0 : mj_H} {d n : Nat} {τ : Nat → Nat → Int32} (hd : 4 ≤ d) : ∀ (r i : Nat), i + r = 200 → ∀ (h : mj_H) (F : Nat → Int32) (l2 : Option Value), YS G h (u2 (asS τ) 0 F) → okB n F → (∀ k, 48 ≤ k → F k = τ 0 k) → mj_fr 220 13 h0 h → mj_wp G MX5_over d 0 0 16 [some (.ref (G.1 + 220)), some (.int (nI i)), l2] [] h 0 0 (fun v h' => v = some (.int (ovF n (r + 1) i F)) ∧ YS G h' (u2 (asS τ) 0 (τ 0)) ∧ mj_fr 220 13 h0 h') := by
  intro r
  induction r with
  | zero =>
    intro i hi h F l2 hY hok ho hF0
    obtain ⟨y0, y1, y2, y3, y4, y5, y6, y7, y8, y9, y10, y11, y12⟩ := id hY
    replace y4 : h.2 224 = mj_ar 0 48 (F) := y4
    replace y0 : h.2 220 = YO G (τ 12) := y0
    refine s_aload_n (n := 17) (i := 0) dX5_over_16 rfl rfl rfl ?_
    refine s_v0 (M' := MX5_isOver) (n := 20) (ci := 5) dX5_over_17 rfl wd_X5_168 okX5_isOver rfl rfl (by omega) ⟨Nat.le_refl _, Nat.le_refl _⟩ (by assumption) (y_isOver (d := d - 1) hY) ?_
    rintro v17 hh17 ⟨rfl, rfl⟩
    refine s_if_ne (n := 23) (tgt := 40) dX5_over_20 rfl rfl (fun b20 => ?_) (fun b20 => ?_)
    · have q : F 1 < F 5 := if1 b20
      refine s_aload_n (n := 41) (i := 0) dX5_over_40 rfl rfl rfl ?_
      refine s_v0 (M' := MX5_isOver) (n := 44) (ci := 5) dX5_over_41 rfl wd_X5_168 okX5_isOver rfl rfl (by omega) ⟨Nat.le_refl _, Nat.le_refl _⟩ (by assumption) (y_isOver (d := d - 1) hY) ?_
      rintro v41 hh41 ⟨rfl, rfl⟩
      refine s_istore_n (n := 45) (i := 2) (ls' := [_, _, _]) dX5_over_44 rfl rfl rfl rfl rfl ?_
      refine s_aload_n (n := 46) (i := 0) dX5_over_45 rfl rfl rfl ?_
      refine s_v0 (M' := MX5_takeBack) (n := 49) (ci := 5) dX5_over_46 rfl wd_X5_180 okX5_takeBack rfl rfl (by omega) ⟨Nat.le_refl _, Nat.le_refl _⟩ (by assumption) (y_tb (d := d - 1) hY (ho)) ?_
      rintro v46 hh46 ⟨rfl, hY9, hF9⟩
      have hFa := fr_tr (hF0) hF9
      obtain ⟨y0, y1, y2, y3, y4, y5, y6, y7, y8, y9, y10, y11, y12⟩ := id hY9
      replace y4 : hh46.2 224 = mj_ar 0 48 (τ 0) := y4
      replace y0 : hh46.2 220 = YO G (τ 12) := y0
      refine s_iload_n (n := 50) (i := 2) dX5_over_49 rfl rfl rfl ?_
      refine s_if_eq (n := 53) (tgt := 57) dX5_over_50 rfl rfl (fun b50 => ?_) (fun b50 => ?_)
      · have q2 : ¬ F 1 < F 5 := if0 b50
        refine s_ldc (n := 59) dX5_over_57 rfl wd_X5_186 ?_
        refine s_ireturn dX5_over_59 rfl (rfl) (Nat.le_refl _) (Nat.le_refl _) ?_
        first | exact absurd q2 q | exact absurd q q2 | exact ⟨by unfold ovF; rw [if_pos q], hY9, hFa⟩ | exact ⟨by unfold ovF; rw [if_neg q]; rfl, hY9, hFa⟩
      · have q2 : F 1 < F 5 := if1 b50
        refine s_iload_n (n := 54) (i := 1) dX5_over_53 rfl rfl rfl ?_
        refine s_goto (tgt := 59) dX5_over_54 rfl ?_
        refine s_ireturn dX5_over_59 rfl (rfl) (Nat.le_refl _) (Nat.le_refl _) ?_
        first | exact absurd q2 q | exact absurd q q2 | exact ⟨by unfold ovF; rw [if_pos q], hY9, hFa⟩ | exact ⟨by unfold ovF; rw [if_neg q]; rfl, hY9, hFa⟩
    · have q : ¬ F 1 < F 5 := if0 b20
      refine s_iload_n (n := 24) (i := 1) dX5_over_23 rfl rfl rfl ?_
      refine s_sipush (n := 27) (v := 200) dX5_over_24 rfl (by decide) ?_
      refine s_icmp_ge (n := 30) (tgt := 40) dX5_over_27 rfl rfl (fun b27 => ?_) (fun b27 => ?_)
      · refine s_aload_n (n := 41) (i := 0) dX5_over_40 rfl rfl rfl ?_
        refine s_v0 (M' := MX5_isOver) (n := 44) (ci := 5) dX5_over_41 rfl wd_X5_168 okX5_isOver rfl rfl (by omega) ⟨Nat.le_refl _, Nat.le_refl _⟩ (by assumption) (y_isOver (d := d - 1) hY) ?_
        rintro v41 hh41 ⟨rfl, rfl⟩
        refine s_istore_n (n := 45) (i := 2) (ls' := [_, _, _]) dX5_over_44 rfl rfl rfl rfl rfl ?_
        refine s_aload_n (n := 46) (i := 0) dX5_over_45 rfl rfl rfl ?_
        refine s_v0 (M' := MX5_takeBack) (n := 49) (ci := 5) dX5_over_46 rfl wd_X5_180 okX5_takeBack rfl rfl (by omega) ⟨Nat.le_refl _, Nat.le_refl _⟩ (by assumption) (y_tb (d := d - 1) hY (ho)) ?_
        rintro v46 hh46 ⟨rfl, hY9, hF9⟩
        have hFa := fr_tr (hF0) hF9
        obtain ⟨y0, y1, y2, y3, y4, y5, y6, y7, y8, y9, y10, y11, y12⟩ := id hY9
        replace y4 : hh46.2 224 = mj_ar 0 48 (τ 0) := y4
        replace y0 : hh46.2 220 = YO G (τ 12) := y0
        refine s_iload_n (n := 50) (i := 2) dX5_over_49 rfl rfl rfl ?_
        refine s_if_eq (n := 53) (tgt := 57) dX5_over_50 rfl rfl (fun b50 => ?_) (fun b50 => ?_)
        · have q2 : ¬ F 1 < F 5 := if0 b50
          refine s_ldc (n := 59) dX5_over_57 rfl wd_X5_186 ?_
          refine s_ireturn dX5_over_59 rfl (rfl) (Nat.le_refl _) (Nat.le_refl _) ?_
          first | exact absurd q2 q | exact absurd q q2 | exact ⟨by unfold ovF; rw [if_pos q], hY9, hFa⟩ | exact ⟨by unfold ovF; rw [if_neg q]; rfl, hY9, hFa⟩
        · have q2 : F 1 < F 5 := if1 b50
          refine s_iload_n (n := 54) (i := 1) dX5_over_53 rfl rfl rfl ?_
          refine s_goto (tgt := 59) dX5_over_54 rfl ?_
          refine s_ireturn dX5_over_59 rfl (rfl) (Nat.le_refl _) (Nat.le_refl _) ?_
          first | exact absurd q2 q | exact absurd q q2 | exact ⟨by unfold ovF; rw [if_pos q], hY9, hFa⟩ | exact ⟨by unfold ovF; rw [if_neg q]; rfl, hY9, hFa⟩
      · exfalso
        exact b27 ((nI_leE (a := 200) (by omega) (by omega)).mpr (by omega))
  | succ r ih =>
    intro i hi h F l2 hY hok ho hF0
    obtain ⟨y0, y1, y2, y3, y4, y5, y6, y7, y8, y9, y10, y11, y12⟩ := id hY
    replace y4 : h.2 224 = mj_ar 0 48 (F) := y4
    replace y0 : h.2 220 = YO G (τ 12) := y0
    refine s_aload_n (n := 17) (i := 0) dX5_over_16 rfl rfl rfl ?_
    refine s_v0 (M' := MX5_isOver) (n := 20) (ci := 5) dX5_over_17 rfl wd_X5_168 okX5_isOver rfl rfl (by omega) ⟨Nat.le_refl _, Nat.le_refl _⟩ (by assumption) (y_isOver (d := d - 1) hY) ?_
    rintro v17 hh17 ⟨rfl, rfl⟩
    refine s_if_ne (n := 23) (tgt := 40) dX5_over_20 rfl rfl (fun b20 => ?_) (fun b20 => ?_)
    · have q : F 1 < F 5 := if1 b20
      refine s_aload_n (n := 41) (i := 0) dX5_over_40 rfl rfl rfl ?_
      refine s_v0 (M' := MX5_isOver) (n := 44) (ci := 5) dX5_over_41 rfl wd_X5_168 okX5_isOver rfl rfl (by omega) ⟨Nat.le_refl _, Nat.le_refl _⟩ (by assumption) (y_isOver (d := d - 1) hY) ?_
      rintro v41 hh41 ⟨rfl, rfl⟩
      refine s_istore_n (n := 45) (i := 2) (ls' := [_, _, _]) dX5_over_44 rfl rfl rfl rfl rfl ?_
      refine s_aload_n (n := 46) (i := 0) dX5_over_45 rfl rfl rfl ?_
      refine s_v0 (M' := MX5_takeBack) (n := 49) (ci := 5) dX5_over_46 rfl wd_X5_180 okX5_takeBack rfl rfl (by omega) ⟨Nat.le_refl _, Nat.le_refl _⟩ (by assumption) (y_tb (d := d - 1) hY (ho)) ?_
      rintro v46 hh46 ⟨rfl, hY9, hF9⟩
      have hFa := fr_tr (hF0) hF9
      obtain ⟨y0, y1, y2, y3, y4, y5, y6, y7, y8, y9, y10, y11, y12⟩ := id hY9
      replace y4 : hh46.2 224 = mj_ar 0 48 (τ 0) := y4
      replace y0 : hh46.2 220 = YO G (τ 12) := y0
      refine s_iload_n (n := 50) (i := 2) dX5_over_49 rfl rfl rfl ?_
      refine s_if_eq (n := 53) (tgt := 57) dX5_over_50 rfl rfl (fun b50 => ?_) (fun b50 => ?_)
      · have q2 : ¬ F 1 < F 5 := if0 b50
        refine s_ldc (n := 59) dX5_over_57 rfl wd_X5_186 ?_
        refine s_ireturn dX5_over_59 rfl (rfl) (Nat.le_refl _) (Nat.le_refl _) ?_
        first | exact absurd q2 q | exact absurd q q2 | exact ⟨by unfold ovF; rw [if_pos q], hY9, hFa⟩ | exact ⟨by unfold ovF; rw [if_neg q]; rfl, hY9, hFa⟩
      · have q2 : F 1 < F 5 := if1 b50
        refine s_iload_n (n := 54) (i := 1) dX5_over_53 rfl rfl rfl ?_
        refine s_goto (tgt := 59) dX5_over_54 rfl ?_
        refine s_ireturn dX5_over_59 rfl (rfl) (Nat.le_refl _) (Nat.le_refl _) ?_
        first | exact absurd q2 q | exact absurd q q2 | exact ⟨by unfold ovF; rw [if_pos q], hY9, hFa⟩ | exact ⟨by unfold ovF; rw [if_neg q]; rfl, hY9, hFa⟩
    · have q : ¬ F 1 < F 5 := if0 b20
      refine s_iload_n (n := 24) (i := 1) dX5_over_23 rfl rfl rfl ?_
      refine s_sipush (n := 27) (v := 200) dX5_over_24 rfl (by decide) ?_
      refine s_icmp_ge (n := 30) (tgt := 40) dX5_over_27 rfl rfl (fun b27 => ?_) (fun b27 => ?_)
      · exfalso
        have q9 := (nI_leE (a := 200) (by omega) (by omega)).mp b27
        omega
      · refine s_aload_n (n := 31) (i := 0) dX5_over_30 rfl rfl rfl ?_
        refine s_v0 (M' := MX5_oneMinute) (n := 34) (ci := 5) dX5_over_31 rfl wd_X5_152 okX5_oneMinute rfl rfl (by omega) ⟨Nat.le_refl _, Nat.le_refl _⟩ (by assumption) (y_om (d := d - 1) hY (n := n) hok (by omega)) ?_
        rintro v31 hh31 ⟨rfl, hY1, hF1⟩
        obtain ⟨y0, y1, y2, y3, y4, y5, y6, y7, y8, y9, y10, y11, y12⟩ := id hY1
        replace y4 : hh31.2 224 = mj_ar 0 48 (mn n F) := y4
        replace y0 : hh31.2 220 = YO G (τ 12) := y0
        refine s_iinc (n := 37) (v := _ + 1) (ls' := [_, _, _]) dX5_over_34 rfl rfl rfl rfl rfl ?_
        refine s_goto (tgt := 16) dX5_over_37 rfl ?_
        rw [nI_1]
        unfold ovF
        rw [if_neg q]
        exact ih (i + 1) (by omega) _ _ _ hY1 (okB_mn hok) (fun k hk => (mn_o hok.1.2.1 hk).trans (ho k hk)) (fr_tr hF0 hF1)
set_option maxRecDepth 100000 in
set_option maxHeartbeats 4000000 in
theorem y_over {G : mj_G} {h : mj_H} {d : Nat} {τ : Nat → Nat → Int32} (hY : YS G h τ) {n : Nat} (hn : τ 0 2 = nI n) (h7 : n ≤ 7) (hok : okB n (τ 0)) (hT : ¬ τ 12 1 = 0) (hd : 4 ≤ d) : mj_con G MX5_over d 0 0 [.ref (G.1 + 220)] h (fun v h' => v = some (.int (ovF n 201 0 (τ 0))) ∧ YS G h' (u2 (asS τ) 0 (τ 0)) ∧ mj_fr 220 13 h h') := by
  refine mj_conV okX5_over (ls := [some (.ref (G.1 + 220)), none, none]) rfl rfl ?_
  obtain ⟨y0, y1, y2, y3, y4, y5, y6, y7, y8, y9, y10, y11, y12⟩ := id hY
  refine s_aload_n (n := 1) (i := 0) dX5_over_0 rfl rfl rfl ?_
  refine gf_X5_132 (n := 4) rfl dX5_over_1 rfl (by assumption) (by rfl) ?_
  refine s_if_ne (n := 7) (tgt := 10) dX5_over_4 rfl rfl (fun b4 => ?_) (fun b4 => ?_)
  · refine s_aload_n (n := 11) (i := 0) dX5_over_10 rfl rfl rfl ?_
    refine s_v0 (M' := MX5_putAside) (n := 14) (ci := 5) dX5_over_11 rfl wd_X5_174 okX5_putAside rfl rfl (by omega) ⟨Nat.le_refl _, Nat.le_refl _⟩ (by assumption) (y_pa (d := d - 1) hY) ?_
    rintro v11 hh11 ⟨rfl, hY1, hF1⟩
    obtain ⟨y0, y1, y2, y3, y4, y5, y6, y7, y8, y9, y10, y11, y12⟩ := id hY1
    replace y4 : hh11.2 224 = mj_ar 0 48 (τ 0) := y4
    replace y0 : hh11.2 220 = YO G (τ 12) := y0
    refine s_iconst (n := 15) (v := 0) dX5_over_14 rfl (by decide) ?_
    refine s_istore_n (n := 16) (i := 1) (ls' := [_, _, _]) dX5_over_15 rfl rfl rfl rfl rfl ?_
    exact l_yover (by omega) 200 0 (by omega) _ _ _ hY1 hok rfl48 hF1
  · exact absurd b4 hT
set_option maxRecDepth 100000 in
set_option maxHeartbeats 4000000 in
theorem l_fullNow {G : mj_G} {h : mj_H} {d n : Nat} {τ : Nat → Nat → Int32} (hY : YS G h τ) (h7 : n ≤ 7) : ∀ (i : Nat), i ≤ n → mj_wp G MX5_fullNow d 0 0 12 [some (.ref (G.1 + 220)), some (.int (ffb (τ 0) i (n - i))), some (.int (nI i - 1))] [] h 0 0 (rI (ffb (τ 0) 0 n) h) := by
  obtain ⟨y0, y1, y2, y3, y4, y5, y6, y7, y8, y9, y10, y11, y12⟩ := id hY
  intro i
  induction i with
  | zero =>
    intro hi
    refine s_iload_n (n := 13) (i := 2) dX5_fullNow_12 rfl rfl rfl ?_
    refine s_if_lt (n := 16) (tgt := 61) dX5_fullNow_13 rfl rfl (fun b13 => ?_) (fun b13 => ?_)
    · refine s_iload_n (n := 62) (i := 1) dX5_fullNow_61 rfl rfl rfl ?_
      refine s_ireturn dX5_fullNow_62 rfl (rfl) (Nat.le_refl _) (Nat.le_refl _) ?_
      exact rI_ok rfl
    · exact absurd nI_m1 b13
  | succ i ih =>
    intro hi
    rw [nI_s1]
    have e : ffb (τ 0) i (n - i) = if 0 < τ 0 (27 + i) ∧ τ 0 (41 + i) = τ 0 (27 + i) then nI i else ffb (τ 0) (i + 1) (n - (i + 1)) := by
      rw [show n - i = (n - (i + 1)) + 1 from by omega]
      rfl
    refine s_iload_n (n := 13) (i := 2) dX5_fullNow_12 rfl rfl rfl ?_
    refine s_if_lt (n := 16) (tgt := 61) dX5_fullNow_13 rfl rfl (fun b13 => ?_) (fun b13 => ?_)
    · exact absurd b13 (nI_lt0 (by omega))
    · refine s_aload_n (n := 17) (i := 0) dX5_fullNow_16 rfl rfl rfl ?_
      refine gf_X5_19 (n := 20) rfl dX5_fullNow_17 rfl (by assumption) (by rfl) ?_
      refine s_bipush (n := 22) (v := 27) dX5_fullNow_20 rfl (by decide) ?_
      refine s_iload_n (n := 23) (i := 2) dX5_fullNow_22 rfl rfl rfl ?_
      refine s_iadd (n := 24) dX5_fullNow_23 rfl ?_
      refine s_iald (n := 25) dX5_fullNow_24 rfl (by assumption) (mj_ixa (o := 27) rfl (by omega)) ?_
      refine s_if_le (n := 28) (tgt := 53) dX5_fullNow_25 rfl rfl (fun b25 => ?_) (fun b25 => ?_)
      · rw [if_neg (fun z => absurd z.1 (Int32.not_lt.mpr b25))] at e
        refine s_iload_n (n := 54) (i := 1) dX5_fullNow_53 rfl rfl rfl ?_
        refine s_istore_n (n := 55) (i := 1) (ls' := [_, _, _]) dX5_fullNow_54 rfl rfl rfl rfl rfl ?_
        refine s_iinc (n := 58) (v := _ + (-1)) (ls' := [_, _, _]) dX5_fullNow_55 rfl rfl rfl rfl rfl ?_
        refine s_goto (tgt := 12) dX5_fullNow_58 rfl ?_
        have ihx := ih (by omega)
        rw [e, Int32.sub_eq_add_neg] at ihx
        exact ihx
      · refine s_aload_n (n := 29) (i := 0) dX5_fullNow_28 rfl rfl rfl ?_
        refine gf_X5_19 (n := 32) rfl dX5_fullNow_29 rfl (by assumption) (by rfl) ?_
        refine s_bipush (n := 34) (v := 41) dX5_fullNow_32 rfl (by decide) ?_
        refine s_iload_n (n := 35) (i := 2) dX5_fullNow_34 rfl rfl rfl ?_
        refine s_iadd (n := 36) dX5_fullNow_35 rfl ?_
        refine s_iald (n := 37) dX5_fullNow_36 rfl (by assumption) (mj_ixa (o := 41) rfl (by omega)) ?_
        refine s_aload_n (n := 38) (i := 0) dX5_fullNow_37 rfl rfl rfl ?_
        refine gf_X5_19 (n := 41) rfl dX5_fullNow_38 rfl (by assumption) (by rfl) ?_
        refine s_bipush (n := 43) (v := 27) dX5_fullNow_41 rfl (by decide) ?_
        refine s_iload_n (n := 44) (i := 2) dX5_fullNow_43 rfl rfl rfl ?_
        refine s_iadd (n := 45) dX5_fullNow_44 rfl ?_
        refine s_iald (n := 46) dX5_fullNow_45 rfl (by assumption) (mj_ixa (o := 27) rfl (by omega)) ?_
        refine s_icmp_ne (n := 49) (tgt := 53) dX5_fullNow_46 rfl rfl (fun b46 => ?_) (fun b46 => ?_)
        · rw [if_neg (fun z => b46 z.2)] at e
          refine s_iload_n (n := 54) (i := 1) dX5_fullNow_53 rfl rfl rfl ?_
          refine s_istore_n (n := 55) (i := 1) (ls' := [_, _, _]) dX5_fullNow_54 rfl rfl rfl rfl rfl ?_
          refine s_iinc (n := 58) (v := _ + (-1)) (ls' := [_, _, _]) dX5_fullNow_55 rfl rfl rfl rfl rfl ?_
          refine s_goto (tgt := 12) dX5_fullNow_58 rfl ?_
          have ihx := ih (by omega)
          rw [e, Int32.sub_eq_add_neg] at ihx
          exact ihx
        · rw [if_pos ⟨Int32.not_le.mp b25, b46⟩] at e
          refine s_iload_n (n := 50) (i := 2) dX5_fullNow_49 rfl rfl rfl ?_
          refine s_goto (tgt := 54) dX5_fullNow_50 rfl ?_
          refine s_istore_n (n := 55) (i := 1) (ls' := [_, _, _]) dX5_fullNow_54 rfl rfl rfl rfl rfl ?_
          refine s_iinc (n := 58) (v := _ + (-1)) (ls' := [_, _, _]) dX5_fullNow_55 rfl rfl rfl rfl rfl ?_
          refine s_goto (tgt := 12) dX5_fullNow_58 rfl ?_
          have ihx := ih (by omega)
          rw [e, Int32.sub_eq_add_neg] at ihx
          exact ihx
set_option maxRecDepth 100000 in
set_option maxHeartbeats 4000000 in
theorem y_fullNow {G : mj_G} {h : mj_H} {d : Nat} {τ : Nat → Nat → Int32} (hY : YS G h τ) {n : Nat} (hn : τ 0 2 = nI n) (h7 : n ≤ 7) : mj_con G MX5_fullNow d 0 0 [.ref (G.1 + 220)] h (rI (ffb (τ 0) 0 n) h) := by
  refine mj_conV okX5_fullNow (ls := [some (.ref (G.1 + 220)), none, none]) rfl rfl ?_
  obtain ⟨y0, y1, y2, y3, y4, y5, y6, y7, y8, y9, y10, y11, y12⟩ := id hY
  refine s_ldc (n := 2) dX5_fullNow_0 rfl wd_X5_186 ?_
  refine s_istore_n (n := 3) (i := 1) (ls' := [_, _, _]) dX5_fullNow_2 rfl rfl rfl rfl rfl ?_
  refine s_aload_n (n := 4) (i := 0) dX5_fullNow_3 rfl rfl rfl ?_
  refine gf_X5_19 (n := 7) rfl dX5_fullNow_4 rfl (by assumption) (by rfl) ?_
  refine s_iconst (n := 8) (v := 2) dX5_fullNow_7 rfl (by decide) ?_
  refine s_iald (n := 9) dX5_fullNow_8 rfl (by assumption) (mj_ixe (j := 2) rfl (by omega)) ?_
  rw [hn]
  refine s_iconst (n := 10) (v := 1) dX5_fullNow_9 rfl (by decide) ?_
  refine s_isub (n := 11) dX5_fullNow_10 rfl ?_
  refine s_istore_n (n := 12) (i := 2) (ls' := [_, _, _]) dX5_fullNow_11 rfl rfl rfl rfl rfl ?_
  have q := l_fullNow (d := d) hY h7 n (Nat.le_refl n)
  rw [Nat.sub_self] at q
  exact q
theorem ffb_d : ∀ i, i < 7 → ¬ nI i = -1000000 ∧ 0 ≤ nI i := by decide
theorem ffb_c {T : Nat → Int32} : ∀ (m i : Nat), i + m ≤ 7 → ffb T i m = -1000000 ∨ (¬ ffb T i m = -1000000 ∧ 0 ≤ ffb T i m)
  | 0, _, _ => Or.inl rfl
  | m + 1, i, h => by
    unfold ffb
    split
    · right
      exact ffb_d i (by omega)
    · exact ffb_c m (i + 1) (by omega)
set_option maxRecDepth 100000 in
set_option maxHeartbeats 4000000 in
theorem y_full_st {G : mj_G} {h : mj_H} {d : Nat} {τ : Nat → Nat → Int32} (hY : YS G h τ) {x : Int32} (hb : τ 12 1 = 0) (hd : 2 ≤ d) : mj_con G MX5_full d 0 0 [.ref (G.1 + 220), .int x] h (rI (-1000002) h) := by
  refine mj_conV okX5_full (ls := [some (.ref (G.1 + 220)), some (.int x), none, none]) rfl rfl ?_
  obtain ⟨y0, y1, y2, y3, y4, y5, y6, y7, y8, y9, y10, y11, y12⟩ := id hY
  refine s_aload_n (n := 1) (i := 0) dX5_full_0 rfl rfl rfl ?_
  refine gf_X5_132 (n := 4) rfl dX5_full_1 rfl (by assumption) (by rfl) ?_
  refine s_if_ne (n := 7) (tgt := 10) dX5_full_4 rfl rfl (fun b4 => ?_) (fun b4 => ?_)
  · exact absurd hb b4
  · refine s_ldc (n := 9) dX5_full_7 rfl wd_X5_146 ?_
    refine s_ireturn dX5_full_9 rfl (rfl) (Nat.le_refl _) (Nat.le_refl _) ?_
    exact ⟨rfl, rfl⟩
set_option maxRecDepth 100000 in
set_option maxHeartbeats 4000000 in
theorem y_full_bad {G : mj_G} {h : mj_H} {d : Nat} {τ : Nat → Nat → Int32} (hY : YS G h τ) {x : Int32} (hT : ¬ τ 12 1 = 0) (hb : ¬ Wi x 0 1) (hd : 2 ≤ d) : mj_con G MX5_full d 0 0 [.ref (G.1 + 220), .int x] h (rI (-1000001) h) := by
  refine mj_conV okX5_full (ls := [some (.ref (G.1 + 220)), some (.int x), none, none]) rfl rfl ?_
  obtain ⟨y0, y1, y2, y3, y4, y5, y6, y7, y8, y9, y10, y11, y12⟩ := id hY
  refine s_aload_n (n := 1) (i := 0) dX5_full_0 rfl rfl rfl ?_
  refine gf_X5_132 (n := 4) rfl dX5_full_1 rfl (by assumption) (by rfl) ?_
  refine s_if_ne (n := 7) (tgt := 10) dX5_full_4 rfl rfl (fun b4 => ?_) (fun b4 => ?_)
  · refine s_iload_n (n := 11) (i := 1) dX5_full_10 rfl rfl rfl ?_
    refine s_s1 (M' := MX5_isWhat) (n := 14) dX5_full_11 rfl wd_X5_183 okX5_isWhat rfl (by omega) ⟨Nat.le_refl _, Nat.le_refl _⟩ (y_isWhat (d := d - 1) (by omega)) ?_
    rintro v11 hh11 ⟨rfl, rfl⟩
    refine s_if_ne (n := 17) (tgt := 20) dX5_full_14 rfl rfl (fun b14 => ?_) (fun b14 => ?_)
    · exact absurd (if1 b14) hb
    · refine s_ldc (n := 19) dX5_full_17 rfl wd_X5_64 ?_
      refine s_ireturn dX5_full_19 rfl (rfl) (Nat.le_refl _) (Nat.le_refl _) ?_
      exact ⟨rfl, rfl⟩
  · exact absurd b4 hT
set_option maxRecDepth 100000 in
set_option maxHeartbeats 4000000 in
theorem l_yfull {G : mj_G} {h0 : mj_H} {d n : Nat} {τ : Nat → Nat → Int32} {w : Int32} (hd : 4 ≤ d) : ∀ (r i : Nat), i + r = 99 → ∀ (h : mj_H) (F : Nat → Int32) (l3 : Option Value), YS G h (u2 (asS τ) 0 F) → okB n F → (∀ k, 48 ≤ k → F k = τ 0 k) → mj_fr 220 13 h0 h → mj_wp G MX5_full d 0 0 26 [some (.ref (G.1 + 220)), some (.int w), some (.int (nI i)), l3] [] h 0 0 (fun v h' => v = some (.int (fuF n w (r + 1) i F)) ∧ YS G h' (u2 (asS τ) 0 (τ 0)) ∧ mj_fr 220 13 h0 h') := by
  intro r
  induction r with
  | zero =>
    intro i hi h F l3 hY hok ho hF0
    obtain ⟨y0, y1, y2, y3, y4, y5, y6, y7, y8, y9, y10, y11, y12⟩ := id hY
    replace y4 : h.2 224 = mj_ar 0 48 (F) := y4
    replace y0 : h.2 220 = YO G (τ 12) := y0
    refine s_aload_n (n := 27) (i := 0) dX5_full_26 rfl rfl rfl ?_
    refine s_v0 (M' := MX5_fullNow) (n := 30) (ci := 5) dX5_full_27 rfl wd_X5_187 okX5_fullNow rfl rfl (by omega) ⟨Nat.le_refl _, Nat.le_refl _⟩ (by assumption) (y_fullNow (d := d - 1) hY (n := n) hok.1.1 hok.1.2.1) ?_
    rintro v27 hh27 ⟨rfl, rfl⟩
    refine s_if_ge (n := 33) (tgt := 49) dX5_full_30 rfl rfl (fun b30 => ?_) (fun b30 => ?_)
    · have q : ¬ ffb F 0 n = -1000000 := fun z => absurd b30 (by rw [show ffb (u2 (asS τ) 0 F 0) 0 n = -1000000 from z]; decide)
      refine s_aload_n (n := 50) (i := 0) dX5_full_49 rfl rfl rfl ?_
      refine s_v0 (M' := MX5_fullNow) (n := 53) (ci := 5) dX5_full_50 rfl wd_X5_187 okX5_fullNow rfl rfl (by omega) ⟨Nat.le_refl _, Nat.le_refl _⟩ (by assumption) (y_fullNow (d := d - 1) hY (n := n) hok.1.1 hok.1.2.1) ?_
      rintro v50 hh50 ⟨rfl, rfl⟩
      refine s_istore_n (n := 54) (i := 3) (ls' := [_, _, _, _]) dX5_full_53 rfl rfl rfl rfl rfl ?_
      refine s_aload_n (n := 55) (i := 0) dX5_full_54 rfl rfl rfl ?_
      refine s_v0 (M' := MX5_takeBack) (n := 58) (ci := 5) dX5_full_55 rfl wd_X5_180 okX5_takeBack rfl rfl (by omega) ⟨Nat.le_refl _, Nat.le_refl _⟩ (by assumption) (y_tb (d := d - 1) hY (ho)) ?_
      rintro v55 hh55 ⟨rfl, hY9, hF9⟩
      have hFa := fr_tr (hF0) hF9
      obtain ⟨y0, y1, y2, y3, y4, y5, y6, y7, y8, y9, y10, y11, y12⟩ := id hY9
      replace y4 : hh55.2 224 = mj_ar 0 48 (τ 0) := y4
      replace y0 : hh55.2 220 = YO G (τ 12) := y0
      refine s_iload_n (n := 59) (i := 3) dX5_full_58 rfl rfl rfl ?_
      refine s_if_lt (n := 62) (tgt := 66) dX5_full_59 rfl rfl (fun b59 => ?_) (fun b59 => ?_)
      · have q2 : ffb F 0 n = -1000000 := (ffb_c n 0 (by have := hok.1.2.1; omega)).elim id (fun z => absurd z.2 (Int32.not_le.mpr b59))
        refine s_iload_n (n := 67) (i := 3) dX5_full_66 rfl rfl rfl ?_
        refine s_goto (tgt := 71) dX5_full_67 rfl ?_
        refine s_ireturn dX5_full_71 rfl (rfl) (Nat.le_refl _) (Nat.le_refl _) ?_
        first | exact absurd q2 q | exact absurd q q2 | exact ⟨by unfold fuF; rw [if_neg q, if_pos b63]; rfl, hY9, hFa⟩ | exact ⟨by unfold fuF; rw [if_neg q, if_neg b63], hY9, hFa⟩ | exact ⟨by unfold fuF; rw [if_pos q]; exact congrArg (fun z => some (Value.int z)) q, hY9, hFa⟩
      · have q2 : ¬ ffb F 0 n = -1000000 := fun z => absurd b59 (by rw [show ffb (u2 (asS τ) 0 F 0) 0 n = -1000000 from z]; decide)
        refine s_iload_n (n := 63) (i := 1) dX5_full_62 rfl rfl rfl ?_
        refine s_if_ne (n := 66) (tgt := 70) dX5_full_63 rfl rfl (fun b63 => ?_) (fun b63 => ?_)
        · refine s_iload_n (n := 71) (i := 2) dX5_full_70 rfl rfl rfl ?_
          refine s_ireturn dX5_full_71 rfl (rfl) (Nat.le_refl _) (Nat.le_refl _) ?_
          first | exact absurd q2 q | exact absurd q q2 | exact ⟨by unfold fuF; rw [if_neg q, if_pos b63]; rfl, hY9, hFa⟩ | exact ⟨by unfold fuF; rw [if_neg q, if_neg b63], hY9, hFa⟩ | exact ⟨by unfold fuF; rw [if_pos q]; exact congrArg (fun z => some (Value.int z)) q, hY9, hFa⟩
        · refine s_iload_n (n := 67) (i := 3) dX5_full_66 rfl rfl rfl ?_
          refine s_goto (tgt := 71) dX5_full_67 rfl ?_
          refine s_ireturn dX5_full_71 rfl (rfl) (Nat.le_refl _) (Nat.le_refl _) ?_
          first | exact absurd q2 q | exact absurd q q2 | exact ⟨by unfold fuF; rw [if_neg q, if_pos b63]; rfl, hY9, hFa⟩ | exact ⟨by unfold fuF; rw [if_neg q, if_neg b63], hY9, hFa⟩ | exact ⟨by unfold fuF; rw [if_pos q]; exact congrArg (fun z => some (Value.int z)) q, hY9, hFa⟩
    · have q : ffb F 0 n = -1000000 := (ffb_c n 0 (by have := hok.1.2.1; omega)).elim id (fun z => absurd z.2 b30)
      refine s_iload_n (n := 34) (i := 2) dX5_full_33 rfl rfl rfl ?_
      refine s_bipush (n := 36) (v := 99) dX5_full_34 rfl (by decide) ?_
      refine s_icmp_ge (n := 39) (tgt := 49) dX5_full_36 rfl rfl (fun b36 => ?_) (fun b36 => ?_)
      · refine s_aload_n (n := 50) (i := 0) dX5_full_49 rfl rfl rfl ?_
        refine s_v0 (M' := MX5_fullNow) (n := 53) (ci := 5) dX5_full_50 rfl wd_X5_187 okX5_fullNow rfl rfl (by omega) ⟨Nat.le_refl _, Nat.le_refl _⟩ (by assumption) (y_fullNow (d := d - 1) hY (n := n) hok.1.1 hok.1.2.1) ?_
        rintro v50 hh50 ⟨rfl, rfl⟩
        refine s_istore_n (n := 54) (i := 3) (ls' := [_, _, _, _]) dX5_full_53 rfl rfl rfl rfl rfl ?_
        refine s_aload_n (n := 55) (i := 0) dX5_full_54 rfl rfl rfl ?_
        refine s_v0 (M' := MX5_takeBack) (n := 58) (ci := 5) dX5_full_55 rfl wd_X5_180 okX5_takeBack rfl rfl (by omega) ⟨Nat.le_refl _, Nat.le_refl _⟩ (by assumption) (y_tb (d := d - 1) hY (ho)) ?_
        rintro v55 hh55 ⟨rfl, hY9, hF9⟩
        have hFa := fr_tr (hF0) hF9
        obtain ⟨y0, y1, y2, y3, y4, y5, y6, y7, y8, y9, y10, y11, y12⟩ := id hY9
        replace y4 : hh55.2 224 = mj_ar 0 48 (τ 0) := y4
        replace y0 : hh55.2 220 = YO G (τ 12) := y0
        refine s_iload_n (n := 59) (i := 3) dX5_full_58 rfl rfl rfl ?_
        refine s_if_lt (n := 62) (tgt := 66) dX5_full_59 rfl rfl (fun b59 => ?_) (fun b59 => ?_)
        · have q2 : ffb F 0 n = -1000000 := (ffb_c n 0 (by have := hok.1.2.1; omega)).elim id (fun z => absurd z.2 (Int32.not_le.mpr b59))
          refine s_iload_n (n := 67) (i := 3) dX5_full_66 rfl rfl rfl ?_
          refine s_goto (tgt := 71) dX5_full_67 rfl ?_
          refine s_ireturn dX5_full_71 rfl (rfl) (Nat.le_refl _) (Nat.le_refl _) ?_
          first | exact absurd q2 q | exact absurd q q2 | exact ⟨by unfold fuF; rw [if_neg q, if_pos b63]; rfl, hY9, hFa⟩ | exact ⟨by unfold fuF; rw [if_neg q, if_neg b63], hY9, hFa⟩ | exact ⟨by unfold fuF; rw [if_pos q]; exact congrArg (fun z => some (Value.int z)) q, hY9, hFa⟩
        · have q2 : ¬ ffb F 0 n = -1000000 := fun z => absurd b59 (by rw [show ffb (u2 (asS τ) 0 F 0) 0 n = -1000000 from z]; decide)
          refine s_iload_n (n := 63) (i := 1) dX5_full_62 rfl rfl rfl ?_
          refine s_if_ne (n := 66) (tgt := 70) dX5_full_63 rfl rfl (fun b63 => ?_) (fun b63 => ?_)
          · refine s_iload_n (n := 71) (i := 2) dX5_full_70 rfl rfl rfl ?_
            refine s_ireturn dX5_full_71 rfl (rfl) (Nat.le_refl _) (Nat.le_refl _) ?_
            first | exact absurd q2 q | exact absurd q q2 | exact ⟨by unfold fuF; rw [if_neg q, if_pos b63]; rfl, hY9, hFa⟩ | exact ⟨by unfold fuF; rw [if_neg q, if_neg b63], hY9, hFa⟩ | exact ⟨by unfold fuF; rw [if_pos q]; exact congrArg (fun z => some (Value.int z)) q, hY9, hFa⟩
          · refine s_iload_n (n := 67) (i := 3) dX5_full_66 rfl rfl rfl ?_
            refine s_goto (tgt := 71) dX5_full_67 rfl ?_
            refine s_ireturn dX5_full_71 rfl (rfl) (Nat.le_refl _) (Nat.le_refl _) ?_
            first | exact absurd q2 q | exact absurd q q2 | exact ⟨by unfold fuF; rw [if_neg q, if_pos b63]; rfl, hY9, hFa⟩ | exact ⟨by unfold fuF; rw [if_neg q, if_neg b63], hY9, hFa⟩ | exact ⟨by unfold fuF; rw [if_pos q]; exact congrArg (fun z => some (Value.int z)) q, hY9, hFa⟩
      · exfalso
        exact b36 ((nI_leE (a := 99) (by omega) (by omega)).mpr (by omega))
  | succ r ih =>
    intro i hi h F l3 hY hok ho hF0
    obtain ⟨y0, y1, y2, y3, y4, y5, y6, y7, y8, y9, y10, y11, y12⟩ := id hY
    replace y4 : h.2 224 = mj_ar 0 48 (F) := y4
    replace y0 : h.2 220 = YO G (τ 12) := y0
    refine s_aload_n (n := 27) (i := 0) dX5_full_26 rfl rfl rfl ?_
    refine s_v0 (M' := MX5_fullNow) (n := 30) (ci := 5) dX5_full_27 rfl wd_X5_187 okX5_fullNow rfl rfl (by omega) ⟨Nat.le_refl _, Nat.le_refl _⟩ (by assumption) (y_fullNow (d := d - 1) hY (n := n) hok.1.1 hok.1.2.1) ?_
    rintro v27 hh27 ⟨rfl, rfl⟩
    refine s_if_ge (n := 33) (tgt := 49) dX5_full_30 rfl rfl (fun b30 => ?_) (fun b30 => ?_)
    · have q : ¬ ffb F 0 n = -1000000 := fun z => absurd b30 (by rw [show ffb (u2 (asS τ) 0 F 0) 0 n = -1000000 from z]; decide)
      refine s_aload_n (n := 50) (i := 0) dX5_full_49 rfl rfl rfl ?_
      refine s_v0 (M' := MX5_fullNow) (n := 53) (ci := 5) dX5_full_50 rfl wd_X5_187 okX5_fullNow rfl rfl (by omega) ⟨Nat.le_refl _, Nat.le_refl _⟩ (by assumption) (y_fullNow (d := d - 1) hY (n := n) hok.1.1 hok.1.2.1) ?_
      rintro v50 hh50 ⟨rfl, rfl⟩
      refine s_istore_n (n := 54) (i := 3) (ls' := [_, _, _, _]) dX5_full_53 rfl rfl rfl rfl rfl ?_
      refine s_aload_n (n := 55) (i := 0) dX5_full_54 rfl rfl rfl ?_
      refine s_v0 (M' := MX5_takeBack) (n := 58) (ci := 5) dX5_full_55 rfl wd_X5_180 okX5_takeBack rfl rfl (by omega) ⟨Nat.le_refl _, Nat.le_refl _⟩ (by assumption) (y_tb (d := d - 1) hY (ho)) ?_
      rintro v55 hh55 ⟨rfl, hY9, hF9⟩
      have hFa := fr_tr (hF0) hF9
      obtain ⟨y0, y1, y2, y3, y4, y5, y6, y7, y8, y9, y10, y11, y12⟩ := id hY9
      replace y4 : hh55.2 224 = mj_ar 0 48 (τ 0) := y4
      replace y0 : hh55.2 220 = YO G (τ 12) := y0
      refine s_iload_n (n := 59) (i := 3) dX5_full_58 rfl rfl rfl ?_
      refine s_if_lt (n := 62) (tgt := 66) dX5_full_59 rfl rfl (fun b59 => ?_) (fun b59 => ?_)
      · have q2 : ffb F 0 n = -1000000 := (ffb_c n 0 (by have := hok.1.2.1; omega)).elim id (fun z => absurd z.2 (Int32.not_le.mpr b59))
        refine s_iload_n (n := 67) (i := 3) dX5_full_66 rfl rfl rfl ?_
        refine s_goto (tgt := 71) dX5_full_67 rfl ?_
        refine s_ireturn dX5_full_71 rfl (rfl) (Nat.le_refl _) (Nat.le_refl _) ?_
        first | exact absurd q2 q | exact absurd q q2 | exact ⟨by unfold fuF; rw [if_neg q, if_pos b63]; rfl, hY9, hFa⟩ | exact ⟨by unfold fuF; rw [if_neg q, if_neg b63], hY9, hFa⟩ | exact ⟨by unfold fuF; rw [if_pos q]; exact congrArg (fun z => some (Value.int z)) q, hY9, hFa⟩
      · have q2 : ¬ ffb F 0 n = -1000000 := fun z => absurd b59 (by rw [show ffb (u2 (asS τ) 0 F 0) 0 n = -1000000 from z]; decide)
        refine s_iload_n (n := 63) (i := 1) dX5_full_62 rfl rfl rfl ?_
        refine s_if_ne (n := 66) (tgt := 70) dX5_full_63 rfl rfl (fun b63 => ?_) (fun b63 => ?_)
        · refine s_iload_n (n := 71) (i := 2) dX5_full_70 rfl rfl rfl ?_
          refine s_ireturn dX5_full_71 rfl (rfl) (Nat.le_refl _) (Nat.le_refl _) ?_
          first | exact absurd q2 q | exact absurd q q2 | exact ⟨by unfold fuF; rw [if_neg q, if_pos b63]; rfl, hY9, hFa⟩ | exact ⟨by unfold fuF; rw [if_neg q, if_neg b63], hY9, hFa⟩ | exact ⟨by unfold fuF; rw [if_pos q]; exact congrArg (fun z => some (Value.int z)) q, hY9, hFa⟩
        · refine s_iload_n (n := 67) (i := 3) dX5_full_66 rfl rfl rfl ?_
          refine s_goto (tgt := 71) dX5_full_67 rfl ?_
          refine s_ireturn dX5_full_71 rfl (rfl) (Nat.le_refl _) (Nat.le_refl _) ?_
          first | exact absurd q2 q | exact absurd q q2 | exact ⟨by unfold fuF; rw [if_neg q, if_pos b63]; rfl, hY9, hFa⟩ | exact ⟨by unfold fuF; rw [if_neg q, if_neg b63], hY9, hFa⟩ | exact ⟨by unfold fuF; rw [if_pos q]; exact congrArg (fun z => some (Value.int z)) q, hY9, hFa⟩
    · have q : ffb F 0 n = -1000000 := (ffb_c n 0 (by have := hok.1.2.1; omega)).elim id (fun z => absurd z.2 b30)
      refine s_iload_n (n := 34) (i := 2) dX5_full_33 rfl rfl rfl ?_
      refine s_bipush (n := 36) (v := 99) dX5_full_34 rfl (by decide) ?_
      refine s_icmp_ge (n := 39) (tgt := 49) dX5_full_36 rfl rfl (fun b36 => ?_) (fun b36 => ?_)
      · exfalso
        have q9 := (nI_leE (a := 99) (by omega) (by omega)).mp b36
        omega
      · refine s_aload_n (n := 40) (i := 0) dX5_full_39 rfl rfl rfl ?_
        refine s_v0 (M' := MX5_oneMinute) (n := 43) (ci := 5) dX5_full_40 rfl wd_X5_152 okX5_oneMinute rfl rfl (by omega) ⟨Nat.le_refl _, Nat.le_refl _⟩ (by assumption) (y_om (d := d - 1) hY (n := n) hok (by omega)) ?_
        rintro v40 hh40 ⟨rfl, hY1, hF1⟩
        obtain ⟨y0, y1, y2, y3, y4, y5, y6, y7, y8, y9, y10, y11, y12⟩ := id hY1
        replace y4 : hh40.2 224 = mj_ar 0 48 (mn n F) := y4
        replace y0 : hh40.2 220 = YO G (τ 12) := y0
        refine s_iinc (n := 46) (v := _ + 1) (ls' := [_, _, _, _]) dX5_full_43 rfl rfl rfl rfl rfl ?_
        refine s_goto (tgt := 26) dX5_full_46 rfl ?_
        rw [nI_1]
        unfold fuF
        rw [if_pos q]
        exact ih (i + 1) (by omega) _ _ _ hY1 (okB_mn hok) (fun k hk => (mn_o hok.1.2.1 hk).trans (ho k hk)) (fr_tr hF0 hF1)
set_option maxRecDepth 100000 in
set_option maxHeartbeats 4000000 in
theorem y_full {G : mj_G} {h : mj_H} {d : Nat} {τ : Nat → Nat → Int32} (hY : YS G h τ) {n : Nat} (hn : τ 0 2 = nI n) (h7 : n ≤ 7) (hok : okB n (τ 0)) (hT : ¬ τ 12 1 = 0) {w : Int32} (hw : Wi w 0 1) (hd : 4 ≤ d) : mj_con G MX5_full d 0 0 [.ref (G.1 + 220), .int w] h (fun v h' => v = some (.int (fuF n w 100 0 (τ 0))) ∧ YS G h' (u2 (asS τ) 0 (τ 0)) ∧ mj_fr 220 13 h h') := by
  refine mj_conV okX5_full (ls := [some (.ref (G.1 + 220)), some (.int w), none, none]) rfl rfl ?_
  obtain ⟨y0, y1, y2, y3, y4, y5, y6, y7, y8, y9, y10, y11, y12⟩ := id hY
  refine s_aload_n (n := 1) (i := 0) dX5_full_0 rfl rfl rfl ?_
  refine gf_X5_132 (n := 4) rfl dX5_full_1 rfl (by assumption) (by rfl) ?_
  refine s_if_ne (n := 7) (tgt := 10) dX5_full_4 rfl rfl (fun b4 => ?_) (fun b4 => ?_)
  · refine s_iload_n (n := 11) (i := 1) dX5_full_10 rfl rfl rfl ?_
    refine s_s1 (M' := MX5_isWhat) (n := 14) dX5_full_11 rfl wd_X5_183 okX5_isWhat rfl (by omega) ⟨Nat.le_refl _, Nat.le_refl _⟩ (y_isWhat (d := d - 1) (by omega)) ?_
    rintro v11 hh11 ⟨rfl, rfl⟩
    refine s_if_ne (n := 17) (tgt := 20) dX5_full_14 rfl rfl (fun b14 => ?_) (fun b14 => ?_)
    · refine s_aload_n (n := 21) (i := 0) dX5_full_20 rfl rfl rfl ?_
      refine s_v0 (M' := MX5_putAside) (n := 24) (ci := 5) dX5_full_21 rfl wd_X5_174 okX5_putAside rfl rfl (by omega) ⟨Nat.le_refl _, Nat.le_refl _⟩ (by assumption) (y_pa (d := d - 1) hY) ?_
      rintro v21 hh21 ⟨rfl, hY1, hF1⟩
      obtain ⟨y0, y1, y2, y3, y4, y5, y6, y7, y8, y9, y10, y11, y12⟩ := id hY1
      replace y4 : hh21.2 224 = mj_ar 0 48 (τ 0) := y4
      replace y0 : hh21.2 220 = YO G (τ 12) := y0
      refine s_iconst (n := 25) (v := 0) dX5_full_24 rfl (by decide) ?_
      refine s_istore_n (n := 26) (i := 2) (ls' := [_, _, _, _]) dX5_full_25 rfl rfl rfl rfl rfl ?_
      exact l_yfull (by omega) 99 0 (by omega) _ _ _ hY1 hok rfl48 hF1
    · exact absurd (hw) (if0 b14)
  · exact absurd b4 hT
set_option maxRecDepth 100000 in
set_option maxHeartbeats 4000000 in
theorem y_most_bad {G : mj_G} {h : mj_H} {d : Nat} {τ : Nat → Nat → Int32} (hY : YS G h τ) {n : Nat} (hn : τ 0 2 = nI n) (h7 : n ≤ 7) {x y z : Int32} (hb : ¬ (Hs n x ∧ Wi y 0 99 ∧ Wi z 0 1)) (hd : 2 ≤ d) : mj_con G MX5_most d 0 0 [.ref (G.1 + 220), .int x, .int y, .int z] h (rI (-1000001) h) := by
  refine mj_conV okX5_most (ls := [some (.ref (G.1 + 220)), some (.int x), some (.int y), some (.int z), none, none, none]) rfl rfl ?_
  obtain ⟨y0, y1, y2, y3, y4, y5, y6, y7, y8, y9, y10, y11, y12⟩ := id hY
  refine s_aload_n (n := 1) (i := 0) dX5_most_0 rfl rfl rfl ?_
  refine s_iload_n (n := 2) (i := 1) dX5_most_1 rfl rfl rfl ?_
  refine s_v1 (M' := MX5_isHouse) (n := 5) (ci := 5) dX5_most_2 rfl wd_X5_155 okX5_isHouse rfl rfl (by omega) ⟨Nat.le_refl _, Nat.le_refl _⟩ (by assumption) (y_isHouse (d := d - 1) hY hn h7 (by omega)) ?_
  rintro v2 hh2 ⟨rfl, rfl⟩
  refine s_if_eq (n := 8) (tgt := 27) dX5_most_5 rfl rfl (fun b5 => ?_) (fun b5 => ?_)
  · refine s_ldc (n := 29) dX5_most_27 rfl wd_X5_64 ?_
    refine s_ireturn dX5_most_29 rfl (rfl) (Nat.le_refl _) (Nat.le_refl _) ?_
    exact ⟨rfl, rfl⟩
  · refine s_iload_n (n := 9) (i := 2) dX5_most_8 rfl rfl rfl ?_
    refine s_i2l (n := 10) dX5_most_9 rfl ?_
    refine s_lconst (n := 11) (v := 0) dX5_most_10 rfl (by decide) ?_
    refine s_ldc2 (n := 14) dX5_most_11 rfl wd_X5_162 ?_
    refine s_s3 (M' := MX5_in) (n := 17) dX5_most_14 rfl wd_X5_54 okX5_in rfl (by omega) ⟨Nat.le_refl _, Nat.le_refl _⟩ (y_in (d := d - 1) (A := 0) (B := 99) (by decide) (by decide)) ?_
    rintro v14 hh14 ⟨rfl, rfl⟩
    refine s_if_eq (n := 20) (tgt := 27) dX5_most_17 rfl rfl (fun b17 => ?_) (fun b17 => ?_)
    · refine s_ldc (n := 29) dX5_most_27 rfl wd_X5_64 ?_
      refine s_ireturn dX5_most_29 rfl (rfl) (Nat.le_refl _) (Nat.le_refl _) ?_
      exact ⟨rfl, rfl⟩
    · refine s_iload_n (n := 21) (i := 3) dX5_most_20 rfl rfl rfl ?_
      refine s_s1 (M' := MX5_isWhat) (n := 24) dX5_most_21 rfl wd_X5_183 okX5_isWhat rfl (by omega) ⟨Nat.le_refl _, Nat.le_refl _⟩ (y_isWhat (d := d - 1) (by omega)) ?_
      rintro v21 hh21 ⟨rfl, rfl⟩
      refine s_if_ne (n := 27) (tgt := 30) dX5_most_24 rfl rfl (fun b24 => ?_) (fun b24 => ?_)
      · exact absurd (⟨if1 b5, if1 b17, if1 b24⟩) hb
      · refine s_ldc (n := 29) dX5_most_27 rfl wd_X5_64 ?_
        refine s_ireturn dX5_most_29 rfl (rfl) (Nat.le_refl _) (Nat.le_refl _) ?_
        exact ⟨rfl, rfl⟩
set_option maxRecDepth 100000 in
set_option maxHeartbeats 4000000 in
theorem l_ymost {G : mj_G} {h0 : mj_H} {d n : Nat} {τ : Nat → Nat → Int32} {w : Int32} {j k : Nat} (hj : j < 7) (hk : k ≤ 99) (hd : 4 ≤ d) : ∀ (r i : Nat), i + r = k + 1 → ∀ (h : mj_H) (F : Nat → Int32) (mu be : Int32), YS G h (u2 (asS τ) 0 F) → okB n F → (∀ k, 48 ≤ k → F k = τ 0 k) → mj_fr 220 13 h0 h → mj_wp G MX5_most d 0 0 51 [some (.ref (G.1 + 220)), some (.int (nI j)), some (.int (nI k)), some (.int w), some (.int mu), some (.int be), some (.int (nI i))] [] h 0 0 (fun v h' => v = some (.int (if w = 0 then (moF n j r i F mu be).1 else (moF n j r i F mu be).2)) ∧ YS G h' (u2 (asS τ) 0 (τ 0)) ∧ mj_fr 220 13 h0 h') := by
  intro r
  induction r with
  | zero =>
    intro i hi h F mu be hY hok ho hF0
    obtain ⟨y0, y1, y2, y3, y4, y5, y6, y7, y8, y9, y10, y11, y12⟩ := id hY
    replace y4 : h.2 224 = mj_ar 0 48 (F) := y4
    replace y0 : h.2 220 = YO G (τ 12) := y0
    refine s_iload (n := 53) dX5_most_51 rfl rfl ?_
    refine s_iload_n (n := 54) (i := 2) dX5_most_53 rfl rfl rfl ?_
    refine s_icmp_gt (n := 57) (tgt := 120) dX5_most_54 rfl rfl (fun b54 => ?_) (fun b54 => ?_)
    · refine s_aload_n (n := 121) (i := 0) dX5_most_120 rfl rfl rfl ?_
      refine s_v0 (M' := MX5_takeBack) (n := 124) (ci := 5) dX5_most_121 rfl wd_X5_180 okX5_takeBack rfl rfl (by omega) ⟨Nat.le_refl _, Nat.le_refl _⟩ (by assumption) (y_tb (d := d - 1) hY (ho)) ?_
      rintro v121 hh121 ⟨rfl, hY9, hF9⟩
      have hFa := fr_tr (hF0) hF9
      obtain ⟨y0, y1, y2, y3, y4, y5, y6, y7, y8, y9, y10, y11, y12⟩ := id hY9
      replace y4 : hh121.2 224 = mj_ar 0 48 (τ 0) := y4
      replace y0 : hh121.2 220 = YO G (τ 12) := y0
      refine s_iload_n (n := 125) (i := 3) dX5_most_124 rfl rfl rfl ?_
      refine s_if_ne (n := 128) (tgt := 133) dX5_most_125 rfl rfl (fun b125 => ?_) (fun b125 => ?_)
      · refine s_iload (n := 135) dX5_most_133 rfl rfl ?_
        refine s_ireturn dX5_most_135 rfl (rfl) (Nat.le_refl _) (Nat.le_refl _) ?_
        refine ⟨?_, hY9, hFa⟩
        first | rw [if_pos b125] | rw [if_neg b125]
        first | done | rfl
      · refine s_iload (n := 130) dX5_most_128 rfl rfl ?_
        refine s_goto (tgt := 135) dX5_most_130 rfl ?_
        refine s_ireturn dX5_most_135 rfl (rfl) (Nat.le_refl _) (Nat.le_refl _) ?_
        refine ⟨?_, hY9, hFa⟩
        first | rw [if_pos b125] | rw [if_neg b125]
        first | done | rfl
    · exfalso
      exact b54 ((nI_ltE (by omega) (by omega)).mpr (by omega))
  | succ r ih =>
    intro i hi h F mu be hY hok ho hF0
    obtain ⟨y0, y1, y2, y3, y4, y5, y6, y7, y8, y9, y10, y11, y12⟩ := id hY
    replace y4 : h.2 224 = mj_ar 0 48 (F) := y4
    replace y0 : h.2 220 = YO G (τ 12) := y0
    refine s_iload (n := 53) dX5_most_51 rfl rfl ?_
    refine s_iload_n (n := 54) (i := 2) dX5_most_53 rfl rfl rfl ?_
    refine s_icmp_gt (n := 57) (tgt := 120) dX5_most_54 rfl rfl (fun b54 => ?_) (fun b54 => ?_)
    · exfalso
      have q9 := (nI_ltE (by omega) (by omega)).mp b54
      omega
    · refine s_aload_n (n := 58) (i := 0) dX5_most_57 rfl rfl rfl ?_
      refine s_v0 (M' := MX5_oneMinute) (n := 61) (ci := 5) dX5_most_58 rfl wd_X5_152 okX5_oneMinute rfl rfl (by omega) ⟨Nat.le_refl _, Nat.le_refl _⟩ (by assumption) (y_om (d := d - 1) hY (n := n) hok (by omega)) ?_
      rintro v58 hh58 ⟨rfl, hY1, hF1⟩
      obtain ⟨y0, y1, y2, y3, y4, y5, y6, y7, y8, y9, y10, y11, y12⟩ := id hY1
      replace y4 : hh58.2 224 = mj_ar 0 48 (mn n F) := y4
      replace y0 : hh58.2 220 = YO G (τ 12) := y0
      refine s_aload_n (n := 62) (i := 0) dX5_most_61 rfl rfl rfl ?_
      refine gf_X5_19 (n := 65) rfl dX5_most_62 rfl (by assumption) (by rfl) ?_
      refine s_bipush (n := 67) (v := 34) dX5_most_65 rfl (by decide) ?_
      refine s_iload_n (n := 68) (i := 1) dX5_most_67 rfl rfl rfl ?_
      refine s_iadd (n := 69) dX5_most_68 rfl ?_
      refine s_iald (n := 70) dX5_most_69 rfl (by assumption) (mj_ixa (o := 34) rfl (by omega)) ?_
      refine s_iload (n := 72) dX5_most_70 rfl rfl ?_
      refine s_icmp_le (n := 75) (tgt := 80) dX5_most_72 rfl rfl (fun b72 => ?_) (fun b72 => ?_)
      · refine s_iload (n := 82) dX5_most_80 rfl rfl ?_
        refine s_istore (n := 84) (i := 5) (ls' := [_, _, _, _, _, _, _]) dX5_most_82 rfl rfl rfl rfl ?_
        refine s_aload_n (n := 85) (i := 0) dX5_most_84 rfl rfl rfl ?_
        refine gf_X5_19 (n := 88) rfl dX5_most_85 rfl (by assumption) (by rfl) ?_
        refine s_bipush (n := 90) (v := 34) dX5_most_88 rfl (by decide) ?_
        refine s_iload_n (n := 91) (i := 1) dX5_most_90 rfl rfl rfl ?_
        refine s_iadd (n := 92) dX5_most_91 rfl ?_
        refine s_iald (n := 93) dX5_most_92 rfl (by assumption) (mj_ixa (o := 34) rfl (by omega)) ?_
        refine s_iload (n := 95) dX5_most_93 rfl rfl ?_
        refine s_icmp_le (n := 98) (tgt := 110) dX5_most_95 rfl rfl (fun b95 => ?_) (fun b95 => ?_)
        · refine s_iload (n := 112) dX5_most_110 rfl rfl ?_
          refine s_istore (n := 114) (i := 4) (ls' := [_, _, _, _, _, _, _]) dX5_most_112 rfl rfl rfl rfl ?_
          refine s_iinc (n := 117) (v := _ + 1) (ls' := [_, _, _, _, _, _, _]) dX5_most_114 rfl rfl rfl rfl rfl ?_
          refine s_goto (tgt := 51) dX5_most_117 rfl ?_
          rw [nI_1]
          first | (have q : ¬ mu < mn n F (34 + j) := Int32.not_lt.mpr b72; first | exact absurd b72 b95 | exact absurd b95 b72 | (unfold moF; rw [if_neg q]; exact ih (i + 1) (by omega) _ _ _ _ hY1 (okB_mn hok) (fun k hk => (mn_o hok.1.2.1 hk).trans (ho k hk)) (fr_tr hF0 hF1))) | (have q : mu < mn n F (34 + j) := Int32.not_le.mp b72; first | exact absurd b72 b95 | exact absurd b95 b72 | (unfold moF; rw [if_pos q]; exact ih (i + 1) (by omega) _ _ _ _ hY1 (okB_mn hok) (fun k hk => (mn_o hok.1.2.1 hk).trans (ho k hk)) (fr_tr hF0 hF1)))
        · refine s_aload_n (n := 99) (i := 0) dX5_most_98 rfl rfl rfl ?_
          refine gf_X5_19 (n := 102) rfl dX5_most_99 rfl (by assumption) (by rfl) ?_
          refine s_bipush (n := 104) (v := 34) dX5_most_102 rfl (by decide) ?_
          refine s_iload_n (n := 105) (i := 1) dX5_most_104 rfl rfl rfl ?_
          refine s_iadd (n := 106) dX5_most_105 rfl ?_
          refine s_iald (n := 107) dX5_most_106 rfl (by assumption) (mj_ixa (o := 34) rfl (by omega)) ?_
          refine s_goto (tgt := 112) dX5_most_107 rfl ?_
          refine s_istore (n := 114) (i := 4) (ls' := [_, _, _, _, _, _, _]) dX5_most_112 rfl rfl rfl rfl ?_
          refine s_iinc (n := 117) (v := _ + 1) (ls' := [_, _, _, _, _, _, _]) dX5_most_114 rfl rfl rfl rfl rfl ?_
          refine s_goto (tgt := 51) dX5_most_117 rfl ?_
          rw [nI_1]
          first | (have q : ¬ mu < mn n F (34 + j) := Int32.not_lt.mpr b72; first | exact absurd b72 b95 | exact absurd b95 b72 | (unfold moF; rw [if_neg q]; exact ih (i + 1) (by omega) _ _ _ _ hY1 (okB_mn hok) (fun k hk => (mn_o hok.1.2.1 hk).trans (ho k hk)) (fr_tr hF0 hF1))) | (have q : mu < mn n F (34 + j) := Int32.not_le.mp b72; first | exact absurd b72 b95 | exact absurd b95 b72 | (unfold moF; rw [if_pos q]; exact ih (i + 1) (by omega) _ _ _ _ hY1 (okB_mn hok) (fun k hk => (mn_o hok.1.2.1 hk).trans (ho k hk)) (fr_tr hF0 hF1)))
      · refine s_iload (n := 77) dX5_most_75 rfl rfl ?_
        refine s_goto (tgt := 82) dX5_most_77 rfl ?_
        refine s_istore (n := 84) (i := 5) (ls' := [_, _, _, _, _, _, _]) dX5_most_82 rfl rfl rfl rfl ?_
        refine s_aload_n (n := 85) (i := 0) dX5_most_84 rfl rfl rfl ?_
        refine gf_X5_19 (n := 88) rfl dX5_most_85 rfl (by assumption) (by rfl) ?_
        refine s_bipush (n := 90) (v := 34) dX5_most_88 rfl (by decide) ?_
        refine s_iload_n (n := 91) (i := 1) dX5_most_90 rfl rfl rfl ?_
        refine s_iadd (n := 92) dX5_most_91 rfl ?_
        refine s_iald (n := 93) dX5_most_92 rfl (by assumption) (mj_ixa (o := 34) rfl (by omega)) ?_
        refine s_iload (n := 95) dX5_most_93 rfl rfl ?_
        refine s_icmp_le (n := 98) (tgt := 110) dX5_most_95 rfl rfl (fun b95 => ?_) (fun b95 => ?_)
        · refine s_iload (n := 112) dX5_most_110 rfl rfl ?_
          refine s_istore (n := 114) (i := 4) (ls' := [_, _, _, _, _, _, _]) dX5_most_112 rfl rfl rfl rfl ?_
          refine s_iinc (n := 117) (v := _ + 1) (ls' := [_, _, _, _, _, _, _]) dX5_most_114 rfl rfl rfl rfl rfl ?_
          refine s_goto (tgt := 51) dX5_most_117 rfl ?_
          rw [nI_1]
          first | (have q : ¬ mu < mn n F (34 + j) := Int32.not_lt.mpr b72; first | exact absurd b72 b95 | exact absurd b95 b72 | (unfold moF; rw [if_neg q]; exact ih (i + 1) (by omega) _ _ _ _ hY1 (okB_mn hok) (fun k hk => (mn_o hok.1.2.1 hk).trans (ho k hk)) (fr_tr hF0 hF1))) | (have q : mu < mn n F (34 + j) := Int32.not_le.mp b72; first | exact absurd b72 b95 | exact absurd b95 b72 | (unfold moF; rw [if_pos q]; exact ih (i + 1) (by omega) _ _ _ _ hY1 (okB_mn hok) (fun k hk => (mn_o hok.1.2.1 hk).trans (ho k hk)) (fr_tr hF0 hF1)))
        · refine s_aload_n (n := 99) (i := 0) dX5_most_98 rfl rfl rfl ?_
          refine gf_X5_19 (n := 102) rfl dX5_most_99 rfl (by assumption) (by rfl) ?_
          refine s_bipush (n := 104) (v := 34) dX5_most_102 rfl (by decide) ?_
          refine s_iload_n (n := 105) (i := 1) dX5_most_104 rfl rfl rfl ?_
          refine s_iadd (n := 106) dX5_most_105 rfl ?_
          refine s_iald (n := 107) dX5_most_106 rfl (by assumption) (mj_ixa (o := 34) rfl (by omega)) ?_
          refine s_goto (tgt := 112) dX5_most_107 rfl ?_
          refine s_istore (n := 114) (i := 4) (ls' := [_, _, _, _, _, _, _]) dX5_most_112 rfl rfl rfl rfl ?_
          refine s_iinc (n := 117) (v := _ + 1) (ls' := [_, _, _, _, _, _, _]) dX5_most_114 rfl rfl rfl rfl rfl ?_
          refine s_goto (tgt := 51) dX5_most_117 rfl ?_
          rw [nI_1]
          first | (have q : ¬ mu < mn n F (34 + j) := Int32.not_lt.mpr b72; first | exact absurd b72 b95 | exact absurd b95 b72 | (unfold moF; rw [if_neg q]; exact ih (i + 1) (by omega) _ _ _ _ hY1 (okB_mn hok) (fun k hk => (mn_o hok.1.2.1 hk).trans (ho k hk)) (fr_tr hF0 hF1))) | (have q : mu < mn n F (34 + j) := Int32.not_le.mp b72; first | exact absurd b72 b95 | exact absurd b95 b72 | (unfold moF; rw [if_pos q]; exact ih (i + 1) (by omega) _ _ _ _ hY1 (okB_mn hok) (fun k hk => (mn_o hok.1.2.1 hk).trans (ho k hk)) (fr_tr hF0 hF1)))
set_option maxRecDepth 100000 in
set_option maxHeartbeats 4000000 in
theorem y_most {G : mj_G} {h : mj_H} {d : Nat} {τ : Nat → Nat → Int32} (hY : YS G h τ) {n : Nat} (hn : τ 0 2 = nI n) (h7 : n ≤ 7) (hok : okB n (τ 0)) {j k : Nat} (hj : j < n) (hk : k ≤ 99) {w : Int32} (hw : Wi w 0 1) (hd : 4 ≤ d) : mj_con G MX5_most d 0 0 [.ref (G.1 + 220), .int (nI j), .int (nI k), .int w] h (fun v h' => v = some (.int (if w = 0 then (moF n j k 1 (τ 0) (τ 0 (34 + j)) 0).1 else (moF n j k 1 (τ 0) (τ 0 (34 + j)) 0).2)) ∧ YS G h' (u2 (asS τ) 0 (τ 0)) ∧ mj_fr 220 13 h h') := by
  refine mj_conV okX5_most (ls := [some (.ref (G.1 + 220)), some (.int (nI j)), some (.int (nI k)), some (.int w), none, none, none]) rfl rfl ?_
  obtain ⟨y0, y1, y2, y3, y4, y5, y6, y7, y8, y9, y10, y11, y12⟩ := id hY
  refine s_aload_n (n := 1) (i := 0) dX5_most_0 rfl rfl rfl ?_
  refine s_iload_n (n := 2) (i := 1) dX5_most_1 rfl rfl rfl ?_
  refine s_v1 (M' := MX5_isHouse) (n := 5) (ci := 5) dX5_most_2 rfl wd_X5_155 okX5_isHouse rfl rfl (by omega) ⟨Nat.le_refl _, Nat.le_refl _⟩ (by assumption) (y_isHouse (d := d - 1) hY hn h7 (by omega)) ?_
  rintro v2 hh2 ⟨rfl, rfl⟩
  refine s_if_eq (n := 8) (tgt := 27) dX5_most_5 rfl rfl (fun b5 => ?_) (fun b5 => ?_)
  · exact absurd (Hs_n hj h7) (if0 b5)
  · refine s_iload_n (n := 9) (i := 2) dX5_most_8 rfl rfl rfl ?_
    refine s_i2l (n := 10) dX5_most_9 rfl ?_
    refine s_lconst (n := 11) (v := 0) dX5_most_10 rfl (by decide) ?_
    refine s_ldc2 (n := 14) dX5_most_11 rfl wd_X5_162 ?_
    refine s_s3 (M' := MX5_in) (n := 17) dX5_most_14 rfl wd_X5_54 okX5_in rfl (by omega) ⟨Nat.le_refl _, Nat.le_refl _⟩ (y_in (d := d - 1) (A := 0) (B := 99) (by decide) (by decide)) ?_
    rintro v14 hh14 ⟨rfl, rfl⟩
    refine s_if_eq (n := 20) (tgt := 27) dX5_most_17 rfl rfl (fun b17 => ?_) (fun b17 => ?_)
    · exact absurd (Wi_n (by omega) (by omega) (by omega)) (if0 b17)
    · refine s_iload_n (n := 21) (i := 3) dX5_most_20 rfl rfl rfl ?_
      refine s_s1 (M' := MX5_isWhat) (n := 24) dX5_most_21 rfl wd_X5_183 okX5_isWhat rfl (by omega) ⟨Nat.le_refl _, Nat.le_refl _⟩ (y_isWhat (d := d - 1) (by omega)) ?_
      rintro v21 hh21 ⟨rfl, rfl⟩
      refine s_if_ne (n := 27) (tgt := 30) dX5_most_24 rfl rfl (fun b24 => ?_) (fun b24 => ?_)
      · refine s_aload_n (n := 31) (i := 0) dX5_most_30 rfl rfl rfl ?_
        refine s_v0 (M' := MX5_putAside) (n := 34) (ci := 5) dX5_most_31 rfl wd_X5_174 okX5_putAside rfl rfl (by omega) ⟨Nat.le_refl _, Nat.le_refl _⟩ (by assumption) (y_pa (d := d - 1) hY) ?_
        rintro v31 hh31 ⟨rfl, hY1, hF1⟩
        obtain ⟨y0, y1, y2, y3, y4, y5, y6, y7, y8, y9, y10, y11, y12⟩ := id hY1
        replace y4 : hh31.2 224 = mj_ar 0 48 (τ 0) := y4
        replace y0 : hh31.2 220 = YO G (τ 12) := y0
        refine s_aload_n (n := 35) (i := 0) dX5_most_34 rfl rfl rfl ?_
        refine gf_X5_19 (n := 38) rfl dX5_most_35 rfl (by assumption) (by rfl) ?_
        refine s_bipush (n := 40) (v := 34) dX5_most_38 rfl (by decide) ?_
        refine s_iload_n (n := 41) (i := 1) dX5_most_40 rfl rfl rfl ?_
        refine s_iadd (n := 42) dX5_most_41 rfl ?_
        refine s_iald (n := 43) dX5_most_42 rfl (by assumption) (mj_ixa (o := 34) rfl (by omega)) ?_
        refine s_istore (n := 45) (i := 4) (ls' := [_, _, _, _, _, _, _]) dX5_most_43 rfl rfl rfl rfl ?_
        refine s_iconst (n := 46) (v := 0) dX5_most_45 rfl (by decide) ?_
        refine s_istore (n := 48) (i := 5) (ls' := [_, _, _, _, _, _, _]) dX5_most_46 rfl rfl rfl rfl ?_
        refine s_iconst (n := 49) (v := 1) dX5_most_48 rfl (by decide) ?_
        refine s_istore (n := 51) (i := 6) (ls' := [_, _, _, _, _, _, _]) dX5_most_49 rfl rfl rfl rfl ?_
        exact l_ymost (by omega) (by omega) (by omega) k 1 (by omega) _ _ _ _ hY1 hok rfl48 hF1
      · exact absurd (hw) (if0 b24)
set_option maxRecDepth 100000 in
set_option maxHeartbeats 4000000 in
theorem y_dry_st {G : mj_G} {h : mj_H} {d : Nat} {τ : Nat → Nat → Int32} (hY : YS G h τ) (hb : τ 12 1 = 0) : mj_con G MX5_dry d 0 0 [.ref (G.1 + 220)] h (rI (-1000002) h) := by
  refine mj_conV okX5_dry (ls := [some (.ref (G.1 + 220)), none, none]) rfl rfl ?_
  obtain ⟨y0, y1, y2, y3, y4, y5, y6, y7, y8, y9, y10, y11, y12⟩ := id hY
  refine s_aload_n (n := 1) (i := 0) dX5_dry_0 rfl rfl rfl ?_
  refine gf_X5_132 (n := 4) rfl dX5_dry_1 rfl (by assumption) (by rfl) ?_
  refine s_if_ne (n := 7) (tgt := 10) dX5_dry_4 rfl rfl (fun b4 => ?_) (fun b4 => ?_)
  · exact absurd hb b4
  · refine s_ldc (n := 9) dX5_dry_7 rfl wd_X5_146 ?_
    refine s_ireturn dX5_dry_9 rfl (rfl) (Nat.le_refl _) (Nat.le_refl _) ?_
    exact ⟨rfl, rfl⟩
set_option maxRecDepth 100000 in
set_option maxHeartbeats 4000000 in
theorem l_ydry {G : mj_G} {h : mj_H} {d n : Nat} {τ : Nat → Nat → Int32} (hY : YS G h τ) (hn : τ 0 2 = nI n) (h7 : n ≤ 7) : ∀ (r i : Nat), i + r = n → mj_wp G MX5_dry d 0 0 14 [some (.ref (G.1 + 220)), some (.int (dryF (τ 0) i)), some (.int (nI i))] [] h 0 0 (rI (dryF (τ 0) n) h) := by
  obtain ⟨y0, y1, y2, y3, y4, y5, y6, y7, y8, y9, y10, y11, y12⟩ := id hY
  intro r
  induction r with
  | zero =>
    intro i hi
    have hi8 : i = n := by omega
    subst hi8
    refine s_iload_n (n := 15) (i := 2) dX5_dry_14 rfl rfl rfl ?_
    refine s_aload_n (n := 16) (i := 0) dX5_dry_15 rfl rfl rfl ?_
    refine gf_X5_19 (n := 19) rfl dX5_dry_16 rfl (by assumption) (by rfl) ?_
    refine s_iconst (n := 20) (v := 2) dX5_dry_19 rfl (by decide) ?_
    refine s_iald (n := 21) dX5_dry_20 rfl (by assumption) (mj_ixe (j := 2) rfl (by omega)) ?_
    rw [hn]
    refine s_icmp_ge (n := 24) (tgt := 52) dX5_dry_21 rfl rfl (fun b21 => ?_) (fun b21 => ?_)
    · refine s_iload_n (n := 53) (i := 1) dX5_dry_52 rfl rfl rfl ?_
      refine s_ireturn dX5_dry_53 rfl (rfl) (Nat.le_refl _) (Nat.le_refl _) ?_
      exact rI_ok rfl
    · exact absurd (Int32.le_refl _) b21
  | succ r ih =>
    intro i hi
    have ihx := ih (i + 1) (by omega)
    have e : dryF (τ 0) (i + 1) = if τ 0 (34 + i) = 0 then dryF (τ 0) i ||| (1 <<< (nI i &&& 31)) else dryF (τ 0) i := rfl
    rw [e] at ihx
    refine s_iload_n (n := 15) (i := 2) dX5_dry_14 rfl rfl rfl ?_
    refine s_aload_n (n := 16) (i := 0) dX5_dry_15 rfl rfl rfl ?_
    refine gf_X5_19 (n := 19) rfl dX5_dry_16 rfl (by assumption) (by rfl) ?_
    refine s_iconst (n := 20) (v := 2) dX5_dry_19 rfl (by decide) ?_
    refine s_iald (n := 21) dX5_dry_20 rfl (by assumption) (mj_ixe (j := 2) rfl (by omega)) ?_
    rw [hn]
    refine s_icmp_ge (n := 24) (tgt := 52) dX5_dry_21 rfl rfl (fun b21 => ?_) (fun b21 => ?_)
    · exact absurd ((nI_leE (by omega) (by omega)).mp b21) (by omega)
    · refine s_iload_n (n := 25) (i := 1) dX5_dry_24 rfl rfl rfl ?_
      refine s_aload_n (n := 26) (i := 0) dX5_dry_25 rfl rfl rfl ?_
      refine gf_X5_19 (n := 29) rfl dX5_dry_26 rfl (by assumption) (by rfl) ?_
      refine s_bipush (n := 31) (v := 34) dX5_dry_29 rfl (by decide) ?_
      refine s_iload_n (n := 32) (i := 2) dX5_dry_31 rfl rfl rfl ?_
      refine s_iadd (n := 33) dX5_dry_32 rfl ?_
      refine s_iald (n := 34) dX5_dry_33 rfl (by assumption) (mj_ixa (o := 34) rfl (by omega)) ?_
      refine s_if_ne (n := 37) (tgt := 43) dX5_dry_34 rfl rfl (fun b34 => ?_) (fun b34 => ?_)
      · refine s_iconst (n := 44) (v := 0) dX5_dry_43 rfl (by decide) ?_
        refine s_ior (n := 45) dX5_dry_44 rfl ?_
        refine s_istore_n (n := 46) (i := 1) (ls' := [_, _, _]) dX5_dry_45 rfl rfl rfl rfl rfl ?_
        refine s_iinc (n := 49) (v := _ + 1) (ls' := [_, _, _]) dX5_dry_46 rfl rfl rfl rfl rfl ?_
        refine s_goto (tgt := 14) dX5_dry_49 rfl ?_
        rw [nI_1]
        first | (rw [if_pos b34] at ihx; exact ihx) | (rw [if_neg b34] at ihx; rw [show dryF (τ 0) i ||| 0 = dryF (τ 0) i from by apply Int32.toBitVec_inj.mp; simp]; exact ihx)
      · refine s_iconst (n := 38) (v := 1) dX5_dry_37 rfl (by decide) ?_
        refine s_iload_n (n := 39) (i := 2) dX5_dry_38 rfl rfl rfl ?_
        refine s_ishl (n := 40) dX5_dry_39 rfl ?_
        refine s_goto (tgt := 44) dX5_dry_40 rfl ?_
        refine s_ior (n := 45) dX5_dry_44 rfl ?_
        refine s_istore_n (n := 46) (i := 1) (ls' := [_, _, _]) dX5_dry_45 rfl rfl rfl rfl rfl ?_
        refine s_iinc (n := 49) (v := _ + 1) (ls' := [_, _, _]) dX5_dry_46 rfl rfl rfl rfl rfl ?_
        refine s_goto (tgt := 14) dX5_dry_49 rfl ?_
        rw [nI_1]
        first | (rw [if_pos b34] at ihx; exact ihx) | (rw [if_neg b34] at ihx; rw [show dryF (τ 0) i ||| 0 = dryF (τ 0) i from by apply Int32.toBitVec_inj.mp; simp]; exact ihx)
set_option maxRecDepth 100000 in
set_option maxHeartbeats 4000000 in
theorem y_dry {G : mj_G} {h : mj_H} {d : Nat} {τ : Nat → Nat → Int32} (hY : YS G h τ) {n : Nat} (hn : τ 0 2 = nI n) (h7 : n ≤ 7) (hT : ¬ τ 12 1 = 0) : mj_con G MX5_dry d 0 0 [.ref (G.1 + 220)] h (rI (dryF (τ 0) n) h) := by
  refine mj_conV okX5_dry (ls := [some (.ref (G.1 + 220)), none, none]) rfl rfl ?_
  obtain ⟨y0, y1, y2, y3, y4, y5, y6, y7, y8, y9, y10, y11, y12⟩ := id hY
  refine s_aload_n (n := 1) (i := 0) dX5_dry_0 rfl rfl rfl ?_
  refine gf_X5_132 (n := 4) rfl dX5_dry_1 rfl (by assumption) (by rfl) ?_
  refine s_if_ne (n := 7) (tgt := 10) dX5_dry_4 rfl rfl (fun b4 => ?_) (fun b4 => ?_)
  · refine s_iconst (n := 11) (v := 0) dX5_dry_10 rfl (by decide) ?_
    refine s_istore_n (n := 12) (i := 1) (ls' := [_, _, _]) dX5_dry_11 rfl rfl rfl rfl rfl ?_
    refine s_iconst (n := 13) (v := 0) dX5_dry_12 rfl (by decide) ?_
    refine s_istore_n (n := 14) (i := 2) (ls' := [_, _, _]) dX5_dry_13 rfl rfl rfl rfl rfl ?_
    exact l_ydry hY hn h7 n 0 (by omega)
  · exact absurd b4 hT
