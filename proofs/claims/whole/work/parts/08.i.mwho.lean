set_option maxRecDepth 100000 in
set_option maxHeartbeats 4000000 in
theorem y_lacks_bad {G : mj_G} {h : mj_H} {d : Nat} {τ : Nat → Nat → Int32} (hY : YS G h τ) {x y z : Int32} (hb : ¬ (Wi x 0 7 ∧ Wi z 1 12)) (hd : 2 ≤ d) : mj_con G MX5_lacks d 0 0 [.ref (G.1 + 220), .int x, .int y, .int z] h (rI (-1000001) h) := by
  refine mj_conV okX5_lacks (ls := [some (.ref (G.1 + 220)), some (.int x), some (.int y), some (.int z)]) rfl rfl ?_
  obtain ⟨y0, y1, y2, y3, y4, y5, y6, y7, y8, y9, y10, y11, y12⟩ := id hY
  refine s_iload_n (n := 1) (i := 1) dX5_lacks_0 rfl rfl rfl ?_
  refine s_s1 (M' := MX5_isRow) (n := 4) dX5_lacks_1 rfl wd_X5_58 okX5_isRow rfl (by omega) ⟨Nat.le_refl _, Nat.le_refl _⟩ (y_isRow (d := d - 1) (by omega)) ?_
  rintro v1 hh1 ⟨rfl, rfl⟩
  refine s_if_eq (n := 7) (tgt := 19) dX5_lacks_4 rfl rfl (fun b4 => ?_) (fun b4 => ?_)
  · refine s_ldc (n := 21) dX5_lacks_19 rfl wd_X5_64 ?_
    refine s_ireturn dX5_lacks_21 rfl (rfl) (Nat.le_refl _) (Nat.le_refl _) ?_
    exact ⟨rfl, rfl⟩
  · refine s_iload_n (n := 8) (i := 3) dX5_lacks_7 rfl rfl rfl ?_
    refine s_i2l (n := 9) dX5_lacks_8 rfl ?_
    refine s_lconst (n := 10) (v := 1) dX5_lacks_9 rfl (by decide) ?_
    refine s_ldc2 (n := 13) dX5_lacks_10 rfl wd_X5_203 ?_
    refine s_s3 (M' := MX5_in) (n := 16) dX5_lacks_13 rfl wd_X5_54 okX5_in rfl (by omega) ⟨Nat.le_refl _, Nat.le_refl _⟩ (y_in (d := d - 1) (A := 1) (B := 12) (by decide) (by decide)) ?_
    rintro v13 hh13 ⟨rfl, rfl⟩
    refine s_if_ne (n := 19) (tgt := 22) dX5_lacks_16 rfl rfl (fun b16 => ?_) (fun b16 => ?_)
    · exact absurd (⟨if1 b4, if1 b16⟩) hb
    · refine s_ldc (n := 21) dX5_lacks_19 rfl wd_X5_64 ?_
      refine s_ireturn dX5_lacks_21 rfl (rfl) (Nat.le_refl _) (Nat.le_refl _) ?_
      exact ⟨rfl, rfl⟩
set_option maxRecDepth 100000 in
set_option maxHeartbeats 4000000 in
theorem y_lacks_null {G : mj_G} {h : mj_H} {d : Nat} {τ : Nat → Nat → Int32} (hY : YS G h τ) {a : Nat} (ha : a < 8) {y z : Int32} (hz : Wi z 1 12) (hf : τ 2 a < 0) (hd : 2 ≤ d) : mj_con G MX5_lacks d 0 0 [.ref (G.1 + 220), .int (nI a), .int y, .int z] h (fun v h' => v = some (.int (-1000010 - 1)) ∧ YS G h' (u2 (τ) 12 (upd (τ 12) 0 1)) ∧ mj_fr 220 13 h h') := by
  refine mj_conV okX5_lacks (ls := [some (.ref (G.1 + 220)), some (.int (nI a)), some (.int y), some (.int z)]) rfl rfl ?_
  obtain ⟨y0, y1, y2, y3, y4, y5, y6, y7, y8, y9, y10, y11, y12⟩ := id hY
  refine s_iload_n (n := 1) (i := 1) dX5_lacks_0 rfl rfl rfl ?_
  refine s_s1 (M' := MX5_isRow) (n := 4) dX5_lacks_1 rfl wd_X5_58 okX5_isRow rfl (by omega) ⟨Nat.le_refl _, Nat.le_refl _⟩ (y_isRow (d := d - 1) (by omega)) ?_
  rintro v1 hh1 ⟨rfl, rfl⟩
  refine s_if_eq (n := 7) (tgt := 19) dX5_lacks_4 rfl rfl (fun b4 => ?_) (fun b4 => ?_)
  · exact absurd (Wi_n (by omega) (by omega) (by omega)) (if0 b4)
  · refine s_iload_n (n := 8) (i := 3) dX5_lacks_7 rfl rfl rfl ?_
    refine s_i2l (n := 9) dX5_lacks_8 rfl ?_
    refine s_lconst (n := 10) (v := 1) dX5_lacks_9 rfl (by decide) ?_
    refine s_ldc2 (n := 13) dX5_lacks_10 rfl wd_X5_203 ?_
    refine s_s3 (M' := MX5_in) (n := 16) dX5_lacks_13 rfl wd_X5_54 okX5_in rfl (by omega) ⟨Nat.le_refl _, Nat.le_refl _⟩ (y_in (d := d - 1) (A := 1) (B := 12) (by decide) (by decide)) ?_
    rintro v13 hh13 ⟨rfl, rfl⟩
    refine s_if_ne (n := 19) (tgt := 22) dX5_lacks_16 rfl rfl (fun b16 => ?_) (fun b16 => ?_)
    · refine s_aload_n (n := 23) (i := 0) dX5_lacks_22 rfl rfl rfl ?_
      refine gf_X5_13 (n := 26) rfl dX5_lacks_23 rfl (by assumption) (by rfl) ?_
      refine s_iload_n (n := 27) (i := 1) dX5_lacks_26 rfl rfl rfl ?_
      refine s_iald (n := 28) dX5_lacks_27 rfl (by assumption) (mj_ixn (by omega)) ?_
      refine s_if_ge (n := 31) (tgt := 37) dX5_lacks_28 rfl rfl (fun b28 => ?_) (fun b28 => ?_)
      · exact absurd hf (Int32.not_lt.mpr b28)
      · refine s_aload_n (n := 32) (i := 0) dX5_lacks_31 rfl rfl rfl ?_
        refine s_iconst (n := 33) (v := 1) dX5_lacks_32 rfl (by decide) ?_
        refine s_v1 (M' := MX5_find) (n := 36) (ci := 5) dX5_lacks_33 rfl wd_X5_65 okX5_find rfl rfl (by omega) ⟨Nat.le_refl _, Nat.le_refl _⟩ (by assumption) (y_find (d := d - 1) hY) ?_
        rintro v33 hh33 ⟨rfl, hY1, hF1⟩
        refine s_ireturn dX5_lacks_36 rfl (rfl) (Nat.le_refl _) (Nat.le_refl _) ?_
        exact ⟨rfl, hY1, hF1⟩
    · exact absurd (hz) (if0 b16)
set_option maxRecDepth 100000 in
set_option maxHeartbeats 4000000 in
theorem y_lacks_place {G : mj_G} {h : mj_H} {d : Nat} {τ : Nat → Nat → Int32} (hY : YS G h τ) {a : Nat} (ha : a < 8) {y z : Int32} (hz : Wi z 1 12) (hs : ¬ τ 2 a < 0) (hf : ¬ (0 ≤ y ∧ y ≤ τ 2 a - z)) (hd : 2 ≤ d) : mj_con G MX5_lacks d 0 0 [.ref (G.1 + 220), .int (nI a), .int y, .int z] h (fun v h' => v = some (.int (-1000010 - 2)) ∧ YS G h' (u2 (τ) 12 (upd (τ 12) 0 2)) ∧ mj_fr 220 13 h h') := by
  refine mj_conV okX5_lacks (ls := [some (.ref (G.1 + 220)), some (.int (nI a)), some (.int y), some (.int z)]) rfl rfl ?_
  obtain ⟨y0, y1, y2, y3, y4, y5, y6, y7, y8, y9, y10, y11, y12⟩ := id hY
  refine s_iload_n (n := 1) (i := 1) dX5_lacks_0 rfl rfl rfl ?_
  refine s_s1 (M' := MX5_isRow) (n := 4) dX5_lacks_1 rfl wd_X5_58 okX5_isRow rfl (by omega) ⟨Nat.le_refl _, Nat.le_refl _⟩ (y_isRow (d := d - 1) (by omega)) ?_
  rintro v1 hh1 ⟨rfl, rfl⟩
  refine s_if_eq (n := 7) (tgt := 19) dX5_lacks_4 rfl rfl (fun b4 => ?_) (fun b4 => ?_)
  · exact absurd (Wi_n (by omega) (by omega) (by omega)) (if0 b4)
  · refine s_iload_n (n := 8) (i := 3) dX5_lacks_7 rfl rfl rfl ?_
    refine s_i2l (n := 9) dX5_lacks_8 rfl ?_
    refine s_lconst (n := 10) (v := 1) dX5_lacks_9 rfl (by decide) ?_
    refine s_ldc2 (n := 13) dX5_lacks_10 rfl wd_X5_203 ?_
    refine s_s3 (M' := MX5_in) (n := 16) dX5_lacks_13 rfl wd_X5_54 okX5_in rfl (by omega) ⟨Nat.le_refl _, Nat.le_refl _⟩ (y_in (d := d - 1) (A := 1) (B := 12) (by decide) (by decide)) ?_
    rintro v13 hh13 ⟨rfl, rfl⟩
    refine s_if_ne (n := 19) (tgt := 22) dX5_lacks_16 rfl rfl (fun b16 => ?_) (fun b16 => ?_)
    · refine s_aload_n (n := 23) (i := 0) dX5_lacks_22 rfl rfl rfl ?_
      refine gf_X5_13 (n := 26) rfl dX5_lacks_23 rfl (by assumption) (by rfl) ?_
      refine s_iload_n (n := 27) (i := 1) dX5_lacks_26 rfl rfl rfl ?_
      refine s_iald (n := 28) dX5_lacks_27 rfl (by assumption) (mj_ixn (by omega)) ?_
      refine s_if_ge (n := 31) (tgt := 37) dX5_lacks_28 rfl rfl (fun b28 => ?_) (fun b28 => ?_)
      · refine s_iload_n (n := 38) (i := 2) dX5_lacks_37 rfl rfl rfl ?_
        refine s_i2l (n := 39) dX5_lacks_38 rfl ?_
        refine s_lconst (n := 40) (v := 0) dX5_lacks_39 rfl (by decide) ?_
        refine s_aload_n (n := 41) (i := 0) dX5_lacks_40 rfl rfl rfl ?_
        refine gf_X5_13 (n := 44) rfl dX5_lacks_41 rfl (by assumption) (by rfl) ?_
        refine s_iload_n (n := 45) (i := 1) dX5_lacks_44 rfl rfl rfl ?_
        refine s_iald (n := 46) dX5_lacks_45 rfl (by assumption) (mj_ixn (by omega)) ?_
        refine s_iload_n (n := 47) (i := 3) dX5_lacks_46 rfl rfl rfl ?_
        refine s_isub (n := 48) dX5_lacks_47 rfl ?_
        refine s_i2l (n := 49) dX5_lacks_48 rfl ?_
        refine s_s3 (M' := MX5_in) (n := 52) dX5_lacks_49 rfl wd_X5_54 okX5_in rfl (by omega) ⟨Nat.le_refl _, Nat.le_refl _⟩ (y_in0 (d := d - 1)) ?_
        rintro v49 hh49 ⟨rfl, rfl⟩
        refine s_if_eq (n := 55) (tgt := 59) dX5_lacks_52 rfl rfl (fun b52 => ?_) (fun b52 => ?_)
        · refine s_aload_n (n := 60) (i := 0) dX5_lacks_59 rfl rfl rfl ?_
          refine s_iconst (n := 61) (v := 2) dX5_lacks_60 rfl (by decide) ?_
          refine s_v1 (M' := MX5_find) (n := 64) (ci := 5) dX5_lacks_61 rfl wd_X5_65 okX5_find rfl rfl (by omega) ⟨Nat.le_refl _, Nat.le_refl _⟩ (by assumption) (y_find (d := d - 1) hY) ?_
          rintro v61 hh61 ⟨rfl, hY1, hF1⟩
          refine s_ireturn dX5_lacks_64 rfl (rfl) (Nat.le_refl _) (Nat.le_refl _) ?_
          exact ⟨rfl, hY1, hF1⟩
        · exact absurd (in0_get (if1 b52)) hf
      · exact absurd (Int32.not_lt.mp hs) b28
    · exact absurd (hz) (if0 b16)
set_option maxRecDepth 100000 in
set_option maxHeartbeats 4000000 in
theorem y_lacks {G : mj_G} {h : mj_H} {d : Nat} {τ : Nat → Nat → Int32} (hY : YS G h τ) {a : Nat} (ha : a < 8) {y z : Int32} (hz : Wi z 1 12) (hs : ¬ τ 2 a < 0) (hf : 0 ≤ y ∧ y ≤ τ 2 a - z) (hd : 2 ≤ d) : mj_con G MX5_lacks d 0 0 [.ref (G.1 + 220), .int (nI a), .int y, .int z] h (rI 0 h) := by
  refine mj_conV okX5_lacks (ls := [some (.ref (G.1 + 220)), some (.int (nI a)), some (.int y), some (.int z)]) rfl rfl ?_
  obtain ⟨y0, y1, y2, y3, y4, y5, y6, y7, y8, y9, y10, y11, y12⟩ := id hY
  refine s_iload_n (n := 1) (i := 1) dX5_lacks_0 rfl rfl rfl ?_
  refine s_s1 (M' := MX5_isRow) (n := 4) dX5_lacks_1 rfl wd_X5_58 okX5_isRow rfl (by omega) ⟨Nat.le_refl _, Nat.le_refl _⟩ (y_isRow (d := d - 1) (by omega)) ?_
  rintro v1 hh1 ⟨rfl, rfl⟩
  refine s_if_eq (n := 7) (tgt := 19) dX5_lacks_4 rfl rfl (fun b4 => ?_) (fun b4 => ?_)
  · exact absurd (Wi_n (by omega) (by omega) (by omega)) (if0 b4)
  · refine s_iload_n (n := 8) (i := 3) dX5_lacks_7 rfl rfl rfl ?_
    refine s_i2l (n := 9) dX5_lacks_8 rfl ?_
    refine s_lconst (n := 10) (v := 1) dX5_lacks_9 rfl (by decide) ?_
    refine s_ldc2 (n := 13) dX5_lacks_10 rfl wd_X5_203 ?_
    refine s_s3 (M' := MX5_in) (n := 16) dX5_lacks_13 rfl wd_X5_54 okX5_in rfl (by omega) ⟨Nat.le_refl _, Nat.le_refl _⟩ (y_in (d := d - 1) (A := 1) (B := 12) (by decide) (by decide)) ?_
    rintro v13 hh13 ⟨rfl, rfl⟩
    refine s_if_ne (n := 19) (tgt := 22) dX5_lacks_16 rfl rfl (fun b16 => ?_) (fun b16 => ?_)
    · refine s_aload_n (n := 23) (i := 0) dX5_lacks_22 rfl rfl rfl ?_
      refine gf_X5_13 (n := 26) rfl dX5_lacks_23 rfl (by assumption) (by rfl) ?_
      refine s_iload_n (n := 27) (i := 1) dX5_lacks_26 rfl rfl rfl ?_
      refine s_iald (n := 28) dX5_lacks_27 rfl (by assumption) (mj_ixn (by omega)) ?_
      refine s_if_ge (n := 31) (tgt := 37) dX5_lacks_28 rfl rfl (fun b28 => ?_) (fun b28 => ?_)
      · refine s_iload_n (n := 38) (i := 2) dX5_lacks_37 rfl rfl rfl ?_
        refine s_i2l (n := 39) dX5_lacks_38 rfl ?_
        refine s_lconst (n := 40) (v := 0) dX5_lacks_39 rfl (by decide) ?_
        refine s_aload_n (n := 41) (i := 0) dX5_lacks_40 rfl rfl rfl ?_
        refine gf_X5_13 (n := 44) rfl dX5_lacks_41 rfl (by assumption) (by rfl) ?_
        refine s_iload_n (n := 45) (i := 1) dX5_lacks_44 rfl rfl rfl ?_
        refine s_iald (n := 46) dX5_lacks_45 rfl (by assumption) (mj_ixn (by omega)) ?_
        refine s_iload_n (n := 47) (i := 3) dX5_lacks_46 rfl rfl rfl ?_
        refine s_isub (n := 48) dX5_lacks_47 rfl ?_
        refine s_i2l (n := 49) dX5_lacks_48 rfl ?_
        refine s_s3 (M' := MX5_in) (n := 52) dX5_lacks_49 rfl wd_X5_54 okX5_in rfl (by omega) ⟨Nat.le_refl _, Nat.le_refl _⟩ (y_in0 (d := d - 1)) ?_
        rintro v49 hh49 ⟨rfl, rfl⟩
        refine s_if_eq (n := 55) (tgt := 59) dX5_lacks_52 rfl rfl (fun b52 => ?_) (fun b52 => ?_)
        · exact absurd (in0_put hf) (if0 b52)
        · refine s_iconst (n := 56) (v := 0) dX5_lacks_55 rfl (by decide) ?_
          refine s_goto (tgt := 64) dX5_lacks_56 rfl ?_
          refine s_ireturn dX5_lacks_64 rfl (rfl) (Nat.le_refl _) (Nat.le_refl _) ?_
          exact ⟨rfl, rfl⟩
      · exact absurd (Int32.not_lt.mp hs) b28
    · exact absurd (hz) (if0 b16)
set_option maxRecDepth 100000 in
set_option maxHeartbeats 4000000 in
theorem l_so0 {G : mj_G} {h0 : mj_H} {d n : Nat} {τ : Nat → Nat → Int32} {j o k : Nat} (hk : k ≤ 12) (hd : 4 ≤ d) : ∀ (r i : Nat), i + r = k → ∀ (h : mj_H) (F : Nat → Int32), YS G h (u2 (asS τ) 0 F) → okB n F → (∀ k, 48 ≤ k → F k = τ 0 k) → mj_fr 220 13 h0 h → mj_wp G MX5_isSo d 0 0 6 [some (.ref (G.1 + 220)), some (.int (nI j)), some (.int (nI o)), some (.int (nI k)), some (.int 0), some (.int (nI i))] [] h 0 0 (fun v h' => v = some (.int (0)) ∧ YS G h' (u2 (asS τ) 0 (τ 0)) ∧ mj_fr 220 13 h0 h') := by
  intro r
  induction r with
  | zero =>
    intro i hi h F hY hok ho hF0
    obtain ⟨y0, y1, y2, y3, y4, y5, y6, y7, y8, y9, y10, y11, y12⟩ := id hY
    replace y4 : h.2 224 = mj_ar 0 48 (F) := y4
    replace y0 : h.2 220 = YO G (τ 12) := y0
    replace y3 : h.2 223 = mj_ar 0 320 (τ 3) := y3
    refine s_iload (n := 8) dX5_isSo_6 rfl rfl ?_
    refine s_iload_n (n := 9) (i := 3) dX5_isSo_8 rfl rfl rfl ?_
    refine s_icmp_ge (n := 12) (tgt := 55) dX5_isSo_9 rfl rfl (fun b9 => ?_) (fun b9 => ?_)
    · refine s_aload_n (n := 56) (i := 0) dX5_isSo_55 rfl rfl rfl ?_
      refine s_v0 (M' := MX5_takeBack) (n := 59) (ci := 5) dX5_isSo_56 rfl wd_X5_180 okX5_takeBack rfl rfl (by omega) ⟨Nat.le_refl _, Nat.le_refl _⟩ (by assumption) (y_tb (d := d - 1) hY (ho)) ?_
      rintro v56 hh56 ⟨rfl, hY9, hF9⟩
      have hFa := fr_tr (hF0) hF9
      obtain ⟨y0, y1, y2, y3, y4, y5, y6, y7, y8, y9, y10, y11, y12⟩ := id hY9
      replace y4 : hh56.2 224 = mj_ar 0 48 (τ 0) := y4
      replace y0 : hh56.2 220 = YO G (τ 12) := y0
      replace y3 : hh56.2 223 = mj_ar 0 320 (τ 3) := y3
      refine s_iload (n := 61) dX5_isSo_59 rfl rfl ?_
      refine s_ireturn dX5_isSo_61 rfl (rfl) (Nat.le_refl _) (Nat.le_refl _) ?_
      exact ⟨rfl, hY9, hFa⟩
    · exact absurd ((nI_leE (by omega) (by omega)).mpr (by omega)) b9
  | succ r ih =>
    intro i hi h F hY hok ho hF0
    obtain ⟨y0, y1, y2, y3, y4, y5, y6, y7, y8, y9, y10, y11, y12⟩ := id hY
    replace y4 : h.2 224 = mj_ar 0 48 (F) := y4
    replace y0 : h.2 220 = YO G (τ 12) := y0
    replace y3 : h.2 223 = mj_ar 0 320 (τ 3) := y3
    refine s_iload (n := 8) dX5_isSo_6 rfl rfl ?_
    refine s_iload_n (n := 9) (i := 3) dX5_isSo_8 rfl rfl rfl ?_
    refine s_icmp_ge (n := 12) (tgt := 55) dX5_isSo_9 rfl rfl (fun b9 => ?_) (fun b9 => ?_)
    · exact absurd ((nI_leE (by omega) (by omega)).mp b9) (by omega)
    · refine s_aload_n (n := 13) (i := 0) dX5_isSo_12 rfl rfl rfl ?_
      refine s_v0 (M' := MX5_oneMinute) (n := 16) (ci := 5) dX5_isSo_13 rfl wd_X5_152 okX5_oneMinute rfl rfl (by omega) ⟨Nat.le_refl _, Nat.le_refl _⟩ (by assumption) (y_om (d := d - 1) hY (n := n) hok (by omega)) ?_
      rintro v13 hh13 ⟨rfl, hY1, hF1⟩
      obtain ⟨y0, y1, y2, y3, y4, y5, y6, y7, y8, y9, y10, y11, y12⟩ := id hY1
      replace y4 : hh13.2 224 = mj_ar 0 48 (mn n F) := y4
      replace y0 : hh13.2 220 = YO G (τ 12) := y0
      replace y3 : hh13.2 223 = mj_ar 0 320 (τ 3) := y3
      refine s_iload (n := 18) dX5_isSo_16 rfl rfl ?_
      refine s_if_eq (n := 21) (tgt := 46) dX5_isSo_18 rfl rfl (fun b18 => ?_) (fun b18 => ?_)
      · refine s_iconst (n := 47) (v := 0) dX5_isSo_46 rfl (by decide) ?_
        refine s_istore (n := 49) (i := 4) (ls' := [_, _, _, _, _, _]) dX5_isSo_47 rfl rfl rfl rfl ?_
        refine s_iinc (n := 52) (v := _ + 1) (ls' := [_, _, _, _, _, _]) dX5_isSo_49 rfl rfl rfl rfl rfl ?_
        refine s_goto (tgt := 6) dX5_isSo_52 rfl ?_
        rw [nI_1]
        exact ih (i + 1) (by omega) _ _ hY1 (okB_mn hok) (fun k hk => (mn_o hok.1.2.1 hk).trans (ho k hk)) (fr_tr hF0 hF1)
      · exact absurd rfl b18
set_option maxRecDepth 100000 in
set_option maxHeartbeats 4000000 in
theorem l_so1 {G : mj_G} {h0 : mj_H} {d n : Nat} {τ : Nat → Nat → Int32} {j o k : Nat} (hj : j < 7) (ho3 : o + k ≤ 320) (hk : k ≤ 12) (hd : 4 ≤ d) : ∀ (r i : Nat), i + r = k → ∀ (h : mj_H) (F : Nat → Int32), YS G h (u2 (asS τ) 0 F) → okB n F → (∀ k, 48 ≤ k → F k = τ 0 k) → mj_fr 220 13 h0 h → mj_wp G MX5_isSo d 0 0 6 [some (.ref (G.1 + 220)), some (.int (nI j)), some (.int (nI o)), some (.int (nI k)), some (.int 1), some (.int (nI i))] [] h 0 0 (fun v h' => v = some (.int (asF n j (τ 3) o r i F)) ∧ YS G h' (u2 (asS τ) 0 (τ 0)) ∧ mj_fr 220 13 h0 h') := by
  intro r
  induction r with
  | zero =>
    intro i hi h F hY hok ho hF0
    obtain ⟨y0, y1, y2, y3, y4, y5, y6, y7, y8, y9, y10, y11, y12⟩ := id hY
    replace y4 : h.2 224 = mj_ar 0 48 (F) := y4
    replace y0 : h.2 220 = YO G (τ 12) := y0
    replace y3 : h.2 223 = mj_ar 0 320 (τ 3) := y3
    refine s_iload (n := 8) dX5_isSo_6 rfl rfl ?_
    refine s_iload_n (n := 9) (i := 3) dX5_isSo_8 rfl rfl rfl ?_
    refine s_icmp_ge (n := 12) (tgt := 55) dX5_isSo_9 rfl rfl (fun b9 => ?_) (fun b9 => ?_)
    · refine s_aload_n (n := 56) (i := 0) dX5_isSo_55 rfl rfl rfl ?_
      refine s_v0 (M' := MX5_takeBack) (n := 59) (ci := 5) dX5_isSo_56 rfl wd_X5_180 okX5_takeBack rfl rfl (by omega) ⟨Nat.le_refl _, Nat.le_refl _⟩ (by assumption) (y_tb (d := d - 1) hY (ho)) ?_
      rintro v56 hh56 ⟨rfl, hY9, hF9⟩
      have hFa := fr_tr (hF0) hF9
      obtain ⟨y0, y1, y2, y3, y4, y5, y6, y7, y8, y9, y10, y11, y12⟩ := id hY9
      replace y4 : hh56.2 224 = mj_ar 0 48 (τ 0) := y4
      replace y0 : hh56.2 220 = YO G (τ 12) := y0
      replace y3 : hh56.2 223 = mj_ar 0 320 (τ 3) := y3
      refine s_iload (n := 61) dX5_isSo_59 rfl rfl ?_
      refine s_ireturn dX5_isSo_61 rfl (rfl) (Nat.le_refl _) (Nat.le_refl _) ?_
      exact ⟨rfl, hY9, hFa⟩
    · exact absurd ((nI_leE (by omega) (by omega)).mpr (by omega)) b9
  | succ r ih =>
    intro i hi h F hY hok ho hF0
    obtain ⟨y0, y1, y2, y3, y4, y5, y6, y7, y8, y9, y10, y11, y12⟩ := id hY
    replace y4 : h.2 224 = mj_ar 0 48 (F) := y4
    replace y0 : h.2 220 = YO G (τ 12) := y0
    replace y3 : h.2 223 = mj_ar 0 320 (τ 3) := y3
    refine s_iload (n := 8) dX5_isSo_6 rfl rfl ?_
    refine s_iload_n (n := 9) (i := 3) dX5_isSo_8 rfl rfl rfl ?_
    refine s_icmp_ge (n := 12) (tgt := 55) dX5_isSo_9 rfl rfl (fun b9 => ?_) (fun b9 => ?_)
    · exact absurd ((nI_leE (by omega) (by omega)).mp b9) (by omega)
    · refine s_aload_n (n := 13) (i := 0) dX5_isSo_12 rfl rfl rfl ?_
      refine s_v0 (M' := MX5_oneMinute) (n := 16) (ci := 5) dX5_isSo_13 rfl wd_X5_152 okX5_oneMinute rfl rfl (by omega) ⟨Nat.le_refl _, Nat.le_refl _⟩ (by assumption) (y_om (d := d - 1) hY (n := n) hok (by omega)) ?_
      rintro v13 hh13 ⟨rfl, hY1, hF1⟩
      obtain ⟨y0, y1, y2, y3, y4, y5, y6, y7, y8, y9, y10, y11, y12⟩ := id hY1
      replace y4 : hh13.2 224 = mj_ar 0 48 (mn n F) := y4
      replace y0 : hh13.2 220 = YO G (τ 12) := y0
      replace y3 : hh13.2 223 = mj_ar 0 320 (τ 3) := y3
      refine s_iload (n := 18) dX5_isSo_16 rfl rfl ?_
      refine s_if_eq (n := 21) (tgt := 46) dX5_isSo_18 rfl rfl (fun b18 => ?_) (fun b18 => ?_)
      · exact absurd b18 one_ne
      · refine s_aload_n (n := 22) (i := 0) dX5_isSo_21 rfl rfl rfl ?_
        refine gf_X5_16 (n := 25) rfl dX5_isSo_22 rfl (by assumption) (by rfl) ?_
        refine s_iload_n (n := 26) (i := 2) dX5_isSo_25 rfl rfl rfl ?_
        refine s_iload (n := 28) dX5_isSo_26 rfl rfl ?_
        refine s_iadd (n := 29) dX5_isSo_28 rfl ?_
        refine s_iald (n := 30) dX5_isSo_29 rfl (by assumption) (mj_ixs (by omega)) ?_
        refine s_aload_n (n := 31) (i := 0) dX5_isSo_30 rfl rfl rfl ?_
        refine gf_X5_19 (n := 34) rfl dX5_isSo_31 rfl (by assumption) (by rfl) ?_
        refine s_bipush (n := 36) (v := 34) dX5_isSo_34 rfl (by decide) ?_
        refine s_iload_n (n := 37) (i := 1) dX5_isSo_36 rfl rfl rfl ?_
        refine s_iadd (n := 38) dX5_isSo_37 rfl ?_
        refine s_iald (n := 39) dX5_isSo_38 rfl (by assumption) (mj_ixa (o := 34) rfl (by omega)) ?_
        refine s_icmp_ne (n := 42) (tgt := 46) dX5_isSo_39 rfl rfl (fun b39 => ?_) (fun b39 => ?_)
        · have q : ¬ mn n F (34 + j) = τ 3 (o + i) := fun z => b39 z.symm
          refine s_iconst (n := 47) (v := 0) dX5_isSo_46 rfl (by decide) ?_
          refine s_istore (n := 49) (i := 4) (ls' := [_, _, _, _, _, _]) dX5_isSo_47 rfl rfl rfl rfl ?_
          refine s_iinc (n := 52) (v := _ + 1) (ls' := [_, _, _, _, _, _]) dX5_isSo_49 rfl rfl rfl rfl rfl ?_
          refine s_goto (tgt := 6) dX5_isSo_52 rfl ?_
          rw [nI_1]
          unfold asF
          first | (rw [if_pos (by exact q)]; exact ih (i + 1) (by omega) _ _ hY1 (okB_mn hok) (fun k hk => (mn_o hok.1.2.1 hk).trans (ho k hk)) (fr_tr hF0 hF1)) | (rw [if_neg (by exact q)]; exact l_so0 hk hd r (i + 1) (by omega) _ _ hY1 (okB_mn hok) (fun k hk => (mn_o hok.1.2.1 hk).trans (ho k hk)) (fr_tr hF0 hF1))
        · have q : mn n F (34 + j) = τ 3 (o + i) := b39.symm
          refine s_iconst (n := 43) (v := 1) dX5_isSo_42 rfl (by decide) ?_
          refine s_goto (tgt := 47) dX5_isSo_43 rfl ?_
          refine s_istore (n := 49) (i := 4) (ls' := [_, _, _, _, _, _]) dX5_isSo_47 rfl rfl rfl rfl ?_
          refine s_iinc (n := 52) (v := _ + 1) (ls' := [_, _, _, _, _, _]) dX5_isSo_49 rfl rfl rfl rfl rfl ?_
          refine s_goto (tgt := 6) dX5_isSo_52 rfl ?_
          rw [nI_1]
          unfold asF
          first | (rw [if_pos (by exact q)]; exact ih (i + 1) (by omega) _ _ hY1 (okB_mn hok) (fun k hk => (mn_o hok.1.2.1 hk).trans (ho k hk)) (fr_tr hF0 hF1)) | (rw [if_neg (by exact q)]; exact l_so0 hk hd r (i + 1) (by omega) _ _ hY1 (okB_mn hok) (fun k hk => (mn_o hok.1.2.1 hk).trans (ho k hk)) (fr_tr hF0 hF1))
set_option maxRecDepth 100000 in
set_option maxHeartbeats 4000000 in
theorem y_isSo {G : mj_G} {h : mj_H} {d : Nat} {τ : Nat → Nat → Int32} {F : Nat → Int32} (hY : YS G h (u2 (asS τ) 0 F)) {n j o k : Nat} (hok : okB n F) (ho : ∀ k, 48 ≤ k → F k = τ 0 k) (hj : j < 7) (ho3 : o + k ≤ 320) (hk : k ≤ 12) (hd : 4 ≤ d) : mj_con G MX5_isSo d 0 0 [.ref (G.1 + 220), .int (nI j), .int (nI o), .int (nI k)] h (fun v h' => v = some (.int (asF n j (τ 3) o k 0 F)) ∧ YS G h' (u2 (asS τ) 0 (τ 0)) ∧ mj_fr 220 13 h h') := by
  refine mj_conV okX5_isSo (ls := [some (.ref (G.1 + 220)), some (.int (nI j)), some (.int (nI o)), some (.int (nI k)), none, none]) rfl rfl ?_
  obtain ⟨y0, y1, y2, y3, y4, y5, y6, y7, y8, y9, y10, y11, y12⟩ := id hY
  replace y4 : h.2 224 = mj_ar 0 48 (F) := y4
  replace y0 : h.2 220 = YO G (τ 12) := y0
  replace y3 : h.2 223 = mj_ar 0 320 (τ 3) := y3
  refine s_iconst (n := 1) (v := 1) dX5_isSo_0 rfl (by decide) ?_
  refine s_istore (n := 3) (i := 4) (ls' := [_, _, _, _, _, _]) dX5_isSo_1 rfl rfl rfl rfl ?_
  refine s_iconst (n := 4) (v := 0) dX5_isSo_3 rfl (by decide) ?_
  refine s_istore (n := 6) (i := 5) (ls' := [_, _, _, _, _, _]) dX5_isSo_4 rfl rfl rfl rfl ?_
  exact l_so1 hj ho3 hk hd k 0 (by omega) _ _ hY hok ho fr_rf
theorem okB_kind {n k v : Nat} {T : Nat → Int32} (h : okB n T) (hk : k < 7) (h1 : 1 ≤ v) (h5 : v ≤ 5) : okB n (upd T (6 + k) (nI v)) := by
  have h7 : n ≤ 7 := h.1.2.1
  refine ⟨⟨?_, h7, fun j hj => ⟨?_, ?_⟩⟩, ?_, fun j hj => ⟨?_, ?_, ?_⟩, ?_⟩
  · rw [up_ne (by omega)]; exact h.1.1
  · rw [up_ne (by omega)]; exact (h.1.2.2 j hj).1
  · rw [up_if]
    split
    · match v, h1, h5 with
      | 1, _, _ => exact Or.inl rfl
      | 2, _, _ => exact Or.inr (Or.inl rfl)
      | 3, _, _ => exact Or.inr (Or.inr (Or.inl rfl))
      | 4, _, _ => exact Or.inr (Or.inr (Or.inr (Or.inl rfl)))
      | 5, _, _ => exact Or.inr (Or.inr (Or.inr (Or.inr rfl)))
    · exact (h.1.2.2 j hj).2
  · rw [up_ne (by omega)]; exact h.2.1
  · rw [up_ne (by omega)]; exact (h.2.2.1 j hj).1
  · rw [up_ne (by omega)]; exact (h.2.2.1 j hj).2.1
  · rw [up_ne (by omega)]; exact (h.2.2.1 j hj).2.2
  · rw [up_ne (by omega)]; exact h.2.2.2
theorem okB_keeps {n k v : Nat} {T : Nat → Int32} (h : okB n T) (hk : k < 7) (h1 : 1 ≤ v) (h9 : v ≤ 9) : okB n (upd T (20 + k) (nI v)) := by
  have h7 : n ≤ 7 := h.1.2.1
  refine ⟨⟨?_, h7, fun j hj => ⟨?_, ?_⟩⟩, ?_, fun j hj => ⟨?_, ?_, ?_⟩, ?_⟩
  · rw [up_ne (by omega)]; exact h.1.1
  · rw [up_if]
    split
    · exact (nI_ltE (a := 0) (by omega) (by omega)).mpr (by omega)
    · exact (h.1.2.2 j hj).1
  · rw [up_ne (by omega)]; exact (h.1.2.2 j hj).2
  · rw [up_ne (by omega)]; exact h.2.1
  · rw [up_ne (by omega)]; exact (h.2.2.1 j hj).1
  · rw [up_if]
    split
    · exact Wi_n (by omega) (by omega) (by omega)
    · exact (h.2.2.1 j hj).2.1
  · rw [up_ne (by omega)]; exact (h.2.2.1 j hj).2.2
  · rw [up_ne (by omega)]; exact h.2.2.2
theorem or00 {x : Int32} : x ||| 0 = x := by
  apply Int32.toBitVec_inj.mp
  simp
set_option maxRecDepth 100000 in
set_option maxHeartbeats 4000000 in
theorem y_who_bad {G : mj_G} {h : mj_H} {d : Nat} {τ : Nat → Nat → Int32} (hY : YS G h τ) {n : Nat} (hn : τ 0 2 = nI n) (h7 : n ≤ 7) {x1 x2 x3 x4 x5 x6 : Int32} (hb : ¬ ((Hs n x1 ∧ Wi x2 0 2 ∧ Hs n x3) ∧ Wi x4 0 7 ∧ Wi x6 1 12)) (hd : 3 ≤ d) : mj_con G MX5_who d 0 0 [.ref (G.1 + 220), .int x1, .int x2, .int x3, .int x4, .int x5, .int x6] h (rI (-1000001) h) := by
  refine mj_conV okX5_who (ls := [some (.ref (G.1 + 220)), some (.int x1), some (.int x2), some (.int x3), some (.int x4), some (.int x5), some (.int x6), none, none, none, none]) rfl rfl ?_
  obtain ⟨y0, y1, y2, y3, y4, y5, y6, y7, y8, y9, y10, y11, y12⟩ := id hY
  refine s_aload_n (n := 1) (i := 0) dX5_who_0 rfl rfl rfl ?_
  refine s_iload_n (n := 2) (i := 1) dX5_who_1 rfl rfl rfl ?_
  refine s_v1 (M' := MX5_isHouse) (n := 5) (ci := 5) dX5_who_2 rfl wd_X5_155 okX5_isHouse rfl rfl (by omega) ⟨Nat.le_refl _, Nat.le_refl _⟩ (by assumption) (y_isHouse (d := d - 1) hY hn h7 (by omega)) ?_
  rintro v2 hh2 ⟨rfl, rfl⟩
  refine s_if_eq (n := 8) (tgt := 28) dX5_who_5 rfl rfl (fun b5 => ?_) (fun b5 => ?_)
  · refine s_ldc (n := 30) dX5_who_28 rfl wd_X5_64 ?_
    refine s_goto (tgt := 43) dX5_who_30 rfl ?_
    refine s_istore (n := 45) (i := 7) (ls' := [_, _, _, _, _, _, _, _, _, _, _]) dX5_who_43 rfl rfl rfl rfl ?_
    refine s_iload (n := 47) dX5_who_45 rfl rfl ?_
    refine s_if_ge (n := 50) (tgt := 53) dX5_who_47 rfl rfl (fun b47 => ?_) (fun b47 => ?_)
    · exact absurd b47 (by decide)
    · refine s_iload (n := 52) dX5_who_50 rfl rfl ?_
      refine s_ireturn dX5_who_52 rfl (rfl) (Nat.le_refl _) (Nat.le_refl _) ?_
      exact ⟨rfl, rfl⟩
  · refine s_iload_n (n := 9) (i := 2) dX5_who_8 rfl rfl rfl ?_
    refine s_i2l (n := 10) dX5_who_9 rfl ?_
    refine s_lconst (n := 11) (v := 0) dX5_who_10 rfl (by decide) ?_
    refine s_ldc2 (n := 14) dX5_who_11 rfl wd_X5_62 ?_
    refine s_s3 (M' := MX5_in) (n := 17) dX5_who_14 rfl wd_X5_54 okX5_in rfl (by omega) ⟨Nat.le_refl _, Nat.le_refl _⟩ (y_in (d := d - 1) (A := 0) (B := 2) (by decide) (by decide)) ?_
    rintro v14 hh14 ⟨rfl, rfl⟩
    refine s_if_eq (n := 20) (tgt := 28) dX5_who_17 rfl rfl (fun b17 => ?_) (fun b17 => ?_)
    · refine s_ldc (n := 30) dX5_who_28 rfl wd_X5_64 ?_
      refine s_goto (tgt := 43) dX5_who_30 rfl ?_
      refine s_istore (n := 45) (i := 7) (ls' := [_, _, _, _, _, _, _, _, _, _, _]) dX5_who_43 rfl rfl rfl rfl ?_
      refine s_iload (n := 47) dX5_who_45 rfl rfl ?_
      refine s_if_ge (n := 50) (tgt := 53) dX5_who_47 rfl rfl (fun b47 => ?_) (fun b47 => ?_)
      · exact absurd b47 (by decide)
      · refine s_iload (n := 52) dX5_who_50 rfl rfl ?_
        refine s_ireturn dX5_who_52 rfl (rfl) (Nat.le_refl _) (Nat.le_refl _) ?_
        exact ⟨rfl, rfl⟩
    · refine s_aload_n (n := 21) (i := 0) dX5_who_20 rfl rfl rfl ?_
      refine s_iload_n (n := 22) (i := 3) dX5_who_21 rfl rfl rfl ?_
      refine s_v1 (M' := MX5_isHouse) (n := 25) (ci := 5) dX5_who_22 rfl wd_X5_155 okX5_isHouse rfl rfl (by omega) ⟨Nat.le_refl _, Nat.le_refl _⟩ (by assumption) (y_isHouse (d := d - 1) hY hn h7 (by omega)) ?_
      rintro v22 hh22 ⟨rfl, rfl⟩
      refine s_if_ne (n := 28) (tgt := 33) dX5_who_25 rfl rfl (fun b25 => ?_) (fun b25 => ?_)
      · refine s_aload_n (n := 34) (i := 0) dX5_who_33 rfl rfl rfl ?_
        refine s_iload (n := 36) dX5_who_34 rfl rfl ?_
        refine s_iload (n := 38) dX5_who_36 rfl rfl ?_
        refine s_iload (n := 40) dX5_who_38 rfl rfl ?_
        refine s_v3 (M' := MX5_lacks) (n := 43) (ci := 5) dX5_who_40 rfl wd_X5_205 okX5_lacks rfl rfl (by omega) ⟨Nat.le_refl _, Nat.le_refl _⟩ (by assumption) (y_lacks_bad (d := d - 1) hY (fun z => hb ⟨⟨if1 b5, if1 b17, if1 b25⟩, z⟩) (by omega)) ?_
        rintro v40 hh40 ⟨rfl, rfl⟩
        refine s_istore (n := 45) (i := 7) (ls' := [_, _, _, _, _, _, _, _, _, _, _]) dX5_who_43 rfl rfl rfl rfl ?_
        refine s_iload (n := 47) dX5_who_45 rfl rfl ?_
        refine s_if_ge (n := 50) (tgt := 53) dX5_who_47 rfl rfl (fun b47 => ?_) (fun b47 => ?_)
        · exact absurd b47 (by decide)
        · refine s_iload (n := 52) dX5_who_50 rfl rfl ?_
          refine s_ireturn dX5_who_52 rfl (rfl) (Nat.le_refl _) (Nat.le_refl _) ?_
          exact ⟨rfl, rfl⟩
      · refine s_ldc (n := 30) dX5_who_28 rfl wd_X5_64 ?_
        refine s_goto (tgt := 43) dX5_who_30 rfl ?_
        refine s_istore (n := 45) (i := 7) (ls' := [_, _, _, _, _, _, _, _, _, _, _]) dX5_who_43 rfl rfl rfl rfl ?_
        refine s_iload (n := 47) dX5_who_45 rfl rfl ?_
        refine s_if_ge (n := 50) (tgt := 53) dX5_who_47 rfl rfl (fun b47 => ?_) (fun b47 => ?_)
        · exact absurd b47 (by decide)
        · refine s_iload (n := 52) dX5_who_50 rfl rfl ?_
          refine s_ireturn dX5_who_52 rfl (rfl) (Nat.le_refl _) (Nat.le_refl _) ?_
          exact ⟨rfl, rfl⟩
set_option maxRecDepth 100000 in
set_option maxHeartbeats 4000000 in
theorem y_who_null {G : mj_G} {h : mj_H} {d : Nat} {τ : Nat → Nat → Int32} (hY : YS G h τ) {n : Nat} (hn : τ 0 2 = nI n) (h7 : n ≤ 7) {x1 x2 x3 x5 x6 : Int32} {a : Nat} (ha : a < 8) (h1 : Hs n x1) (h2 : Wi x2 0 2) (h3 : Hs n x3) (h6 : Wi x6 1 12) (hf : τ 2 a < 0) (hd : 3 ≤ d) : mj_con G MX5_who d 0 0 [.ref (G.1 + 220), .int x1, .int x2, .int x3, .int (nI a), .int x5, .int x6] h (fun v h' => v = some (.int (-1000010 - 1)) ∧ YS G h' (u2 (τ) 12 (upd (τ 12) 0 1)) ∧ mj_fr 220 13 h h') := by
  refine mj_conV okX5_who (ls := [some (.ref (G.1 + 220)), some (.int x1), some (.int x2), some (.int x3), some (.int (nI a)), some (.int x5), some (.int x6), none, none, none, none]) rfl rfl ?_
  obtain ⟨y0, y1, y2, y3, y4, y5, y6, y7, y8, y9, y10, y11, y12⟩ := id hY
  refine s_aload_n (n := 1) (i := 0) dX5_who_0 rfl rfl rfl ?_
  refine s_iload_n (n := 2) (i := 1) dX5_who_1 rfl rfl rfl ?_
  refine s_v1 (M' := MX5_isHouse) (n := 5) (ci := 5) dX5_who_2 rfl wd_X5_155 okX5_isHouse rfl rfl (by omega) ⟨Nat.le_refl _, Nat.le_refl _⟩ (by assumption) (y_isHouse (d := d - 1) hY hn h7 (by omega)) ?_
  rintro v2 hh2 ⟨rfl, rfl⟩
  refine s_if_eq (n := 8) (tgt := 28) dX5_who_5 rfl rfl (fun b5 => ?_) (fun b5 => ?_)
  · exact absurd (h1) (if0 b5)
  · refine s_iload_n (n := 9) (i := 2) dX5_who_8 rfl rfl rfl ?_
    refine s_i2l (n := 10) dX5_who_9 rfl ?_
    refine s_lconst (n := 11) (v := 0) dX5_who_10 rfl (by decide) ?_
    refine s_ldc2 (n := 14) dX5_who_11 rfl wd_X5_62 ?_
    refine s_s3 (M' := MX5_in) (n := 17) dX5_who_14 rfl wd_X5_54 okX5_in rfl (by omega) ⟨Nat.le_refl _, Nat.le_refl _⟩ (y_in (d := d - 1) (A := 0) (B := 2) (by decide) (by decide)) ?_
    rintro v14 hh14 ⟨rfl, rfl⟩
    refine s_if_eq (n := 20) (tgt := 28) dX5_who_17 rfl rfl (fun b17 => ?_) (fun b17 => ?_)
    · exact absurd (h2) (if0 b17)
    · refine s_aload_n (n := 21) (i := 0) dX5_who_20 rfl rfl rfl ?_
      refine s_iload_n (n := 22) (i := 3) dX5_who_21 rfl rfl rfl ?_
      refine s_v1 (M' := MX5_isHouse) (n := 25) (ci := 5) dX5_who_22 rfl wd_X5_155 okX5_isHouse rfl rfl (by omega) ⟨Nat.le_refl _, Nat.le_refl _⟩ (by assumption) (y_isHouse (d := d - 1) hY hn h7 (by omega)) ?_
      rintro v22 hh22 ⟨rfl, rfl⟩
      refine s_if_ne (n := 28) (tgt := 33) dX5_who_25 rfl rfl (fun b25 => ?_) (fun b25 => ?_)
      · refine s_aload_n (n := 34) (i := 0) dX5_who_33 rfl rfl rfl ?_
        refine s_iload (n := 36) dX5_who_34 rfl rfl ?_
        refine s_iload (n := 38) dX5_who_36 rfl rfl ?_
        refine s_iload (n := 40) dX5_who_38 rfl rfl ?_
        refine s_v3 (M' := MX5_lacks) (n := 43) (ci := 5) dX5_who_40 rfl wd_X5_205 okX5_lacks rfl rfl (by omega) ⟨Nat.le_refl _, Nat.le_refl _⟩ (by assumption) (y_lacks_null (d := d - 1) hY ha h6 hf (by omega)) ?_
        rintro v40 hh40 ⟨rfl, hY1, hF1⟩
        refine s_istore (n := 45) (i := 7) (ls' := [_, _, _, _, _, _, _, _, _, _, _]) dX5_who_43 rfl rfl rfl rfl ?_
        refine s_iload (n := 47) dX5_who_45 rfl rfl ?_
        refine s_if_ge (n := 50) (tgt := 53) dX5_who_47 rfl rfl (fun b47 => ?_) (fun b47 => ?_)
        · exact absurd b47 (by decide)
        · refine s_iload (n := 52) dX5_who_50 rfl rfl ?_
          refine s_ireturn dX5_who_52 rfl (rfl) (Nat.le_refl _) (Nat.le_refl _) ?_
          exact ⟨rfl, hY1, hF1⟩
      · exact absurd (h3) (if0 b25)
set_option maxRecDepth 100000 in
set_option maxHeartbeats 4000000 in
theorem y_who_place {G : mj_G} {h : mj_H} {d : Nat} {τ : Nat → Nat → Int32} (hY : YS G h τ) {n : Nat} (hn : τ 0 2 = nI n) (h7 : n ≤ 7) {x1 x2 x3 x5 x6 : Int32} {a : Nat} (ha : a < 8) (h1 : Hs n x1) (h2 : Wi x2 0 2) (h3 : Hs n x3) (h6 : Wi x6 1 12) (hs : ¬ τ 2 a < 0) (hf : ¬ (0 ≤ x5 ∧ x5 ≤ τ 2 a - x6)) (hd : 3 ≤ d) : mj_con G MX5_who d 0 0 [.ref (G.1 + 220), .int x1, .int x2, .int x3, .int (nI a), .int x5, .int x6] h (fun v h' => v = some (.int (-1000010 - 2)) ∧ YS G h' (u2 (τ) 12 (upd (τ 12) 0 2)) ∧ mj_fr 220 13 h h') := by
  refine mj_conV okX5_who (ls := [some (.ref (G.1 + 220)), some (.int x1), some (.int x2), some (.int x3), some (.int (nI a)), some (.int x5), some (.int x6), none, none, none, none]) rfl rfl ?_
  obtain ⟨y0, y1, y2, y3, y4, y5, y6, y7, y8, y9, y10, y11, y12⟩ := id hY
  refine s_aload_n (n := 1) (i := 0) dX5_who_0 rfl rfl rfl ?_
  refine s_iload_n (n := 2) (i := 1) dX5_who_1 rfl rfl rfl ?_
  refine s_v1 (M' := MX5_isHouse) (n := 5) (ci := 5) dX5_who_2 rfl wd_X5_155 okX5_isHouse rfl rfl (by omega) ⟨Nat.le_refl _, Nat.le_refl _⟩ (by assumption) (y_isHouse (d := d - 1) hY hn h7 (by omega)) ?_
  rintro v2 hh2 ⟨rfl, rfl⟩
  refine s_if_eq (n := 8) (tgt := 28) dX5_who_5 rfl rfl (fun b5 => ?_) (fun b5 => ?_)
  · exact absurd (h1) (if0 b5)
  · refine s_iload_n (n := 9) (i := 2) dX5_who_8 rfl rfl rfl ?_
    refine s_i2l (n := 10) dX5_who_9 rfl ?_
    refine s_lconst (n := 11) (v := 0) dX5_who_10 rfl (by decide) ?_
    refine s_ldc2 (n := 14) dX5_who_11 rfl wd_X5_62 ?_
    refine s_s3 (M' := MX5_in) (n := 17) dX5_who_14 rfl wd_X5_54 okX5_in rfl (by omega) ⟨Nat.le_refl _, Nat.le_refl _⟩ (y_in (d := d - 1) (A := 0) (B := 2) (by decide) (by decide)) ?_
    rintro v14 hh14 ⟨rfl, rfl⟩
    refine s_if_eq (n := 20) (tgt := 28) dX5_who_17 rfl rfl (fun b17 => ?_) (fun b17 => ?_)
    · exact absurd (h2) (if0 b17)
    · refine s_aload_n (n := 21) (i := 0) dX5_who_20 rfl rfl rfl ?_
      refine s_iload_n (n := 22) (i := 3) dX5_who_21 rfl rfl rfl ?_
      refine s_v1 (M' := MX5_isHouse) (n := 25) (ci := 5) dX5_who_22 rfl wd_X5_155 okX5_isHouse rfl rfl (by omega) ⟨Nat.le_refl _, Nat.le_refl _⟩ (by assumption) (y_isHouse (d := d - 1) hY hn h7 (by omega)) ?_
      rintro v22 hh22 ⟨rfl, rfl⟩
      refine s_if_ne (n := 28) (tgt := 33) dX5_who_25 rfl rfl (fun b25 => ?_) (fun b25 => ?_)
      · refine s_aload_n (n := 34) (i := 0) dX5_who_33 rfl rfl rfl ?_
        refine s_iload (n := 36) dX5_who_34 rfl rfl ?_
        refine s_iload (n := 38) dX5_who_36 rfl rfl ?_
        refine s_iload (n := 40) dX5_who_38 rfl rfl ?_
        refine s_v3 (M' := MX5_lacks) (n := 43) (ci := 5) dX5_who_40 rfl wd_X5_205 okX5_lacks rfl rfl (by omega) ⟨Nat.le_refl _, Nat.le_refl _⟩ (by assumption) (y_lacks_place (d := d - 1) hY ha h6 hs hf (by omega)) ?_
        rintro v40 hh40 ⟨rfl, hY1, hF1⟩
        refine s_istore (n := 45) (i := 7) (ls' := [_, _, _, _, _, _, _, _, _, _, _]) dX5_who_43 rfl rfl rfl rfl ?_
        refine s_iload (n := 47) dX5_who_45 rfl rfl ?_
        refine s_if_ge (n := 50) (tgt := 53) dX5_who_47 rfl rfl (fun b47 => ?_) (fun b47 => ?_)
        · exact absurd b47 (by decide)
        · refine s_iload (n := 52) dX5_who_50 rfl rfl ?_
          refine s_ireturn dX5_who_52 rfl (rfl) (Nat.le_refl _) (Nat.le_refl _) ?_
          exact ⟨rfl, hY1, hF1⟩
      · exact absurd (h3) (if0 b25)
set_option maxRecDepth 100000 in
set_option maxHeartbeats 4000000 in
theorem l_who0 {G : mj_G} {h0 : mj_H} {d n j j2 a i k : Nat} {τ : Nat → Nat → Int32} {o7 : Option Value} (hok : okB n (τ 0)) (hj : j < n) (hj2 : j2 < n) (ha : a < 8) (hk : k ≤ 12) (hik : i + k ≤ 40) (hd : 5 ≤ d) : ∀ (r v : Nat), v + r = 6 → 1 ≤ v → ∀ (h : mj_H) (acc : Int32), YS G h (u2 (asS τ) 0 (τ 0)) → mj_fr 220 13 h0 h → mj_wp G MX5_who d 0 0 101 [some (.ref (G.1 + 220)), some (.int (nI j)), some (.int 0), some (.int (nI j2)), some (.int (nI a)), some (.int (nI i)), some (.int (nI k)), o7, some (.int (6 + nI j)), some (.int acc), some (.int (nI v))] [] h 0 0 (fun vv h' => vv = some (.int (fitF n j j2 6 (τ 3) (40 * a + i) k (τ 0) r v acc)) ∧ YS G h' (u2 (u2 (asS τ) 0 (τ 0)) 12 (upd (τ 12) 0 0)) ∧ mj_fr 220 13 h0 h') := by
  have h7 : n ≤ 7 := hok.1.2.1
  intro r
  induction r with
  | zero =>
    intro v hv hv1 h acc hY hF0
    obtain ⟨y0, y1, y2, y3, y4, y5, y6, y7, y8, y9, y10, y11, y12⟩ := id hY
    replace y4 : h.2 224 = mj_ar 0 48 (τ 0) := y4
    replace y0 : h.2 220 = YO G (τ 12) := y0
    replace y3 : h.2 223 = mj_ar 0 320 (τ 3) := y3
    refine s_iload (n := 103) dX5_who_101 rfl rfl ?_
    refine s_iload_n (n := 104) (i := 2) dX5_who_103 rfl rfl rfl ?_
    refine s_if_ne (n := 107) (tgt := 111) dX5_who_104 rfl rfl (fun b104 => ?_) (fun b104 => ?_)
    · exact absurd rfl b104
    · refine s_iconst (n := 108) (v := 5) dX5_who_107 rfl (by decide) ?_
      refine s_goto (tgt := 123) dX5_who_108 rfl ?_
      refine s_icmp_gt (n := 126) (tgt := 172) dX5_who_123 rfl rfl (fun b123 => ?_) (fun b123 => ?_)
      · refine s_aload_n (n := 173) (i := 0) dX5_who_172 rfl rfl rfl ?_
        refine s_iload (n := 175) dX5_who_173 rfl rfl ?_
        refine s_v1 (M' := MX5_well) (n := 178) (ci := 5) dX5_who_175 rfl wd_X5_69 okX5_well rfl rfl (by omega) ⟨Nat.le_refl _, Nat.le_refl _⟩ (by assumption) (y_well (d := d - 1) hY) ?_
        rintro v175 hh175 ⟨rfl, hY2, hF2⟩
        refine s_ireturn dX5_who_178 rfl (rfl) (Nat.le_refl _) (Nat.le_refl _) ?_
        exact ⟨rfl, hY2, fr_tr hF0 hF2⟩
      · exact absurd ((nI_ltE (a := 5) (by omega) (by omega)).mpr (by omega)) b123
  | succ r ih =>
    intro v hv hv1 h acc hY hF0
    obtain ⟨y0, y1, y2, y3, y4, y5, y6, y7, y8, y9, y10, y11, y12⟩ := id hY
    replace y4 : h.2 224 = mj_ar 0 48 (τ 0) := y4
    replace y0 : h.2 220 = YO G (τ 12) := y0
    replace y3 : h.2 223 = mj_ar 0 320 (τ 3) := y3
    refine s_iload (n := 103) dX5_who_101 rfl rfl ?_
    refine s_iload_n (n := 104) (i := 2) dX5_who_103 rfl rfl rfl ?_
    refine s_if_ne (n := 107) (tgt := 111) dX5_who_104 rfl rfl (fun b104 => ?_) (fun b104 => ?_)
    · exact absurd rfl b104
    · refine s_iconst (n := 108) (v := 5) dX5_who_107 rfl (by decide) ?_
      refine s_goto (tgt := 123) dX5_who_108 rfl ?_
      refine s_icmp_gt (n := 126) (tgt := 172) dX5_who_123 rfl rfl (fun b123 => ?_) (fun b123 => ?_)
      · exfalso
        have q9 := (nI_ltE (a := 5) (by omega) (by omega)).mp b123
        omega
      · refine s_aload_n (n := 127) (i := 0) dX5_who_126 rfl rfl rfl ?_
        refine gf_X5_19 (n := 130) rfl dX5_who_127 rfl (by assumption) (by rfl) ?_
        refine s_iload (n := 132) dX5_who_130 rfl rfl ?_
        refine s_iload (n := 134) dX5_who_132 rfl rfl ?_
        refine s_iast (n := 135) dX5_who_134 rfl (by assumption) (mj_ixa (o := 6) rfl (by omega)) ?_
        refine YA_0 hY (fun h1 hY1 hF1 => ?_)
        rw [u2_u2] at hY1
        obtain ⟨y0, y1, y2, y3, y4, y5, y6, y7, y8, y9, y10, y11, y12⟩ := id hY1
        replace y4 : h1.2 224 = mj_ar 0 48 (upd (τ 0) (6 + j) (nI v)) := y4
        replace y0 : h1.2 220 = YO G (τ 12) := y0
        replace y3 : h1.2 223 = mj_ar 0 320 (τ 3) := y3
        refine s_iload (n := 137) dX5_who_135 rfl rfl ?_
        refine s_aload_n (n := 138) (i := 0) dX5_who_137 rfl rfl rfl ?_
        refine s_iload_n (n := 139) (i := 3) dX5_who_138 rfl rfl rfl ?_
        refine s_bipush (n := 141) (v := 40) dX5_who_139 rfl (by decide) ?_
        refine s_iload (n := 143) dX5_who_141 rfl rfl ?_
        refine s_imul (n := 144) dX5_who_143 rfl ?_
        refine s_iload (n := 146) dX5_who_144 rfl rfl ?_
        refine s_iadd (n := 147) dX5_who_146 rfl ?_
        refine s_iload (n := 149) dX5_who_147 rfl rfl ?_
        rw [show (40 : Int32) * nI a + nI i = nI (40 * a + i) from by rw [show (40 : Int32) = nI 40 from rfl, pk_mul, nI_add]]
        refine s_v3 (M' := MX5_isSo) (n := 152) (ci := 5) dX5_who_149 rfl wd_X5_209 okX5_isSo rfl rfl (by omega) ⟨Nat.le_refl _, Nat.le_refl _⟩ (by assumption) (y_isSo (d := d - 1) hY1 (n := n) (okB_kind hok (by omega) (by omega) (by omega)) (fun q hq => up_ne (by omega)) (by omega) (by omega) hk (by omega)) ?_
        rintro v149 hh149 ⟨rfl, hY2, hF2⟩
        obtain ⟨y0, y1, y2, y3, y4, y5, y6, y7, y8, y9, y10, y11, y12⟩ := id hY2
        replace y4 : hh149.2 224 = mj_ar 0 48 (τ 0) := y4
        replace y0 : hh149.2 220 = YO G (τ 12) := y0
        replace y3 : hh149.2 223 = mj_ar 0 320 (τ 3) := y3
        refine s_if_eq (n := 155) (tgt := 162) dX5_who_152 rfl rfl (fun b152 => ?_) (fun b152 => ?_)
        · refine s_iconst (n := 163) (v := 0) dX5_who_162 rfl (by decide) ?_
          refine s_ior (n := 164) dX5_who_163 rfl ?_
          refine s_istore (n := 166) (i := 9) (ls' := [_, _, _, _, _, _, _, _, _, _, _]) dX5_who_164 rfl rfl rfl rfl ?_
          refine s_iinc (n := 169) (v := _ + 1) (ls' := [_, _, _, _, _, _, _, _, _, _, _]) dX5_who_166 rfl rfl rfl rfl rfl ?_
          refine s_goto (tgt := 101) dX5_who_169 rfl ?_
          rw [nI_1]
          unfold fitF
          first | (rw [if_pos (by exact b152), or00]; exact ih (v + 1) (by omega) (by omega) _ _ hY2 (fr_tr hF0 (fr_tr hF1 hF2))) | (rw [if_neg (by exact b152)]; exact ih (v + 1) (by omega) (by omega) _ _ hY2 (fr_tr hF0 (fr_tr hF1 hF2)))
        · refine s_iconst (n := 156) (v := 1) dX5_who_155 rfl (by decide) ?_
          refine s_iload (n := 158) dX5_who_156 rfl rfl ?_
          refine s_ishl (n := 159) dX5_who_158 rfl ?_
          refine s_goto (tgt := 163) dX5_who_159 rfl ?_
          refine s_ior (n := 164) dX5_who_163 rfl ?_
          refine s_istore (n := 166) (i := 9) (ls' := [_, _, _, _, _, _, _, _, _, _, _]) dX5_who_164 rfl rfl rfl rfl ?_
          refine s_iinc (n := 169) (v := _ + 1) (ls' := [_, _, _, _, _, _, _, _, _, _, _]) dX5_who_166 rfl rfl rfl rfl rfl ?_
          refine s_goto (tgt := 101) dX5_who_169 rfl ?_
          rw [nI_1]
          unfold fitF
          first | (rw [if_pos (by exact b152), or00]; exact ih (v + 1) (by omega) (by omega) _ _ hY2 (fr_tr hF0 (fr_tr hF1 hF2))) | (rw [if_neg (by exact b152)]; exact ih (v + 1) (by omega) (by omega) _ _ hY2 (fr_tr hF0 (fr_tr hF1 hF2)))
set_option maxRecDepth 100000 in
set_option maxHeartbeats 4000000 in
theorem y_who0 {G : mj_G} {h : mj_H} {d : Nat} {τ : Nat → Nat → Int32} (hY : YS G h τ) {n : Nat} (hn : τ 0 2 = nI n) (h7 : n ≤ 7) (hok : okB n (τ 0)) {j j2 a i k : Nat} (hj : j < n) (hj2 : j2 < n) (ha : a < 8) (hk1 : 1 ≤ k) (hk : k ≤ 12) (hik : i + k ≤ 40) (hs : ¬ τ 2 a < 0) (hf : 0 ≤ nI i ∧ nI i ≤ τ 2 a - nI k) (hd : 5 ≤ d) : mj_con G MX5_who d 0 0 [.ref (G.1 + 220), .int (nI j), .int 0, .int (nI j2), .int (nI a), .int (nI i), .int (nI k)] h (fun vv h' => vv = some (.int (fitF n j j2 6 (τ 3) (40 * a + i) k (τ 0) 5 1 0)) ∧ YS G h' (u2 (u2 (asS τ) 0 (τ 0)) 12 (upd (τ 12) 0 0)) ∧ mj_fr 220 13 h h') := by
  refine mj_conV okX5_who (ls := [some (.ref (G.1 + 220)), some (.int (nI j)), some (.int 0), some (.int (nI j2)), some (.int (nI a)), some (.int (nI i)), some (.int (nI k)), none, none, none, none]) rfl rfl ?_
  obtain ⟨y0, y1, y2, y3, y4, y5, y6, y7, y8, y9, y10, y11, y12⟩ := id hY
  refine s_aload_n (n := 1) (i := 0) dX5_who_0 rfl rfl rfl ?_
  refine s_iload_n (n := 2) (i := 1) dX5_who_1 rfl rfl rfl ?_
  refine s_v1 (M' := MX5_isHouse) (n := 5) (ci := 5) dX5_who_2 rfl wd_X5_155 okX5_isHouse rfl rfl (by omega) ⟨Nat.le_refl _, Nat.le_refl _⟩ (by assumption) (y_isHouse (d := d - 1) hY hn h7 (by omega)) ?_
  rintro v2 hh2 ⟨rfl, rfl⟩
  refine s_if_eq (n := 8) (tgt := 28) dX5_who_5 rfl rfl (fun b5 => ?_) (fun b5 => ?_)
  · exact absurd (Hs_n hj h7) (if0 b5)
  · refine s_iload_n (n := 9) (i := 2) dX5_who_8 rfl rfl rfl ?_
    refine s_i2l (n := 10) dX5_who_9 rfl ?_
    refine s_lconst (n := 11) (v := 0) dX5_who_10 rfl (by decide) ?_
    refine s_ldc2 (n := 14) dX5_who_11 rfl wd_X5_62 ?_
    refine s_s3 (M' := MX5_in) (n := 17) dX5_who_14 rfl wd_X5_54 okX5_in rfl (by omega) ⟨Nat.le_refl _, Nat.le_refl _⟩ (y_in (d := d - 1) (A := 0) (B := 2) (by decide) (by decide)) ?_
    rintro v14 hh14 ⟨rfl, rfl⟩
    refine s_if_eq (n := 20) (tgt := 28) dX5_who_17 rfl rfl (fun b17 => ?_) (fun b17 => ?_)
    · exact absurd (⟨by decide, by decide⟩) (if0 b17)
    · refine s_aload_n (n := 21) (i := 0) dX5_who_20 rfl rfl rfl ?_
      refine s_iload_n (n := 22) (i := 3) dX5_who_21 rfl rfl rfl ?_
      refine s_v1 (M' := MX5_isHouse) (n := 25) (ci := 5) dX5_who_22 rfl wd_X5_155 okX5_isHouse rfl rfl (by omega) ⟨Nat.le_refl _, Nat.le_refl _⟩ (by assumption) (y_isHouse (d := d - 1) hY hn h7 (by omega)) ?_
      rintro v22 hh22 ⟨rfl, rfl⟩
      refine s_if_ne (n := 28) (tgt := 33) dX5_who_25 rfl rfl (fun b25 => ?_) (fun b25 => ?_)
      · refine s_aload_n (n := 34) (i := 0) dX5_who_33 rfl rfl rfl ?_
        refine s_iload (n := 36) dX5_who_34 rfl rfl ?_
        refine s_iload (n := 38) dX5_who_36 rfl rfl ?_
        refine s_iload (n := 40) dX5_who_38 rfl rfl ?_
        refine s_v3 (M' := MX5_lacks) (n := 43) (ci := 5) dX5_who_40 rfl wd_X5_205 okX5_lacks rfl rfl (by omega) ⟨Nat.le_refl _, Nat.le_refl _⟩ (by assumption) (y_lacks (d := d - 1) hY ha (Wi_n (by omega) (by omega) (by omega)) hs hf (by omega)) ?_
        rintro v40 hh40 ⟨rfl, rfl⟩
        refine s_istore (n := 45) (i := 7) (ls' := [_, _, _, _, _, _, _, _, _, _, _]) dX5_who_43 rfl rfl rfl rfl ?_
        refine s_iload (n := 47) dX5_who_45 rfl rfl ?_
        refine s_if_ge (n := 50) (tgt := 53) dX5_who_47 rfl rfl (fun b47 => ?_) (fun b47 => ?_)
        · refine s_aload_n (n := 54) (i := 0) dX5_who_53 rfl rfl rfl ?_
          refine s_v0 (M' := MX5_putAside) (n := 57) (ci := 5) dX5_who_54 rfl wd_X5_174 okX5_putAside rfl rfl (by omega) ⟨Nat.le_refl _, Nat.le_refl _⟩ (by assumption) (y_pa (d := d - 1) hY) ?_
          rintro v54 hh54 ⟨rfl, hY1, hF1⟩
          obtain ⟨y0, y1, y2, y3, y4, y5, y6, y7, y8, y9, y10, y11, y12⟩ := id hY1
          replace y4 : hh54.2 224 = mj_ar 0 48 (τ 0) := y4
          replace y0 : hh54.2 220 = YO G (τ 12) := y0
          replace y3 : hh54.2 223 = mj_ar 0 320 (τ 3) := y3
          refine s_iload_n (n := 58) (i := 2) dX5_who_57 rfl rfl rfl ?_
          refine s_if_ne (n := 61) (tgt := 68) dX5_who_58 rfl rfl (fun b58 => ?_) (fun b58 => ?_)
          · exact absurd rfl b58
          · refine s_bipush (n := 63) (v := 6) dX5_who_61 rfl (by decide) ?_
            refine s_iload_n (n := 64) (i := 1) dX5_who_63 rfl rfl rfl ?_
            refine s_iadd (n := 65) dX5_who_64 rfl ?_
            refine s_goto (tgt := 84) dX5_who_65 rfl ?_
            refine s_istore (n := 86) (i := 8) (ls' := [_, _, _, _, _, _, _, _, _, _, _]) dX5_who_84 rfl rfl rfl rfl ?_
            refine s_iconst (n := 87) (v := 0) dX5_who_86 rfl (by decide) ?_
            refine s_istore (n := 89) (i := 9) (ls' := [_, _, _, _, _, _, _, _, _, _, _]) dX5_who_87 rfl rfl rfl rfl ?_
            refine s_iload_n (n := 90) (i := 2) dX5_who_89 rfl rfl rfl ?_
            refine s_iconst (n := 91) (v := 1) dX5_who_90 rfl (by decide) ?_
            refine s_icmp_ne (n := 94) (tgt := 98) dX5_who_91 rfl rfl (fun b91 => ?_) (fun b91 => ?_)
            · refine s_iconst (n := 99) (v := 1) dX5_who_98 rfl (by decide) ?_
              refine s_istore (n := 101) (i := 10) (ls' := [_, _, _, _, _, _, _, _, _, _, _]) dX5_who_99 rfl rfl rfl rfl ?_
              exact l_who0 hok hj hj2 ha hk hik hd 5 1 (by omega) (by omega) _ _ hY1 hF1
            · exact absurd b91 (by decide)
        · exact absurd (by decide) b47
      · exact absurd (Hs_n hj2 h7) (if0 b25)
set_option maxRecDepth 100000 in
set_option maxHeartbeats 4000000 in
theorem l_who1 {G : mj_G} {h0 : mj_H} {d n j j2 a i k : Nat} {τ : Nat → Nat → Int32} {o7 : Option Value} (hok : okB n (τ 0)) (hj : j < n) (hj2 : j2 < n) (ha : a < 8) (hk : k ≤ 12) (hik : i + k ≤ 40) (hd : 5 ≤ d) : ∀ (r v : Nat), v + r = 21 → 0 ≤ v → ∀ (h : mj_H) (acc : Int32), YS G h (u2 (asS τ) 0 (τ 0)) → mj_fr 220 13 h0 h → mj_wp G MX5_who d 0 0 101 [some (.ref (G.1 + 220)), some (.int (nI j)), some (.int 1), some (.int (nI j2)), some (.int (nI a)), some (.int (nI i)), some (.int (nI k)), o7, some (.int (13 + nI j)), some (.int acc), some (.int (nI v))] [] h 0 0 (fun vv h' => vv = some (.int (fitF n j j2 13 (τ 3) (40 * a + i) k (τ 0) r v acc)) ∧ YS G h' (u2 (u2 (asS τ) 0 (τ 0)) 12 (upd (τ 12) 0 0)) ∧ mj_fr 220 13 h0 h') := by
  have h7 : n ≤ 7 := hok.1.2.1
  intro r
  induction r with
  | zero =>
    intro v hv hv1 h acc hY hF0
    obtain ⟨y0, y1, y2, y3, y4, y5, y6, y7, y8, y9, y10, y11, y12⟩ := id hY
    replace y4 : h.2 224 = mj_ar 0 48 (τ 0) := y4
    replace y0 : h.2 220 = YO G (τ 12) := y0
    replace y3 : h.2 223 = mj_ar 0 320 (τ 3) := y3
    refine s_iload (n := 103) dX5_who_101 rfl rfl ?_
    refine s_iload_n (n := 104) (i := 2) dX5_who_103 rfl rfl rfl ?_
    refine s_if_ne (n := 107) (tgt := 111) dX5_who_104 rfl rfl (fun b104 => ?_) (fun b104 => ?_)
    · refine s_iload_n (n := 112) (i := 2) dX5_who_111 rfl rfl rfl ?_
      refine s_iconst (n := 113) (v := 1) dX5_who_112 rfl (by decide) ?_
      refine s_icmp_ne (n := 116) (tgt := 121) dX5_who_113 rfl rfl (fun b113 => ?_) (fun b113 => ?_)
      · exact absurd rfl b113
      · refine s_bipush (n := 118) (v := 20) dX5_who_116 rfl (by decide) ?_
        refine s_goto (tgt := 123) dX5_who_118 rfl ?_
        refine s_icmp_gt (n := 126) (tgt := 172) dX5_who_123 rfl rfl (fun b123 => ?_) (fun b123 => ?_)
        · refine s_aload_n (n := 173) (i := 0) dX5_who_172 rfl rfl rfl ?_
          refine s_iload (n := 175) dX5_who_173 rfl rfl ?_
          refine s_v1 (M' := MX5_well) (n := 178) (ci := 5) dX5_who_175 rfl wd_X5_69 okX5_well rfl rfl (by omega) ⟨Nat.le_refl _, Nat.le_refl _⟩ (by assumption) (y_well (d := d - 1) hY) ?_
          rintro v175 hh175 ⟨rfl, hY2, hF2⟩
          refine s_ireturn dX5_who_178 rfl (rfl) (Nat.le_refl _) (Nat.le_refl _) ?_
          exact ⟨rfl, hY2, fr_tr hF0 hF2⟩
        · exact absurd ((nI_ltE (a := 20) (by omega) (by omega)).mpr (by omega)) b123
    · exact absurd b104 (by decide)
  | succ r ih =>
    intro v hv hv1 h acc hY hF0
    obtain ⟨y0, y1, y2, y3, y4, y5, y6, y7, y8, y9, y10, y11, y12⟩ := id hY
    replace y4 : h.2 224 = mj_ar 0 48 (τ 0) := y4
    replace y0 : h.2 220 = YO G (τ 12) := y0
    replace y3 : h.2 223 = mj_ar 0 320 (τ 3) := y3
    refine s_iload (n := 103) dX5_who_101 rfl rfl ?_
    refine s_iload_n (n := 104) (i := 2) dX5_who_103 rfl rfl rfl ?_
    refine s_if_ne (n := 107) (tgt := 111) dX5_who_104 rfl rfl (fun b104 => ?_) (fun b104 => ?_)
    · refine s_iload_n (n := 112) (i := 2) dX5_who_111 rfl rfl rfl ?_
      refine s_iconst (n := 113) (v := 1) dX5_who_112 rfl (by decide) ?_
      refine s_icmp_ne (n := 116) (tgt := 121) dX5_who_113 rfl rfl (fun b113 => ?_) (fun b113 => ?_)
      · exact absurd rfl b113
      · refine s_bipush (n := 118) (v := 20) dX5_who_116 rfl (by decide) ?_
        refine s_goto (tgt := 123) dX5_who_118 rfl ?_
        refine s_icmp_gt (n := 126) (tgt := 172) dX5_who_123 rfl rfl (fun b123 => ?_) (fun b123 => ?_)
        · exfalso
          have q9 := (nI_ltE (a := 20) (by omega) (by omega)).mp b123
          omega
        · refine s_aload_n (n := 127) (i := 0) dX5_who_126 rfl rfl rfl ?_
          refine gf_X5_19 (n := 130) rfl dX5_who_127 rfl (by assumption) (by rfl) ?_
          refine s_iload (n := 132) dX5_who_130 rfl rfl ?_
          refine s_iload (n := 134) dX5_who_132 rfl rfl ?_
          refine s_iast (n := 135) dX5_who_134 rfl (by assumption) (mj_ixa (o := 13) rfl (by omega)) ?_
          refine YA_0 hY (fun h1 hY1 hF1 => ?_)
          rw [u2_u2] at hY1
          obtain ⟨y0, y1, y2, y3, y4, y5, y6, y7, y8, y9, y10, y11, y12⟩ := id hY1
          replace y4 : h1.2 224 = mj_ar 0 48 (upd (τ 0) (13 + j) (nI v)) := y4
          replace y0 : h1.2 220 = YO G (τ 12) := y0
          replace y3 : h1.2 223 = mj_ar 0 320 (τ 3) := y3
          refine s_iload (n := 137) dX5_who_135 rfl rfl ?_
          refine s_aload_n (n := 138) (i := 0) dX5_who_137 rfl rfl rfl ?_
          refine s_iload_n (n := 139) (i := 3) dX5_who_138 rfl rfl rfl ?_
          refine s_bipush (n := 141) (v := 40) dX5_who_139 rfl (by decide) ?_
          refine s_iload (n := 143) dX5_who_141 rfl rfl ?_
          refine s_imul (n := 144) dX5_who_143 rfl ?_
          refine s_iload (n := 146) dX5_who_144 rfl rfl ?_
          refine s_iadd (n := 147) dX5_who_146 rfl ?_
          refine s_iload (n := 149) dX5_who_147 rfl rfl ?_
          rw [show (40 : Int32) * nI a + nI i = nI (40 * a + i) from by rw [show (40 : Int32) = nI 40 from rfl, pk_mul, nI_add]]
          refine s_v3 (M' := MX5_isSo) (n := 152) (ci := 5) dX5_who_149 rfl wd_X5_209 okX5_isSo rfl rfl (by omega) ⟨Nat.le_refl _, Nat.le_refl _⟩ (by assumption) (y_isSo (d := d - 1) hY1 (n := n) (okB_talk hok (by omega) (Wi_n (by omega) (by omega) (by omega))) (fun q hq => up_ne (by omega)) (by omega) (by omega) hk (by omega)) ?_
          rintro v149 hh149 ⟨rfl, hY2, hF2⟩
          obtain ⟨y0, y1, y2, y3, y4, y5, y6, y7, y8, y9, y10, y11, y12⟩ := id hY2
          replace y4 : hh149.2 224 = mj_ar 0 48 (τ 0) := y4
          replace y0 : hh149.2 220 = YO G (τ 12) := y0
          replace y3 : hh149.2 223 = mj_ar 0 320 (τ 3) := y3
          refine s_if_eq (n := 155) (tgt := 162) dX5_who_152 rfl rfl (fun b152 => ?_) (fun b152 => ?_)
          · refine s_iconst (n := 163) (v := 0) dX5_who_162 rfl (by decide) ?_
            refine s_ior (n := 164) dX5_who_163 rfl ?_
            refine s_istore (n := 166) (i := 9) (ls' := [_, _, _, _, _, _, _, _, _, _, _]) dX5_who_164 rfl rfl rfl rfl ?_
            refine s_iinc (n := 169) (v := _ + 1) (ls' := [_, _, _, _, _, _, _, _, _, _, _]) dX5_who_166 rfl rfl rfl rfl rfl ?_
            refine s_goto (tgt := 101) dX5_who_169 rfl ?_
            rw [nI_1]
            unfold fitF
            first | (rw [if_pos (by exact b152), or00]; exact ih (v + 1) (by omega) (by omega) _ _ hY2 (fr_tr hF0 (fr_tr hF1 hF2))) | (rw [if_neg (by exact b152)]; exact ih (v + 1) (by omega) (by omega) _ _ hY2 (fr_tr hF0 (fr_tr hF1 hF2)))
          · refine s_iconst (n := 156) (v := 1) dX5_who_155 rfl (by decide) ?_
            refine s_iload (n := 158) dX5_who_156 rfl rfl ?_
            refine s_ishl (n := 159) dX5_who_158 rfl ?_
            refine s_goto (tgt := 163) dX5_who_159 rfl ?_
            refine s_ior (n := 164) dX5_who_163 rfl ?_
            refine s_istore (n := 166) (i := 9) (ls' := [_, _, _, _, _, _, _, _, _, _, _]) dX5_who_164 rfl rfl rfl rfl ?_
            refine s_iinc (n := 169) (v := _ + 1) (ls' := [_, _, _, _, _, _, _, _, _, _, _]) dX5_who_166 rfl rfl rfl rfl rfl ?_
            refine s_goto (tgt := 101) dX5_who_169 rfl ?_
            rw [nI_1]
            unfold fitF
            first | (rw [if_pos (by exact b152), or00]; exact ih (v + 1) (by omega) (by omega) _ _ hY2 (fr_tr hF0 (fr_tr hF1 hF2))) | (rw [if_neg (by exact b152)]; exact ih (v + 1) (by omega) (by omega) _ _ hY2 (fr_tr hF0 (fr_tr hF1 hF2)))
    · exact absurd b104 (by decide)
set_option maxRecDepth 100000 in
set_option maxHeartbeats 4000000 in
theorem y_who1 {G : mj_G} {h : mj_H} {d : Nat} {τ : Nat → Nat → Int32} (hY : YS G h τ) {n : Nat} (hn : τ 0 2 = nI n) (h7 : n ≤ 7) (hok : okB n (τ 0)) {j j2 a i k : Nat} (hj : j < n) (hj2 : j2 < n) (ha : a < 8) (hk1 : 1 ≤ k) (hk : k ≤ 12) (hik : i + k ≤ 40) (hs : ¬ τ 2 a < 0) (hf : 0 ≤ nI i ∧ nI i ≤ τ 2 a - nI k) (hd : 5 ≤ d) : mj_con G MX5_who d 0 0 [.ref (G.1 + 220), .int (nI j), .int 1, .int (nI j2), .int (nI a), .int (nI i), .int (nI k)] h (fun vv h' => vv = some (.int (fitF n j j2 13 (τ 3) (40 * a + i) k (τ 0) 21 0 0)) ∧ YS G h' (u2 (u2 (asS τ) 0 (τ 0)) 12 (upd (τ 12) 0 0)) ∧ mj_fr 220 13 h h') := by
  refine mj_conV okX5_who (ls := [some (.ref (G.1 + 220)), some (.int (nI j)), some (.int 1), some (.int (nI j2)), some (.int (nI a)), some (.int (nI i)), some (.int (nI k)), none, none, none, none]) rfl rfl ?_
  obtain ⟨y0, y1, y2, y3, y4, y5, y6, y7, y8, y9, y10, y11, y12⟩ := id hY
  refine s_aload_n (n := 1) (i := 0) dX5_who_0 rfl rfl rfl ?_
  refine s_iload_n (n := 2) (i := 1) dX5_who_1 rfl rfl rfl ?_
  refine s_v1 (M' := MX5_isHouse) (n := 5) (ci := 5) dX5_who_2 rfl wd_X5_155 okX5_isHouse rfl rfl (by omega) ⟨Nat.le_refl _, Nat.le_refl _⟩ (by assumption) (y_isHouse (d := d - 1) hY hn h7 (by omega)) ?_
  rintro v2 hh2 ⟨rfl, rfl⟩
  refine s_if_eq (n := 8) (tgt := 28) dX5_who_5 rfl rfl (fun b5 => ?_) (fun b5 => ?_)
  · exact absurd (Hs_n hj h7) (if0 b5)
  · refine s_iload_n (n := 9) (i := 2) dX5_who_8 rfl rfl rfl ?_
    refine s_i2l (n := 10) dX5_who_9 rfl ?_
    refine s_lconst (n := 11) (v := 0) dX5_who_10 rfl (by decide) ?_
    refine s_ldc2 (n := 14) dX5_who_11 rfl wd_X5_62 ?_
    refine s_s3 (M' := MX5_in) (n := 17) dX5_who_14 rfl wd_X5_54 okX5_in rfl (by omega) ⟨Nat.le_refl _, Nat.le_refl _⟩ (y_in (d := d - 1) (A := 0) (B := 2) (by decide) (by decide)) ?_
    rintro v14 hh14 ⟨rfl, rfl⟩
    refine s_if_eq (n := 20) (tgt := 28) dX5_who_17 rfl rfl (fun b17 => ?_) (fun b17 => ?_)
    · exact absurd (⟨by decide, by decide⟩) (if0 b17)
    · refine s_aload_n (n := 21) (i := 0) dX5_who_20 rfl rfl rfl ?_
      refine s_iload_n (n := 22) (i := 3) dX5_who_21 rfl rfl rfl ?_
      refine s_v1 (M' := MX5_isHouse) (n := 25) (ci := 5) dX5_who_22 rfl wd_X5_155 okX5_isHouse rfl rfl (by omega) ⟨Nat.le_refl _, Nat.le_refl _⟩ (by assumption) (y_isHouse (d := d - 1) hY hn h7 (by omega)) ?_
      rintro v22 hh22 ⟨rfl, rfl⟩
      refine s_if_ne (n := 28) (tgt := 33) dX5_who_25 rfl rfl (fun b25 => ?_) (fun b25 => ?_)
      · refine s_aload_n (n := 34) (i := 0) dX5_who_33 rfl rfl rfl ?_
        refine s_iload (n := 36) dX5_who_34 rfl rfl ?_
        refine s_iload (n := 38) dX5_who_36 rfl rfl ?_
        refine s_iload (n := 40) dX5_who_38 rfl rfl ?_
        refine s_v3 (M' := MX5_lacks) (n := 43) (ci := 5) dX5_who_40 rfl wd_X5_205 okX5_lacks rfl rfl (by omega) ⟨Nat.le_refl _, Nat.le_refl _⟩ (by assumption) (y_lacks (d := d - 1) hY ha (Wi_n (by omega) (by omega) (by omega)) hs hf (by omega)) ?_
        rintro v40 hh40 ⟨rfl, rfl⟩
        refine s_istore (n := 45) (i := 7) (ls' := [_, _, _, _, _, _, _, _, _, _, _]) dX5_who_43 rfl rfl rfl rfl ?_
        refine s_iload (n := 47) dX5_who_45 rfl rfl ?_
        refine s_if_ge (n := 50) (tgt := 53) dX5_who_47 rfl rfl (fun b47 => ?_) (fun b47 => ?_)
        · refine s_aload_n (n := 54) (i := 0) dX5_who_53 rfl rfl rfl ?_
          refine s_v0 (M' := MX5_putAside) (n := 57) (ci := 5) dX5_who_54 rfl wd_X5_174 okX5_putAside rfl rfl (by omega) ⟨Nat.le_refl _, Nat.le_refl _⟩ (by assumption) (y_pa (d := d - 1) hY) ?_
          rintro v54 hh54 ⟨rfl, hY1, hF1⟩
          obtain ⟨y0, y1, y2, y3, y4, y5, y6, y7, y8, y9, y10, y11, y12⟩ := id hY1
          replace y4 : hh54.2 224 = mj_ar 0 48 (τ 0) := y4
          replace y0 : hh54.2 220 = YO G (τ 12) := y0
          replace y3 : hh54.2 223 = mj_ar 0 320 (τ 3) := y3
          refine s_iload_n (n := 58) (i := 2) dX5_who_57 rfl rfl rfl ?_
          refine s_if_ne (n := 61) (tgt := 68) dX5_who_58 rfl rfl (fun b58 => ?_) (fun b58 => ?_)
          · refine s_iload_n (n := 69) (i := 2) dX5_who_68 rfl rfl rfl ?_
            refine s_iconst (n := 70) (v := 1) dX5_who_69 rfl (by decide) ?_
            refine s_icmp_ne (n := 73) (tgt := 80) dX5_who_70 rfl rfl (fun b70 => ?_) (fun b70 => ?_)
            · exact absurd rfl b70
            · refine s_bipush (n := 75) (v := 13) dX5_who_73 rfl (by decide) ?_
              refine s_iload_n (n := 76) (i := 1) dX5_who_75 rfl rfl rfl ?_
              refine s_iadd (n := 77) dX5_who_76 rfl ?_
              refine s_goto (tgt := 84) dX5_who_77 rfl ?_
              refine s_istore (n := 86) (i := 8) (ls' := [_, _, _, _, _, _, _, _, _, _, _]) dX5_who_84 rfl rfl rfl rfl ?_
              refine s_iconst (n := 87) (v := 0) dX5_who_86 rfl (by decide) ?_
              refine s_istore (n := 89) (i := 9) (ls' := [_, _, _, _, _, _, _, _, _, _, _]) dX5_who_87 rfl rfl rfl rfl ?_
              refine s_iload_n (n := 90) (i := 2) dX5_who_89 rfl rfl rfl ?_
              refine s_iconst (n := 91) (v := 1) dX5_who_90 rfl (by decide) ?_
              refine s_icmp_ne (n := 94) (tgt := 98) dX5_who_91 rfl rfl (fun b91 => ?_) (fun b91 => ?_)
              · exact absurd rfl b91
              · refine s_iconst (n := 95) (v := 0) dX5_who_94 rfl (by decide) ?_
                refine s_goto (tgt := 99) dX5_who_95 rfl ?_
                refine s_istore (n := 101) (i := 10) (ls' := [_, _, _, _, _, _, _, _, _, _, _]) dX5_who_99 rfl rfl rfl rfl ?_
                exact l_who1 hok hj hj2 ha hk hik hd 21 0 (by omega) (by omega) _ _ hY1 hF1
          · exact absurd b58 (by decide)
        · exact absurd (by decide) b47
      · exact absurd (Hs_n hj2 h7) (if0 b25)
set_option maxRecDepth 100000 in
set_option maxHeartbeats 4000000 in
theorem l_who2 {G : mj_G} {h0 : mj_H} {d n j j2 a i k : Nat} {τ : Nat → Nat → Int32} {o7 : Option Value} (hok : okB n (τ 0)) (hj : j < n) (hj2 : j2 < n) (ha : a < 8) (hk : k ≤ 12) (hik : i + k ≤ 40) (hd : 5 ≤ d) : ∀ (r v : Nat), v + r = 10 → 1 ≤ v → ∀ (h : mj_H) (acc : Int32), YS G h (u2 (asS τ) 0 (τ 0)) → mj_fr 220 13 h0 h → mj_wp G MX5_who d 0 0 101 [some (.ref (G.1 + 220)), some (.int (nI j)), some (.int 2), some (.int (nI j2)), some (.int (nI a)), some (.int (nI i)), some (.int (nI k)), o7, some (.int (20 + nI j)), some (.int acc), some (.int (nI v))] [] h 0 0 (fun vv h' => vv = some (.int (fitF n j j2 20 (τ 3) (40 * a + i) k (τ 0) r v acc)) ∧ YS G h' (u2 (u2 (asS τ) 0 (τ 0)) 12 (upd (τ 12) 0 0)) ∧ mj_fr 220 13 h0 h') := by
  have h7 : n ≤ 7 := hok.1.2.1
  intro r
  induction r with
  | zero =>
    intro v hv hv1 h acc hY hF0
    obtain ⟨y0, y1, y2, y3, y4, y5, y6, y7, y8, y9, y10, y11, y12⟩ := id hY
    replace y4 : h.2 224 = mj_ar 0 48 (τ 0) := y4
    replace y0 : h.2 220 = YO G (τ 12) := y0
    replace y3 : h.2 223 = mj_ar 0 320 (τ 3) := y3
    refine s_iload (n := 103) dX5_who_101 rfl rfl ?_
    refine s_iload_n (n := 104) (i := 2) dX5_who_103 rfl rfl rfl ?_
    refine s_if_ne (n := 107) (tgt := 111) dX5_who_104 rfl rfl (fun b104 => ?_) (fun b104 => ?_)
    · refine s_iload_n (n := 112) (i := 2) dX5_who_111 rfl rfl rfl ?_
      refine s_iconst (n := 113) (v := 1) dX5_who_112 rfl (by decide) ?_
      refine s_icmp_ne (n := 116) (tgt := 121) dX5_who_113 rfl rfl (fun b113 => ?_) (fun b113 => ?_)
      · refine s_bipush (n := 123) (v := 9) dX5_who_121 rfl (by decide) ?_
        refine s_icmp_gt (n := 126) (tgt := 172) dX5_who_123 rfl rfl (fun b123 => ?_) (fun b123 => ?_)
        · refine s_aload_n (n := 173) (i := 0) dX5_who_172 rfl rfl rfl ?_
          refine s_iload (n := 175) dX5_who_173 rfl rfl ?_
          refine s_v1 (M' := MX5_well) (n := 178) (ci := 5) dX5_who_175 rfl wd_X5_69 okX5_well rfl rfl (by omega) ⟨Nat.le_refl _, Nat.le_refl _⟩ (by assumption) (y_well (d := d - 1) hY) ?_
          rintro v175 hh175 ⟨rfl, hY2, hF2⟩
          refine s_ireturn dX5_who_178 rfl (rfl) (Nat.le_refl _) (Nat.le_refl _) ?_
          exact ⟨rfl, hY2, fr_tr hF0 hF2⟩
        · exact absurd ((nI_ltE (a := 9) (by omega) (by omega)).mpr (by omega)) b123
      · exact absurd b113 (by decide)
    · exact absurd b104 (by decide)
  | succ r ih =>
    intro v hv hv1 h acc hY hF0
    obtain ⟨y0, y1, y2, y3, y4, y5, y6, y7, y8, y9, y10, y11, y12⟩ := id hY
    replace y4 : h.2 224 = mj_ar 0 48 (τ 0) := y4
    replace y0 : h.2 220 = YO G (τ 12) := y0
    replace y3 : h.2 223 = mj_ar 0 320 (τ 3) := y3
    refine s_iload (n := 103) dX5_who_101 rfl rfl ?_
    refine s_iload_n (n := 104) (i := 2) dX5_who_103 rfl rfl rfl ?_
    refine s_if_ne (n := 107) (tgt := 111) dX5_who_104 rfl rfl (fun b104 => ?_) (fun b104 => ?_)
    · refine s_iload_n (n := 112) (i := 2) dX5_who_111 rfl rfl rfl ?_
      refine s_iconst (n := 113) (v := 1) dX5_who_112 rfl (by decide) ?_
      refine s_icmp_ne (n := 116) (tgt := 121) dX5_who_113 rfl rfl (fun b113 => ?_) (fun b113 => ?_)
      · refine s_bipush (n := 123) (v := 9) dX5_who_121 rfl (by decide) ?_
        refine s_icmp_gt (n := 126) (tgt := 172) dX5_who_123 rfl rfl (fun b123 => ?_) (fun b123 => ?_)
        · exfalso
          have q9 := (nI_ltE (a := 9) (by omega) (by omega)).mp b123
          omega
        · refine s_aload_n (n := 127) (i := 0) dX5_who_126 rfl rfl rfl ?_
          refine gf_X5_19 (n := 130) rfl dX5_who_127 rfl (by assumption) (by rfl) ?_
          refine s_iload (n := 132) dX5_who_130 rfl rfl ?_
          refine s_iload (n := 134) dX5_who_132 rfl rfl ?_
          refine s_iast (n := 135) dX5_who_134 rfl (by assumption) (mj_ixa (o := 20) rfl (by omega)) ?_
          refine YA_0 hY (fun h1 hY1 hF1 => ?_)
          rw [u2_u2] at hY1
          obtain ⟨y0, y1, y2, y3, y4, y5, y6, y7, y8, y9, y10, y11, y12⟩ := id hY1
          replace y4 : h1.2 224 = mj_ar 0 48 (upd (τ 0) (20 + j) (nI v)) := y4
          replace y0 : h1.2 220 = YO G (τ 12) := y0
          replace y3 : h1.2 223 = mj_ar 0 320 (τ 3) := y3
          refine s_iload (n := 137) dX5_who_135 rfl rfl ?_
          refine s_aload_n (n := 138) (i := 0) dX5_who_137 rfl rfl rfl ?_
          refine s_iload_n (n := 139) (i := 3) dX5_who_138 rfl rfl rfl ?_
          refine s_bipush (n := 141) (v := 40) dX5_who_139 rfl (by decide) ?_
          refine s_iload (n := 143) dX5_who_141 rfl rfl ?_
          refine s_imul (n := 144) dX5_who_143 rfl ?_
          refine s_iload (n := 146) dX5_who_144 rfl rfl ?_
          refine s_iadd (n := 147) dX5_who_146 rfl ?_
          refine s_iload (n := 149) dX5_who_147 rfl rfl ?_
          rw [show (40 : Int32) * nI a + nI i = nI (40 * a + i) from by rw [show (40 : Int32) = nI 40 from rfl, pk_mul, nI_add]]
          refine s_v3 (M' := MX5_isSo) (n := 152) (ci := 5) dX5_who_149 rfl wd_X5_209 okX5_isSo rfl rfl (by omega) ⟨Nat.le_refl _, Nat.le_refl _⟩ (by assumption) (y_isSo (d := d - 1) hY1 (n := n) (okB_keeps hok (by omega) (by omega) (by omega)) (fun q hq => up_ne (by omega)) (by omega) (by omega) hk (by omega)) ?_
          rintro v149 hh149 ⟨rfl, hY2, hF2⟩
          obtain ⟨y0, y1, y2, y3, y4, y5, y6, y7, y8, y9, y10, y11, y12⟩ := id hY2
          replace y4 : hh149.2 224 = mj_ar 0 48 (τ 0) := y4
          replace y0 : hh149.2 220 = YO G (τ 12) := y0
          replace y3 : hh149.2 223 = mj_ar 0 320 (τ 3) := y3
          refine s_if_eq (n := 155) (tgt := 162) dX5_who_152 rfl rfl (fun b152 => ?_) (fun b152 => ?_)
          · refine s_iconst (n := 163) (v := 0) dX5_who_162 rfl (by decide) ?_
            refine s_ior (n := 164) dX5_who_163 rfl ?_
            refine s_istore (n := 166) (i := 9) (ls' := [_, _, _, _, _, _, _, _, _, _, _]) dX5_who_164 rfl rfl rfl rfl ?_
            refine s_iinc (n := 169) (v := _ + 1) (ls' := [_, _, _, _, _, _, _, _, _, _, _]) dX5_who_166 rfl rfl rfl rfl rfl ?_
            refine s_goto (tgt := 101) dX5_who_169 rfl ?_
            rw [nI_1]
            unfold fitF
            first | (rw [if_pos (by exact b152), or00]; exact ih (v + 1) (by omega) (by omega) _ _ hY2 (fr_tr hF0 (fr_tr hF1 hF2))) | (rw [if_neg (by exact b152)]; exact ih (v + 1) (by omega) (by omega) _ _ hY2 (fr_tr hF0 (fr_tr hF1 hF2)))
          · refine s_iconst (n := 156) (v := 1) dX5_who_155 rfl (by decide) ?_
            refine s_iload (n := 158) dX5_who_156 rfl rfl ?_
            refine s_ishl (n := 159) dX5_who_158 rfl ?_
            refine s_goto (tgt := 163) dX5_who_159 rfl ?_
            refine s_ior (n := 164) dX5_who_163 rfl ?_
            refine s_istore (n := 166) (i := 9) (ls' := [_, _, _, _, _, _, _, _, _, _, _]) dX5_who_164 rfl rfl rfl rfl ?_
            refine s_iinc (n := 169) (v := _ + 1) (ls' := [_, _, _, _, _, _, _, _, _, _, _]) dX5_who_166 rfl rfl rfl rfl rfl ?_
            refine s_goto (tgt := 101) dX5_who_169 rfl ?_
            rw [nI_1]
            unfold fitF
            first | (rw [if_pos (by exact b152), or00]; exact ih (v + 1) (by omega) (by omega) _ _ hY2 (fr_tr hF0 (fr_tr hF1 hF2))) | (rw [if_neg (by exact b152)]; exact ih (v + 1) (by omega) (by omega) _ _ hY2 (fr_tr hF0 (fr_tr hF1 hF2)))
      · exact absurd b113 (by decide)
    · exact absurd b104 (by decide)
set_option maxRecDepth 100000 in
set_option maxHeartbeats 4000000 in
theorem y_who2 {G : mj_G} {h : mj_H} {d : Nat} {τ : Nat → Nat → Int32} (hY : YS G h τ) {n : Nat} (hn : τ 0 2 = nI n) (h7 : n ≤ 7) (hok : okB n (τ 0)) {j j2 a i k : Nat} (hj : j < n) (hj2 : j2 < n) (ha : a < 8) (hk1 : 1 ≤ k) (hk : k ≤ 12) (hik : i + k ≤ 40) (hs : ¬ τ 2 a < 0) (hf : 0 ≤ nI i ∧ nI i ≤ τ 2 a - nI k) (hd : 5 ≤ d) : mj_con G MX5_who d 0 0 [.ref (G.1 + 220), .int (nI j), .int 2, .int (nI j2), .int (nI a), .int (nI i), .int (nI k)] h (fun vv h' => vv = some (.int (fitF n j j2 20 (τ 3) (40 * a + i) k (τ 0) 9 1 0)) ∧ YS G h' (u2 (u2 (asS τ) 0 (τ 0)) 12 (upd (τ 12) 0 0)) ∧ mj_fr 220 13 h h') := by
  refine mj_conV okX5_who (ls := [some (.ref (G.1 + 220)), some (.int (nI j)), some (.int 2), some (.int (nI j2)), some (.int (nI a)), some (.int (nI i)), some (.int (nI k)), none, none, none, none]) rfl rfl ?_
  obtain ⟨y0, y1, y2, y3, y4, y5, y6, y7, y8, y9, y10, y11, y12⟩ := id hY
  refine s_aload_n (n := 1) (i := 0) dX5_who_0 rfl rfl rfl ?_
  refine s_iload_n (n := 2) (i := 1) dX5_who_1 rfl rfl rfl ?_
  refine s_v1 (M' := MX5_isHouse) (n := 5) (ci := 5) dX5_who_2 rfl wd_X5_155 okX5_isHouse rfl rfl (by omega) ⟨Nat.le_refl _, Nat.le_refl _⟩ (by assumption) (y_isHouse (d := d - 1) hY hn h7 (by omega)) ?_
  rintro v2 hh2 ⟨rfl, rfl⟩
  refine s_if_eq (n := 8) (tgt := 28) dX5_who_5 rfl rfl (fun b5 => ?_) (fun b5 => ?_)
  · exact absurd (Hs_n hj h7) (if0 b5)
  · refine s_iload_n (n := 9) (i := 2) dX5_who_8 rfl rfl rfl ?_
    refine s_i2l (n := 10) dX5_who_9 rfl ?_
    refine s_lconst (n := 11) (v := 0) dX5_who_10 rfl (by decide) ?_
    refine s_ldc2 (n := 14) dX5_who_11 rfl wd_X5_62 ?_
    refine s_s3 (M' := MX5_in) (n := 17) dX5_who_14 rfl wd_X5_54 okX5_in rfl (by omega) ⟨Nat.le_refl _, Nat.le_refl _⟩ (y_in (d := d - 1) (A := 0) (B := 2) (by decide) (by decide)) ?_
    rintro v14 hh14 ⟨rfl, rfl⟩
    refine s_if_eq (n := 20) (tgt := 28) dX5_who_17 rfl rfl (fun b17 => ?_) (fun b17 => ?_)
    · exact absurd (⟨by decide, by decide⟩) (if0 b17)
    · refine s_aload_n (n := 21) (i := 0) dX5_who_20 rfl rfl rfl ?_
      refine s_iload_n (n := 22) (i := 3) dX5_who_21 rfl rfl rfl ?_
      refine s_v1 (M' := MX5_isHouse) (n := 25) (ci := 5) dX5_who_22 rfl wd_X5_155 okX5_isHouse rfl rfl (by omega) ⟨Nat.le_refl _, Nat.le_refl _⟩ (by assumption) (y_isHouse (d := d - 1) hY hn h7 (by omega)) ?_
      rintro v22 hh22 ⟨rfl, rfl⟩
      refine s_if_ne (n := 28) (tgt := 33) dX5_who_25 rfl rfl (fun b25 => ?_) (fun b25 => ?_)
      · refine s_aload_n (n := 34) (i := 0) dX5_who_33 rfl rfl rfl ?_
        refine s_iload (n := 36) dX5_who_34 rfl rfl ?_
        refine s_iload (n := 38) dX5_who_36 rfl rfl ?_
        refine s_iload (n := 40) dX5_who_38 rfl rfl ?_
        refine s_v3 (M' := MX5_lacks) (n := 43) (ci := 5) dX5_who_40 rfl wd_X5_205 okX5_lacks rfl rfl (by omega) ⟨Nat.le_refl _, Nat.le_refl _⟩ (by assumption) (y_lacks (d := d - 1) hY ha (Wi_n (by omega) (by omega) (by omega)) hs hf (by omega)) ?_
        rintro v40 hh40 ⟨rfl, rfl⟩
        refine s_istore (n := 45) (i := 7) (ls' := [_, _, _, _, _, _, _, _, _, _, _]) dX5_who_43 rfl rfl rfl rfl ?_
        refine s_iload (n := 47) dX5_who_45 rfl rfl ?_
        refine s_if_ge (n := 50) (tgt := 53) dX5_who_47 rfl rfl (fun b47 => ?_) (fun b47 => ?_)
        · refine s_aload_n (n := 54) (i := 0) dX5_who_53 rfl rfl rfl ?_
          refine s_v0 (M' := MX5_putAside) (n := 57) (ci := 5) dX5_who_54 rfl wd_X5_174 okX5_putAside rfl rfl (by omega) ⟨Nat.le_refl _, Nat.le_refl _⟩ (by assumption) (y_pa (d := d - 1) hY) ?_
          rintro v54 hh54 ⟨rfl, hY1, hF1⟩
          obtain ⟨y0, y1, y2, y3, y4, y5, y6, y7, y8, y9, y10, y11, y12⟩ := id hY1
          replace y4 : hh54.2 224 = mj_ar 0 48 (τ 0) := y4
          replace y0 : hh54.2 220 = YO G (τ 12) := y0
          replace y3 : hh54.2 223 = mj_ar 0 320 (τ 3) := y3
          refine s_iload_n (n := 58) (i := 2) dX5_who_57 rfl rfl rfl ?_
          refine s_if_ne (n := 61) (tgt := 68) dX5_who_58 rfl rfl (fun b58 => ?_) (fun b58 => ?_)
          · refine s_iload_n (n := 69) (i := 2) dX5_who_68 rfl rfl rfl ?_
            refine s_iconst (n := 70) (v := 1) dX5_who_69 rfl (by decide) ?_
            refine s_icmp_ne (n := 73) (tgt := 80) dX5_who_70 rfl rfl (fun b70 => ?_) (fun b70 => ?_)
            · refine s_bipush (n := 82) (v := 20) dX5_who_80 rfl (by decide) ?_
              refine s_iload_n (n := 83) (i := 1) dX5_who_82 rfl rfl rfl ?_
              refine s_iadd (n := 84) dX5_who_83 rfl ?_
              refine s_istore (n := 86) (i := 8) (ls' := [_, _, _, _, _, _, _, _, _, _, _]) dX5_who_84 rfl rfl rfl rfl ?_
              refine s_iconst (n := 87) (v := 0) dX5_who_86 rfl (by decide) ?_
              refine s_istore (n := 89) (i := 9) (ls' := [_, _, _, _, _, _, _, _, _, _, _]) dX5_who_87 rfl rfl rfl rfl ?_
              refine s_iload_n (n := 90) (i := 2) dX5_who_89 rfl rfl rfl ?_
              refine s_iconst (n := 91) (v := 1) dX5_who_90 rfl (by decide) ?_
              refine s_icmp_ne (n := 94) (tgt := 98) dX5_who_91 rfl rfl (fun b91 => ?_) (fun b91 => ?_)
              · refine s_iconst (n := 99) (v := 1) dX5_who_98 rfl (by decide) ?_
                refine s_istore (n := 101) (i := 10) (ls' := [_, _, _, _, _, _, _, _, _, _, _]) dX5_who_99 rfl rfl rfl rfl ?_
                exact l_who2 hok hj hj2 ha hk hik hd 9 1 (by omega) (by omega) _ _ hY1 hF1
              · exact absurd b91 (by decide)
            · exact absurd b70 (by decide)
          · exact absurd b58 (by decide)
        · exact absurd (by decide) b47
      · exact absurd (Hs_n hj2 h7) (if0 b25)
