theorem bvl (x : BitVec 32) (k : Nat) (hk : k ≤ 32) (hk0 : 0 < k) : (x <<< (32 - k)).sshiftRight (32 - k) = (x.setWidth k).signExtend 32 := by
  apply BitVec.eq_of_getLsbD_eq
  intro i hi
  rw [BitVec.getLsbD_sshiftRight, BitVec.getLsbD_signExtend, BitVec.getLsbD_setWidth, BitVec.msb_eq_getLsbD_last, BitVec.msb_eq_getLsbD_last, BitVec.getLsbD_setWidth, BitVec.getLsbD_shiftLeft, BitVec.getLsbD_shiftLeft]
  by_cases h : i < k
  · have a1 : 32 - k + i < 32 := by omega
    have a2 : ¬ (32 - k + i < 32 - k) := by omega
    have a3 : 32 - k + i - (32 - k) = i := by omega
    simp only [h, hi, a1, a2, a3, decide_true, decide_false, Bool.not_false, Bool.not_true, Bool.true_and, if_true, if_false, ite_true, ite_false]
    simp
    intro _
    exact hi
  · have a1 : ¬ 32 - k + i < 32 := by omega
    have a3 : 32 - 1 - (32 - k) = k - 1 := by omega
    have a4 : ¬ 32 - 1 < 32 - k := by omega
    have a5 : k - 1 < k := by omega
    simp only [a1, a3, a4, a5, h, hi]
    simp
    omega
theorem sh8 (v : Int32) : ((v <<< (24 : Int32)) >>> (24 : Int32)).toBitVec = (v.toBitVec <<< (32 - 8)).sshiftRight (32 - 8) := rfl
theorem sh16 (v : Int32) : ((v <<< (16 : Int32)) >>> (16 : Int32)).toBitVec = (v.toBitVec <<< (32 - 16)).sshiftRight (32 - 16) := rfl
theorem c24 : (24 : Int32) &&& 31 = 24 := by decide
theorem c16 : (16 : Int32) &&& 31 = 16 := by decide
theorem lane8 (v : Int32) : (v <<< ((24 : Int32) &&& 31)) >>> ((24 : Int32) &&& 31) = v.toInt8.toInt32 := by
  rw [c24]
  apply Int32.toBitVec_inj.mp
  rw [sh8, bvl _ 8 (by omega) (by omega), Int8.toBitVec_toInt32, Int32.toBitVec_toInt8, show BitVec.signExtend 8 v.toBitVec = BitVec.setWidth 8 v.toBitVec from BitVec.signExtend_eq_setWidth_of_le _ (by omega)]
theorem lane16 (v : Int32) : (v <<< ((16 : Int32) &&& 31)) >>> ((16 : Int32) &&& 31) = v.toInt16.toInt32 := by
  rw [c16]
  apply Int32.toBitVec_inj.mp
  rw [sh16, bvl _ 16 (by omega) (by omega), Int16.toBitVec_toInt32, Int32.toBitVec_toInt16, show BitVec.signExtend 16 v.toBitVec = BitVec.setWidth 16 v.toBitVec from BitVec.signExtend_eq_setWidth_of_le _ (by omega)]
set_option maxRecDepth 100000 in
set_option maxHeartbeats 4000000 in
theorem y_asLane {G : mj_G} {h : mj_H} {d : Nat} {l v : Int32} : mj_con G MX5_asLane d 0 0 [.int l, .int v] h (rI (lnV l v) h) := by
  refine mj_conS okX5_asLane (ls := [some (.int l), some (.int v)]) rfl rfl ?_
  refine s_iload_n (n := 1) (i := 0) dX5_asLane_0 rfl rfl rfl ?_
  refine s_if_ne (n := 4) (tgt := 14) dX5_asLane_1 rfl rfl (fun b1 => ?_) (fun b1 => ?_)
  · refine s_iload_n (n := 15) (i := 0) dX5_asLane_14 rfl rfl rfl ?_
    refine s_iconst (n := 16) (v := 1) dX5_asLane_15 rfl (by decide) ?_
    refine s_icmp_ne (n := 19) (tgt := 29) dX5_asLane_16 rfl rfl (fun b16 => ?_) (fun b16 => ?_)
    · refine s_iload_n (n := 30) (i := 1) dX5_asLane_29 rfl rfl rfl ?_
      refine s_ireturn dX5_asLane_30 rfl (rfl) (Nat.le_refl _) (Nat.le_refl _) ?_
      refine rI_ok ?_
      unfold lnV
      first | (rw [if_pos (by assumption), lane8]) | (rw [if_neg (by assumption), if_pos (by assumption), lane16]) | (rw [if_neg (by assumption), if_neg (by assumption)])
    · refine s_iload_n (n := 20) (i := 1) dX5_asLane_19 rfl rfl rfl ?_
      refine s_bipush (n := 22) (v := 16) dX5_asLane_20 rfl (by decide) ?_
      refine s_ishl (n := 23) dX5_asLane_22 rfl ?_
      refine s_bipush (n := 25) (v := 16) dX5_asLane_23 rfl (by decide) ?_
      refine s_ishr (n := 26) dX5_asLane_25 rfl ?_
      refine s_goto (tgt := 30) dX5_asLane_26 rfl ?_
      refine s_ireturn dX5_asLane_30 rfl (rfl) (Nat.le_refl _) (Nat.le_refl _) ?_
      refine rI_ok ?_
      unfold lnV
      first | (rw [if_pos (by assumption), lane8]) | (rw [if_neg (by assumption), if_pos (by assumption), lane16]) | (rw [if_neg (by assumption), if_neg (by assumption)])
  · refine s_iload_n (n := 5) (i := 1) dX5_asLane_4 rfl rfl rfl ?_
    refine s_bipush (n := 7) (v := 24) dX5_asLane_5 rfl (by decide) ?_
    refine s_ishl (n := 8) dX5_asLane_7 rfl ?_
    refine s_bipush (n := 10) (v := 24) dX5_asLane_8 rfl (by decide) ?_
    refine s_ishr (n := 11) dX5_asLane_10 rfl ?_
    refine s_goto (tgt := 30) dX5_asLane_11 rfl ?_
    refine s_ireturn dX5_asLane_30 rfl (rfl) (Nat.le_refl _) (Nat.le_refl _) ?_
    refine rI_ok ?_
    unfold lnV
    first | (rw [if_pos (by assumption), lane8]) | (rw [if_neg (by assumption), if_pos (by assumption), lane16]) | (rw [if_neg (by assumption), if_neg (by assumption)])
/-- f, and from o on q items of g -/
def cpI (f g : Nat → Int32) (o q : Nat) : Nat → Int32 := fun k => if o ≤ k ∧ k < o + q then g (k - o) else f k
theorem cpI_0 {f g : Nat → Int32} {o : Nat} : cpI f g o 0 = f := by
  funext k
  unfold cpI
  rw [if_neg (by omega)]
theorem cpI_s {f g : Nat → Int32} {o q : Nat} {x : Int32} (hx : x = g q) : upd (cpI f g o q) (o + q) x = cpI f g o (q + 1) := by
  funext k
  unfold cpI
  rw [up_if]
  by_cases h1 : k = o + q
  · rw [if_pos h1, if_pos (by omega), hx, h1, Nat.add_sub_cancel_left]
  · rw [if_neg h1]
    by_cases h2 : o ≤ k ∧ k < o + q
    · rw [if_pos h2, if_pos (by omega)]
    · rw [if_neg h2, if_neg (by omega)]
theorem mj_ixm3 {c : Int32} {k r i m n : Nat} (hc : c = nI k) (h : k * r + i + m < n ∧ n < 2147483648) : mj_ix (c * nI r + nI i + nI m) n (k * r + i + m) := by
  subst hc
  rw [pk_mul, nI_add, nI_add]
  exact mj_ixn h
theorem in0_get {y b : Int32} (h : (0 : Int64) ≤ y.toInt64 ∧ y.toInt64 ≤ b.toInt64) : 0 ≤ y ∧ y ≤ b := by
  simp only [l_le, i_le, Int32.toInt_toInt64] at *
  exact h
theorem in0_put {y b : Int32} (h : 0 ≤ y ∧ y ≤ b) : (0 : Int64) ≤ y.toInt64 ∧ y.toInt64 ≤ b.toInt64 := by
  simp only [l_le, i_le, Int32.toInt_toInt64] at *
  exact h
theorem nI_inj {a b : Nat} (ha : a < 2147483648) (hb : b < 2147483648) (h : nI a = nI b) : a = b := by
  have q := congrArg Int32.toNatClampNeg h
  rwa [nI_clamp ha, nI_clamp hb] at q
set_option maxRecDepth 100000 in
set_option maxHeartbeats 4000000 in
theorem y_row_bad {G : mj_G} {h : mj_H} {d : Nat} {τ : Nat → Nat → Int32} (hY : YS G h τ) {x y z : Int32} (hb : ¬ (Wi x 0 7 ∧ Wi y 0 2 ∧ z ≤ 40)) (hd : 2 ≤ d) : mj_con G MX5_row d 0 0 [.ref (G.1 + 220), .int x, .int y, .int z] h (rI (-1000001) h) := by
  refine mj_conV okX5_row (ls := [some (.ref (G.1 + 220)), some (.int x), some (.int y), some (.int z), none]) rfl rfl ?_
  obtain ⟨y0, y1, y2, y3, y4, y5, y6, y7, y8, y9, y10, y11, y12⟩ := id hY
  refine s_iload_n (n := 1) (i := 1) dX5_row_0 rfl rfl rfl ?_
  refine s_s1 (M' := MX5_isRow) (n := 4) dX5_row_1 rfl wd_X5_58 okX5_isRow rfl (by omega) ⟨Nat.le_refl _, Nat.le_refl _⟩ (y_isRow (d := d - 1) (by omega)) ?_
  rintro v1 hh1 ⟨rfl, rfl⟩
  refine s_if_eq (n := 7) (tgt := 25) dX5_row_4 rfl rfl (fun b4 => ?_) (fun b4 => ?_)
  · refine s_ldc (n := 27) dX5_row_25 rfl wd_X5_64 ?_
    refine s_ireturn dX5_row_27 rfl (rfl) (Nat.le_refl _) (Nat.le_refl _) ?_
    exact ⟨rfl, rfl⟩
  · refine s_iload_n (n := 8) (i := 2) dX5_row_7 rfl rfl rfl ?_
    refine s_i2l (n := 9) dX5_row_8 rfl ?_
    refine s_lconst (n := 10) (v := 0) dX5_row_9 rfl (by decide) ?_
    refine s_ldc2 (n := 13) dX5_row_10 rfl wd_X5_62 ?_
    refine s_s3 (M' := MX5_in) (n := 16) dX5_row_13 rfl wd_X5_54 okX5_in rfl (by omega) ⟨Nat.le_refl _, Nat.le_refl _⟩ (y_in (d := d - 1) (A := 0) (B := 2) (by decide) (by decide)) ?_
    rintro v13 hh13 ⟨rfl, rfl⟩
    refine s_if_eq (n := 19) (tgt := 25) dX5_row_16 rfl rfl (fun b16 => ?_) (fun b16 => ?_)
    · refine s_ldc (n := 27) dX5_row_25 rfl wd_X5_64 ?_
      refine s_ireturn dX5_row_27 rfl (rfl) (Nat.le_refl _) (Nat.le_refl _) ?_
      exact ⟨rfl, rfl⟩
    · refine s_iload_n (n := 20) (i := 3) dX5_row_19 rfl rfl rfl ?_
      refine s_bipush (n := 22) (v := 40) dX5_row_20 rfl (by decide) ?_
      refine s_icmp_le (n := 25) (tgt := 28) dX5_row_22 rfl rfl (fun b22 => ?_) (fun b22 => ?_)
      · exact absurd (⟨if1 b4, if1 b16, b22⟩) hb
      · refine s_ldc (n := 27) dX5_row_25 rfl wd_X5_64 ?_
        refine s_ireturn dX5_row_27 rfl (rfl) (Nat.le_refl _) (Nat.le_refl _) ?_
        exact ⟨rfl, rfl⟩
set_option maxRecDepth 100000 in
set_option maxHeartbeats 4000000 in
theorem y_row_size {G : mj_G} {h : mj_H} {d : Nat} {τ : Nat → Nat → Int32} (hY : YS G h τ) {x y z : Int32} (h1 : Wi x 0 7) (h2 : Wi y 0 2) (h3 : z < 0) (hd : 2 ≤ d) : mj_con G MX5_row d 0 0 [.ref (G.1 + 220), .int x, .int y, .int z] h (fun v h' => v = some (.int (-1000010 - 4)) ∧ YS G h' (u2 (τ) 12 (upd (τ 12) 0 4)) ∧ mj_fr 220 13 h h') := by
  refine mj_conV okX5_row (ls := [some (.ref (G.1 + 220)), some (.int x), some (.int y), some (.int z), none]) rfl rfl ?_
  obtain ⟨y0, y1, y2, y3, y4, y5, y6, y7, y8, y9, y10, y11, y12⟩ := id hY
  refine s_iload_n (n := 1) (i := 1) dX5_row_0 rfl rfl rfl ?_
  refine s_s1 (M' := MX5_isRow) (n := 4) dX5_row_1 rfl wd_X5_58 okX5_isRow rfl (by omega) ⟨Nat.le_refl _, Nat.le_refl _⟩ (y_isRow (d := d - 1) (by omega)) ?_
  rintro v1 hh1 ⟨rfl, rfl⟩
  refine s_if_eq (n := 7) (tgt := 25) dX5_row_4 rfl rfl (fun b4 => ?_) (fun b4 => ?_)
  · exact absurd (h1) (if0 b4)
  · refine s_iload_n (n := 8) (i := 2) dX5_row_7 rfl rfl rfl ?_
    refine s_i2l (n := 9) dX5_row_8 rfl ?_
    refine s_lconst (n := 10) (v := 0) dX5_row_9 rfl (by decide) ?_
    refine s_ldc2 (n := 13) dX5_row_10 rfl wd_X5_62 ?_
    refine s_s3 (M' := MX5_in) (n := 16) dX5_row_13 rfl wd_X5_54 okX5_in rfl (by omega) ⟨Nat.le_refl _, Nat.le_refl _⟩ (y_in (d := d - 1) (A := 0) (B := 2) (by decide) (by decide)) ?_
    rintro v13 hh13 ⟨rfl, rfl⟩
    refine s_if_eq (n := 19) (tgt := 25) dX5_row_16 rfl rfl (fun b16 => ?_) (fun b16 => ?_)
    · exact absurd (h2) (if0 b16)
    · refine s_iload_n (n := 20) (i := 3) dX5_row_19 rfl rfl rfl ?_
      refine s_bipush (n := 22) (v := 40) dX5_row_20 rfl (by decide) ?_
      refine s_icmp_le (n := 25) (tgt := 28) dX5_row_22 rfl rfl (fun b22 => ?_) (fun b22 => ?_)
      · refine s_iload_n (n := 29) (i := 3) dX5_row_28 rfl rfl rfl ?_
        refine s_if_ge (n := 32) (tgt := 38) dX5_row_29 rfl rfl (fun b29 => ?_) (fun b29 => ?_)
        · exact absurd h3 (Int32.not_lt.mpr b29)
        · refine s_aload_n (n := 33) (i := 0) dX5_row_32 rfl rfl rfl ?_
          refine s_iconst (n := 34) (v := 4) dX5_row_33 rfl (by decide) ?_
          refine s_v1 (M' := MX5_find) (n := 37) (ci := 5) dX5_row_34 rfl wd_X5_65 okX5_find rfl rfl (by omega) ⟨Nat.le_refl _, Nat.le_refl _⟩ (by assumption) (y_find (d := d - 1) hY) ?_
          rintro v34 hh34 ⟨rfl, hY1, hF1⟩
          refine s_ireturn dX5_row_37 rfl (rfl) (Nat.le_refl _) (Nat.le_refl _) ?_
          exact ⟨rfl, hY1, hF1⟩
      · exact absurd (Int32.le_of_lt (Int32.lt_trans h3 (by decide))) b22
set_option maxRecDepth 100000 in
set_option maxHeartbeats 4000000 in
theorem l_yrow {G : mj_G} {h0 : mj_H} {d a : Nat} {y z : Int32} {τ : Nat → Nat → Int32} {f : Nat → Int32} (ha : a < 8) (hd : 1 ≤ d) : ∀ (r i : Nat), i + r = 40 → ∀ (h : mj_H), YS G h (u2 τ 3 (cpI f (fun _ => 0) (40 * a) i)) → mj_fr 220 13 h0 h → mj_wp G MX5_row d 0 0 55 [some (.ref (G.1 + 220)), some (.int (nI a)), some (.int y), some (.int z), some (.int (nI i))] [] h 0 0 (fun v h' => v = some (.int z) ∧ YS G h' (u2 (u2 τ 3 (cpI f (fun _ => 0) (40 * a) 40)) 12 (upd (τ 12) 0 0)) ∧ mj_fr 220 13 h0 h') := by
  intro r
  induction r with
  | zero =>
    intro i hi h hY hF
    have hi8 : i = 40 := by omega
    subst hi8
    obtain ⟨y0, y1, y2, y3, y4, y5, y6, y7, y8, y9, y10, y11, y12⟩ := id hY
    replace y0 : h.2 220 = YO G (τ 12) := y0
    refine s_iload (n := 57) dX5_row_55 rfl rfl ?_
    refine s_bipush (n := 59) (v := 40) dX5_row_57 rfl (by decide) ?_
    refine s_icmp_ge (n := 62) (tgt := 81) dX5_row_59 rfl rfl (fun b59 => ?_) (fun b59 => ?_)
    · refine s_aload_n (n := 82) (i := 0) dX5_row_81 rfl rfl rfl ?_
      refine s_iload_n (n := 83) (i := 3) dX5_row_82 rfl rfl rfl ?_
      refine s_v1 (M' := MX5_well) (n := 86) (ci := 5) dX5_row_83 rfl wd_X5_69 okX5_well rfl rfl (by omega) ⟨Nat.le_refl _, Nat.le_refl _⟩ (by assumption) (y_well (d := d - 1) hY) ?_
      rintro v83 hh83 ⟨rfl, hY1, hF1⟩
      refine s_ireturn dX5_row_86 rfl (rfl) (Nat.le_refl _) (Nat.le_refl _) ?_
      exact ⟨rfl, hY1, fr_tr hF hF1⟩
    · exact absurd (Int32.le_refl _) b59
  | succ r ih =>
    intro i hi h hY hF
    obtain ⟨y0, y1, y2, y3, y4, y5, y6, y7, y8, y9, y10, y11, y12⟩ := id hY
    replace y3 : h.2 223 = mj_ar 0 320 (cpI f (fun _ => 0) (40 * a) i) := y3
    replace y0 : h.2 220 = YO G (τ 12) := y0
    refine s_iload (n := 57) dX5_row_55 rfl rfl ?_
    refine s_bipush (n := 59) (v := 40) dX5_row_57 rfl (by decide) ?_
    refine s_icmp_ge (n := 62) (tgt := 81) dX5_row_59 rfl rfl (fun b59 => ?_) (fun b59 => ?_)
    · exact absurd ((nI_leE (a := 40) (by omega) (by omega)).mp b59) (by omega)
    · refine s_aload_n (n := 63) (i := 0) dX5_row_62 rfl rfl rfl ?_
      refine gf_X5_16 (n := 66) rfl dX5_row_63 rfl (by assumption) (by rfl) ?_
      refine s_bipush (n := 68) (v := 40) dX5_row_66 rfl (by decide) ?_
      refine s_iload_n (n := 69) (i := 1) dX5_row_68 rfl rfl rfl ?_
      refine s_imul (n := 70) dX5_row_69 rfl ?_
      refine s_iload (n := 72) dX5_row_70 rfl rfl ?_
      refine s_iadd (n := 73) dX5_row_72 rfl ?_
      refine s_iconst (n := 74) (v := 0) dX5_row_73 rfl (by decide) ?_
      refine s_iast (n := 75) dX5_row_74 rfl (by assumption) (mj_ixm (k := 40) rfl (by omega)) ?_
      refine YA_3 hY (fun h1 hY1 hF1 => ?_)
      rw [cpI_s rfl, u2_u2] at hY1
      refine s_iinc (n := 78) (v := _ + 1) (ls' := [_, _, _, _, _]) dX5_row_75 rfl rfl rfl rfl rfl ?_
      refine s_goto (tgt := 55) dX5_row_78 rfl ?_
      rw [nI_1]
      exact ih (i + 1) (by omega) _ hY1 (fr_tr hF hF1)
set_option maxRecDepth 100000 in
set_option maxHeartbeats 4000000 in
theorem y_row {G : mj_G} {h : mj_H} {d : Nat} {τ : Nat → Nat → Int32} (hY : YS G h τ) {a : Nat} (ha : a < 8) {y z : Int32} (h2 : Wi y 0 2) (h3 : z ≤ 40) (h4 : ¬ z < 0) (hd : 2 ≤ d) : mj_con G MX5_row d 0 0 [.ref (G.1 + 220), .int (nI a), .int y, .int z] h (fun v h' => v = some (.int (z)) ∧ YS G h' (u2 (u2 (u2 (u2 τ 1 (upd (τ 1) a y)) 2 (upd (τ 2) a z)) 3 (cpI (τ 3) (fun _ => 0) (40 * a) 40)) 12 (upd (τ 12) 0 0)) ∧ mj_fr 220 13 h h') := by
  refine mj_conV okX5_row (ls := [some (.ref (G.1 + 220)), some (.int (nI a)), some (.int y), some (.int z), none]) rfl rfl ?_
  obtain ⟨y0, y1, y2, y3, y4, y5, y6, y7, y8, y9, y10, y11, y12⟩ := id hY
  refine s_iload_n (n := 1) (i := 1) dX5_row_0 rfl rfl rfl ?_
  refine s_s1 (M' := MX5_isRow) (n := 4) dX5_row_1 rfl wd_X5_58 okX5_isRow rfl (by omega) ⟨Nat.le_refl _, Nat.le_refl _⟩ (y_isRow (d := d - 1) (by omega)) ?_
  rintro v1 hh1 ⟨rfl, rfl⟩
  refine s_if_eq (n := 7) (tgt := 25) dX5_row_4 rfl rfl (fun b4 => ?_) (fun b4 => ?_)
  · exact absurd (Wi_n (by omega) (by omega) (by omega)) (if0 b4)
  · refine s_iload_n (n := 8) (i := 2) dX5_row_7 rfl rfl rfl ?_
    refine s_i2l (n := 9) dX5_row_8 rfl ?_
    refine s_lconst (n := 10) (v := 0) dX5_row_9 rfl (by decide) ?_
    refine s_ldc2 (n := 13) dX5_row_10 rfl wd_X5_62 ?_
    refine s_s3 (M' := MX5_in) (n := 16) dX5_row_13 rfl wd_X5_54 okX5_in rfl (by omega) ⟨Nat.le_refl _, Nat.le_refl _⟩ (y_in (d := d - 1) (A := 0) (B := 2) (by decide) (by decide)) ?_
    rintro v13 hh13 ⟨rfl, rfl⟩
    refine s_if_eq (n := 19) (tgt := 25) dX5_row_16 rfl rfl (fun b16 => ?_) (fun b16 => ?_)
    · exact absurd (h2) (if0 b16)
    · refine s_iload_n (n := 20) (i := 3) dX5_row_19 rfl rfl rfl ?_
      refine s_bipush (n := 22) (v := 40) dX5_row_20 rfl (by decide) ?_
      refine s_icmp_le (n := 25) (tgt := 28) dX5_row_22 rfl rfl (fun b22 => ?_) (fun b22 => ?_)
      · refine s_iload_n (n := 29) (i := 3) dX5_row_28 rfl rfl rfl ?_
        refine s_if_ge (n := 32) (tgt := 38) dX5_row_29 rfl rfl (fun b29 => ?_) (fun b29 => ?_)
        · refine s_aload_n (n := 39) (i := 0) dX5_row_38 rfl rfl rfl ?_
          refine gf_X5_7 (n := 42) rfl dX5_row_39 rfl (by assumption) (by rfl) ?_
          refine s_iload_n (n := 43) (i := 1) dX5_row_42 rfl rfl rfl ?_
          refine s_iload_n (n := 44) (i := 2) dX5_row_43 rfl rfl rfl ?_
          refine s_iast (n := 45) dX5_row_44 rfl (by assumption) (mj_ixn (by omega)) ?_
          refine YA_1 hY (fun h1 hY1 hF1 => ?_)
          obtain ⟨y0, y1, y2, y3, y4, y5, y6, y7, y8, y9, y10, y11, y12⟩ := id hY1
          replace y2 : h1.2 222 = mj_ar 0 8 (τ 2) := y2
          replace y3 : h1.2 223 = mj_ar 0 320 (τ 3) := y3
          replace y0 : h1.2 220 = YO G (τ 12) := y0
          refine s_aload_n (n := 46) (i := 0) dX5_row_45 rfl rfl rfl ?_
          refine gf_X5_13 (n := 49) rfl dX5_row_46 rfl (by assumption) (by rfl) ?_
          refine s_iload_n (n := 50) (i := 1) dX5_row_49 rfl rfl rfl ?_
          refine s_iload_n (n := 51) (i := 3) dX5_row_50 rfl rfl rfl ?_
          refine s_iast (n := 52) dX5_row_51 rfl (by assumption) (mj_ixn (by omega)) ?_
          refine YA_2 hY1 (fun h2 hY2 hF2 => ?_)
          refine s_iconst (n := 53) (v := 0) dX5_row_52 rfl (by decide) ?_
          refine s_istore (n := 55) (i := 4) (ls' := [_, _, _, _, _]) dX5_row_53 rfl rfl rfl rfl ?_
          exact l_yrow (d := d) (f := τ 3) (τ := u2 (u2 τ 1 (upd (τ 1) a y)) 2 (upd (τ 2) a z)) ha (by omega) 40 0 (by omega) _ (by rw [cpI_0]; rw [show τ 3 = u2 (u2 τ 1 (upd (τ 1) a y)) 2 (upd (τ 2) a z) 3 from rfl, u2_self]; exact hY2) (fr_tr hF1 hF2)
        · exact absurd (Int32.not_lt.mp h4) b29
      · exact absurd h3 b22
set_option maxRecDepth 100000 in
set_option maxHeartbeats 4000000 in
theorem y_set_bad {G : mj_G} {h : mj_H} {d : Nat} {τ : Nat → Nat → Int32} (hY : YS G h τ) {x y z : Int32} (hb : ¬ Wi x 0 7) (hd : 2 ≤ d) : mj_con G MX5_set d 0 0 [.ref (G.1 + 220), .int x, .int y, .int z] h (rI (-1000001) h) := by
  refine mj_conV okX5_set (ls := [some (.ref (G.1 + 220)), some (.int x), some (.int y), some (.int z)]) rfl rfl ?_
  obtain ⟨y0, y1, y2, y3, y4, y5, y6, y7, y8, y9, y10, y11, y12⟩ := id hY
  refine s_iload_n (n := 1) (i := 1) dX5_set_0 rfl rfl rfl ?_
  refine s_s1 (M' := MX5_isRow) (n := 4) dX5_set_1 rfl wd_X5_58 okX5_isRow rfl (by omega) ⟨Nat.le_refl _, Nat.le_refl _⟩ (y_isRow (d := d - 1) (by omega)) ?_
  rintro v1 hh1 ⟨rfl, rfl⟩
  refine s_if_ne (n := 7) (tgt := 10) dX5_set_4 rfl rfl (fun b4 => ?_) (fun b4 => ?_)
  · exact absurd (if1 b4) hb
  · refine s_ldc (n := 9) dX5_set_7 rfl wd_X5_64 ?_
    refine s_ireturn dX5_set_9 rfl (rfl) (Nat.le_refl _) (Nat.le_refl _) ?_
    exact ⟨rfl, rfl⟩
set_option maxRecDepth 100000 in
set_option maxHeartbeats 4000000 in
theorem y_set_null {G : mj_G} {h : mj_H} {d : Nat} {τ : Nat → Nat → Int32} (hY : YS G h τ) {a : Nat} (ha : a < 8) {y z : Int32} (hf : τ 2 a < 0) (hd : 2 ≤ d) : mj_con G MX5_set d 0 0 [.ref (G.1 + 220), .int (nI a), .int y, .int z] h (fun v h' => v = some (.int (-1000010 - 1)) ∧ YS G h' (u2 (τ) 12 (upd (τ 12) 0 1)) ∧ mj_fr 220 13 h h') := by
  refine mj_conV okX5_set (ls := [some (.ref (G.1 + 220)), some (.int (nI a)), some (.int y), some (.int z)]) rfl rfl ?_
  obtain ⟨y0, y1, y2, y3, y4, y5, y6, y7, y8, y9, y10, y11, y12⟩ := id hY
  refine s_iload_n (n := 1) (i := 1) dX5_set_0 rfl rfl rfl ?_
  refine s_s1 (M' := MX5_isRow) (n := 4) dX5_set_1 rfl wd_X5_58 okX5_isRow rfl (by omega) ⟨Nat.le_refl _, Nat.le_refl _⟩ (y_isRow (d := d - 1) (by omega)) ?_
  rintro v1 hh1 ⟨rfl, rfl⟩
  refine s_if_ne (n := 7) (tgt := 10) dX5_set_4 rfl rfl (fun b4 => ?_) (fun b4 => ?_)
  · refine s_aload_n (n := 11) (i := 0) dX5_set_10 rfl rfl rfl ?_
    refine gf_X5_13 (n := 14) rfl dX5_set_11 rfl (by assumption) (by rfl) ?_
    refine s_iload_n (n := 15) (i := 1) dX5_set_14 rfl rfl rfl ?_
    refine s_iald (n := 16) dX5_set_15 rfl (by assumption) (mj_ixn (by omega)) ?_
    refine s_if_ge (n := 19) (tgt := 25) dX5_set_16 rfl rfl (fun b16 => ?_) (fun b16 => ?_)
    · exact absurd hf (Int32.not_lt.mpr b16)
    · refine s_aload_n (n := 20) (i := 0) dX5_set_19 rfl rfl rfl ?_
      refine s_iconst (n := 21) (v := 1) dX5_set_20 rfl (by decide) ?_
      refine s_v1 (M' := MX5_find) (n := 24) (ci := 5) dX5_set_21 rfl wd_X5_65 okX5_find rfl rfl (by omega) ⟨Nat.le_refl _, Nat.le_refl _⟩ (by assumption) (y_find (d := d - 1) hY) ?_
      rintro v21 hh21 ⟨rfl, hY1, hF1⟩
      refine s_ireturn dX5_set_24 rfl (rfl) (Nat.le_refl _) (Nat.le_refl _) ?_
      exact ⟨rfl, hY1, hF1⟩
  · exact absurd (Wi_n (by omega) (by omega) (by omega)) (if0 b4)
set_option maxRecDepth 100000 in
set_option maxHeartbeats 4000000 in
theorem y_set_place {G : mj_G} {h : mj_H} {d : Nat} {τ : Nat → Nat → Int32} (hY : YS G h τ) {a : Nat} (ha : a < 8) {y z : Int32} (hz : ¬ τ 2 a < 0) (hf : ¬ (0 ≤ y ∧ y ≤ τ 2 a - 1)) (hd : 2 ≤ d) : mj_con G MX5_set d 0 0 [.ref (G.1 + 220), .int (nI a), .int y, .int z] h (fun v h' => v = some (.int (-1000010 - 2)) ∧ YS G h' (u2 (τ) 12 (upd (τ 12) 0 2)) ∧ mj_fr 220 13 h h') := by
  refine mj_conV okX5_set (ls := [some (.ref (G.1 + 220)), some (.int (nI a)), some (.int y), some (.int z)]) rfl rfl ?_
  obtain ⟨y0, y1, y2, y3, y4, y5, y6, y7, y8, y9, y10, y11, y12⟩ := id hY
  refine s_iload_n (n := 1) (i := 1) dX5_set_0 rfl rfl rfl ?_
  refine s_s1 (M' := MX5_isRow) (n := 4) dX5_set_1 rfl wd_X5_58 okX5_isRow rfl (by omega) ⟨Nat.le_refl _, Nat.le_refl _⟩ (y_isRow (d := d - 1) (by omega)) ?_
  rintro v1 hh1 ⟨rfl, rfl⟩
  refine s_if_ne (n := 7) (tgt := 10) dX5_set_4 rfl rfl (fun b4 => ?_) (fun b4 => ?_)
  · refine s_aload_n (n := 11) (i := 0) dX5_set_10 rfl rfl rfl ?_
    refine gf_X5_13 (n := 14) rfl dX5_set_11 rfl (by assumption) (by rfl) ?_
    refine s_iload_n (n := 15) (i := 1) dX5_set_14 rfl rfl rfl ?_
    refine s_iald (n := 16) dX5_set_15 rfl (by assumption) (mj_ixn (by omega)) ?_
    refine s_if_ge (n := 19) (tgt := 25) dX5_set_16 rfl rfl (fun b16 => ?_) (fun b16 => ?_)
    · refine s_iload_n (n := 26) (i := 2) dX5_set_25 rfl rfl rfl ?_
      refine s_i2l (n := 27) dX5_set_26 rfl ?_
      refine s_lconst (n := 28) (v := 0) dX5_set_27 rfl (by decide) ?_
      refine s_aload_n (n := 29) (i := 0) dX5_set_28 rfl rfl rfl ?_
      refine gf_X5_13 (n := 32) rfl dX5_set_29 rfl (by assumption) (by rfl) ?_
      refine s_iload_n (n := 33) (i := 1) dX5_set_32 rfl rfl rfl ?_
      refine s_iald (n := 34) dX5_set_33 rfl (by assumption) (mj_ixn (by omega)) ?_
      refine s_iconst (n := 35) (v := 1) dX5_set_34 rfl (by decide) ?_
      refine s_isub (n := 36) dX5_set_35 rfl ?_
      refine s_i2l (n := 37) dX5_set_36 rfl ?_
      refine s_s3 (M' := MX5_in) (n := 40) dX5_set_37 rfl wd_X5_54 okX5_in rfl (by omega) ⟨Nat.le_refl _, Nat.le_refl _⟩ (y_in0 (d := d - 1)) ?_
      rintro v37 hh37 ⟨rfl, rfl⟩
      refine s_if_ne (n := 43) (tgt := 49) dX5_set_40 rfl rfl (fun b40 => ?_) (fun b40 => ?_)
      · exact absurd (in0_get (if1 b40)) hf
      · refine s_aload_n (n := 44) (i := 0) dX5_set_43 rfl rfl rfl ?_
        refine s_iconst (n := 45) (v := 2) dX5_set_44 rfl (by decide) ?_
        refine s_v1 (M' := MX5_find) (n := 48) (ci := 5) dX5_set_45 rfl wd_X5_65 okX5_find rfl rfl (by omega) ⟨Nat.le_refl _, Nat.le_refl _⟩ (by assumption) (y_find (d := d - 1) hY) ?_
        rintro v45 hh45 ⟨rfl, hY1, hF1⟩
        refine s_ireturn dX5_set_48 rfl (rfl) (Nat.le_refl _) (Nat.le_refl _) ?_
        exact ⟨rfl, hY1, hF1⟩
    · exact absurd (Int32.not_lt.mp hz) b16
  · exact absurd (Wi_n (by omega) (by omega) (by omega)) (if0 b4)
set_option maxRecDepth 100000 in
set_option maxHeartbeats 4000000 in
theorem y_set {G : mj_G} {h : mj_H} {d : Nat} {τ : Nat → Nat → Int32} (hY : YS G h τ) {a j : Nat} (ha : a < 8) (hj : j < 40) {z : Int32} (hz : ¬ τ 2 a < 0) (hf : 0 ≤ nI j ∧ nI j ≤ τ 2 a - 1) (hd : 2 ≤ d) : mj_con G MX5_set d 0 0 [.ref (G.1 + 220), .int (nI a), .int (nI j), .int z] h (fun v h' => v = some (.int (lnV (τ 1 a) z)) ∧ YS G h' (u2 (u2 τ 3 (upd (τ 3) (40 * a + j) (lnV (τ 1 a) z))) 12 (upd (τ 12) 0 0)) ∧ mj_fr 220 13 h h') := by
  refine mj_conV okX5_set (ls := [some (.ref (G.1 + 220)), some (.int (nI a)), some (.int (nI j)), some (.int z)]) rfl rfl ?_
  obtain ⟨y0, y1, y2, y3, y4, y5, y6, y7, y8, y9, y10, y11, y12⟩ := id hY
  refine s_iload_n (n := 1) (i := 1) dX5_set_0 rfl rfl rfl ?_
  refine s_s1 (M' := MX5_isRow) (n := 4) dX5_set_1 rfl wd_X5_58 okX5_isRow rfl (by omega) ⟨Nat.le_refl _, Nat.le_refl _⟩ (y_isRow (d := d - 1) (by omega)) ?_
  rintro v1 hh1 ⟨rfl, rfl⟩
  refine s_if_ne (n := 7) (tgt := 10) dX5_set_4 rfl rfl (fun b4 => ?_) (fun b4 => ?_)
  · refine s_aload_n (n := 11) (i := 0) dX5_set_10 rfl rfl rfl ?_
    refine gf_X5_13 (n := 14) rfl dX5_set_11 rfl (by assumption) (by rfl) ?_
    refine s_iload_n (n := 15) (i := 1) dX5_set_14 rfl rfl rfl ?_
    refine s_iald (n := 16) dX5_set_15 rfl (by assumption) (mj_ixn (by omega)) ?_
    refine s_if_ge (n := 19) (tgt := 25) dX5_set_16 rfl rfl (fun b16 => ?_) (fun b16 => ?_)
    · refine s_iload_n (n := 26) (i := 2) dX5_set_25 rfl rfl rfl ?_
      refine s_i2l (n := 27) dX5_set_26 rfl ?_
      refine s_lconst (n := 28) (v := 0) dX5_set_27 rfl (by decide) ?_
      refine s_aload_n (n := 29) (i := 0) dX5_set_28 rfl rfl rfl ?_
      refine gf_X5_13 (n := 32) rfl dX5_set_29 rfl (by assumption) (by rfl) ?_
      refine s_iload_n (n := 33) (i := 1) dX5_set_32 rfl rfl rfl ?_
      refine s_iald (n := 34) dX5_set_33 rfl (by assumption) (mj_ixn (by omega)) ?_
      refine s_iconst (n := 35) (v := 1) dX5_set_34 rfl (by decide) ?_
      refine s_isub (n := 36) dX5_set_35 rfl ?_
      refine s_i2l (n := 37) dX5_set_36 rfl ?_
      refine s_s3 (M' := MX5_in) (n := 40) dX5_set_37 rfl wd_X5_54 okX5_in rfl (by omega) ⟨Nat.le_refl _, Nat.le_refl _⟩ (y_in0 (d := d - 1)) ?_
      rintro v37 hh37 ⟨rfl, rfl⟩
      refine s_if_ne (n := 43) (tgt := 49) dX5_set_40 rfl rfl (fun b40 => ?_) (fun b40 => ?_)
      · refine s_aload_n (n := 50) (i := 0) dX5_set_49 rfl rfl rfl ?_
        refine gf_X5_16 (n := 53) rfl dX5_set_50 rfl (by assumption) (by rfl) ?_
        refine s_bipush (n := 55) (v := 40) dX5_set_53 rfl (by decide) ?_
        refine s_iload_n (n := 56) (i := 1) dX5_set_55 rfl rfl rfl ?_
        refine s_imul (n := 57) dX5_set_56 rfl ?_
        refine s_iload_n (n := 58) (i := 2) dX5_set_57 rfl rfl rfl ?_
        refine s_iadd (n := 59) dX5_set_58 rfl ?_
        refine s_aload_n (n := 60) (i := 0) dX5_set_59 rfl rfl rfl ?_
        refine gf_X5_7 (n := 63) rfl dX5_set_60 rfl (by assumption) (by rfl) ?_
        refine s_iload_n (n := 64) (i := 1) dX5_set_63 rfl rfl rfl ?_
        refine s_iald (n := 65) dX5_set_64 rfl (by assumption) (mj_ixn (by omega)) ?_
        refine s_iload_n (n := 66) (i := 3) dX5_set_65 rfl rfl rfl ?_
        refine s_s2 (M' := MX5_asLane) (n := 69) dX5_set_66 rfl wd_X5_72 okX5_asLane rfl (by omega) ⟨Nat.le_refl _, Nat.le_refl _⟩ (y_asLane (d := d - 1)) ?_
        rintro v66 hh66 ⟨rfl, rfl⟩
        refine s_iast (n := 70) dX5_set_69 rfl (by assumption) (mj_ixm (k := 40) rfl (by omega)) ?_
        refine YA_3 hY (fun h1 hY1 hF1 => ?_)
        obtain ⟨y0, y1, y2, y3, y4, y5, y6, y7, y8, y9, y10, y11, y12⟩ := id hY1
        replace y3 : h1.2 223 = mj_ar 0 320 (upd (τ 3) (40 * a + j) (lnV (τ 1 a) z)) := y3
        replace y0 : h1.2 220 = YO G (τ 12) := y0
        refine s_aload_n (n := 71) (i := 0) dX5_set_70 rfl rfl rfl ?_
        refine s_aload_n (n := 72) (i := 0) dX5_set_71 rfl rfl rfl ?_
        refine gf_X5_16 (n := 75) rfl dX5_set_72 rfl (by assumption) (by rfl) ?_
        refine s_bipush (n := 77) (v := 40) dX5_set_75 rfl (by decide) ?_
        refine s_iload_n (n := 78) (i := 1) dX5_set_77 rfl rfl rfl ?_
        refine s_imul (n := 79) dX5_set_78 rfl ?_
        refine s_iload_n (n := 80) (i := 2) dX5_set_79 rfl rfl rfl ?_
        refine s_iadd (n := 81) dX5_set_80 rfl ?_
        refine s_iald (n := 82) dX5_set_81 rfl (by assumption) (mj_ixm (k := 40) rfl (by omega)) ?_
        refine s_v1 (M' := MX5_well) (n := 85) (ci := 5) dX5_set_82 rfl wd_X5_69 okX5_well rfl rfl (by omega) ⟨Nat.le_refl _, Nat.le_refl _⟩ (by assumption) (y_well (d := d - 1) hY1) ?_
        rintro v82 hh82 ⟨rfl, hY2, hF2⟩
        refine s_ireturn dX5_set_85 rfl (rfl) (Nat.le_refl _) (Nat.le_refl _) ?_
        exact ⟨by rw [up_eq], hY2, fr_tr hF1 hF2⟩
      · exact absurd (in0_put hf) (if0 b40)
    · exact absurd (Int32.not_lt.mp hz) b16
  · exact absurd (Wi_n (by omega) (by omega) (by omega)) (if0 b4)
set_option maxRecDepth 100000 in
set_option maxHeartbeats 4000000 in
theorem y_drop_bad {G : mj_G} {h : mj_H} {d : Nat} {τ : Nat → Nat → Int32} (hY : YS G h τ) {x : Int32} (hb : ¬ Wi x 0 7) (hd : 2 ≤ d) : mj_con G MX5_drop d 0 0 [.ref (G.1 + 220), .int x] h (rI (-1000001) h) := by
  refine mj_conV okX5_drop (ls := [some (.ref (G.1 + 220)), some (.int x), none]) rfl rfl ?_
  obtain ⟨y0, y1, y2, y3, y4, y5, y6, y7, y8, y9, y10, y11, y12⟩ := id hY
  refine s_iload_n (n := 1) (i := 1) dX5_drop_0 rfl rfl rfl ?_
  refine s_s1 (M' := MX5_isRow) (n := 4) dX5_drop_1 rfl wd_X5_58 okX5_isRow rfl (by omega) ⟨Nat.le_refl _, Nat.le_refl _⟩ (y_isRow (d := d - 1) (by omega)) ?_
  rintro v1 hh1 ⟨rfl, rfl⟩
  refine s_if_ne (n := 7) (tgt := 10) dX5_drop_4 rfl rfl (fun b4 => ?_) (fun b4 => ?_)
  · exact absurd (if1 b4) hb
  · refine s_ldc (n := 9) dX5_drop_7 rfl wd_X5_64 ?_
    refine s_ireturn dX5_drop_9 rfl (rfl) (Nat.le_refl _) (Nat.le_refl _) ?_
    exact ⟨rfl, rfl⟩
set_option maxRecDepth 100000 in
set_option maxHeartbeats 4000000 in
theorem y_drop_f {G : mj_G} {h : mj_H} {d : Nat} {τ : Nat → Nat → Int32} (hY : YS G h τ) {a : Nat} (ha : a < 8) (hf : τ 2 a < 0) (hd : 2 ≤ d) : mj_con G MX5_drop d 0 0 [.ref (G.1 + 220), .int (nI a)] h (fun v h' => v = some (.int (-1000010 - 1)) ∧ YS G h' (u2 (τ) 12 (upd (τ 12) 0 1)) ∧ mj_fr 220 13 h h') := by
  refine mj_conV okX5_drop (ls := [some (.ref (G.1 + 220)), some (.int (nI a)), none]) rfl rfl ?_
  obtain ⟨y0, y1, y2, y3, y4, y5, y6, y7, y8, y9, y10, y11, y12⟩ := id hY
  refine s_iload_n (n := 1) (i := 1) dX5_drop_0 rfl rfl rfl ?_
  refine s_s1 (M' := MX5_isRow) (n := 4) dX5_drop_1 rfl wd_X5_58 okX5_isRow rfl (by omega) ⟨Nat.le_refl _, Nat.le_refl _⟩ (y_isRow (d := d - 1) (by omega)) ?_
  rintro v1 hh1 ⟨rfl, rfl⟩
  refine s_if_ne (n := 7) (tgt := 10) dX5_drop_4 rfl rfl (fun b4 => ?_) (fun b4 => ?_)
  · refine s_aload_n (n := 11) (i := 0) dX5_drop_10 rfl rfl rfl ?_
    refine gf_X5_13 (n := 14) rfl dX5_drop_11 rfl (by assumption) (by rfl) ?_
    refine s_iload_n (n := 15) (i := 1) dX5_drop_14 rfl rfl rfl ?_
    refine s_iald (n := 16) dX5_drop_15 rfl (by assumption) (mj_ixn (by omega)) ?_
    refine s_if_ge (n := 19) (tgt := 25) dX5_drop_16 rfl rfl (fun b16 => ?_) (fun b16 => ?_)
    · exact absurd hf (Int32.not_lt.mpr b16)
    · refine s_aload_n (n := 20) (i := 0) dX5_drop_19 rfl rfl rfl ?_
      refine s_iconst (n := 21) (v := 1) dX5_drop_20 rfl (by decide) ?_
      refine s_v1 (M' := MX5_find) (n := 24) (ci := 5) dX5_drop_21 rfl wd_X5_65 okX5_find rfl rfl (by omega) ⟨Nat.le_refl _, Nat.le_refl _⟩ (by assumption) (y_find (d := d - 1) hY) ?_
      rintro v21 hh21 ⟨rfl, hY1, hF1⟩
      refine s_ireturn dX5_drop_24 rfl (rfl) (Nat.le_refl _) (Nat.le_refl _) ?_
      exact ⟨rfl, hY1, hF1⟩
  · exact absurd (Wi_n (by omega) (by omega) (by omega)) (if0 b4)
set_option maxRecDepth 100000 in
set_option maxHeartbeats 4000000 in
theorem y_drop {G : mj_G} {h : mj_H} {d : Nat} {τ : Nat → Nat → Int32} (hY : YS G h τ) {a : Nat} (ha : a < 8) (hf : ¬ τ 2 a < 0) (hd : 2 ≤ d) : mj_con G MX5_drop d 0 0 [.ref (G.1 + 220), .int (nI a)] h (fun v h' => v = some (.int (τ 2 a)) ∧ YS G h' (u2 (u2 τ 2 (upd (τ 2) a (-1))) 12 (upd (τ 12) 0 0)) ∧ mj_fr 220 13 h h') := by
  refine mj_conV okX5_drop (ls := [some (.ref (G.1 + 220)), some (.int (nI a)), none]) rfl rfl ?_
  obtain ⟨y0, y1, y2, y3, y4, y5, y6, y7, y8, y9, y10, y11, y12⟩ := id hY
  refine s_iload_n (n := 1) (i := 1) dX5_drop_0 rfl rfl rfl ?_
  refine s_s1 (M' := MX5_isRow) (n := 4) dX5_drop_1 rfl wd_X5_58 okX5_isRow rfl (by omega) ⟨Nat.le_refl _, Nat.le_refl _⟩ (y_isRow (d := d - 1) (by omega)) ?_
  rintro v1 hh1 ⟨rfl, rfl⟩
  refine s_if_ne (n := 7) (tgt := 10) dX5_drop_4 rfl rfl (fun b4 => ?_) (fun b4 => ?_)
  · refine s_aload_n (n := 11) (i := 0) dX5_drop_10 rfl rfl rfl ?_
    refine gf_X5_13 (n := 14) rfl dX5_drop_11 rfl (by assumption) (by rfl) ?_
    refine s_iload_n (n := 15) (i := 1) dX5_drop_14 rfl rfl rfl ?_
    refine s_iald (n := 16) dX5_drop_15 rfl (by assumption) (mj_ixn (by omega)) ?_
    refine s_if_ge (n := 19) (tgt := 25) dX5_drop_16 rfl rfl (fun b16 => ?_) (fun b16 => ?_)
    · refine s_aload_n (n := 26) (i := 0) dX5_drop_25 rfl rfl rfl ?_
      refine gf_X5_13 (n := 29) rfl dX5_drop_26 rfl (by assumption) (by rfl) ?_
      refine s_iload_n (n := 30) (i := 1) dX5_drop_29 rfl rfl rfl ?_
      refine s_iald (n := 31) dX5_drop_30 rfl (by assumption) (mj_ixn (by omega)) ?_
      refine s_istore_n (n := 32) (i := 2) (ls' := [_, _, _]) dX5_drop_31 rfl rfl rfl rfl rfl ?_
      refine s_aload_n (n := 33) (i := 0) dX5_drop_32 rfl rfl rfl ?_
      refine gf_X5_13 (n := 36) rfl dX5_drop_33 rfl (by assumption) (by rfl) ?_
      refine s_iload_n (n := 37) (i := 1) dX5_drop_36 rfl rfl rfl ?_
      refine s_iconst (n := 38) (v := (-1)) dX5_drop_37 rfl (by decide) ?_
      refine s_iast (n := 39) dX5_drop_38 rfl (by assumption) (mj_ixn (by omega)) ?_
      refine YA_2 hY (fun h1 hY1 hF1 => ?_)
      obtain ⟨y0, y1, y2, y3, y4, y5, y6, y7, y8, y9, y10, y11, y12⟩ := id hY1
      replace y0 : h1.2 220 = YO G (τ 12) := y0
      refine s_aload_n (n := 40) (i := 0) dX5_drop_39 rfl rfl rfl ?_
      refine s_iload_n (n := 41) (i := 2) dX5_drop_40 rfl rfl rfl ?_
      refine s_v1 (M' := MX5_well) (n := 44) (ci := 5) dX5_drop_41 rfl wd_X5_69 okX5_well rfl rfl (by omega) ⟨Nat.le_refl _, Nat.le_refl _⟩ (by assumption) (y_well (d := d - 1) hY1) ?_
      rintro v41 hh41 ⟨rfl, hY2, hF2⟩
      refine s_ireturn dX5_drop_44 rfl (rfl) (Nat.le_refl _) (Nat.le_refl _) ?_
      exact ⟨rfl, hY2, fr_tr hF1 hF2⟩
    · exact absurd (Int32.not_lt.mp hf) b16
  · exact absurd (Wi_n (by omega) (by omega) (by omega)) (if0 b4)
set_option maxRecDepth 100000 in
set_option maxHeartbeats 4000000 in
theorem y_feed_bad {G : mj_G} {h : mj_H} {d : Nat} {τ : Nat → Nat → Int32} (hY : YS G h τ) {x : Int32} (hb : ¬ Wi x 0 255) (hd : 2 ≤ d) : mj_con G MX5_feed d 0 0 [.ref (G.1 + 220), .int x] h (rI (-1000001) h) := by
  refine mj_conV okX5_feed (ls := [some (.ref (G.1 + 220)), some (.int x)]) rfl rfl ?_
  obtain ⟨y0, y1, y2, y3, y4, y5, y6, y7, y8, y9, y10, y11, y12⟩ := id hY
  refine s_iload_n (n := 1) (i := 1) dX5_feed_0 rfl rfl rfl ?_
  refine s_i2l (n := 2) dX5_feed_1 rfl ?_
  refine s_lconst (n := 3) (v := 0) dX5_feed_2 rfl (by decide) ?_
  refine s_ldc2 (n := 6) dX5_feed_3 rfl wd_X5_76 ?_
  refine s_s3 (M' := MX5_in) (n := 9) dX5_feed_6 rfl wd_X5_54 okX5_in rfl (by omega) ⟨Nat.le_refl _, Nat.le_refl _⟩ (y_in (d := d - 1) (A := 0) (B := 255) (by decide) (by decide)) ?_
  rintro v6 hh6 ⟨rfl, rfl⟩
  refine s_if_ne (n := 12) (tgt := 15) dX5_feed_9 rfl rfl (fun b9 => ?_) (fun b9 => ?_)
  · exact absurd (if1 b9) hb
  · refine s_ldc (n := 14) dX5_feed_12 rfl wd_X5_64 ?_
    refine s_ireturn dX5_feed_14 rfl (rfl) (Nat.le_refl _) (Nat.le_refl _) ?_
    exact ⟨rfl, rfl⟩
set_option maxRecDepth 100000 in
set_option maxHeartbeats 4000000 in
theorem y_feed_full {G : mj_G} {h : mj_H} {d : Nat} {τ : Nat → Nat → Int32} (hY : YS G h τ) {x : Int32} (hx : Wi x 0 255) (hl : τ 12 2 = 120) (hd : 2 ≤ d) : mj_con G MX5_feed d 0 0 [.ref (G.1 + 220), .int x] h (rI (-1000003) h) := by
  refine mj_conV okX5_feed (ls := [some (.ref (G.1 + 220)), some (.int x)]) rfl rfl ?_
  obtain ⟨y0, y1, y2, y3, y4, y5, y6, y7, y8, y9, y10, y11, y12⟩ := id hY
  refine s_iload_n (n := 1) (i := 1) dX5_feed_0 rfl rfl rfl ?_
  refine s_i2l (n := 2) dX5_feed_1 rfl ?_
  refine s_lconst (n := 3) (v := 0) dX5_feed_2 rfl (by decide) ?_
  refine s_ldc2 (n := 6) dX5_feed_3 rfl wd_X5_76 ?_
  refine s_s3 (M' := MX5_in) (n := 9) dX5_feed_6 rfl wd_X5_54 okX5_in rfl (by omega) ⟨Nat.le_refl _, Nat.le_refl _⟩ (y_in (d := d - 1) (A := 0) (B := 255) (by decide) (by decide)) ?_
  rintro v6 hh6 ⟨rfl, rfl⟩
  refine s_if_ne (n := 12) (tgt := 15) dX5_feed_9 rfl rfl (fun b9 => ?_) (fun b9 => ?_)
  · refine s_aload_n (n := 16) (i := 0) dX5_feed_15 rfl rfl rfl ?_
    refine gf_X5_78 (n := 19) rfl dX5_feed_16 rfl (by assumption) (by rfl) ?_
    refine s_bipush (n := 21) (v := 120) dX5_feed_19 rfl (by decide) ?_
    refine s_icmp_ne (n := 24) (tgt := 27) dX5_feed_21 rfl rfl (fun b21 => ?_) (fun b21 => ?_)
    · exact absurd hl b21
    · refine s_ldc (n := 26) dX5_feed_24 rfl wd_X5_81 ?_
      refine s_ireturn dX5_feed_26 rfl (rfl) (Nat.le_refl _) (Nat.le_refl _) ?_
      exact ⟨rfl, rfl⟩
  · exact absurd (hx) (if0 b9)
set_option maxRecDepth 100000 in
set_option maxHeartbeats 4000000 in
theorem y_feed {G : mj_G} {h : mj_H} {d : Nat} {τ : Nat → Nat → Int32} (hY : YS G h τ) {x : Int32} {l : Nat} (hx : Wi x 0 255) (hl : τ 12 2 = nI l) (h1 : l < 120) (hd : 2 ≤ d) : mj_con G MX5_feed d 0 0 [.ref (G.1 + 220), .int x] h (fun v h' => v = some (.int (nI (l + 1))) ∧ YS G h' (u2 (u2 τ 5 (upd (τ 5) l x)) 12 (upd (τ 12) 2 (nI (l + 1)))) ∧ mj_fr 220 13 h h') := by
  refine mj_conV okX5_feed (ls := [some (.ref (G.1 + 220)), some (.int x)]) rfl rfl ?_
  obtain ⟨y0, y1, y2, y3, y4, y5, y6, y7, y8, y9, y10, y11, y12⟩ := id hY
  refine s_iload_n (n := 1) (i := 1) dX5_feed_0 rfl rfl rfl ?_
  refine s_i2l (n := 2) dX5_feed_1 rfl ?_
  refine s_lconst (n := 3) (v := 0) dX5_feed_2 rfl (by decide) ?_
  refine s_ldc2 (n := 6) dX5_feed_3 rfl wd_X5_76 ?_
  refine s_s3 (M' := MX5_in) (n := 9) dX5_feed_6 rfl wd_X5_54 okX5_in rfl (by omega) ⟨Nat.le_refl _, Nat.le_refl _⟩ (y_in (d := d - 1) (A := 0) (B := 255) (by decide) (by decide)) ?_
  rintro v6 hh6 ⟨rfl, rfl⟩
  refine s_if_ne (n := 12) (tgt := 15) dX5_feed_9 rfl rfl (fun b9 => ?_) (fun b9 => ?_)
  · refine s_aload_n (n := 16) (i := 0) dX5_feed_15 rfl rfl rfl ?_
    refine gf_X5_78 (n := 19) rfl dX5_feed_16 rfl (by assumption) (by rfl) ?_
    refine s_bipush (n := 21) (v := 120) dX5_feed_19 rfl (by decide) ?_
    refine s_icmp_ne (n := 24) (tgt := 27) dX5_feed_21 rfl rfl (fun b21 => ?_) (fun b21 => ?_)
    · refine s_aload_n (n := 28) (i := 0) dX5_feed_27 rfl rfl rfl ?_
      refine gf_X5_25 (n := 31) rfl dX5_feed_28 rfl (by assumption) (by rfl) ?_
      refine s_aload_n (n := 32) (i := 0) dX5_feed_31 rfl rfl rfl ?_
      refine gf_X5_78 (n := 35) rfl dX5_feed_32 rfl (by assumption) (by rfl) ?_
      rw [hl]
      refine s_iload_n (n := 36) (i := 1) dX5_feed_35 rfl rfl rfl ?_
      refine s_iast (n := 37) dX5_feed_36 rfl (by assumption) (mj_ixn (by omega)) ?_
      refine YA_5 hY (fun h1 hY1 hF1 => ?_)
      obtain ⟨y0, y1, y2, y3, y4, y5, y6, y7, y8, y9, y10, y11, y12⟩ := id hY1
      replace y0 : h1.2 220 = YO G (τ 12) := y0
      refine s_aload_n (n := 38) (i := 0) dX5_feed_37 rfl rfl rfl ?_
      refine s_dup (n := 39) dX5_feed_38 rfl rfl ?_
      refine gf_X5_78 (n := 42) rfl dX5_feed_39 rfl (by assumption) (by rfl) ?_
      rw [hl]
      refine s_iconst (n := 43) (v := 1) dX5_feed_42 rfl (by decide) ?_
      refine s_iadd (n := 44) dX5_feed_43 rfl ?_
      rw [nI_1]
      refine pf_X5_78 (n := 47) (fs' := [_, _, _, _, _, _, _, _, _, _, _, _, _, _, _, _, _, _, _, _, _, _, _]) rfl dX5_feed_44 rfl (by assumption) (by rfl) (by rfl) ?_
      refine YF_2 (τ := u2 τ 5 (upd (τ 5) l x)) hY1 (fun h2 hY2 hF2 => ?_)
      obtain ⟨y0, y1, y2, y3, y4, y5, y6, y7, y8, y9, y10, y11, y12⟩ := id hY2
      replace y0 : h2.2 220 = YO G (upd (τ 12) 2 (nI (l + 1))) := y0
      refine s_aload_n (n := 48) (i := 0) dX5_feed_47 rfl rfl rfl ?_
      refine gf_X5_78 (n := 51) rfl dX5_feed_48 rfl (by assumption) (by rfl) ?_
      refine s_ireturn dX5_feed_51 rfl (rfl) (Nat.le_refl _) (Nat.le_refl _) ?_
      exact ⟨by rw [up_eq], hY2, fr_tr hF1 hF2⟩
    · rw [hl] at b21
      exact absurd (nI_inj (a := l) (b := 120) (by omega) (by omega) b21) (by omega)
  · exact absurd (hx) (if0 b9)
theorem lsub_i {s n : Int32} : (s.toInt64 - n.toInt64).toInt = s.toInt - n.toInt := by
  rw [Int64.toInt_sub, Int32.toInt_toInt64, Int32.toInt_toInt64]
  have := Int32.toInt_lt s
  have := Int32.le_toInt s
  have := Int32.toInt_lt n
  have := Int32.le_toInt n
  apply Int.bmod_eq_of_le <;> omega
set_option maxRecDepth 100000 in
set_option maxHeartbeats 4000000 in
theorem y_copy_bad {G : mj_G} {h : mj_H} {d : Nat} {τ : Nat → Nat → Int32} (hY : YS G h τ) {x1 x2 x3 x4 x5 : Int32} (hb : ¬ (Wi x1 0 7 ∧ Wi x3 0 7)) (hd : 2 ≤ d) : mj_con G MX5_copy d 0 0 [.ref (G.1 + 220), .int x1, .int x2, .int x3, .int x4, .int x5] h (rI (-1000001) h) := by
  refine mj_conV okX5_copy (ls := [some (.ref (G.1 + 220)), some (.int x1), some (.int x2), some (.int x3), some (.int x4), some (.int x5), none]) rfl rfl ?_
  obtain ⟨y0, y1, y2, y3, y4, y5, y6, y7, y8, y9, y10, y11, y12⟩ := id hY
  refine s_iload_n (n := 1) (i := 1) dX5_copy_0 rfl rfl rfl ?_
  refine s_s1 (M' := MX5_isRow) (n := 4) dX5_copy_1 rfl wd_X5_58 okX5_isRow rfl (by omega) ⟨Nat.le_refl _, Nat.le_refl _⟩ (y_isRow (d := d - 1) (by omega)) ?_
  rintro v1 hh1 ⟨rfl, rfl⟩
  refine s_if_eq (n := 7) (tgt := 14) dX5_copy_4 rfl rfl (fun b4 => ?_) (fun b4 => ?_)
  · refine s_ldc (n := 16) dX5_copy_14 rfl wd_X5_64 ?_
    refine s_ireturn dX5_copy_16 rfl (rfl) (Nat.le_refl _) (Nat.le_refl _) ?_
    exact ⟨rfl, rfl⟩
  · refine s_iload_n (n := 8) (i := 3) dX5_copy_7 rfl rfl rfl ?_
    refine s_s1 (M' := MX5_isRow) (n := 11) dX5_copy_8 rfl wd_X5_58 okX5_isRow rfl (by omega) ⟨Nat.le_refl _, Nat.le_refl _⟩ (y_isRow (d := d - 1) (by omega)) ?_
    rintro v8 hh8 ⟨rfl, rfl⟩
    refine s_if_ne (n := 14) (tgt := 17) dX5_copy_11 rfl rfl (fun b11 => ?_) (fun b11 => ?_)
    · exact absurd (⟨if1 b4, if1 b11⟩) hb
    · refine s_ldc (n := 16) dX5_copy_14 rfl wd_X5_64 ?_
      refine s_ireturn dX5_copy_16 rfl (rfl) (Nat.le_refl _) (Nat.le_refl _) ?_
      exact ⟨rfl, rfl⟩
set_option maxRecDepth 100000 in
set_option maxHeartbeats 4000000 in
theorem y_copy_null {G : mj_G} {h : mj_H} {d : Nat} {τ : Nat → Nat → Int32} (hY : YS G h τ) {a b : Nat} (ha : a < 8) (hb : b < 8) {x2 x4 x5 : Int32} (hf : τ 2 a < 0 ∨ τ 2 b < 0) (hd : 2 ≤ d) : mj_con G MX5_copy d 0 0 [.ref (G.1 + 220), .int (nI a), .int x2, .int (nI b), .int x4, .int x5] h (fun v h' => v = some (.int (-1000010 - 1)) ∧ YS G h' (u2 (τ) 12 (upd (τ 12) 0 1)) ∧ mj_fr 220 13 h h') := by
  refine mj_conV okX5_copy (ls := [some (.ref (G.1 + 220)), some (.int (nI a)), some (.int x2), some (.int (nI b)), some (.int x4), some (.int x5), none]) rfl rfl ?_
  obtain ⟨y0, y1, y2, y3, y4, y5, y6, y7, y8, y9, y10, y11, y12⟩ := id hY
  refine s_iload_n (n := 1) (i := 1) dX5_copy_0 rfl rfl rfl ?_
  refine s_s1 (M' := MX5_isRow) (n := 4) dX5_copy_1 rfl wd_X5_58 okX5_isRow rfl (by omega) ⟨Nat.le_refl _, Nat.le_refl _⟩ (y_isRow (d := d - 1) (by omega)) ?_
  rintro v1 hh1 ⟨rfl, rfl⟩
  refine s_if_eq (n := 7) (tgt := 14) dX5_copy_4 rfl rfl (fun b4 => ?_) (fun b4 => ?_)
  · exact absurd (Wi_n (by omega) (by omega) (by omega)) (if0 b4)
  · refine s_iload_n (n := 8) (i := 3) dX5_copy_7 rfl rfl rfl ?_
    refine s_s1 (M' := MX5_isRow) (n := 11) dX5_copy_8 rfl wd_X5_58 okX5_isRow rfl (by omega) ⟨Nat.le_refl _, Nat.le_refl _⟩ (y_isRow (d := d - 1) (by omega)) ?_
    rintro v8 hh8 ⟨rfl, rfl⟩
    refine s_if_ne (n := 14) (tgt := 17) dX5_copy_11 rfl rfl (fun b11 => ?_) (fun b11 => ?_)
    · refine s_aload_n (n := 18) (i := 0) dX5_copy_17 rfl rfl rfl ?_
      refine gf_X5_13 (n := 21) rfl dX5_copy_18 rfl (by assumption) (by rfl) ?_
      refine s_iload_n (n := 22) (i := 1) dX5_copy_21 rfl rfl rfl ?_
      refine s_iald (n := 23) dX5_copy_22 rfl (by assumption) (mj_ixn (by omega)) ?_
      refine s_if_lt (n := 26) (tgt := 35) dX5_copy_23 rfl rfl (fun b23 => ?_) (fun b23 => ?_)
      · refine s_aload_n (n := 36) (i := 0) dX5_copy_35 rfl rfl rfl ?_
        refine s_iconst (n := 37) (v := 1) dX5_copy_36 rfl (by decide) ?_
        refine s_v1 (M' := MX5_find) (n := 40) (ci := 5) dX5_copy_37 rfl wd_X5_65 okX5_find rfl rfl (by omega) ⟨Nat.le_refl _, Nat.le_refl _⟩ (by assumption) (y_find (d := d - 1) hY) ?_
        rintro v37 hh37 ⟨rfl, hY1, hF1⟩
        refine s_ireturn dX5_copy_40 rfl (rfl) (Nat.le_refl _) (Nat.le_refl _) ?_
        exact ⟨rfl, hY1, hF1⟩
      · refine s_aload_n (n := 27) (i := 0) dX5_copy_26 rfl rfl rfl ?_
        refine gf_X5_13 (n := 30) rfl dX5_copy_27 rfl (by assumption) (by rfl) ?_
        refine s_iload_n (n := 31) (i := 3) dX5_copy_30 rfl rfl rfl ?_
        refine s_iald (n := 32) dX5_copy_31 rfl (by assumption) (mj_ixn (by omega)) ?_
        refine s_if_ge (n := 35) (tgt := 41) dX5_copy_32 rfl rfl (fun b32 => ?_) (fun b32 => ?_)
        · exact absurd hf (fun q => q.elim b23 (Int32.not_lt.mpr b32))
        · refine s_aload_n (n := 36) (i := 0) dX5_copy_35 rfl rfl rfl ?_
          refine s_iconst (n := 37) (v := 1) dX5_copy_36 rfl (by decide) ?_
          refine s_v1 (M' := MX5_find) (n := 40) (ci := 5) dX5_copy_37 rfl wd_X5_65 okX5_find rfl rfl (by omega) ⟨Nat.le_refl _, Nat.le_refl _⟩ (by assumption) (y_find (d := d - 1) hY) ?_
          rintro v37 hh37 ⟨rfl, hY1, hF1⟩
          refine s_ireturn dX5_copy_40 rfl (rfl) (Nat.le_refl _) (Nat.le_refl _) ?_
          exact ⟨rfl, hY1, hF1⟩
    · exact absurd (Wi_n (by omega) (by omega) (by omega)) (if0 b11)
set_option maxRecDepth 100000 in
set_option maxHeartbeats 4000000 in
theorem y_copy_store {G : mj_G} {h : mj_H} {d : Nat} {τ : Nat → Nat → Int32} (hY : YS G h τ) {a b : Nat} (ha : a < 8) (hb : b < 8) {x2 x4 x5 : Int32} (hna : ¬ τ 2 a < 0) (hnb : ¬ τ 2 b < 0) (hf : ¬ τ 1 a = τ 1 b) (hd : 2 ≤ d) : mj_con G MX5_copy d 0 0 [.ref (G.1 + 220), .int (nI a), .int x2, .int (nI b), .int x4, .int x5] h (fun v h' => v = some (.int (-1000010 - 5)) ∧ YS G h' (u2 (τ) 12 (upd (τ 12) 0 5)) ∧ mj_fr 220 13 h h') := by
  refine mj_conV okX5_copy (ls := [some (.ref (G.1 + 220)), some (.int (nI a)), some (.int x2), some (.int (nI b)), some (.int x4), some (.int x5), none]) rfl rfl ?_
  obtain ⟨y0, y1, y2, y3, y4, y5, y6, y7, y8, y9, y10, y11, y12⟩ := id hY
  refine s_iload_n (n := 1) (i := 1) dX5_copy_0 rfl rfl rfl ?_
  refine s_s1 (M' := MX5_isRow) (n := 4) dX5_copy_1 rfl wd_X5_58 okX5_isRow rfl (by omega) ⟨Nat.le_refl _, Nat.le_refl _⟩ (y_isRow (d := d - 1) (by omega)) ?_
  rintro v1 hh1 ⟨rfl, rfl⟩
  refine s_if_eq (n := 7) (tgt := 14) dX5_copy_4 rfl rfl (fun b4 => ?_) (fun b4 => ?_)
  · exact absurd (Wi_n (by omega) (by omega) (by omega)) (if0 b4)
  · refine s_iload_n (n := 8) (i := 3) dX5_copy_7 rfl rfl rfl ?_
    refine s_s1 (M' := MX5_isRow) (n := 11) dX5_copy_8 rfl wd_X5_58 okX5_isRow rfl (by omega) ⟨Nat.le_refl _, Nat.le_refl _⟩ (y_isRow (d := d - 1) (by omega)) ?_
    rintro v8 hh8 ⟨rfl, rfl⟩
    refine s_if_ne (n := 14) (tgt := 17) dX5_copy_11 rfl rfl (fun b11 => ?_) (fun b11 => ?_)
    · refine s_aload_n (n := 18) (i := 0) dX5_copy_17 rfl rfl rfl ?_
      refine gf_X5_13 (n := 21) rfl dX5_copy_18 rfl (by assumption) (by rfl) ?_
      refine s_iload_n (n := 22) (i := 1) dX5_copy_21 rfl rfl rfl ?_
      refine s_iald (n := 23) dX5_copy_22 rfl (by assumption) (mj_ixn (by omega)) ?_
      refine s_if_lt (n := 26) (tgt := 35) dX5_copy_23 rfl rfl (fun b23 => ?_) (fun b23 => ?_)
      · exact absurd b23 hna
      · refine s_aload_n (n := 27) (i := 0) dX5_copy_26 rfl rfl rfl ?_
        refine gf_X5_13 (n := 30) rfl dX5_copy_27 rfl (by assumption) (by rfl) ?_
        refine s_iload_n (n := 31) (i := 3) dX5_copy_30 rfl rfl rfl ?_
        refine s_iald (n := 32) dX5_copy_31 rfl (by assumption) (mj_ixn (by omega)) ?_
        refine s_if_ge (n := 35) (tgt := 41) dX5_copy_32 rfl rfl (fun b32 => ?_) (fun b32 => ?_)
        · refine s_aload_n (n := 42) (i := 0) dX5_copy_41 rfl rfl rfl ?_
          refine gf_X5_7 (n := 45) rfl dX5_copy_42 rfl (by assumption) (by rfl) ?_
          refine s_iload_n (n := 46) (i := 1) dX5_copy_45 rfl rfl rfl ?_
          refine s_iald (n := 47) dX5_copy_46 rfl (by assumption) (mj_ixn (by omega)) ?_
          refine s_aload_n (n := 48) (i := 0) dX5_copy_47 rfl rfl rfl ?_
          refine gf_X5_7 (n := 51) rfl dX5_copy_48 rfl (by assumption) (by rfl) ?_
          refine s_iload_n (n := 52) (i := 3) dX5_copy_51 rfl rfl rfl ?_
          refine s_iald (n := 53) dX5_copy_52 rfl (by assumption) (mj_ixn (by omega)) ?_
          refine s_icmp_eq (n := 56) (tgt := 62) dX5_copy_53 rfl rfl (fun b53 => ?_) (fun b53 => ?_)
          · exact absurd b53 hf
          · refine s_aload_n (n := 57) (i := 0) dX5_copy_56 rfl rfl rfl ?_
            refine s_iconst (n := 58) (v := 5) dX5_copy_57 rfl (by decide) ?_
            refine s_v1 (M' := MX5_find) (n := 61) (ci := 5) dX5_copy_58 rfl wd_X5_65 okX5_find rfl rfl (by omega) ⟨Nat.le_refl _, Nat.le_refl _⟩ (by assumption) (y_find (d := d - 1) hY) ?_
            rintro v58 hh58 ⟨rfl, hY1, hF1⟩
            refine s_ireturn dX5_copy_61 rfl (rfl) (Nat.le_refl _) (Nat.le_refl _) ?_
            exact ⟨rfl, hY1, hF1⟩
        · exact absurd (Int32.not_lt.mp hnb) b32
    · exact absurd (Wi_n (by omega) (by omega) (by omega)) (if0 b11)
set_option maxRecDepth 100000 in
set_option maxHeartbeats 4000000 in
theorem y_copy_place {G : mj_G} {h : mj_H} {d : Nat} {τ : Nat → Nat → Int32} (hY : YS G h τ) {a b : Nat} (ha : a < 8) (hb : b < 8) {x2 x4 x5 : Int32} (hna : ¬ τ 2 a < 0) (hnb : ¬ τ 2 b < 0) (he : τ 1 a = τ 1 b) (hf : ¬ (0 ≤ x5 ∧ Wi x2 0 ((τ 2 a).toInt - x5.toInt) ∧ Wi x4 0 ((τ 2 b).toInt - x5.toInt))) (hd : 2 ≤ d) : mj_con G MX5_copy d 0 0 [.ref (G.1 + 220), .int (nI a), .int x2, .int (nI b), .int x4, .int x5] h (fun v h' => v = some (.int (-1000010 - 2)) ∧ YS G h' (u2 (τ) 12 (upd (τ 12) 0 2)) ∧ mj_fr 220 13 h h') := by
  refine mj_conV okX5_copy (ls := [some (.ref (G.1 + 220)), some (.int (nI a)), some (.int x2), some (.int (nI b)), some (.int x4), some (.int x5), none]) rfl rfl ?_
  obtain ⟨y0, y1, y2, y3, y4, y5, y6, y7, y8, y9, y10, y11, y12⟩ := id hY
  refine s_iload_n (n := 1) (i := 1) dX5_copy_0 rfl rfl rfl ?_
  refine s_s1 (M' := MX5_isRow) (n := 4) dX5_copy_1 rfl wd_X5_58 okX5_isRow rfl (by omega) ⟨Nat.le_refl _, Nat.le_refl _⟩ (y_isRow (d := d - 1) (by omega)) ?_
  rintro v1 hh1 ⟨rfl, rfl⟩
  refine s_if_eq (n := 7) (tgt := 14) dX5_copy_4 rfl rfl (fun b4 => ?_) (fun b4 => ?_)
  · exact absurd (Wi_n (by omega) (by omega) (by omega)) (if0 b4)
  · refine s_iload_n (n := 8) (i := 3) dX5_copy_7 rfl rfl rfl ?_
    refine s_s1 (M' := MX5_isRow) (n := 11) dX5_copy_8 rfl wd_X5_58 okX5_isRow rfl (by omega) ⟨Nat.le_refl _, Nat.le_refl _⟩ (y_isRow (d := d - 1) (by omega)) ?_
    rintro v8 hh8 ⟨rfl, rfl⟩
    refine s_if_ne (n := 14) (tgt := 17) dX5_copy_11 rfl rfl (fun b11 => ?_) (fun b11 => ?_)
    · refine s_aload_n (n := 18) (i := 0) dX5_copy_17 rfl rfl rfl ?_
      refine gf_X5_13 (n := 21) rfl dX5_copy_18 rfl (by assumption) (by rfl) ?_
      refine s_iload_n (n := 22) (i := 1) dX5_copy_21 rfl rfl rfl ?_
      refine s_iald (n := 23) dX5_copy_22 rfl (by assumption) (mj_ixn (by omega)) ?_
      refine s_if_lt (n := 26) (tgt := 35) dX5_copy_23 rfl rfl (fun b23 => ?_) (fun b23 => ?_)
      · exact absurd b23 hna
      · refine s_aload_n (n := 27) (i := 0) dX5_copy_26 rfl rfl rfl ?_
        refine gf_X5_13 (n := 30) rfl dX5_copy_27 rfl (by assumption) (by rfl) ?_
        refine s_iload_n (n := 31) (i := 3) dX5_copy_30 rfl rfl rfl ?_
        refine s_iald (n := 32) dX5_copy_31 rfl (by assumption) (mj_ixn (by omega)) ?_
        refine s_if_ge (n := 35) (tgt := 41) dX5_copy_32 rfl rfl (fun b32 => ?_) (fun b32 => ?_)
        · refine s_aload_n (n := 42) (i := 0) dX5_copy_41 rfl rfl rfl ?_
          refine gf_X5_7 (n := 45) rfl dX5_copy_42 rfl (by assumption) (by rfl) ?_
          refine s_iload_n (n := 46) (i := 1) dX5_copy_45 rfl rfl rfl ?_
          refine s_iald (n := 47) dX5_copy_46 rfl (by assumption) (mj_ixn (by omega)) ?_
          refine s_aload_n (n := 48) (i := 0) dX5_copy_47 rfl rfl rfl ?_
          refine gf_X5_7 (n := 51) rfl dX5_copy_48 rfl (by assumption) (by rfl) ?_
          refine s_iload_n (n := 52) (i := 3) dX5_copy_51 rfl rfl rfl ?_
          refine s_iald (n := 53) dX5_copy_52 rfl (by assumption) (mj_ixn (by omega)) ?_
          refine s_icmp_eq (n := 56) (tgt := 62) dX5_copy_53 rfl rfl (fun b53 => ?_) (fun b53 => ?_)
          · refine s_iload (n := 64) dX5_copy_62 rfl rfl ?_
            refine s_if_lt (n := 67) (tgt := 108) dX5_copy_64 rfl rfl (fun b64 => ?_) (fun b64 => ?_)
            · refine s_aload_n (n := 109) (i := 0) dX5_copy_108 rfl rfl rfl ?_
              refine s_iconst (n := 110) (v := 2) dX5_copy_109 rfl (by decide) ?_
              refine s_v1 (M' := MX5_find) (n := 113) (ci := 5) dX5_copy_110 rfl wd_X5_65 okX5_find rfl rfl (by omega) ⟨Nat.le_refl _, Nat.le_refl _⟩ (by assumption) (y_find (d := d - 1) hY) ?_
              rintro v110 hh110 ⟨rfl, hY1, hF1⟩
              refine s_ireturn dX5_copy_113 rfl (rfl) (Nat.le_refl _) (Nat.le_refl _) ?_
              exact ⟨rfl, hY1, hF1⟩
            · refine s_iload_n (n := 68) (i := 2) dX5_copy_67 rfl rfl rfl ?_
              refine s_i2l (n := 69) dX5_copy_68 rfl ?_
              refine s_lconst (n := 70) (v := 0) dX5_copy_69 rfl (by decide) ?_
              refine s_aload_n (n := 71) (i := 0) dX5_copy_70 rfl rfl rfl ?_
              refine gf_X5_13 (n := 74) rfl dX5_copy_71 rfl (by assumption) (by rfl) ?_
              refine s_iload_n (n := 75) (i := 1) dX5_copy_74 rfl rfl rfl ?_
              refine s_iald (n := 76) dX5_copy_75 rfl (by assumption) (mj_ixn (by omega)) ?_
              refine s_i2l (n := 77) dX5_copy_76 rfl ?_
              refine s_iload (n := 79) dX5_copy_77 rfl rfl ?_
              refine s_i2l (n := 80) dX5_copy_79 rfl ?_
              refine s_lsub (n := 81) dX5_copy_80 rfl ?_
              refine s_s3 (M' := MX5_in) (n := 84) dX5_copy_81 rfl wd_X5_54 okX5_in rfl (by omega) ⟨Nat.le_refl _, Nat.le_refl _⟩ (y_in (d := d - 1) (A := 0) (by decide) lsub_i) ?_
              rintro v81 hh81 ⟨rfl, rfl⟩
              refine s_if_eq (n := 87) (tgt := 108) dX5_copy_84 rfl rfl (fun b84 => ?_) (fun b84 => ?_)
              · refine s_aload_n (n := 109) (i := 0) dX5_copy_108 rfl rfl rfl ?_
                refine s_iconst (n := 110) (v := 2) dX5_copy_109 rfl (by decide) ?_
                refine s_v1 (M' := MX5_find) (n := 113) (ci := 5) dX5_copy_110 rfl wd_X5_65 okX5_find rfl rfl (by omega) ⟨Nat.le_refl _, Nat.le_refl _⟩ (by assumption) (y_find (d := d - 1) hY) ?_
                rintro v110 hh110 ⟨rfl, hY1, hF1⟩
                refine s_ireturn dX5_copy_113 rfl (rfl) (Nat.le_refl _) (Nat.le_refl _) ?_
                exact ⟨rfl, hY1, hF1⟩
              · refine s_iload (n := 89) dX5_copy_87 rfl rfl ?_
                refine s_i2l (n := 90) dX5_copy_89 rfl ?_
                refine s_lconst (n := 91) (v := 0) dX5_copy_90 rfl (by decide) ?_
                refine s_aload_n (n := 92) (i := 0) dX5_copy_91 rfl rfl rfl ?_
                refine gf_X5_13 (n := 95) rfl dX5_copy_92 rfl (by assumption) (by rfl) ?_
                refine s_iload_n (n := 96) (i := 3) dX5_copy_95 rfl rfl rfl ?_
                refine s_iald (n := 97) dX5_copy_96 rfl (by assumption) (mj_ixn (by omega)) ?_
                refine s_i2l (n := 98) dX5_copy_97 rfl ?_
                refine s_iload (n := 100) dX5_copy_98 rfl rfl ?_
                refine s_i2l (n := 101) dX5_copy_100 rfl ?_
                refine s_lsub (n := 102) dX5_copy_101 rfl ?_
                refine s_s3 (M' := MX5_in) (n := 105) dX5_copy_102 rfl wd_X5_54 okX5_in rfl (by omega) ⟨Nat.le_refl _, Nat.le_refl _⟩ (y_in (d := d - 1) (A := 0) (by decide) lsub_i) ?_
                rintro v102 hh102 ⟨rfl, rfl⟩
                refine s_if_ne (n := 108) (tgt := 114) dX5_copy_105 rfl rfl (fun b105 => ?_) (fun b105 => ?_)
                · exact absurd ⟨Int32.not_lt.mp b64, if1 b84, if1 b105⟩ hf
                · refine s_aload_n (n := 109) (i := 0) dX5_copy_108 rfl rfl rfl ?_
                  refine s_iconst (n := 110) (v := 2) dX5_copy_109 rfl (by decide) ?_
                  refine s_v1 (M' := MX5_find) (n := 113) (ci := 5) dX5_copy_110 rfl wd_X5_65 okX5_find rfl rfl (by omega) ⟨Nat.le_refl _, Nat.le_refl _⟩ (by assumption) (y_find (d := d - 1) hY) ?_
                  rintro v110 hh110 ⟨rfl, hY1, hF1⟩
                  refine s_ireturn dX5_copy_113 rfl (rfl) (Nat.le_refl _) (Nat.le_refl _) ?_
                  exact ⟨rfl, hY1, hF1⟩
          · exact absurd he b53
        · exact absurd (Int32.not_lt.mp hnb) b32
    · exact absurd (Wi_n (by omega) (by omega) (by omega)) (if0 b11)
set_option maxRecDepth 100000 in
set_option maxHeartbeats 4000000 in
theorem l_ycopy2 {G : mj_G} {h0 : mj_H} {d a b i j m : Nat} {τ : Nat → Nat → Int32} (ha : a < 8) (hb : b < 8) (him : i + m ≤ 40) (hjm : j + m ≤ 40) (hd : 1 ≤ d) {f g : Nat → Int32} : ∀ (r k : Nat), k + r = m → ∀ (h : mj_H), YS G h (u2 (u2 τ 4 g) 3 (cpI f g (40 * b + j) k)) → mj_fr 220 13 h0 h → mj_wp G MX5_copy d 0 0 154 [some (.ref (G.1 + 220)), some (.int (nI a)), some (.int (nI i)), some (.int (nI b)), some (.int (nI j)), some (.int (nI m)), some (.int (nI k))] [] h 0 0 (fun v h' => v = some (.int (nI m)) ∧ YS G h' (u2 (u2 (u2 τ 4 g) 3 (cpI f g (40 * b + j) m)) 12 (upd (τ 12) 0 0)) ∧ mj_fr 220 13 h0 h') := by
  intro r
  induction r with
  | zero =>
    intro k hk h hY hF
    have hi8 : k = m := by omega
    subst hi8
    obtain ⟨y0, y1, y2, y3, y4, y5, y6, y7, y8, y9, y10, y11, y12⟩ := id hY
    replace y0 : h.2 220 = YO G (τ 12) := y0
    refine s_iload (n := 156) dX5_copy_154 rfl rfl ?_
    refine s_iload (n := 158) dX5_copy_156 rfl rfl ?_
    refine s_icmp_ge (n := 161) (tgt := 189) dX5_copy_158 rfl rfl (fun b158 => ?_) (fun b158 => ?_)
    · refine s_aload_n (n := 190) (i := 0) dX5_copy_189 rfl rfl rfl ?_
      refine s_iload (n := 192) dX5_copy_190 rfl rfl ?_
      refine s_v1 (M' := MX5_well) (n := 195) (ci := 5) dX5_copy_192 rfl wd_X5_69 okX5_well rfl rfl (by omega) ⟨Nat.le_refl _, Nat.le_refl _⟩ (by assumption) (y_well (d := d - 1) hY) ?_
      rintro v192 hh192 ⟨rfl, hY1, hF1⟩
      refine s_ireturn dX5_copy_195 rfl (rfl) (Nat.le_refl _) (Nat.le_refl _) ?_
      exact ⟨rfl, hY1, fr_tr hF hF1⟩
    · exact absurd (Int32.le_refl _) b158
  | succ r ih =>
    intro k hk h hY hF
    obtain ⟨y0, y1, y2, y3, y4, y5, y6, y7, y8, y9, y10, y11, y12⟩ := id hY
    replace y3 : h.2 223 = mj_ar 0 320 (cpI f g (40 * b + j) k) := y3
    replace y0 : h.2 220 = YO G (τ 12) := y0
    replace y5 : h.2 225 = mj_ar 0 40 (g) := y5
    refine s_iload (n := 156) dX5_copy_154 rfl rfl ?_
    refine s_iload (n := 158) dX5_copy_156 rfl rfl ?_
    refine s_icmp_ge (n := 161) (tgt := 189) dX5_copy_158 rfl rfl (fun b158 => ?_) (fun b158 => ?_)
    · exact absurd ((nI_leE (by omega) (by omega)).mp b158) (by omega)
    · refine s_aload_n (n := 162) (i := 0) dX5_copy_161 rfl rfl rfl ?_
      refine gf_X5_16 (n := 165) rfl dX5_copy_162 rfl (by assumption) (by rfl) ?_
      refine s_bipush (n := 167) (v := 40) dX5_copy_165 rfl (by decide) ?_
      refine s_iload_n (n := 168) (i := 3) dX5_copy_167 rfl rfl rfl ?_
      refine s_imul (n := 169) dX5_copy_168 rfl ?_
      refine s_iload (n := 171) dX5_copy_169 rfl rfl ?_
      refine s_iadd (n := 172) dX5_copy_171 rfl ?_
      refine s_iload (n := 174) dX5_copy_172 rfl rfl ?_
      refine s_iadd (n := 175) dX5_copy_174 rfl ?_
      refine s_aload_n (n := 176) (i := 0) dX5_copy_175 rfl rfl rfl ?_
      refine gf_X5_22 (n := 179) rfl dX5_copy_176 rfl (by assumption) (by rfl) ?_
      refine s_iload (n := 181) dX5_copy_179 rfl rfl ?_
      refine s_iald (n := 182) dX5_copy_181 rfl (by assumption) (mj_ixn (by omega)) ?_
      refine s_iast (n := 183) dX5_copy_182 rfl (by assumption) (mj_ixm3 (k := 40) rfl (by omega)) ?_
      refine YA_3 hY (fun h1 hY1 hF1 => ?_)
      rw [cpI_s rfl, u2_u2] at hY1
      refine s_iinc (n := 186) (v := _ + 1) (ls' := [_, _, _, _, _, _, _]) dX5_copy_183 rfl rfl rfl rfl rfl ?_
      refine s_goto (tgt := 154) dX5_copy_186 rfl ?_
      rw [nI_1]
      exact ih (k + 1) (by omega) _ hY1 (fr_tr hF hF1)
/-- what copy leaves in moved -/
def mvF (f g : Nat → Int32) (o q : Nat) : Nat → Int32 := cpI g (fun k => f (o + k)) 0 q
theorem mvF_s {f g : Nat → Int32} {o q : Nat} {x : Int32} (hx : x = f (o + q)) : upd (mvF f g o q) q x = mvF f g o (q + 1) := by
  have := cpI_s (f := g) (g := fun k => f (o + k)) (o := 0) (q := q) hx
  rw [Nat.zero_add] at this
  exact this
set_option maxRecDepth 100000 in
set_option maxHeartbeats 4000000 in
theorem l_ycopy1 {G : mj_G} {h0 : mj_H} {d a b i j m : Nat} {τ : Nat → Nat → Int32} (ha : a < 8) (hb : b < 8) (him : i + m ≤ 40) (hjm : j + m ≤ 40) (hd : 1 ≤ d) : ∀ (r k : Nat), k + r = m → ∀ (h : mj_H), YS G h (u2 τ 4 (mvF (τ 3) (τ 4) (40 * a + i) k)) → mj_fr 220 13 h0 h → mj_wp G MX5_copy d 0 0 117 [some (.ref (G.1 + 220)), some (.int (nI a)), some (.int (nI i)), some (.int (nI b)), some (.int (nI j)), some (.int (nI m)), some (.int (nI k))] [] h 0 0 (fun v h' => v = some (.int (nI m)) ∧ YS G h' (u2 (u2 (u2 τ 4 (mvF (τ 3) (τ 4) (40 * a + i) m)) 3 (cpI (τ 3) (mvF (τ 3) (τ 4) (40 * a + i) m) (40 * b + j) m)) 12 (upd (τ 12) 0 0)) ∧ mj_fr 220 13 h0 h') := by
  intro r
  induction r with
  | zero =>
    intro k hk h hY hF
    have hi8 : k = m := by omega
    subst hi8
    obtain ⟨y0, y1, y2, y3, y4, y5, y6, y7, y8, y9, y10, y11, y12⟩ := id hY
    replace y0 : h.2 220 = YO G (τ 12) := y0
    refine s_iload (n := 119) dX5_copy_117 rfl rfl ?_
    refine s_iload (n := 121) dX5_copy_119 rfl rfl ?_
    refine s_icmp_ge (n := 124) (tgt := 151) dX5_copy_121 rfl rfl (fun b121 => ?_) (fun b121 => ?_)
    · refine s_iconst (n := 152) (v := 0) dX5_copy_151 rfl (by decide) ?_
      refine s_istore (n := 154) (i := 6) (ls' := [_, _, _, _, _, _, _]) dX5_copy_152 rfl rfl rfl rfl ?_
      refine l_ycopy2 ha hb him hjm hd (f := τ 3) k 0 (by omega) _ ?_ hF
      rw [cpI_0]
      exact (u2_self (σ := u2 τ 4 (mvF (τ 3) (τ 4) (40 * a + i) k)) (i := 3)).symm ▸ hY
    · exact absurd (Int32.le_refl _) b121
  | succ r ih =>
    intro k hk h hY hF
    obtain ⟨y0, y1, y2, y3, y4, y5, y6, y7, y8, y9, y10, y11, y12⟩ := id hY
    replace y3 : h.2 223 = mj_ar 0 320 (τ 3) := y3
    replace y0 : h.2 220 = YO G (τ 12) := y0
    replace y5 : h.2 225 = mj_ar 0 40 (mvF (τ 3) (τ 4) (40 * a + i) k) := y5
    refine s_iload (n := 119) dX5_copy_117 rfl rfl ?_
    refine s_iload (n := 121) dX5_copy_119 rfl rfl ?_
    refine s_icmp_ge (n := 124) (tgt := 151) dX5_copy_121 rfl rfl (fun b121 => ?_) (fun b121 => ?_)
    · exact absurd ((nI_leE (by omega) (by omega)).mp b121) (by omega)
    · refine s_aload_n (n := 125) (i := 0) dX5_copy_124 rfl rfl rfl ?_
      refine gf_X5_22 (n := 128) rfl dX5_copy_125 rfl (by assumption) (by rfl) ?_
      refine s_iload (n := 130) dX5_copy_128 rfl rfl ?_
      refine s_aload_n (n := 131) (i := 0) dX5_copy_130 rfl rfl rfl ?_
      refine gf_X5_16 (n := 134) rfl dX5_copy_131 rfl (by assumption) (by rfl) ?_
      refine s_bipush (n := 136) (v := 40) dX5_copy_134 rfl (by decide) ?_
      refine s_iload_n (n := 137) (i := 1) dX5_copy_136 rfl rfl rfl ?_
      refine s_imul (n := 138) dX5_copy_137 rfl ?_
      refine s_iload_n (n := 139) (i := 2) dX5_copy_138 rfl rfl rfl ?_
      refine s_iadd (n := 140) dX5_copy_139 rfl ?_
      refine s_iload (n := 142) dX5_copy_140 rfl rfl ?_
      refine s_iadd (n := 143) dX5_copy_142 rfl ?_
      refine s_iald (n := 144) dX5_copy_143 rfl (by assumption) (mj_ixm3 (k := 40) rfl (by omega)) ?_
      refine s_iast (n := 145) dX5_copy_144 rfl (by assumption) (mj_ixn (by omega)) ?_
      refine YA_4 hY (fun h1 hY1 hF1 => ?_)
      rw [mvF_s rfl, u2_u2] at hY1
      refine s_iinc (n := 148) (v := _ + 1) (ls' := [_, _, _, _, _, _, _]) dX5_copy_145 rfl rfl rfl rfl rfl ?_
      refine s_goto (tgt := 117) dX5_copy_148 rfl ?_
      rw [nI_1]
      exact ih (k + 1) (by omega) _ hY1 (fr_tr hF hF1)
set_option maxRecDepth 100000 in
set_option maxHeartbeats 4000000 in
theorem y_copy {G : mj_G} {h : mj_H} {d : Nat} {τ : Nat → Nat → Int32} (hY : YS G h τ) {a b : Nat} (ha : a < 8) (hb : b < 8) {i j m : Nat} (hna : ¬ τ 2 a < 0) (hnb : ¬ τ 2 b < 0) (he : τ 1 a = τ 1 b) (hp : 0 ≤ (nI m) ∧ Wi (nI i) 0 ((τ 2 a).toInt - (nI m).toInt) ∧ Wi (nI j) 0 ((τ 2 b).toInt - (nI m).toInt)) (him : i + m ≤ 40) (hjm : j + m ≤ 40) (hd : 2 ≤ d) : mj_con G MX5_copy d 0 0 [.ref (G.1 + 220), .int (nI a), .int (nI i), .int (nI b), .int (nI j), .int (nI m)] h (fun v h' => v = some (.int (nI m)) ∧ YS G h' (u2 (u2 (u2 τ 4 (mvF (τ 3) (τ 4) (40 * a + i) m)) 3 (cpI (τ 3) (mvF (τ 3) (τ 4) (40 * a + i) m) (40 * b + j) m)) 12 (upd (τ 12) 0 0)) ∧ mj_fr 220 13 h h') := by
  refine mj_conV okX5_copy (ls := [some (.ref (G.1 + 220)), some (.int (nI a)), some (.int (nI i)), some (.int (nI b)), some (.int (nI j)), some (.int (nI m)), none]) rfl rfl ?_
  obtain ⟨y0, y1, y2, y3, y4, y5, y6, y7, y8, y9, y10, y11, y12⟩ := id hY
  refine s_iload_n (n := 1) (i := 1) dX5_copy_0 rfl rfl rfl ?_
  refine s_s1 (M' := MX5_isRow) (n := 4) dX5_copy_1 rfl wd_X5_58 okX5_isRow rfl (by omega) ⟨Nat.le_refl _, Nat.le_refl _⟩ (y_isRow (d := d - 1) (by omega)) ?_
  rintro v1 hh1 ⟨rfl, rfl⟩
  refine s_if_eq (n := 7) (tgt := 14) dX5_copy_4 rfl rfl (fun b4 => ?_) (fun b4 => ?_)
  · exact absurd (Wi_n (by omega) (by omega) (by omega)) (if0 b4)
  · refine s_iload_n (n := 8) (i := 3) dX5_copy_7 rfl rfl rfl ?_
    refine s_s1 (M' := MX5_isRow) (n := 11) dX5_copy_8 rfl wd_X5_58 okX5_isRow rfl (by omega) ⟨Nat.le_refl _, Nat.le_refl _⟩ (y_isRow (d := d - 1) (by omega)) ?_
    rintro v8 hh8 ⟨rfl, rfl⟩
    refine s_if_ne (n := 14) (tgt := 17) dX5_copy_11 rfl rfl (fun b11 => ?_) (fun b11 => ?_)
    · refine s_aload_n (n := 18) (i := 0) dX5_copy_17 rfl rfl rfl ?_
      refine gf_X5_13 (n := 21) rfl dX5_copy_18 rfl (by assumption) (by rfl) ?_
      refine s_iload_n (n := 22) (i := 1) dX5_copy_21 rfl rfl rfl ?_
      refine s_iald (n := 23) dX5_copy_22 rfl (by assumption) (mj_ixn (by omega)) ?_
      refine s_if_lt (n := 26) (tgt := 35) dX5_copy_23 rfl rfl (fun b23 => ?_) (fun b23 => ?_)
      · exact absurd b23 hna
      · refine s_aload_n (n := 27) (i := 0) dX5_copy_26 rfl rfl rfl ?_
        refine gf_X5_13 (n := 30) rfl dX5_copy_27 rfl (by assumption) (by rfl) ?_
        refine s_iload_n (n := 31) (i := 3) dX5_copy_30 rfl rfl rfl ?_
        refine s_iald (n := 32) dX5_copy_31 rfl (by assumption) (mj_ixn (by omega)) ?_
        refine s_if_ge (n := 35) (tgt := 41) dX5_copy_32 rfl rfl (fun b32 => ?_) (fun b32 => ?_)
        · refine s_aload_n (n := 42) (i := 0) dX5_copy_41 rfl rfl rfl ?_
          refine gf_X5_7 (n := 45) rfl dX5_copy_42 rfl (by assumption) (by rfl) ?_
          refine s_iload_n (n := 46) (i := 1) dX5_copy_45 rfl rfl rfl ?_
          refine s_iald (n := 47) dX5_copy_46 rfl (by assumption) (mj_ixn (by omega)) ?_
          refine s_aload_n (n := 48) (i := 0) dX5_copy_47 rfl rfl rfl ?_
          refine gf_X5_7 (n := 51) rfl dX5_copy_48 rfl (by assumption) (by rfl) ?_
          refine s_iload_n (n := 52) (i := 3) dX5_copy_51 rfl rfl rfl ?_
          refine s_iald (n := 53) dX5_copy_52 rfl (by assumption) (mj_ixn (by omega)) ?_
          refine s_icmp_eq (n := 56) (tgt := 62) dX5_copy_53 rfl rfl (fun b53 => ?_) (fun b53 => ?_)
          · refine s_iload (n := 64) dX5_copy_62 rfl rfl ?_
            refine s_if_lt (n := 67) (tgt := 108) dX5_copy_64 rfl rfl (fun b64 => ?_) (fun b64 => ?_)
            · exact absurd hp.1 (Int32.not_le.mpr b64)
            · refine s_iload_n (n := 68) (i := 2) dX5_copy_67 rfl rfl rfl ?_
              refine s_i2l (n := 69) dX5_copy_68 rfl ?_
              refine s_lconst (n := 70) (v := 0) dX5_copy_69 rfl (by decide) ?_
              refine s_aload_n (n := 71) (i := 0) dX5_copy_70 rfl rfl rfl ?_
              refine gf_X5_13 (n := 74) rfl dX5_copy_71 rfl (by assumption) (by rfl) ?_
              refine s_iload_n (n := 75) (i := 1) dX5_copy_74 rfl rfl rfl ?_
              refine s_iald (n := 76) dX5_copy_75 rfl (by assumption) (mj_ixn (by omega)) ?_
              refine s_i2l (n := 77) dX5_copy_76 rfl ?_
              refine s_iload (n := 79) dX5_copy_77 rfl rfl ?_
              refine s_i2l (n := 80) dX5_copy_79 rfl ?_
              refine s_lsub (n := 81) dX5_copy_80 rfl ?_
              refine s_s3 (M' := MX5_in) (n := 84) dX5_copy_81 rfl wd_X5_54 okX5_in rfl (by omega) ⟨Nat.le_refl _, Nat.le_refl _⟩ (y_in (d := d - 1) (A := 0) (by decide) lsub_i) ?_
              rintro v81 hh81 ⟨rfl, rfl⟩
              refine s_if_eq (n := 87) (tgt := 108) dX5_copy_84 rfl rfl (fun b84 => ?_) (fun b84 => ?_)
              · exact absurd hp.2.1 (if0 b84)
              · refine s_iload (n := 89) dX5_copy_87 rfl rfl ?_
                refine s_i2l (n := 90) dX5_copy_89 rfl ?_
                refine s_lconst (n := 91) (v := 0) dX5_copy_90 rfl (by decide) ?_
                refine s_aload_n (n := 92) (i := 0) dX5_copy_91 rfl rfl rfl ?_
                refine gf_X5_13 (n := 95) rfl dX5_copy_92 rfl (by assumption) (by rfl) ?_
                refine s_iload_n (n := 96) (i := 3) dX5_copy_95 rfl rfl rfl ?_
                refine s_iald (n := 97) dX5_copy_96 rfl (by assumption) (mj_ixn (by omega)) ?_
                refine s_i2l (n := 98) dX5_copy_97 rfl ?_
                refine s_iload (n := 100) dX5_copy_98 rfl rfl ?_
                refine s_i2l (n := 101) dX5_copy_100 rfl ?_
                refine s_lsub (n := 102) dX5_copy_101 rfl ?_
                refine s_s3 (M' := MX5_in) (n := 105) dX5_copy_102 rfl wd_X5_54 okX5_in rfl (by omega) ⟨Nat.le_refl _, Nat.le_refl _⟩ (y_in (d := d - 1) (A := 0) (by decide) lsub_i) ?_
                rintro v102 hh102 ⟨rfl, rfl⟩
                refine s_if_ne (n := 108) (tgt := 114) dX5_copy_105 rfl rfl (fun b105 => ?_) (fun b105 => ?_)
                · refine s_iconst (n := 115) (v := 0) dX5_copy_114 rfl (by decide) ?_
                  refine s_istore (n := 117) (i := 6) (ls' := [_, _, _, _, _, _, _]) dX5_copy_115 rfl rfl rfl rfl ?_
                  refine l_ycopy1 ha hb him hjm (by omega) m 0 (by omega) _ ?_ fr_rf
                  rw [show mvF (τ 3) (τ 4) (40 * a + i) 0 = τ 4 from cpI_0, u2_self]
                  exact hY
                · exact absurd hp.2.2 (if0 b105)
          · exact absurd he b53
        · exact absurd (Int32.not_lt.mp hnb) b32
    · exact absurd (Wi_n (by omega) (by omega) (by omega)) (if0 b11)
