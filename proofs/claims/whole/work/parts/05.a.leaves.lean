abbrev rI (x : Int32) (h : mj_H) : Option Value → mj_H → Prop := fun v h' => v = some (.int x) ∧ h' = h
abbrev rL (x : Int64) (h : mj_H) : Option Value → mj_H → Prop := fun v h' => v = some (.long x) ∧ h' = h
/-- whether it is within: 1, 0 -/
def iw (a b c : Int32) : Int32 := if b ≤ a ∧ a ≤ c then 1 else 0
theorem nar_iw {a b c : Int32} : narrow .boolean (.int (iw a b c)) = .int (iw a b c) := by
  unfold iw
  split <;> rfl
theorem rI_ok {x y : Int32} {h : mj_H} (e : x = y) : rI y h (some (.int x)) h := ⟨by rw [e], rfl⟩
theorem i_le {a b : Int32} : a ≤ b ↔ a.toInt ≤ b.toInt := Int32.le_iff_toInt_le
theorem i_lt {a b : Int32} : a < b ↔ a.toInt < b.toInt := Int32.lt_iff_toInt_lt
set_option maxRecDepth 100000 in
set_option maxHeartbeats 4000000 in
theorem c_isWithin {G : mj_G} {h : mj_H} {d : Nat} (a b c : Int32) : mj_con G MX4_isWithin d 0 0 [.int a, .int b, .int c] h (rI (iw a b c) h) := by
  refine mj_conS okX4_isWithin (ls := [some (.int a), some (.int b), some (.int c)]) rfl rfl ?_
  refine s_iload_n (n := 1) (i := 0) dX4_isWithin_0 rfl rfl rfl ?_
  refine s_iload_n (n := 2) (i := 1) dX4_isWithin_1 rfl rfl rfl ?_
  refine s_icmp_lt (n := 5) (tgt := 14) dX4_isWithin_2 rfl rfl (fun b2 => ?_) (fun b2 => ?_)
  · refine s_iconst (n := 15) (v := 0) dX4_isWithin_14 rfl (by decide) ?_
    refine s_ireturn dX4_isWithin_15 rfl (rfl) (Nat.le_refl _) (Nat.le_refl _) ?_
    refine rI_ok ?_
    unfold iw
    simp only [i_le, i_lt] at *
    split <;> first | rfl | (exfalso; omega)
  · refine s_iload_n (n := 6) (i := 0) dX4_isWithin_5 rfl rfl rfl ?_
    refine s_iload_n (n := 7) (i := 2) dX4_isWithin_6 rfl rfl rfl ?_
    refine s_icmp_gt (n := 10) (tgt := 14) dX4_isWithin_7 rfl rfl (fun b7 => ?_) (fun b7 => ?_)
    · refine s_iconst (n := 15) (v := 0) dX4_isWithin_14 rfl (by decide) ?_
      refine s_ireturn dX4_isWithin_15 rfl (rfl) (Nat.le_refl _) (Nat.le_refl _) ?_
      refine rI_ok ?_
      unfold iw
      simp only [i_le, i_lt] at *
      split <;> first | rfl | (exfalso; omega)
    · refine s_iconst (n := 11) (v := 1) dX4_isWithin_10 rfl (by decide) ?_
      refine s_goto (tgt := 15) dX4_isWithin_11 rfl ?_
      refine s_ireturn dX4_isWithin_15 rfl (rfl) (Nat.le_refl _) (Nat.le_refl _) ?_
      refine rI_ok ?_
      unfold iw
      simp only [i_le, i_lt] at *
      split <;> first | rfl | (exfalso; omega)
set_option maxRecDepth 100000 in
set_option maxHeartbeats 4000000 in
theorem c_isRow {G : mj_G} {h : mj_H} {d : Nat} (a : Int32) (hd : 1 ≤ d) : mj_con G MX4_isRow d 0 0 [.int a] h (rI (iw a 0 7) h) := by
  refine mj_conS okX4_isRow (ls := [some (.int a)]) rfl rfl ?_
  refine s_iload_n (n := 1) (i := 0) dX4_isRow_0 rfl rfl rfl ?_
  refine s_iconst (n := 2) (v := 0) dX4_isRow_1 rfl (by decide) ?_
  refine s_bipush (n := 4) (v := 7) dX4_isRow_2 rfl (by decide) ?_
  refine s_s3 (M' := MX4_isWithin) (n := 7) dX4_isRow_4 rfl wd_X4_52 okX4_isWithin rfl (by omega) ⟨Nat.le_refl _, Nat.le_refl _⟩ (c_isWithin (d := d - 1) _ _ _) ?_
  rintro v4 hh4 ⟨rfl, rfl⟩
  refine s_ireturn dX4_isRow_7 rfl (nar_iw) (Nat.le_refl _) (Nat.le_refl _) ?_
  exact rI_ok rfl
set_option maxRecDepth 100000 in
set_option maxHeartbeats 4000000 in
theorem c_stands {G : mj_G} {h : mj_H} {d : Nat} {p : Nat} {T : Nat → Int32} (hS : mj_St G h p T) : mj_con G MX2_stands d 0 0 [.ref (G.1 + p)] h (rI (if 0 < T 2 then 1 else 0) h) := by
  refine mj_conV okX2_stands (ls := [some (.ref (G.1 + p))]) rfl rfl ?_
  obtain ⟨c0, c1, c2, c3, c4, c5, c6⟩ := hS
  refine s_aload_n (n := 1) (i := 0) dX2_stands_0 rfl rfl rfl ?_
  refine gf_X2_30 (n := 4) rfl dX2_stands_1 rfl (by assumption) (by rfl) ?_
  refine s_if_le (n := 7) (tgt := 11) dX2_stands_4 rfl rfl (fun b4 => ?_) (fun b4 => ?_)
  · refine s_iconst (n := 12) (v := 0) dX2_stands_11 rfl (by decide) ?_
    refine s_ireturn dX2_stands_12 rfl (rfl) (Nat.le_refl _) (Nat.le_refl _) ?_
    refine rI_ok ?_
    simp only [i_le, i_lt] at *
    split <;> first | rfl | (exfalso; omega)
  · refine s_iconst (n := 8) (v := 1) dX2_stands_7 rfl (by decide) ?_
    refine s_goto (tgt := 12) dX2_stands_8 rfl ?_
    refine s_ireturn dX2_stands_12 rfl (rfl) (Nat.le_refl _) (Nat.le_refl _) ?_
    refine rI_ok ?_
    simp only [i_le, i_lt] at *
    split <;> first | rfl | (exfalso; omega)
set_option maxRecDepth 100000 in
set_option maxHeartbeats 4000000 in
theorem c_hasRoom {G : mj_G} {h : mj_H} {d : Nat} {p : Nat} {T : Nat → Int32} (hS : mj_St G h p T) : mj_con G MX2_hasRoom d 0 0 [.ref (G.1 + p)] h (rI (if T 2 < 7 then 1 else 0) h) := by
  refine mj_conV okX2_hasRoom (ls := [some (.ref (G.1 + p))]) rfl rfl ?_
  obtain ⟨c0, c1, c2, c3, c4, c5, c6⟩ := hS
  refine s_aload_n (n := 1) (i := 0) dX2_hasRoom_0 rfl rfl rfl ?_
  refine gf_X2_30 (n := 4) rfl dX2_hasRoom_1 rfl (by assumption) (by rfl) ?_
  refine s_bipush (n := 6) (v := 7) dX2_hasRoom_4 rfl (by decide) ?_
  refine s_icmp_ge (n := 9) (tgt := 13) dX2_hasRoom_6 rfl rfl (fun b6 => ?_) (fun b6 => ?_)
  · refine s_iconst (n := 14) (v := 0) dX2_hasRoom_13 rfl (by decide) ?_
    refine s_ireturn dX2_hasRoom_14 rfl (rfl) (Nat.le_refl _) (Nat.le_refl _) ?_
    refine rI_ok ?_
    simp only [i_le, i_lt] at *
    split <;> first | rfl | (exfalso; omega)
  · refine s_iconst (n := 10) (v := 1) dX2_hasRoom_9 rfl (by decide) ?_
    refine s_goto (tgt := 14) dX2_hasRoom_10 rfl ?_
    refine s_ireturn dX2_hasRoom_14 rfl (rfl) (Nat.le_refl _) (Nat.le_refl _) ?_
    refine rI_ok ?_
    simp only [i_le, i_lt] at *
    split <;> first | rfl | (exfalso; omega)
set_option maxRecDepth 100000 in
set_option maxHeartbeats 4000000 in
theorem c_isOverPlank {G : mj_G} {h : mj_H} {d : Nat} {p : Nat} {T : Nat → Int32} (hS : mj_St G h p T) : mj_con G MX2_isOverPlank d 0 0 [.ref (G.1 + p)] h (rI (if T 1 < T 5 then 1 else 0) h) := by
  refine mj_conV okX2_isOverPlank (ls := [some (.ref (G.1 + p))]) rfl rfl ?_
  obtain ⟨c0, c1, c2, c3, c4, c5, c6⟩ := hS
  refine s_aload_n (n := 1) (i := 0) dX2_isOverPlank_0 rfl rfl rfl ?_
  refine gf_X2_43 (n := 4) rfl dX2_isOverPlank_1 rfl (by assumption) (by rfl) ?_
  refine s_aload_n (n := 5) (i := 0) dX2_isOverPlank_4 rfl rfl rfl ?_
  refine gf_X2_37 (n := 8) rfl dX2_isOverPlank_5 rfl (by assumption) (by rfl) ?_
  refine s_icmp_le (n := 11) (tgt := 15) dX2_isOverPlank_8 rfl rfl (fun b8 => ?_) (fun b8 => ?_)
  · refine s_iconst (n := 16) (v := 0) dX2_isOverPlank_15 rfl (by decide) ?_
    refine s_ireturn dX2_isOverPlank_16 rfl (rfl) (Nat.le_refl _) (Nat.le_refl _) ?_
    refine rI_ok ?_
    simp only [i_le, i_lt] at *
    split <;> first | rfl | (exfalso; omega)
  · refine s_iconst (n := 12) (v := 1) dX2_isOverPlank_11 rfl (by decide) ?_
    refine s_goto (tgt := 16) dX2_isOverPlank_12 rfl ?_
    refine s_ireturn dX2_isOverPlank_16 rfl (rfl) (Nat.le_refl _) (Nat.le_refl _) ?_
    refine rI_ok ?_
    simp only [i_le, i_lt] at *
    split <;> first | rfl | (exfalso; omega)
