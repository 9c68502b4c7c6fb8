/-- whether house j is hushed -/
abbrev hs (T : Nat → Int32) (x : Int32) : Prop := (T 4 >>> (x &&& 31)) &&& 1 = 1
/-- what FLOWS from gutter j -/
def fl (T : Nat → Int32) (j : Nat) : Int32 := if T (34 + j) < T 0 then T (34 + j) else T 0
def shed (k t e m : Int32) : Int32 := if k = 2 then 2 * (t / e) else if k = 3 then t / e + (if t = 0 then 0 else 1) else if k = 4 then e else if k = 5 then (if m % 2 = 0 then e else 0) else t / e
def shT (T : Nat → Int32) (j : Nat) : Int32 := if hs T (nI j) then 0 else shed (T (6 + j)) (T (13 + j)) (T (20 + j)) (T 3)
theorem i_ne0 {e : Int32} (h : 0 < e) : ¬ e = 0 := fun q => by
  rw [q] at h
  exact absurd h (by decide)
set_option maxRecDepth 100000 in
set_option maxHeartbeats 4000000 in
theorem c_shedBy {G : mj_G} {h : mj_H} {d : Nat} {k t e m : Int32} (he : 0 < e) (hk : k = 1 ∨ k = 2 ∨ k = 3 ∨ k = 4 ∨ k = 5) : mj_con G MX4_shedBy d 0 0 [.int k, .int t, .int e, .int m] h (rI (shed k t e m) h) := by
  refine mj_conS okX4_shedBy (ls := [some (.int k), some (.int t), some (.int e), some (.int m), none]) rfl rfl ?_
  refine s_iload_n (n := 1) (i := 2) dX4_shedBy_0 rfl rfl rfl ?_
  refine s_if_le (n := 4) (tgt := 10) dX4_shedBy_1 rfl rfl (fun b1 => ?_) (fun b1 => ?_)
  · exact absurd he (by simp only [i_le, i_lt] at *; omega)
  · refine s_iload_n (n := 5) (i := 1) dX4_shedBy_4 rfl rfl rfl ?_
    refine s_iload_n (n := 6) (i := 2) dX4_shedBy_5 rfl rfl rfl ?_
    refine s_idiv (n := 7) dX4_shedBy_6 rfl (i_ne0 he) ?_
    refine s_goto (tgt := 11) dX4_shedBy_7 rfl ?_
    refine s_istore (n := 13) (i := 4) (ls' := [_, _, _, _, _]) dX4_shedBy_11 rfl rfl rfl rfl ?_
    refine s_iload_n (n := 14) (i := 0) dX4_shedBy_13 rfl rfl rfl ?_
    refine t_X4_shedBy_14 dX4_shedBy_14 (fun e1 => ?_) (fun e2 => ?_) (fun e3 => ?_) (fun e4 => ?_) (fun e5 => ?_) (fun e1 e2 e3 e4 e5 => ?_)
    · subst e1
      refine s_iload (n := 50) dX4_shedBy_48 rfl rfl ?_
      refine s_ireturn dX4_shedBy_50 rfl (rfl) (Nat.le_refl _) (Nat.le_refl _) ?_
      refine rI_ok ?_
      unfold shed
      first | rfl | simp_all
    · subst e2
      refine s_iconst (n := 52) (v := 2) dX4_shedBy_51 rfl (by decide) ?_
      refine s_iload (n := 54) dX4_shedBy_52 rfl rfl ?_
      refine s_imul (n := 55) dX4_shedBy_54 rfl ?_
      refine s_ireturn dX4_shedBy_55 rfl (rfl) (Nat.le_refl _) (Nat.le_refl _) ?_
      refine rI_ok ?_
      unfold shed
      first | rfl | simp_all
    · subst e3
      refine s_iload_n (n := 57) (i := 1) dX4_shedBy_56 rfl rfl rfl ?_
      refine s_if_eq (n := 60) (tgt := 67) dX4_shedBy_57 rfl rfl (fun b57 => ?_) (fun b57 => ?_)
      · refine s_iload (n := 69) dX4_shedBy_67 rfl rfl ?_
        refine s_ireturn dX4_shedBy_69 rfl (rfl) (Nat.le_refl _) (Nat.le_refl _) ?_
        refine rI_ok ?_
        unfold shed
        first | rfl | simp_all
      · refine s_iload (n := 62) dX4_shedBy_60 rfl rfl ?_
        refine s_iconst (n := 63) (v := 1) dX4_shedBy_62 rfl (by decide) ?_
        refine s_iadd (n := 64) dX4_shedBy_63 rfl ?_
        refine s_goto (tgt := 69) dX4_shedBy_64 rfl ?_
        refine s_ireturn dX4_shedBy_69 rfl (rfl) (Nat.le_refl _) (Nat.le_refl _) ?_
        refine rI_ok ?_
        unfold shed
        first | rfl | simp_all
    · subst e4
      refine s_iload_n (n := 71) (i := 2) dX4_shedBy_70 rfl rfl rfl ?_
      refine s_ireturn dX4_shedBy_71 rfl (rfl) (Nat.le_refl _) (Nat.le_refl _) ?_
      refine rI_ok ?_
      unfold shed
      first | rfl | simp_all
    · subst e5
      refine s_iload_n (n := 73) (i := 3) dX4_shedBy_72 rfl rfl rfl ?_
      refine s_iconst (n := 74) (v := 2) dX4_shedBy_73 rfl (by decide) ?_
      refine s_irem (n := 75) dX4_shedBy_74 rfl (by decide) ?_
      refine s_if_ne (n := 78) (tgt := 82) dX4_shedBy_75 rfl rfl (fun b75 => ?_) (fun b75 => ?_)
      · refine s_iconst (n := 83) (v := 0) dX4_shedBy_82 rfl (by decide) ?_
        refine s_ireturn dX4_shedBy_83 rfl (rfl) (Nat.le_refl _) (Nat.le_refl _) ?_
        refine rI_ok ?_
        unfold shed
        first | rfl | simp_all
      · refine s_iload_n (n := 79) (i := 2) dX4_shedBy_78 rfl rfl rfl ?_
        refine s_goto (tgt := 83) dX4_shedBy_79 rfl ?_
        refine s_ireturn dX4_shedBy_83 rfl (rfl) (Nat.le_refl _) (Nat.le_refl _) ?_
        refine rI_ok ?_
        unfold shed
        first | rfl | simp_all
    · exfalso
      rcases hk with q | q | q | q | q <;> contradiction
set_option maxRecDepth 100000 in
set_option maxHeartbeats 4000000 in
theorem c_isHushed {G : mj_G} {h : mj_H} {d : Nat} {p : Nat} {T : Nat → Int32} (hS : mj_St G h p T) {x : Int32} : mj_con G MX2_isHushed d 0 0 [.ref (G.1 + p), .int x] h (rI (if hs T x then 1 else 0) h) := by
  refine mj_conV okX2_isHushed (ls := [some (.ref (G.1 + p)), some (.int x)]) rfl rfl ?_
  have hS0 := hS
  obtain ⟨c0, c1, c2, c3, c4, c5, c6⟩ := hS
  refine s_aload_n (n := 1) (i := 0) dX2_isHushed_0 rfl rfl rfl ?_
  refine gf_X2_46 (n := 4) rfl dX2_isHushed_1 rfl (by assumption) (by rfl) ?_
  refine s_iload_n (n := 5) (i := 1) dX2_isHushed_4 rfl rfl rfl ?_
  refine s_ishr (n := 6) dX2_isHushed_5 rfl ?_
  refine s_iconst (n := 7) (v := 1) dX2_isHushed_6 rfl (by decide) ?_
  refine s_iand (n := 8) dX2_isHushed_7 rfl ?_
  refine s_iconst (n := 9) (v := 1) dX2_isHushed_8 rfl (by decide) ?_
  refine s_icmp_ne (n := 12) (tgt := 16) dX2_isHushed_9 rfl rfl (fun b9 => ?_) (fun b9 => ?_)
  · refine s_iconst (n := 17) (v := 0) dX2_isHushed_16 rfl (by decide) ?_
    refine s_ireturn dX2_isHushed_17 rfl (rfl) (Nat.le_refl _) (Nat.le_refl _) ?_
    refine rI_ok ?_
    first | rw [if_pos (by assumption)] | rw [if_neg (by assumption)]
  · refine s_iconst (n := 13) (v := 1) dX2_isHushed_12 rfl (by decide) ?_
    refine s_goto (tgt := 17) dX2_isHushed_13 rfl ?_
    refine s_ireturn dX2_isHushed_17 rfl (rfl) (Nat.le_refl _) (Nat.le_refl _) ?_
    refine rI_ok ?_
    first | rw [if_pos (by assumption)] | rw [if_neg (by assumption)]
set_option maxRecDepth 100000 in
set_option maxHeartbeats 4000000 in
theorem c_flowOf {G : mj_G} {h : mj_H} {d : Nat} {p : Nat} {T : Nat → Int32} (hS : mj_St G h p T) {j : Nat} (hj : j < 7) (hd : 1 ≤ d) : mj_con G MX2_flowOf d 0 0 [.ref (G.1 + p), .int (nI j)] h (rI (fl T j) h) := by
  refine mj_conV okX2_flowOf (ls := [some (.ref (G.1 + p)), some (.int (nI j))]) rfl rfl ?_
  have hS0 := hS
  obtain ⟨c0, c1, c2, c3, c4, c5, c6⟩ := hS
  refine s_aload_n (n := 1) (i := 0) dX2_flowOf_0 rfl rfl rfl ?_
  refine gf_X2_34 (n := 4) rfl dX2_flowOf_1 rfl (by assumption) (by rfl) ?_
  refine s_aload_n (n := 5) (i := 0) dX2_flowOf_4 rfl rfl rfl ?_
  refine gf_X2_24 (n := 8) rfl dX2_flowOf_5 rfl (by assumption) (by rfl) ?_
  refine s_iload_n (n := 9) (i := 1) dX2_flowOf_8 rfl rfl rfl ?_
  first | refine s_ials (n := 10) dX2_flowOf_9 rfl (by assumption) (mj_ixn (by omega)) ?_ | refine s_iald (n := 10) dX2_flowOf_9 rfl (by assumption) (mj_ixn (by omega)) ?_
  refine s_min (n := 13) dX2_flowOf_10 rfl wd_X2_88 (by omega) (by simp [Value.category]) (Nat.le_refl _) (Nat.le_refl _) ?_
  refine s_ireturn dX2_flowOf_13 rfl (rfl) (Nat.le_refl _) (Nat.le_refl _) ?_
  exact rI_ok rfl
set_option maxRecDepth 100000 in
set_option maxHeartbeats 4000000 in
theorem c_shedsOf {G : mj_G} {h : mj_H} {d : Nat} {p : Nat} {T : Nat → Int32} (hS : mj_St G h p T) {j : Nat} (hj : j < 7) (hd : 1 ≤ d) (he : 0 < T (20 + j)) (hk : T (6 + j) = 1 ∨ T (6 + j) = 2 ∨ T (6 + j) = 3 ∨ T (6 + j) = 4 ∨ T (6 + j) = 5) : mj_con G MX2_shedsOf d 0 0 [.ref (G.1 + p), .int (nI j)] h (rI (shT T j) h) := by
  refine mj_conV okX2_shedsOf (ls := [some (.ref (G.1 + p)), some (.int (nI j))]) rfl rfl ?_
  have hS0 := hS
  obtain ⟨c0, c1, c2, c3, c4, c5, c6⟩ := hS
  refine s_aload_n (n := 1) (i := 0) dX2_shedsOf_0 rfl rfl rfl ?_
  refine s_iload_n (n := 2) (i := 1) dX2_shedsOf_1 rfl rfl rfl ?_
  refine s_v1 (M' := MX2_isHushed) (n := 5) (ci := 2) dX2_shedsOf_2 rfl wd_X2_73 okX2_isHushed rfl rfl (by omega) ⟨Nat.le_refl _, Nat.le_refl _⟩ (by assumption) (c_isHushed (d := d - 1) hS0) ?_
  rintro v2 hh2 ⟨rfl, rfl⟩
  refine s_if_eq (n := 8) (tgt := 12) dX2_shedsOf_5 rfl rfl (fun b5 => ?_) (fun b5 => ?_)
  · refine s_aload_n (n := 13) (i := 0) dX2_shedsOf_12 rfl rfl rfl ?_
    refine gf_X2_9 (n := 16) rfl dX2_shedsOf_13 rfl (by assumption) (by rfl) ?_
    refine s_iload_n (n := 17) (i := 1) dX2_shedsOf_16 rfl rfl rfl ?_
    first | refine s_ials (n := 18) dX2_shedsOf_17 rfl (by assumption) (mj_ixn (by omega)) ?_ | refine s_iald (n := 18) dX2_shedsOf_17 rfl (by assumption) (mj_ixn (by omega)) ?_
    refine s_aload_n (n := 19) (i := 0) dX2_shedsOf_18 rfl rfl rfl ?_
    refine gf_X2_15 (n := 22) rfl dX2_shedsOf_19 rfl (by assumption) (by rfl) ?_
    refine s_iload_n (n := 23) (i := 1) dX2_shedsOf_22 rfl rfl rfl ?_
    first | refine s_ials (n := 24) dX2_shedsOf_23 rfl (by assumption) (mj_ixn (by omega)) ?_ | refine s_iald (n := 24) dX2_shedsOf_23 rfl (by assumption) (mj_ixn (by omega)) ?_
    refine s_aload_n (n := 25) (i := 0) dX2_shedsOf_24 rfl rfl rfl ?_
    refine gf_X2_18 (n := 28) rfl dX2_shedsOf_25 rfl (by assumption) (by rfl) ?_
    refine s_iload_n (n := 29) (i := 1) dX2_shedsOf_28 rfl rfl rfl ?_
    first | refine s_ials (n := 30) dX2_shedsOf_29 rfl (by assumption) (mj_ixn (by omega)) ?_ | refine s_iald (n := 30) dX2_shedsOf_29 rfl (by assumption) (mj_ixn (by omega)) ?_
    refine s_aload_n (n := 31) (i := 0) dX2_shedsOf_30 rfl rfl rfl ?_
    refine gf_X2_40 (n := 34) rfl dX2_shedsOf_31 rfl (by assumption) (by rfl) ?_
    refine s_n2 (M' := MX4_shedBy) (n := 37) rfl rfl dX2_shedsOf_34 rfl okX4_shedBy rfl (by omega) ⟨Nat.le_refl _, Nat.le_refl _⟩ (c_shedBy (d := d - 1) he hk) ?_
    rintro v34 hh34 ⟨rfl, rfl⟩
    refine s_ireturn dX2_shedsOf_37 rfl (rfl) (Nat.le_refl _) (Nat.le_refl _) ?_
    refine rI_ok ?_
    unfold shT
    split at b5 <;> simp_all
  · refine s_iconst (n := 9) (v := 0) dX2_shedsOf_8 rfl (by decide) ?_
    refine s_goto (tgt := 37) dX2_shedsOf_9 rfl ?_
    refine s_ireturn dX2_shedsOf_37 rfl (rfl) (Nat.le_refl _) (Nat.le_refl _) ?_
    refine rI_ok ?_
    unfold shT
    split at b5 <;> simp_all
set_option maxRecDepth 100000 in
set_option maxHeartbeats 4000000 in
theorem c_begin {G : mj_G} {h : mj_H} {d : Nat} {p : Nat} {T : Nat → Int32} (hS : mj_St G h p T) {x y : Int32} : mj_con G MX2_begin d 0 0 [.ref (G.1 + p), .int x, .int y] h (fun v h' => v = none ∧ mj_St G h' p (upd (upd (upd (upd (upd (upd T 0 x) 1 y) 2 0) 3 0) 5 0) 4 0) ∧ mj_fr p 7 h h') := by
  refine mj_conV okX2_begin (ls := [some (.ref (G.1 + p)), some (.int x), some (.int y)]) rfl rfl ?_
  have hS0 := hS
  obtain ⟨c0, c1, c2, c3, c4, c5, c6⟩ := hS
  refine s_aload_n (n := 1) (i := 0) dX2_begin_0 rfl rfl rfl ?_
  refine s_iload_n (n := 2) (i := 1) dX2_begin_1 rfl rfl rfl ?_
  refine pf_X2_34 (n := 5) (fs' := [_, _, _, _, _, _, _, _, _, _, _, _]) rfl dX2_begin_2 rfl (by assumption) (by rfl) (by rfl) ?_
  refine St_put_step hS0 (fun h1 hS1 hF1 => ?_)
  have hF := hF1
  obtain ⟨c0, c1, c2, c3, c4, c5, c6⟩ := id hS1
  have hS0 := hS1
  refine s_aload_n (n := 6) (i := 0) dX2_begin_5 rfl rfl rfl ?_
  refine s_iload_n (n := 7) (i := 2) dX2_begin_6 rfl rfl rfl ?_
  refine pf_X2_37 (n := 10) (fs' := [_, _, _, _, _, _, _, _, _, _, _, _]) rfl dX2_begin_7 rfl (by assumption) (by rfl) (by rfl) ?_
  refine St_put_plank hS0 (fun h1 hS1 hF1 => ?_)
  have hF := fr_tr hF hF1
  obtain ⟨c0, c1, c2, c3, c4, c5, c6⟩ := id hS1
  have hS0 := hS1
  refine s_aload_n (n := 11) (i := 0) dX2_begin_10 rfl rfl rfl ?_
  refine s_iconst (n := 12) (v := 0) dX2_begin_11 rfl (by decide) ?_
  refine pf_X2_30 (n := 15) (fs' := [_, _, _, _, _, _, _, _, _, _, _, _]) rfl dX2_begin_12 rfl (by assumption) (by rfl) (by rfl) ?_
  refine St_put_houses hS0 (fun h1 hS1 hF1 => ?_)
  have hF := fr_tr hF hF1
  obtain ⟨c0, c1, c2, c3, c4, c5, c6⟩ := id hS1
  have hS0 := hS1
  refine s_aload_n (n := 16) (i := 0) dX2_begin_15 rfl rfl rfl ?_
  refine s_iconst (n := 17) (v := 0) dX2_begin_16 rfl (by decide) ?_
  refine pf_X2_40 (n := 20) (fs' := [_, _, _, _, _, _, _, _, _, _, _, _]) rfl dX2_begin_17 rfl (by assumption) (by rfl) (by rfl) ?_
  refine St_put_minute hS0 (fun h1 hS1 hF1 => ?_)
  have hF := fr_tr hF hF1
  obtain ⟨c0, c1, c2, c3, c4, c5, c6⟩ := id hS1
  have hS0 := hS1
  refine s_aload_n (n := 21) (i := 0) dX2_begin_20 rfl rfl rfl ?_
  refine s_iconst (n := 22) (v := 0) dX2_begin_21 rfl (by decide) ?_
  refine pf_X2_43 (n := 25) (fs' := [_, _, _, _, _, _, _, _, _, _, _, _]) rfl dX2_begin_22 rfl (by assumption) (by rfl) (by rfl) ?_
  refine St_put_pond hS0 (fun h1 hS1 hF1 => ?_)
  have hF := fr_tr hF hF1
  obtain ⟨c0, c1, c2, c3, c4, c5, c6⟩ := id hS1
  have hS0 := hS1
  refine s_aload_n (n := 26) (i := 0) dX2_begin_25 rfl rfl rfl ?_
  refine s_iconst (n := 27) (v := 0) dX2_begin_26 rfl (by decide) ?_
  refine pf_X2_46 (n := 30) (fs' := [_, _, _, _, _, _, _, _, _, _, _, _]) rfl dX2_begin_27 rfl (by assumption) (by rfl) (by rfl) ?_
  refine St_put_hushed hS0 (fun h1 hS1 hF1 => ?_)
  have hF := fr_tr hF hF1
  obtain ⟨c0, c1, c2, c3, c4, c5, c6⟩ := id hS1
  have hS0 := hS1
  refine s_return dX2_begin_30 rfl (Nat.le_refl _) (Nat.le_refl _) ?_
  exact ⟨rfl, hS0, hF⟩
set_option maxRecDepth 100000 in
set_option maxHeartbeats 4000000 in
theorem c_putBars {G : mj_G} {h : mj_H} {d : Nat} {p : Nat} {T : Nat → Int32} (hS : mj_St G h p T) {j : Nat} {x : Int32} (hj : j < 7) : mj_con G MX2_putBars d 0 0 [.ref (G.1 + p), .int (nI j), .int x] h (fun v h' => v = none ∧ mj_St G h' p (upd (upd T (27 + j) x) (41 + j) 0) ∧ mj_fr p 7 h h') := by
  refine mj_conV okX2_putBars (ls := [some (.ref (G.1 + p)), some (.int (nI j)), some (.int x)]) rfl rfl ?_
  have hS0 := hS
  obtain ⟨c0, c1, c2, c3, c4, c5, c6⟩ := hS
  refine s_aload_n (n := 1) (i := 0) dX2_putBars_0 rfl rfl rfl ?_
  refine gf_X2_21 (n := 4) rfl dX2_putBars_1 rfl (by assumption) (by rfl) ?_
  refine s_iload_n (n := 5) (i := 1) dX2_putBars_4 rfl rfl rfl ?_
  refine s_iload_n (n := 6) (i := 2) dX2_putBars_5 rfl rfl rfl ?_
  refine s_iast (n := 7) dX2_putBars_6 rfl (by assumption) (mj_ixn (by omega)) ?_
  refine St_put_bars hj hS0 (fun h1 hS1 hF1 => ?_)
  have hF := hF1
  obtain ⟨c0, c1, c2, c3, c4, c5, c6⟩ := id hS1
  have hS0 := hS1
  refine s_aload_n (n := 8) (i := 0) dX2_putBars_7 rfl rfl rfl ?_
  refine gf_X2_27 (n := 11) rfl dX2_putBars_8 rfl (by assumption) (by rfl) ?_
  refine s_iload_n (n := 12) (i := 1) dX2_putBars_11 rfl rfl rfl ?_
  refine s_iconst (n := 13) (v := 0) dX2_putBars_12 rfl (by decide) ?_
  refine s_iast (n := 14) dX2_putBars_13 rfl (by assumption) (mj_ixn (by omega)) ?_
  refine St_put_caught hj hS0 (fun h1 hS1 hF1 => ?_)
  have hF := fr_tr hF hF1
  obtain ⟨c0, c1, c2, c3, c4, c5, c6⟩ := id hS1
  have hS0 := hS1
  refine s_return dX2_putBars_14 rfl (Nat.le_refl _) (Nat.le_refl _) ?_
  exact ⟨rfl, hS0, hF⟩
def lowP (T : Nat → Int32) (x : Int32) : Nat → Int32 := upd T 5 (if 0 < T 5 - x then T 5 - x else 0)
set_option maxRecDepth 100000 in
set_option maxHeartbeats 4000000 in
theorem c_lowerPond {G : mj_G} {h : mj_H} {d : Nat} {p : Nat} {T : Nat → Int32} (hS : mj_St G h p T) {x : Int32} (hd : 1 ≤ d) : mj_con G MX2_lowerPond d 0 0 [.ref (G.1 + p), .int x] h (fun v h' => v = none ∧ mj_St G h' p (lowP T x) ∧ mj_fr p 7 h h') := by
  refine mj_conV okX2_lowerPond (ls := [some (.ref (G.1 + p)), some (.int x)]) rfl rfl ?_
  have hS0 := hS
  obtain ⟨c0, c1, c2, c3, c4, c5, c6⟩ := hS
  refine s_aload_n (n := 1) (i := 0) dX2_lowerPond_0 rfl rfl rfl ?_
  refine s_iconst (n := 2) (v := 0) dX2_lowerPond_1 rfl (by decide) ?_
  refine s_aload_n (n := 3) (i := 0) dX2_lowerPond_2 rfl rfl rfl ?_
  refine gf_X2_43 (n := 6) rfl dX2_lowerPond_3 rfl (by assumption) (by rfl) ?_
  refine s_iload_n (n := 7) (i := 1) dX2_lowerPond_6 rfl rfl rfl ?_
  refine s_isub (n := 8) dX2_lowerPond_7 rfl ?_
  refine s_max (n := 11) dX2_lowerPond_8 rfl wd_X2_63 (by omega) (by simp [Value.category]) (Nat.le_refl _) (Nat.le_refl _) ?_
  refine pf_X2_43 (n := 14) (fs' := [_, _, _, _, _, _, _, _, _, _, _, _]) rfl dX2_lowerPond_11 rfl (by assumption) (by rfl) (by rfl) ?_
  refine St_put_pond hS0 (fun h1 hS1 hF1 => ?_)
  have hF := hF1
  obtain ⟨c0, c1, c2, c3, c4, c5, c6⟩ := id hS1
  have hS0 := hS1
  refine s_return dX2_lowerPond_14 rfl (Nat.le_refl _) (Nat.le_refl _) ?_
  exact ⟨rfl, hS0, hF⟩
/-- what comes by the bars of house j -/
def bbA (T : Nat → Int32) (j : Nat) (f : Int32) : Int32 := if f = 0 ∨ T (27 + j) ≤ T (41 + j) then f else f - 1
def bbT (T : Nat → Int32) (j : Nat) (f : Int32) : Nat → Int32 := if f = 0 ∨ T (27 + j) ≤ T (41 + j) then T else upd T (41 + j) (T (41 + j) + 1)
set_option maxRecDepth 100000 in
set_option maxHeartbeats 4000000 in
theorem c_behindBars {G : mj_G} {h : mj_H} {d : Nat} {p : Nat} {T : Nat → Int32} (hS : mj_St G h p T) {j : Nat} {f : Int32} (hj : j < 7) : mj_con G MX2_behindBars d 0 0 [.ref (G.1 + p), .int (nI j), .int f] h (fun v h' => v = some (.int (bbA T j f)) ∧ mj_St G h' p (bbT T j f) ∧ mj_fr p 7 h h') := by
  refine mj_conV okX2_behindBars (ls := [some (.ref (G.1 + p)), some (.int (nI j)), some (.int f)]) rfl rfl ?_
  have hS0 := hS
  obtain ⟨c0, c1, c2, c3, c4, c5, c6⟩ := hS
  refine s_iload_n (n := 1) (i := 2) dX2_behindBars_0 rfl rfl rfl ?_
  refine s_if_eq (n := 4) (tgt := 19) dX2_behindBars_1 rfl rfl (fun b1 => ?_) (fun b1 => ?_)
  · refine s_iload_n (n := 20) (i := 2) dX2_behindBars_19 rfl rfl rfl ?_
    refine s_ireturn dX2_behindBars_20 rfl (rfl) (Nat.le_refl _) (Nat.le_refl _) ?_
    unfold bbA bbT
    have q : f = 0 ∨ T (27 + j) ≤ T (41 + j) := by
      first | exact Or.inl (by assumption) | exact Or.inr (Int32.not_lt.mp (by assumption))
    rw [if_pos q, if_pos q]
    exact ⟨rfl, hS0, fr_rf⟩
  · refine s_aload_n (n := 5) (i := 0) dX2_behindBars_4 rfl rfl rfl ?_
    refine gf_X2_27 (n := 8) rfl dX2_behindBars_5 rfl (by assumption) (by rfl) ?_
    refine s_iload_n (n := 9) (i := 1) dX2_behindBars_8 rfl rfl rfl ?_
    first | refine s_ials (n := 10) dX2_behindBars_9 rfl (by assumption) (mj_ixn (by omega)) ?_ | refine s_iald (n := 10) dX2_behindBars_9 rfl (by assumption) (mj_ixn (by omega)) ?_
    refine s_aload_n (n := 11) (i := 0) dX2_behindBars_10 rfl rfl rfl ?_
    refine gf_X2_21 (n := 14) rfl dX2_behindBars_11 rfl (by assumption) (by rfl) ?_
    refine s_iload_n (n := 15) (i := 1) dX2_behindBars_14 rfl rfl rfl ?_
    first | refine s_ials (n := 16) dX2_behindBars_15 rfl (by assumption) (mj_ixn (by omega)) ?_ | refine s_iald (n := 16) dX2_behindBars_15 rfl (by assumption) (mj_ixn (by omega)) ?_
    refine s_icmp_lt (n := 19) (tgt := 21) dX2_behindBars_16 rfl rfl (fun b16 => ?_) (fun b16 => ?_)
    · refine s_aload_n (n := 22) (i := 0) dX2_behindBars_21 rfl rfl rfl ?_
      refine gf_X2_27 (n := 25) rfl dX2_behindBars_22 rfl (by assumption) (by rfl) ?_
      refine s_iload_n (n := 26) (i := 1) dX2_behindBars_25 rfl rfl rfl ?_
      refine s_dup2 (n := 27) dX2_behindBars_26 rfl rfl rfl ?_
      first | refine s_ials (n := 28) dX2_behindBars_27 rfl (by assumption) (mj_ixn (by omega)) ?_ | refine s_iald (n := 28) dX2_behindBars_27 rfl (by assumption) (mj_ixn (by omega)) ?_
      refine s_iconst (n := 29) (v := 1) dX2_behindBars_28 rfl (by decide) ?_
      refine s_iadd (n := 30) dX2_behindBars_29 rfl ?_
      refine s_iast (n := 31) dX2_behindBars_30 rfl (by assumption) (mj_ixn (by omega)) ?_
      refine St_put_caught hj hS0 (fun h1 hS1 hF1 => ?_)
      have hF := hF1
      obtain ⟨c0, c1, c2, c3, c4, c5, c6⟩ := id hS1
      have hS0 := hS1
      refine s_iload_n (n := 32) (i := 2) dX2_behindBars_31 rfl rfl rfl ?_
      refine s_iconst (n := 33) (v := 1) dX2_behindBars_32 rfl (by decide) ?_
      refine s_isub (n := 34) dX2_behindBars_33 rfl ?_
      refine s_ireturn dX2_behindBars_34 rfl (rfl) (Nat.le_refl _) (Nat.le_refl _) ?_
      unfold bbA bbT
      have q : ¬ (f = 0 ∨ T (27 + j) ≤ T (41 + j)) := by
        rintro (q | q)
        · contradiction
        · exact absurd b16 (Int32.not_lt.mpr q)
      rw [if_neg q, if_neg q]
      exact ⟨rfl, hS0, hF⟩
    · refine s_iload_n (n := 20) (i := 2) dX2_behindBars_19 rfl rfl rfl ?_
      refine s_ireturn dX2_behindBars_20 rfl (rfl) (Nat.le_refl _) (Nat.le_refl _) ?_
      unfold bbA bbT
      have q : f = 0 ∨ T (27 + j) ≤ T (41 + j) := by
        first | exact Or.inl (by assumption) | exact Or.inr (Int32.not_lt.mp (by assumption))
      rw [if_pos q, if_pos q]
      exact ⟨rfl, hS0, fr_rf⟩
