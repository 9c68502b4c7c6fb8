theorem lt0_ne {t : Int32} (h : 0 < t) : ¬ t = 0 := fun q => by
  rw [q] at h
  exact absurd h (by decide)
theorem shed3 {t e : Int32} (ht : 0 ≤ t) : t / e + (if 0 < t then 1 else 0) = t / e + (if t = 0 then (0 : Int32) else 1) := by
  by_cases h : t = 0
  · subst h
    rfl
  · rw [if_neg h, if_pos]
    rw [i_lt]
    rw [i_le] at ht
    have : t.toInt ≠ (0 : Int32).toInt := fun z => h (Int32.toInt_inj.mp z)
    omega
set_option maxRecDepth 100000 in
set_option maxHeartbeats 4000000 in
theorem y_sheds {G : mj_G} {h : mj_H} {d : Nat} {τ : Nat → Nat → Int32} (hY : YS G h τ) {j : Nat} (hj : j < 7) (he : 0 < τ 0 (20 + j)) (hk : (τ 0 (6 + j) = 1 ∨ τ 0 (6 + j) = 2 ∨ τ 0 (6 + j) = 3 ∨ τ 0 (6 + j) = 4 ∨ τ 0 (6 + j) = 5)) (ht : 0 ≤ τ 0 (13 + j)) (hd : 1 ≤ d) : mj_con G MX5_shedsOf d 0 0 [.ref (G.1 + 220), .int (nI j)] h (rI (shT (τ 0) j) h) := by
  refine mj_conV okX5_shedsOf (ls := [some (.ref (G.1 + 220)), some (.int (nI j)), none, none]) rfl rfl ?_
  obtain ⟨y0, y1, y2, y3, y4, y5, y6, y7, y8, y9, y10, y11, y12⟩ := id hY
  refine s_aload_n (n := 1) (i := 0) dX5_shedsOf_0 rfl rfl rfl ?_
  refine gf_X5_19 (n := 4) rfl dX5_shedsOf_1 rfl (by assumption) (by rfl) ?_
  refine s_bipush (n := 6) (v := 13) dX5_shedsOf_4 rfl (by decide) ?_
  refine s_iload_n (n := 7) (i := 1) dX5_shedsOf_6 rfl rfl rfl ?_
  refine s_iadd (n := 8) dX5_shedsOf_7 rfl ?_
  refine s_iald (n := 9) dX5_shedsOf_8 rfl (by assumption) (mj_ixa (o := 13) rfl (by omega)) ?_
  refine s_istore_n (n := 10) (i := 2) (ls' := [_, _, _, _]) dX5_shedsOf_9 rfl rfl rfl rfl rfl ?_
  refine s_aload_n (n := 11) (i := 0) dX5_shedsOf_10 rfl rfl rfl ?_
  refine gf_X5_19 (n := 14) rfl dX5_shedsOf_11 rfl (by assumption) (by rfl) ?_
  refine s_bipush (n := 16) (v := 20) dX5_shedsOf_14 rfl (by decide) ?_
  refine s_iload_n (n := 17) (i := 1) dX5_shedsOf_16 rfl rfl rfl ?_
  refine s_iadd (n := 18) dX5_shedsOf_17 rfl ?_
  refine s_iald (n := 19) dX5_shedsOf_18 rfl (by assumption) (mj_ixa (o := 20) rfl (by omega)) ?_
  refine s_istore_n (n := 20) (i := 3) (ls' := [_, _, _, _]) dX5_shedsOf_19 rfl rfl rfl rfl rfl ?_
  refine s_aload_n (n := 21) (i := 0) dX5_shedsOf_20 rfl rfl rfl ?_
  refine gf_X5_19 (n := 24) rfl dX5_shedsOf_21 rfl (by assumption) (by rfl) ?_
  refine s_iconst (n := 25) (v := 4) dX5_shedsOf_24 rfl (by decide) ?_
  refine s_iald (n := 26) dX5_shedsOf_25 rfl (by assumption) (mj_ixe (j := 4) rfl (by omega)) ?_
  refine s_iload_n (n := 27) (i := 1) dX5_shedsOf_26 rfl rfl rfl ?_
  refine s_s2 (M' := MX5_has) (n := 30) dX5_shedsOf_27 rfl wd_X5_139 okX5_has rfl (by omega) ⟨Nat.le_refl _, Nat.le_refl _⟩ (y_has (d := d - 1)) ?_
  rintro v27 hh27 ⟨rfl, rfl⟩
  refine s_if_eq (n := 33) (tgt := 35) dX5_shedsOf_30 rfl rfl (fun b30 => ?_) (fun b30 => ?_)
  · have q : ¬ hs (τ 0) (nI j) := if0 b30
    refine s_aload_n (n := 36) (i := 0) dX5_shedsOf_35 rfl rfl rfl ?_
    refine gf_X5_19 (n := 39) rfl dX5_shedsOf_36 rfl (by assumption) (by rfl) ?_
    refine s_bipush (n := 41) (v := 6) dX5_shedsOf_39 rfl (by decide) ?_
    refine s_iload_n (n := 42) (i := 1) dX5_shedsOf_41 rfl rfl rfl ?_
    refine s_iadd (n := 43) dX5_shedsOf_42 rfl ?_
    refine s_iald (n := 44) dX5_shedsOf_43 rfl (by assumption) (mj_ixa (o := 6) rfl (by omega)) ?_
    refine t_X5_shedsOf_44 dX5_shedsOf_44 (fun e2 => ?_) (fun e3 => ?_) (fun e4 => ?_) (fun e5 => ?_) (fun e2 e3 e4 e5 => ?_)
    · refine s_iconst (n := 77) (v := 2) dX5_shedsOf_76 rfl (by decide) ?_
      refine s_iload_n (n := 78) (i := 2) dX5_shedsOf_77 rfl rfl rfl ?_
      refine s_iload_n (n := 79) (i := 3) dX5_shedsOf_78 rfl rfl rfl ?_
      refine s_idiv (n := 80) dX5_shedsOf_79 rfl (i_ne0 he) ?_
      refine s_imul (n := 81) dX5_shedsOf_80 rfl ?_
      refine s_ireturn dX5_shedsOf_81 rfl (rfl) (Nat.le_refl _) (Nat.le_refl _) ?_
      refine rI_ok ?_
      unfold shT
      rw [if_neg q]
      unfold shed
      simp_all
    · refine s_iload_n (n := 83) (i := 2) dX5_shedsOf_82 rfl rfl rfl ?_
      refine s_iload_n (n := 84) (i := 3) dX5_shedsOf_83 rfl rfl rfl ?_
      refine s_idiv (n := 85) dX5_shedsOf_84 rfl (i_ne0 he) ?_
      refine s_iload_n (n := 86) (i := 2) dX5_shedsOf_85 rfl rfl rfl ?_
      refine s_if_le (n := 89) (tgt := 93) dX5_shedsOf_86 rfl rfl (fun b86 => ?_) (fun b86 => ?_)
      · refine s_iconst (n := 94) (v := 0) dX5_shedsOf_93 rfl (by decide) ?_
        refine s_iadd (n := 95) dX5_shedsOf_94 rfl ?_
        refine s_ireturn dX5_shedsOf_95 rfl (rfl) (Nat.le_refl _) (Nat.le_refl _) ?_
        refine rI_ok ?_
        unfold shT
        rw [if_neg q]
        unfold shed
        rw [e3, if_neg (by decide), if_pos rfl]
        first | rw [if_pos (Int32.le_antisymm b86 ht)] | rw [if_neg (lt0_ne (Int32.not_le.mp b86))]
      · refine s_iconst (n := 90) (v := 1) dX5_shedsOf_89 rfl (by decide) ?_
        refine s_goto (tgt := 94) dX5_shedsOf_90 rfl ?_
        refine s_iadd (n := 95) dX5_shedsOf_94 rfl ?_
        refine s_ireturn dX5_shedsOf_95 rfl (rfl) (Nat.le_refl _) (Nat.le_refl _) ?_
        refine rI_ok ?_
        unfold shT
        rw [if_neg q]
        unfold shed
        rw [e3, if_neg (by decide), if_pos rfl]
        first | rw [if_pos (Int32.le_antisymm b86 ht)] | rw [if_neg (lt0_ne (Int32.not_le.mp b86))]
    · refine s_iload_n (n := 97) (i := 3) dX5_shedsOf_96 rfl rfl rfl ?_
      refine s_ireturn dX5_shedsOf_97 rfl (rfl) (Nat.le_refl _) (Nat.le_refl _) ?_
      refine rI_ok ?_
      unfold shT
      rw [if_neg q]
      unfold shed
      simp_all
    · refine s_aload_n (n := 99) (i := 0) dX5_shedsOf_98 rfl rfl rfl ?_
      refine gf_X5_19 (n := 102) rfl dX5_shedsOf_99 rfl (by assumption) (by rfl) ?_
      refine s_iconst (n := 103) (v := 3) dX5_shedsOf_102 rfl (by decide) ?_
      refine s_iald (n := 104) dX5_shedsOf_103 rfl (by assumption) (mj_ixe (j := 3) rfl (by omega)) ?_
      refine s_iconst (n := 105) (v := 2) dX5_shedsOf_104 rfl (by decide) ?_
      refine s_irem (n := 106) dX5_shedsOf_105 rfl (by decide) ?_
      refine s_if_ne (n := 109) (tgt := 113) dX5_shedsOf_106 rfl rfl (fun b106 => ?_) (fun b106 => ?_)
      · refine s_iconst (n := 114) (v := 0) dX5_shedsOf_113 rfl (by decide) ?_
        refine s_ireturn dX5_shedsOf_114 rfl (rfl) (Nat.le_refl _) (Nat.le_refl _) ?_
        refine rI_ok ?_
        unfold shT
        rw [if_neg q]
        unfold shed
        simp_all
      · refine s_iload_n (n := 110) (i := 3) dX5_shedsOf_109 rfl rfl rfl ?_
        refine s_goto (tgt := 114) dX5_shedsOf_110 rfl ?_
        refine s_ireturn dX5_shedsOf_114 rfl (rfl) (Nat.le_refl _) (Nat.le_refl _) ?_
        refine rI_ok ?_
        unfold shT
        rw [if_neg q]
        unfold shed
        simp_all
    · refine s_iload_n (n := 116) (i := 2) dX5_shedsOf_115 rfl rfl rfl ?_
      refine s_iload_n (n := 117) (i := 3) dX5_shedsOf_116 rfl rfl rfl ?_
      refine s_idiv (n := 118) dX5_shedsOf_117 rfl (i_ne0 he) ?_
      refine s_ireturn dX5_shedsOf_118 rfl (rfl) (Nat.le_refl _) (Nat.le_refl _) ?_
      refine rI_ok ?_
      unfold shT
      rw [if_neg q]
      unfold shed
      simp_all
  · have q : hs (τ 0) (nI j) := if1 b30
    refine s_iconst (n := 34) (v := 0) dX5_shedsOf_33 rfl (by decide) ?_
    refine s_ireturn dX5_shedsOf_34 rfl (rfl) (Nat.le_refl _) (Nat.le_refl _) ?_
    refine rI_ok ?_
    unfold shT
    rw [if_pos q]
/-- what a minute needs of a street -/
def okM (n : Nat) (T : Nat → Int32) : Prop := okK n T ∧ 0 ≤ T 0 ∧ ∀ j, j < n → 0 ≤ T (13 + j) ∧ 0 ≤ T (34 + j)
theorem fl_pos {T : Nat → Int32} {j : Nat} (h0 : 0 ≤ T 0) (h1 : 0 ≤ T (34 + j)) : 0 ≤ fl T j := by
  unfold fl
  split <;> assumption
theorem pm_s {T : Nat → Int32} {j : Nat} (hj : j < 7) : upd (upd (pm T 0 j) (41 + j) (cn T j)) (34 + j) (gn T j) = pm T 0 (j + 1) := by
  funext k
  by_cases k34 : k = 34 + j
  · subst k34
    rw [up_eq, pm_g (by omega) (by omega)]
  · rw [up_ne k34]
    by_cases k41 : k = 41 + j
    · subst k41
      rw [up_eq, pm_c (by omega) (by omega) (by omega)]
    · rw [up_ne k41]
      unfold pm
      by_cases c1 : 34 + 0 ≤ k ∧ k < 34 + j
      · rw [if_pos c1, if_pos (by omega)]
      · rw [if_neg c1, if_neg (c := 34 + 0 ≤ k ∧ k < 34 + (j + 1)) (by omega)]
        by_cases c2 : 41 + 0 ≤ k ∧ k < 41 + j
        · rw [if_pos c2, if_pos (by omega)]
        · rw [if_neg c2, if_neg (by omega)]
theorem cap9_le {x : Int32} : (x ≤ 999 → cap9 x = x) ∧ (¬ x ≤ 999 → cap9 x = 999) := by
  unfold cap9
  refine ⟨fun h => ?_, fun h => ?_⟩
  · by_cases q : x < 999
    · rw [if_pos q]
    · rw [if_neg q]
      rw [i_le] at h
      rw [i_lt] at q
      exact Int32.toInt_inj.mp (by omega)
  · rw [if_neg]
    intro q
    exact h (Int32.le_of_lt q)
theorem capP_le {x : Int32} : (x ≤ 9999 → capP x = x) ∧ (¬ x ≤ 9999 → capP x = 9999) := by
  unfold capP
  refine ⟨fun h => ?_, fun h => ?_⟩
  · by_cases q : x < 9999
    · rw [if_pos q]
    · rw [if_neg q]
      rw [i_le] at h
      rw [i_lt] at q
      exact Int32.toInt_inj.mp (by omega)
  · rw [if_neg]
    intro q
    exact h (Int32.le_of_lt q)
theorem sub00 {x : Int32} : x - 0 = x := by
  apply Int32.toBitVec_inj.mp
  simp
theorem add00 {x : Int32} : x + 0 = x := by
  apply Int32.toBitVec_inj.mp
  simp
theorem gn_0 {T : Nat → Int32} {j : Nat} (q : inF T j = 0 ∨ T (27 + j) ≤ T (41 + j)) : gn T j = cap9 (T (34 + j) - fl T j + inF T j - 0 + shT T j) ∧ cn T j = T (41 + j) + 0 := by
  unfold gn bbA cn
  rw [if_pos q, if_pos q, sub00, add00]
  exact ⟨rfl, rfl⟩
theorem gn_1 {T : Nat → Int32} {j : Nat} (q : ¬ (inF T j = 0 ∨ T (27 + j) ≤ T (41 + j))) : gn T j = cap9 (T (34 + j) - fl T j + inF T j - 1 + shT T j) ∧ cn T j = T (41 + j) + 1 := by
  unfold gn bbA cn
  rw [if_neg q, if_neg q]
  exact ⟨by rw [show T (34 + j) - fl T j + (inF T j - 1) = T (34 + j) - fl T j + inF T j - 1 from by rw [Int32.sub_eq_add_neg (inF T j), ← Int32.add_assoc, ← Int32.sub_eq_add_neg]], rfl⟩
theorem shT_eq {S T : Nat → Int32} {j : Nat} (h3 : S 3 = T 3) (h4 : S 4 = T 4) (h6 : S (6 + j) = T (6 + j)) (h13 : S (13 + j) = T (13 + j)) (h20 : S (20 + j) = T (20 + j)) : shT S j = shT T j := by
  unfold shT hs
  rw [h3, h4, h6, h13, h20]
set_option maxRecDepth 100000 in
set_option maxHeartbeats 4000000 in
theorem l_om78_0 {G : mj_G} {h0 : mj_H} {d n : Nat} {τ : Nat → Nat → Int32} {T : Nat → Int32} (hok : okM n T) (hd : 2 ≤ d) {j : Nat} (hj : j < n) (ih : ∀ h o3 o4 o5 o6, YS G h (u2 τ 0 (pm T 0 (j + 1))) → mj_fr 220 13 h0 h → mj_wp G MX5_oneMinute d 0 0 4 [some (.ref (G.1 + 220)), some (.int (inF T (j + 1))), some (.int (nI (j + 1))), o3, o4, o5, o6] [] h 0 0 (fun v h' => v = none ∧ YS G h' (u2 τ 0 (mn n T)) ∧ mj_fr 220 13 h0 h')) (q : inF T j = 0 ∨ T (27 + j) ≤ T (41 + j)) {h : mj_H} {o6 : Option Value} (hY : YS G h (u2 τ 0 (pm T 0 j))) (hF : mj_fr 220 13 h0 h) : mj_wp G MX5_oneMinute d 0 0 78 [some (.ref (G.1 + 220)), some (.int (inF T j)), some (.int (nI j)), some (.int (T (34 + j))), some (.int (fl T j)), some (.int 0), o6] [] h 0 0 (fun v h' => v = none ∧ YS G h' (u2 τ 0 (mn n T)) ∧ mj_fr 220 13 h0 h') := by
  have h7 : n ≤ 7 := hok.1.2.1
  obtain ⟨y0, y1, y2, y3, y4, y5, y6, y7, y8, y9, y10, y11, y12⟩ := id hY
  replace y4 : h.2 224 = mj_ar 0 48 (pm T 0 j) := y4
  refine s_aload_n (n := 79) (i := 0) dX5_oneMinute_78 rfl rfl rfl ?_
  refine gf_X5_19 (n := 82) rfl dX5_oneMinute_79 rfl (by assumption) (by rfl) ?_
  refine s_bipush (n := 84) (v := 41) dX5_oneMinute_82 rfl (by decide) ?_
  refine s_iload_n (n := 85) (i := 2) dX5_oneMinute_84 rfl rfl rfl ?_
  refine s_iadd (n := 86) dX5_oneMinute_85 rfl ?_
  refine s_dup2 (n := 87) dX5_oneMinute_86 rfl rfl rfl ?_
  refine s_iald (n := 88) dX5_oneMinute_87 rfl (by assumption) (mj_ixa (o := 41) rfl (by omega)) ?_
  rw [pm_same (by omega) (by omega)]
  refine s_iload (n := 90) dX5_oneMinute_88 rfl rfl ?_
  refine s_if_eq (n := 93) (tgt := 97) dX5_oneMinute_90 rfl rfl (fun b90 => ?_) (fun b90 => ?_)
  · refine s_iconst (n := 98) (v := 0) dX5_oneMinute_97 rfl (by decide) ?_
    refine s_iadd (n := 99) dX5_oneMinute_98 rfl ?_
    refine s_iast (n := 100) dX5_oneMinute_99 rfl (by assumption) (mj_ixa (o := 41) rfl (by omega)) ?_
    refine YA_0 hY (fun h1 hY1 hF1 => ?_)
    rw [u2_u2] at hY1
    obtain ⟨y0, y1, y2, y3, y4, y5, y6, y7, y8, y9, y10, y11, y12⟩ := id hY1
    replace y4 : h1.2 224 = mj_ar 0 48 (upd (pm T 0 j) (41 + j) (T (41 + j) + 0)) := y4
    have e13 : (upd (pm T 0 j) (41 + j) (T (41 + j) + 0)) (13 + j) = T (13 + j) := by rw [up_ne (by omega), pm_same (by omega) (by omega)]
    have e20 : (upd (pm T 0 j) (41 + j) (T (41 + j) + 0)) (20 + j) = T (20 + j) := by rw [up_ne (by omega), pm_same (by omega) (by omega)]
    have e6 : (upd (pm T 0 j) (41 + j) (T (41 + j) + 0)) (6 + j) = T (6 + j) := by rw [up_ne (by omega), pm_same (by omega) (by omega)]
    have e4 : (upd (pm T 0 j) (41 + j) (T (41 + j) + 0)) 4 = T 4 := by rw [up_ne (by omega), pm_same (by omega) (by omega)]
    have e3 : (upd (pm T 0 j) (41 + j) (T (41 + j) + 0)) 3 = T 3 := by rw [up_ne (by omega), pm_same (by omega) (by omega)]
    have esh : shT (upd (pm T 0 j) (41 + j) (T (41 + j) + 0)) j = shT T j := shT_eq e3 e4 e6 e13 e20
    refine s_iload_n (n := 101) (i := 3) dX5_oneMinute_100 rfl rfl rfl ?_
    refine s_iload (n := 103) dX5_oneMinute_101 rfl rfl ?_
    refine s_isub (n := 104) dX5_oneMinute_103 rfl ?_
    refine s_iload_n (n := 105) (i := 1) dX5_oneMinute_104 rfl rfl rfl ?_
    refine s_iadd (n := 106) dX5_oneMinute_105 rfl ?_
    refine s_iload (n := 108) dX5_oneMinute_106 rfl rfl ?_
    refine s_if_eq (n := 111) (tgt := 115) dX5_oneMinute_108 rfl rfl (fun b108 => ?_) (fun b108 => ?_)
    · refine s_iconst (n := 116) (v := 0) dX5_oneMinute_115 rfl (by decide) ?_
      refine s_isub (n := 117) dX5_oneMinute_116 rfl ?_
      refine s_aload_n (n := 118) (i := 0) dX5_oneMinute_117 rfl rfl rfl ?_
      refine s_iload_n (n := 119) (i := 2) dX5_oneMinute_118 rfl rfl rfl ?_
      refine s_v1 (M' := MX5_shedsOf) (n := 122) (ci := 5) dX5_oneMinute_119 rfl wd_X5_143 okX5_shedsOf rfl rfl (by omega) ⟨Nat.le_refl _, Nat.le_refl _⟩ (by assumption) (y_sheds (d := d - 1) hY1 (j := j) (by omega) (by show 0 < (upd (pm T 0 j) (41 + j) (T (41 + j) + 0)) (20 + j); rw [e20]; exact (hok.1.2.2 j hj).1) (by show (upd (pm T 0 j) (41 + j) (T (41 + j) + 0)) (6 + j) = 1 ∨ (upd (pm T 0 j) (41 + j) (T (41 + j) + 0)) (6 + j) = 2 ∨ (upd (pm T 0 j) (41 + j) (T (41 + j) + 0)) (6 + j) = 3 ∨ (upd (pm T 0 j) (41 + j) (T (41 + j) + 0)) (6 + j) = 4 ∨ (upd (pm T 0 j) (41 + j) (T (41 + j) + 0)) (6 + j) = 5; rw [e6]; exact (hok.1.2.2 j hj).2) (by show 0 ≤ (upd (pm T 0 j) (41 + j) (T (41 + j) + 0)) (13 + j); rw [e13]; exact (hok.2.2 j hj).1) (by omega)) ?_
      rintro v119 hh119 ⟨rfl, rfl⟩
      rw [show shT (u2 τ 0 (upd (pm T 0 j) (41 + j) (T (41 + j) + 0)) 0) j = shT T j from esh]
      refine s_iadd (n := 123) dX5_oneMinute_122 rfl ?_
      refine s_istore (n := 125) (i := 6) (ls' := [_, _, _, _, _, _, _]) dX5_oneMinute_123 rfl rfl rfl rfl ?_
      refine s_aload_n (n := 126) (i := 0) dX5_oneMinute_125 rfl rfl rfl ?_
      refine gf_X5_19 (n := 129) rfl dX5_oneMinute_126 rfl (by assumption) (by rfl) ?_
      refine s_bipush (n := 131) (v := 34) dX5_oneMinute_129 rfl (by decide) ?_
      refine s_iload_n (n := 132) (i := 2) dX5_oneMinute_131 rfl rfl rfl ?_
      refine s_iadd (n := 133) dX5_oneMinute_132 rfl ?_
      refine s_iload (n := 135) dX5_oneMinute_133 rfl rfl ?_
      refine s_sipush (n := 138) (v := 999) dX5_oneMinute_135 rfl (by decide) ?_
      refine s_icmp_le (n := 141) (tgt := 147) dX5_oneMinute_138 rfl rfl (fun b138 => ?_) (fun b138 => ?_)
      · have hfin : cap9 (T (34 + j) - fl T j + inF T j - 0 + shT T j) = _ := (cap9_le).1 b138
        refine s_iload (n := 149) dX5_oneMinute_147 rfl rfl ?_
        refine s_iast (n := 150) dX5_oneMinute_149 rfl (by assumption) (mj_ixa (o := 34) rfl (by omega)) ?_
        refine YA_0 hY1 (fun h2 hY2 hF2 => ?_)
        rw [u2_u2] at hY2
        have e : ∀ x, cap9 (T (34 + j) - fl T j + inF T j - 0 + shT T j) = x → upd (upd (pm T 0 j) (41 + j) (T (41 + j) + 0)) (34 + j) x = pm T 0 (j + 1) := by
          intro x hx
          rw [← hx, ← (gn_0 q).1, ← (gn_0 q).2]
          exact pm_s (by omega)
        have hY3 : YS G h2 (u2 τ 0 (pm T 0 (j + 1))) := (e _ hfin) ▸ hY2
        refine s_iload (n := 152) dX5_oneMinute_150 rfl rfl ?_
        refine s_istore_n (n := 153) (i := 1) (ls' := [_, _, _, _, _, _, _]) dX5_oneMinute_152 rfl rfl rfl rfl rfl ?_
        refine s_iinc (n := 156) (v := _ + 1) (ls' := [_, _, _, _, _, _, _]) dX5_oneMinute_153 rfl rfl rfl rfl rfl ?_
        refine s_goto (tgt := 4) dX5_oneMinute_156 rfl ?_
        rw [nI_1]
        exact ih _ _ _ _ _ hY3 (fr_tr hF (fr_tr hF1 hF2))
      · have hfin : cap9 (T (34 + j) - fl T j + inF T j - 0 + shT T j) = _ := (cap9_le).2 b138
        refine s_sipush (n := 144) (v := 999) dX5_oneMinute_141 rfl (by decide) ?_
        refine s_goto (tgt := 149) dX5_oneMinute_144 rfl ?_
        refine s_iast (n := 150) dX5_oneMinute_149 rfl (by assumption) (mj_ixa (o := 34) rfl (by omega)) ?_
        refine YA_0 hY1 (fun h2 hY2 hF2 => ?_)
        rw [u2_u2] at hY2
        have e : ∀ x, cap9 (T (34 + j) - fl T j + inF T j - 0 + shT T j) = x → upd (upd (pm T 0 j) (41 + j) (T (41 + j) + 0)) (34 + j) x = pm T 0 (j + 1) := by
          intro x hx
          rw [← hx, ← (gn_0 q).1, ← (gn_0 q).2]
          exact pm_s (by omega)
        have hY3 : YS G h2 (u2 τ 0 (pm T 0 (j + 1))) := (e _ hfin) ▸ hY2
        refine s_iload (n := 152) dX5_oneMinute_150 rfl rfl ?_
        refine s_istore_n (n := 153) (i := 1) (ls' := [_, _, _, _, _, _, _]) dX5_oneMinute_152 rfl rfl rfl rfl rfl ?_
        refine s_iinc (n := 156) (v := _ + 1) (ls' := [_, _, _, _, _, _, _]) dX5_oneMinute_153 rfl rfl rfl rfl rfl ?_
        refine s_goto (tgt := 4) dX5_oneMinute_156 rfl ?_
        rw [nI_1]
        exact ih _ _ _ _ _ hY3 (fr_tr hF (fr_tr hF1 hF2))
    · exact absurd rfl b108
  · exact absurd rfl b90
set_option maxRecDepth 100000 in
set_option maxHeartbeats 4000000 in
theorem l_om78_1 {G : mj_G} {h0 : mj_H} {d n : Nat} {τ : Nat → Nat → Int32} {T : Nat → Int32} (hok : okM n T) (hd : 2 ≤ d) {j : Nat} (hj : j < n) (ih : ∀ h o3 o4 o5 o6, YS G h (u2 τ 0 (pm T 0 (j + 1))) → mj_fr 220 13 h0 h → mj_wp G MX5_oneMinute d 0 0 4 [some (.ref (G.1 + 220)), some (.int (inF T (j + 1))), some (.int (nI (j + 1))), o3, o4, o5, o6] [] h 0 0 (fun v h' => v = none ∧ YS G h' (u2 τ 0 (mn n T)) ∧ mj_fr 220 13 h0 h')) (q : ¬ (inF T j = 0 ∨ T (27 + j) ≤ T (41 + j))) {h : mj_H} {o6 : Option Value} (hY : YS G h (u2 τ 0 (pm T 0 j))) (hF : mj_fr 220 13 h0 h) : mj_wp G MX5_oneMinute d 0 0 78 [some (.ref (G.1 + 220)), some (.int (inF T j)), some (.int (nI j)), some (.int (T (34 + j))), some (.int (fl T j)), some (.int 1), o6] [] h 0 0 (fun v h' => v = none ∧ YS G h' (u2 τ 0 (mn n T)) ∧ mj_fr 220 13 h0 h') := by
  have h7 : n ≤ 7 := hok.1.2.1
  obtain ⟨y0, y1, y2, y3, y4, y5, y6, y7, y8, y9, y10, y11, y12⟩ := id hY
  replace y4 : h.2 224 = mj_ar 0 48 (pm T 0 j) := y4
  refine s_aload_n (n := 79) (i := 0) dX5_oneMinute_78 rfl rfl rfl ?_
  refine gf_X5_19 (n := 82) rfl dX5_oneMinute_79 rfl (by assumption) (by rfl) ?_
  refine s_bipush (n := 84) (v := 41) dX5_oneMinute_82 rfl (by decide) ?_
  refine s_iload_n (n := 85) (i := 2) dX5_oneMinute_84 rfl rfl rfl ?_
  refine s_iadd (n := 86) dX5_oneMinute_85 rfl ?_
  refine s_dup2 (n := 87) dX5_oneMinute_86 rfl rfl rfl ?_
  refine s_iald (n := 88) dX5_oneMinute_87 rfl (by assumption) (mj_ixa (o := 41) rfl (by omega)) ?_
  rw [pm_same (by omega) (by omega)]
  refine s_iload (n := 90) dX5_oneMinute_88 rfl rfl ?_
  refine s_if_eq (n := 93) (tgt := 97) dX5_oneMinute_90 rfl rfl (fun b90 => ?_) (fun b90 => ?_)
  · exact absurd b90 (by decide)
  · refine s_iconst (n := 94) (v := 1) dX5_oneMinute_93 rfl (by decide) ?_
    refine s_goto (tgt := 98) dX5_oneMinute_94 rfl ?_
    refine s_iadd (n := 99) dX5_oneMinute_98 rfl ?_
    refine s_iast (n := 100) dX5_oneMinute_99 rfl (by assumption) (mj_ixa (o := 41) rfl (by omega)) ?_
    refine YA_0 hY (fun h1 hY1 hF1 => ?_)
    rw [u2_u2] at hY1
    obtain ⟨y0, y1, y2, y3, y4, y5, y6, y7, y8, y9, y10, y11, y12⟩ := id hY1
    replace y4 : h1.2 224 = mj_ar 0 48 (upd (pm T 0 j) (41 + j) (T (41 + j) + 1)) := y4
    have e13 : (upd (pm T 0 j) (41 + j) (T (41 + j) + 1)) (13 + j) = T (13 + j) := by rw [up_ne (by omega), pm_same (by omega) (by omega)]
    have e20 : (upd (pm T 0 j) (41 + j) (T (41 + j) + 1)) (20 + j) = T (20 + j) := by rw [up_ne (by omega), pm_same (by omega) (by omega)]
    have e6 : (upd (pm T 0 j) (41 + j) (T (41 + j) + 1)) (6 + j) = T (6 + j) := by rw [up_ne (by omega), pm_same (by omega) (by omega)]
    have e4 : (upd (pm T 0 j) (41 + j) (T (41 + j) + 1)) 4 = T 4 := by rw [up_ne (by omega), pm_same (by omega) (by omega)]
    have e3 : (upd (pm T 0 j) (41 + j) (T (41 + j) + 1)) 3 = T 3 := by rw [up_ne (by omega), pm_same (by omega) (by omega)]
    have esh : shT (upd (pm T 0 j) (41 + j) (T (41 + j) + 1)) j = shT T j := shT_eq e3 e4 e6 e13 e20
    refine s_iload_n (n := 101) (i := 3) dX5_oneMinute_100 rfl rfl rfl ?_
    refine s_iload (n := 103) dX5_oneMinute_101 rfl rfl ?_
    refine s_isub (n := 104) dX5_oneMinute_103 rfl ?_
    refine s_iload_n (n := 105) (i := 1) dX5_oneMinute_104 rfl rfl rfl ?_
    refine s_iadd (n := 106) dX5_oneMinute_105 rfl ?_
    refine s_iload (n := 108) dX5_oneMinute_106 rfl rfl ?_
    refine s_if_eq (n := 111) (tgt := 115) dX5_oneMinute_108 rfl rfl (fun b108 => ?_) (fun b108 => ?_)
    · exact absurd b108 (by decide)
    · refine s_iconst (n := 112) (v := 1) dX5_oneMinute_111 rfl (by decide) ?_
      refine s_goto (tgt := 116) dX5_oneMinute_112 rfl ?_
      refine s_isub (n := 117) dX5_oneMinute_116 rfl ?_
      refine s_aload_n (n := 118) (i := 0) dX5_oneMinute_117 rfl rfl rfl ?_
      refine s_iload_n (n := 119) (i := 2) dX5_oneMinute_118 rfl rfl rfl ?_
      refine s_v1 (M' := MX5_shedsOf) (n := 122) (ci := 5) dX5_oneMinute_119 rfl wd_X5_143 okX5_shedsOf rfl rfl (by omega) ⟨Nat.le_refl _, Nat.le_refl _⟩ (by assumption) (y_sheds (d := d - 1) hY1 (j := j) (by omega) (by show 0 < (upd (pm T 0 j) (41 + j) (T (41 + j) + 1)) (20 + j); rw [e20]; exact (hok.1.2.2 j hj).1) (by show (upd (pm T 0 j) (41 + j) (T (41 + j) + 1)) (6 + j) = 1 ∨ (upd (pm T 0 j) (41 + j) (T (41 + j) + 1)) (6 + j) = 2 ∨ (upd (pm T 0 j) (41 + j) (T (41 + j) + 1)) (6 + j) = 3 ∨ (upd (pm T 0 j) (41 + j) (T (41 + j) + 1)) (6 + j) = 4 ∨ (upd (pm T 0 j) (41 + j) (T (41 + j) + 1)) (6 + j) = 5; rw [e6]; exact (hok.1.2.2 j hj).2) (by show 0 ≤ (upd (pm T 0 j) (41 + j) (T (41 + j) + 1)) (13 + j); rw [e13]; exact (hok.2.2 j hj).1) (by omega)) ?_
      rintro v119 hh119 ⟨rfl, rfl⟩
      rw [show shT (u2 τ 0 (upd (pm T 0 j) (41 + j) (T (41 + j) + 1)) 0) j = shT T j from esh]
      refine s_iadd (n := 123) dX5_oneMinute_122 rfl ?_
      refine s_istore (n := 125) (i := 6) (ls' := [_, _, _, _, _, _, _]) dX5_oneMinute_123 rfl rfl rfl rfl ?_
      refine s_aload_n (n := 126) (i := 0) dX5_oneMinute_125 rfl rfl rfl ?_
      refine gf_X5_19 (n := 129) rfl dX5_oneMinute_126 rfl (by assumption) (by rfl) ?_
      refine s_bipush (n := 131) (v := 34) dX5_oneMinute_129 rfl (by decide) ?_
      refine s_iload_n (n := 132) (i := 2) dX5_oneMinute_131 rfl rfl rfl ?_
      refine s_iadd (n := 133) dX5_oneMinute_132 rfl ?_
      refine s_iload (n := 135) dX5_oneMinute_133 rfl rfl ?_
      refine s_sipush (n := 138) (v := 999) dX5_oneMinute_135 rfl (by decide) ?_
      refine s_icmp_le (n := 141) (tgt := 147) dX5_oneMinute_138 rfl rfl (fun b138 => ?_) (fun b138 => ?_)
      · have hfin : cap9 (T (34 + j) - fl T j + inF T j - 1 + shT T j) = _ := (cap9_le).1 b138
        refine s_iload (n := 149) dX5_oneMinute_147 rfl rfl ?_
        refine s_iast (n := 150) dX5_oneMinute_149 rfl (by assumption) (mj_ixa (o := 34) rfl (by omega)) ?_
        refine YA_0 hY1 (fun h2 hY2 hF2 => ?_)
        rw [u2_u2] at hY2
        have e : ∀ x, cap9 (T (34 + j) - fl T j + inF T j - 1 + shT T j) = x → upd (upd (pm T 0 j) (41 + j) (T (41 + j) + 1)) (34 + j) x = pm T 0 (j + 1) := by
          intro x hx
          rw [← hx, ← (gn_1 q).1, ← (gn_1 q).2]
          exact pm_s (by omega)
        have hY3 : YS G h2 (u2 τ 0 (pm T 0 (j + 1))) := (e _ hfin) ▸ hY2
        refine s_iload (n := 152) dX5_oneMinute_150 rfl rfl ?_
        refine s_istore_n (n := 153) (i := 1) (ls' := [_, _, _, _, _, _, _]) dX5_oneMinute_152 rfl rfl rfl rfl rfl ?_
        refine s_iinc (n := 156) (v := _ + 1) (ls' := [_, _, _, _, _, _, _]) dX5_oneMinute_153 rfl rfl rfl rfl rfl ?_
        refine s_goto (tgt := 4) dX5_oneMinute_156 rfl ?_
        rw [nI_1]
        exact ih _ _ _ _ _ hY3 (fr_tr hF (fr_tr hF1 hF2))
      · have hfin : cap9 (T (34 + j) - fl T j + inF T j - 1 + shT T j) = _ := (cap9_le).2 b138
        refine s_sipush (n := 144) (v := 999) dX5_oneMinute_141 rfl (by decide) ?_
        refine s_goto (tgt := 149) dX5_oneMinute_144 rfl ?_
        refine s_iast (n := 150) dX5_oneMinute_149 rfl (by assumption) (mj_ixa (o := 34) rfl (by omega)) ?_
        refine YA_0 hY1 (fun h2 hY2 hF2 => ?_)
        rw [u2_u2] at hY2
        have e : ∀ x, cap9 (T (34 + j) - fl T j + inF T j - 1 + shT T j) = x → upd (upd (pm T 0 j) (41 + j) (T (41 + j) + 1)) (34 + j) x = pm T 0 (j + 1) := by
          intro x hx
          rw [← hx, ← (gn_1 q).1, ← (gn_1 q).2]
          exact pm_s (by omega)
        have hY3 : YS G h2 (u2 τ 0 (pm T 0 (j + 1))) := (e _ hfin) ▸ hY2
        refine s_iload (n := 152) dX5_oneMinute_150 rfl rfl ?_
        refine s_istore_n (n := 153) (i := 1) (ls' := [_, _, _, _, _, _, _]) dX5_oneMinute_152 rfl rfl rfl rfl rfl ?_
        refine s_iinc (n := 156) (v := _ + 1) (ls' := [_, _, _, _, _, _, _]) dX5_oneMinute_153 rfl rfl rfl rfl rfl ?_
        refine s_goto (tgt := 4) dX5_oneMinute_156 rfl ?_
        rw [nI_1]
        exact ih _ _ _ _ _ hY3 (fr_tr hF (fr_tr hF1 hF2))
set_option maxRecDepth 100000 in
set_option maxHeartbeats 4000000 in
theorem l_om {G : mj_G} {h0 : mj_H} {d n : Nat} {τ : Nat → Nat → Int32} {T : Nat → Int32} (hok : okM n T) (hd : 2 ≤ d) : ∀ (r j : Nat), j + r = n → ∀ (h : mj_H) (o3 o4 o5 o6 : Option Value), YS G h (u2 τ 0 (pm T 0 j)) → mj_fr 220 13 h0 h → mj_wp G MX5_oneMinute d 0 0 4 [some (.ref (G.1 + 220)), some (.int (inF T j)), some (.int (nI j)), o3, o4, o5, o6] [] h 0 0 (fun v h' => v = none ∧ YS G h' (u2 τ 0 (mn n T)) ∧ mj_fr 220 13 h0 h') := by
  have h7 : n ≤ 7 := hok.1.2.1
  intro r
  induction r with
  | zero =>
    intro j hj h o3 o4 o5 o6 hY hF
    have hi8 : j = n := by omega
    subst hi8
    obtain ⟨y0, y1, y2, y3, y4, y5, y6, y7, y8, y9, y10, y11, y12⟩ := id hY
    replace y4 : h.2 224 = mj_ar 0 48 (pm T 0 j) := y4
    refine s_iload_n (n := 5) (i := 2) dX5_oneMinute_4 rfl rfl rfl ?_
    refine s_aload_n (n := 6) (i := 0) dX5_oneMinute_5 rfl rfl rfl ?_
    refine gf_X5_19 (n := 9) rfl dX5_oneMinute_6 rfl (by assumption) (by rfl) ?_
    refine s_iconst (n := 10) (v := 2) dX5_oneMinute_9 rfl (by decide) ?_
    refine s_iald (n := 11) dX5_oneMinute_10 rfl (by assumption) (mj_ixe (j := 2) rfl (by omega)) ?_
    rw [pm_same (by omega) (by omega), hok.1.1]
    refine s_icmp_ge (n := 14) (tgt := 159) dX5_oneMinute_11 rfl rfl (fun b11 => ?_) (fun b11 => ?_)
    · refine s_aload_n (n := 160) (i := 0) dX5_oneMinute_159 rfl rfl rfl ?_
      refine gf_X5_19 (n := 163) rfl dX5_oneMinute_160 rfl (by assumption) (by rfl) ?_
      refine s_iconst (n := 164) (v := 5) dX5_oneMinute_163 rfl (by decide) ?_
      refine s_iald (n := 165) dX5_oneMinute_164 rfl (by assumption) (mj_ixe (j := 5) rfl (by omega)) ?_
      rw [pm_same (by omega) (by omega)]
      refine s_iload_n (n := 166) (i := 1) dX5_oneMinute_165 rfl rfl rfl ?_
      refine s_iadd (n := 167) dX5_oneMinute_166 rfl ?_
      refine s_istore_n (n := 168) (i := 2) (ls' := [_, _, _, _, _, _, _]) dX5_oneMinute_167 rfl rfl rfl rfl rfl ?_
      refine s_aload_n (n := 169) (i := 0) dX5_oneMinute_168 rfl rfl rfl ?_
      refine gf_X5_19 (n := 172) rfl dX5_oneMinute_169 rfl (by assumption) (by rfl) ?_
      refine s_iconst (n := 173) (v := 5) dX5_oneMinute_172 rfl (by decide) ?_
      refine s_iload_n (n := 174) (i := 2) dX5_oneMinute_173 rfl rfl rfl ?_
      refine s_sipush (n := 177) (v := 9999) dX5_oneMinute_174 rfl (by decide) ?_
      refine s_icmp_le (n := 180) (tgt := 186) dX5_oneMinute_177 rfl rfl (fun b177 => ?_) (fun b177 => ?_)
      · have hfin : pondN T j = T 5 + inF T j := (capP_le).1 b177
        refine s_iload_n (n := 187) (i := 2) dX5_oneMinute_186 rfl rfl rfl ?_
        refine s_iast (n := 188) dX5_oneMinute_187 rfl (by assumption) (mj_ixe (j := 5) rfl (by omega)) ?_
        rw [← hfin]
        refine YA_0 hY (fun h1 hY1 hF1 => ?_)
        rw [u2_u2] at hY1
        obtain ⟨y0, y1, y2, y3, y4, y5, y6, y7, y8, y9, y10, y11, y12⟩ := id hY1
        replace y4 : h1.2 224 = mj_ar 0 48 (upd (pm T 0 j) 5 (pondN T j)) := y4
        refine s_aload_n (n := 189) (i := 0) dX5_oneMinute_188 rfl rfl rfl ?_
        refine gf_X5_19 (n := 192) rfl dX5_oneMinute_189 rfl (by assumption) (by rfl) ?_
        refine s_iconst (n := 193) (v := 3) dX5_oneMinute_192 rfl (by decide) ?_
        refine s_dup2 (n := 194) dX5_oneMinute_193 rfl rfl rfl ?_
        refine s_iald (n := 195) dX5_oneMinute_194 rfl (by assumption) (mj_ixe (j := 3) rfl (by omega)) ?_
        refine s_iconst (n := 196) (v := 1) dX5_oneMinute_195 rfl (by decide) ?_
        refine s_iadd (n := 197) dX5_oneMinute_196 rfl ?_
        refine s_iast (n := 198) dX5_oneMinute_197 rfl (by assumption) (mj_ixe (j := 3) rfl (by omega)) ?_
        refine YA_0 hY1 (fun h2 hY2 hF2 => ?_)
        rw [u2_u2] at hY2
        rw [show (upd (pm T 0 j) 5 (pondN T j)) 3 = T 3 from by rw [up_ne (by omega), pm_same (by omega) (by omega)]] at hY2
        refine s_return dX5_oneMinute_198 rfl (Nat.le_refl _) (Nat.le_refl _) ?_
        exact ⟨rfl, hY2, fr_tr hF (fr_tr hF1 hF2)⟩
      · have hfin : pondN T j = 9999 := (capP_le).2 b177
        refine s_sipush (n := 183) (v := 9999) dX5_oneMinute_180 rfl (by decide) ?_
        refine s_goto (tgt := 187) dX5_oneMinute_183 rfl ?_
        refine s_iast (n := 188) dX5_oneMinute_187 rfl (by assumption) (mj_ixe (j := 5) rfl (by omega)) ?_
        rw [← hfin]
        refine YA_0 hY (fun h1 hY1 hF1 => ?_)
        rw [u2_u2] at hY1
        obtain ⟨y0, y1, y2, y3, y4, y5, y6, y7, y8, y9, y10, y11, y12⟩ := id hY1
        replace y4 : h1.2 224 = mj_ar 0 48 (upd (pm T 0 j) 5 (pondN T j)) := y4
        refine s_aload_n (n := 189) (i := 0) dX5_oneMinute_188 rfl rfl rfl ?_
        refine gf_X5_19 (n := 192) rfl dX5_oneMinute_189 rfl (by assumption) (by rfl) ?_
        refine s_iconst (n := 193) (v := 3) dX5_oneMinute_192 rfl (by decide) ?_
        refine s_dup2 (n := 194) dX5_oneMinute_193 rfl rfl rfl ?_
        refine s_iald (n := 195) dX5_oneMinute_194 rfl (by assumption) (mj_ixe (j := 3) rfl (by omega)) ?_
        refine s_iconst (n := 196) (v := 1) dX5_oneMinute_195 rfl (by decide) ?_
        refine s_iadd (n := 197) dX5_oneMinute_196 rfl ?_
        refine s_iast (n := 198) dX5_oneMinute_197 rfl (by assumption) (mj_ixe (j := 3) rfl (by omega)) ?_
        refine YA_0 hY1 (fun h2 hY2 hF2 => ?_)
        rw [u2_u2] at hY2
        rw [show (upd (pm T 0 j) 5 (pondN T j)) 3 = T 3 from by rw [up_ne (by omega), pm_same (by omega) (by omega)]] at hY2
        refine s_return dX5_oneMinute_198 rfl (Nat.le_refl _) (Nat.le_refl _) ?_
        exact ⟨rfl, hY2, fr_tr hF (fr_tr hF1 hF2)⟩
    · exact absurd (Int32.le_refl _) b11
  | succ r ih =>
    intro j hj h o3 o4 o5 o6 hY hF
    obtain ⟨y0, y1, y2, y3, y4, y5, y6, y7, y8, y9, y10, y11, y12⟩ := id hY
    replace y4 : h.2 224 = mj_ar 0 48 (pm T 0 j) := y4
    have hi0 : 0 ≤ inF T j := by
      unfold inF
      split
      · exact Int32.le_refl _
      · exact fl_pos hok.2.1 (hok.2.2 (j - 1) (by omega)).2
    have hcut : mj_wp G MX5_oneMinute d 0 0 46 [some (.ref (G.1 + 220)), some (.int (inF T j)), some (.int (nI j)), some (.int (T (34 + j))), some (.int (fl T j)), o5, o6] [] h 0 0 (fun v h' => v = none ∧ YS G h' (u2 τ 0 (mn n T)) ∧ mj_fr 220 13 h0 h') := by
      refine s_iload_n (n := 47) (i := 1) dX5_oneMinute_46 rfl rfl rfl ?_
      refine s_if_le (n := 50) (tgt := 75) dX5_oneMinute_47 rfl rfl (fun b47 => ?_) (fun b47 => ?_)
      · refine s_iconst (n := 76) (v := 0) dX5_oneMinute_75 rfl (by decide) ?_
        refine s_istore (n := 78) (i := 5) (ls' := [_, _, _, _, _, _, _]) dX5_oneMinute_76 rfl rfl rfl rfl ?_
        first | exact l_om78_1 hok hd (by omega) (fun h o3 o4 o5 o6 => ih (j + 1) (by omega) h o3 o4 o5 o6) (by rintro (q | q) <;> simp only [i_le, i_lt] at * <;> first | omega | (rw [q] at *; omega)) hY hF | exact l_om78_0 hok hd (by omega) (fun h o3 o4 o5 o6 => ih (j + 1) (by omega) h o3 o4 o5 o6) (Or.inr (by assumption)) hY hF | exact l_om78_0 hok hd (by omega) (fun h o3 o4 o5 o6 => ih (j + 1) (by omega) h o3 o4 o5 o6) (Or.inl (Int32.le_antisymm (by assumption) hi0)) hY hF
      · refine s_aload_n (n := 51) (i := 0) dX5_oneMinute_50 rfl rfl rfl ?_
        refine gf_X5_19 (n := 54) rfl dX5_oneMinute_51 rfl (by assumption) (by rfl) ?_
        refine s_bipush (n := 56) (v := 41) dX5_oneMinute_54 rfl (by decide) ?_
        refine s_iload_n (n := 57) (i := 2) dX5_oneMinute_56 rfl rfl rfl ?_
        refine s_iadd (n := 58) dX5_oneMinute_57 rfl ?_
        refine s_iald (n := 59) dX5_oneMinute_58 rfl (by assumption) (mj_ixa (o := 41) rfl (by omega)) ?_
        refine s_aload_n (n := 60) (i := 0) dX5_oneMinute_59 rfl rfl rfl ?_
        refine gf_X5_19 (n := 63) rfl dX5_oneMinute_60 rfl (by assumption) (by rfl) ?_
        refine s_bipush (n := 65) (v := 27) dX5_oneMinute_63 rfl (by decide) ?_
        refine s_iload_n (n := 66) (i := 2) dX5_oneMinute_65 rfl rfl rfl ?_
        refine s_iadd (n := 67) dX5_oneMinute_66 rfl ?_
        refine s_iald (n := 68) dX5_oneMinute_67 rfl (by assumption) (mj_ixa (o := 27) rfl (by omega)) ?_
        rw [pm_same (by omega) (by omega), pm_same (by omega) (by omega)]
        refine s_icmp_ge (n := 71) (tgt := 75) dX5_oneMinute_68 rfl rfl (fun b68 => ?_) (fun b68 => ?_)
        · refine s_iconst (n := 76) (v := 0) dX5_oneMinute_75 rfl (by decide) ?_
          refine s_istore (n := 78) (i := 5) (ls' := [_, _, _, _, _, _, _]) dX5_oneMinute_76 rfl rfl rfl rfl ?_
          first | exact l_om78_1 hok hd (by omega) (fun h o3 o4 o5 o6 => ih (j + 1) (by omega) h o3 o4 o5 o6) (by rintro (q | q) <;> simp only [i_le, i_lt] at * <;> first | omega | (rw [q] at *; omega)) hY hF | exact l_om78_0 hok hd (by omega) (fun h o3 o4 o5 o6 => ih (j + 1) (by omega) h o3 o4 o5 o6) (Or.inr (by assumption)) hY hF | exact l_om78_0 hok hd (by omega) (fun h o3 o4 o5 o6 => ih (j + 1) (by omega) h o3 o4 o5 o6) (Or.inl (Int32.le_antisymm (by assumption) hi0)) hY hF
        · refine s_iconst (n := 72) (v := 1) dX5_oneMinute_71 rfl (by decide) ?_
          refine s_goto (tgt := 76) dX5_oneMinute_72 rfl ?_
          refine s_istore (n := 78) (i := 5) (ls' := [_, _, _, _, _, _, _]) dX5_oneMinute_76 rfl rfl rfl rfl ?_
          first | exact l_om78_1 hok hd (by omega) (fun h o3 o4 o5 o6 => ih (j + 1) (by omega) h o3 o4 o5 o6) (by rintro (q | q) <;> simp only [i_le, i_lt] at * <;> first | omega | (rw [q] at *; omega)) hY hF | exact l_om78_0 hok hd (by omega) (fun h o3 o4 o5 o6 => ih (j + 1) (by omega) h o3 o4 o5 o6) (Or.inr (by assumption)) hY hF | exact l_om78_0 hok hd (by omega) (fun h o3 o4 o5 o6 => ih (j + 1) (by omega) h o3 o4 o5 o6) (Or.inl (Int32.le_antisymm (by assumption) hi0)) hY hF
    refine s_iload_n (n := 5) (i := 2) dX5_oneMinute_4 rfl rfl rfl ?_
    refine s_aload_n (n := 6) (i := 0) dX5_oneMinute_5 rfl rfl rfl ?_
    refine gf_X5_19 (n := 9) rfl dX5_oneMinute_6 rfl (by assumption) (by rfl) ?_
    refine s_iconst (n := 10) (v := 2) dX5_oneMinute_9 rfl (by decide) ?_
    refine s_iald (n := 11) dX5_oneMinute_10 rfl (by assumption) (mj_ixe (j := 2) rfl (by omega)) ?_
    rw [pm_same (by omega) (by omega), hok.1.1]
    refine s_icmp_ge (n := 14) (tgt := 159) dX5_oneMinute_11 rfl rfl (fun b11 => ?_) (fun b11 => ?_)
    · exact absurd ((nI_leE (by omega) (by omega)).mp b11) (by omega)
    · refine s_aload_n (n := 15) (i := 0) dX5_oneMinute_14 rfl rfl rfl ?_
      refine gf_X5_19 (n := 18) rfl dX5_oneMinute_15 rfl (by assumption) (by rfl) ?_
      refine s_bipush (n := 20) (v := 34) dX5_oneMinute_18 rfl (by decide) ?_
      refine s_iload_n (n := 21) (i := 2) dX5_oneMinute_20 rfl rfl rfl ?_
      refine s_iadd (n := 22) dX5_oneMinute_21 rfl ?_
      refine s_iald (n := 23) dX5_oneMinute_22 rfl (by assumption) (mj_ixa (o := 34) rfl (by omega)) ?_
      rw [pm_same (by omega) (by omega)]
      refine s_istore_n (n := 24) (i := 3) (ls' := [_, _, _, _, _, _, _]) dX5_oneMinute_23 rfl rfl rfl rfl rfl ?_
      refine s_iload_n (n := 25) (i := 3) dX5_oneMinute_24 rfl rfl rfl ?_
      refine s_aload_n (n := 26) (i := 0) dX5_oneMinute_25 rfl rfl rfl ?_
      refine gf_X5_19 (n := 29) rfl dX5_oneMinute_26 rfl (by assumption) (by rfl) ?_
      refine s_iconst (n := 30) (v := 0) dX5_oneMinute_29 rfl (by decide) ?_
      refine s_iald (n := 31) dX5_oneMinute_30 rfl (by assumption) (mj_ixe (j := 0) rfl (by omega)) ?_
      rw [pm_same (by omega) (by omega)]
      refine s_icmp_ge (n := 34) (tgt := 38) dX5_oneMinute_31 rfl rfl (fun b31 => ?_) (fun b31 => ?_)
      · have hfl : fl T j = T 0 := if_neg (Int32.not_lt.mpr b31)
        refine s_aload_n (n := 39) (i := 0) dX5_oneMinute_38 rfl rfl rfl ?_
        refine gf_X5_19 (n := 42) rfl dX5_oneMinute_39 rfl (by assumption) (by rfl) ?_
        refine s_iconst (n := 43) (v := 0) dX5_oneMinute_42 rfl (by decide) ?_
        refine s_iald (n := 44) dX5_oneMinute_43 rfl (by assumption) (mj_ixe (j := 0) rfl (by omega)) ?_
        refine s_istore (n := 46) (i := 4) (ls' := [_, _, _, _, _, _, _]) dX5_oneMinute_44 rfl rfl rfl rfl ?_
        rw [hfl] at hcut
        first | exact hcut | (rw [show pm T 0 j 0 = T 0 from pm_same (by omega) (by omega)]; exact hcut)
      · have hfl : fl T j = T (34 + j) := if_pos (Int32.not_le.mp b31)
        refine s_iload_n (n := 35) (i := 3) dX5_oneMinute_34 rfl rfl rfl ?_
        refine s_goto (tgt := 44) dX5_oneMinute_35 rfl ?_
        refine s_istore (n := 46) (i := 4) (ls' := [_, _, _, _, _, _, _]) dX5_oneMinute_44 rfl rfl rfl rfl ?_
        rw [hfl] at hcut
        first | exact hcut | (rw [show pm T 0 j 0 = T 0 from pm_same (by omega) (by omega)]; exact hcut)
set_option maxRecDepth 100000 in
set_option maxHeartbeats 4000000 in
theorem y_oneMinute {G : mj_G} {h : mj_H} {d : Nat} {τ : Nat → Nat → Int32} (hY : YS G h τ) {n : Nat} (hok : okM n (τ 0)) (hd : 2 ≤ d) : mj_con G MX5_oneMinute d 0 0 [.ref (G.1 + 220)] h (fun v h' => v = none ∧ YS G h' (u2 τ 0 (mn n (τ 0))) ∧ mj_fr 220 13 h h') := by
  refine mj_conV okX5_oneMinute (ls := [some (.ref (G.1 + 220)), none, none, none, none, none, none]) rfl rfl ?_
  obtain ⟨y0, y1, y2, y3, y4, y5, y6, y7, y8, y9, y10, y11, y12⟩ := id hY
  refine s_iconst (n := 1) (v := 0) dX5_oneMinute_0 rfl (by decide) ?_
  refine s_istore_n (n := 2) (i := 1) (ls' := [_, _, _, _, _, _, _]) dX5_oneMinute_1 rfl rfl rfl rfl rfl ?_
  refine s_iconst (n := 3) (v := 0) dX5_oneMinute_2 rfl (by decide) ?_
  refine s_istore_n (n := 4) (i := 2) (ls' := [_, _, _, _, _, _, _]) dX5_oneMinute_3 rfl rfl rfl rfl rfl ?_
  refine l_om hok (by omega) n 0 (by omega) _ _ _ _ _ ?_ fr_rf
  rw [show pm (τ 0) 0 0 = τ 0 from by funext k; unfold pm; rw [if_neg (by omega), if_neg (by omega)], u2_self]
  exact hY
