def cap9 (x : Int32) : Int32 := if x < 999 then x else 999
def capP (x : Int32) : Int32 := if x < 9999 then x else 9999
/-- what FLOWS to gutter j -/
def inF (T : Nat → Int32) (j : Nat) : Int32 := if j = 0 then 0 else fl T (j - 1)
/-- what is in gutter j a minute later -/
def gn (T : Nat → Int32) (j : Nat) : Int32 := cap9 (T (34 + j) - fl T j + bbA T j (inF T j) + shT T j)
def cn (T : Nat → Int32) (j : Nat) : Int32 := if inF T j = 0 ∨ T (27 + j) ≤ T (41 + j) then T (41 + j) else T (41 + j) + 1
/-- houses lo .. hi have had their minute -/
def pm (T : Nat → Int32) (lo hi : Nat) : Nat → Int32 := fun k => if 34 + lo ≤ k ∧ k < 34 + hi then gn T (k - 34) else if 41 + lo ≤ k ∧ k < 41 + hi then cn T (k - 41) else T k
def pondN (T : Nat → Int32) (n : Nat) : Int32 := capP (T 5 + (if n = 0 then 0 else fl T (n - 1)))
/-- a MINUTE of a street of n houses -/
def mn (n : Nat) (T : Nat → Int32) : Nat → Int32 := upd (upd (pm T 0 n) 5 (pondN T n)) 3 (T 3 + 1)
theorem pm_same {T : Nat → Int32} {lo hi k : Nat} (hh : hi ≤ 7) (h : k < 34 + lo ∨ (41 ≤ k ∧ k < 41 + lo) ∨ (34 + hi ≤ k ∧ k < 41) ∨ 41 + hi ≤ k) : pm T lo hi k = T k := by
  unfold pm
  rw [if_neg (by omega), if_neg (by omega)]
theorem pm_g {T : Nat → Int32} {lo hi j : Nat} (h1 : lo ≤ j) (h2 : j < hi) : pm T lo hi (34 + j) = gn T j := by
  unfold pm
  rw [if_pos (by omega), Nat.add_sub_cancel_left]
theorem pm_c {T : Nat → Int32} {lo hi j : Nat} (hh : hi ≤ 7) (h1 : lo ≤ j) (h2 : j < hi) : pm T lo hi (41 + j) = cn T j := by
  unfold pm
  rw [if_neg (by omega), if_pos (by omega), Nat.add_sub_cancel_left]
/-- a street that is T but for what lies behind house j -/
def ag (S T : Nat → Int32) (j : Nat) : Prop := (∀ k, k < 34 + (j + 1) → k ≠ 5 → S k = T k) ∧ ∀ k, 41 ≤ k → k < 41 + (j + 1) → S k = T k
theorem ag_fl {S T : Nat → Int32} {j i : Nat} (h : ag S T j) (hi : i ≤ j) : fl S i = fl T i := by
  unfold fl
  rw [h.1 (34 + i) (by omega) (by omega), h.1 0 (by omega) (by omega)]
theorem ag_sh {S T : Nat → Int32} {j : Nat} (h : ag S T j) (hj : j < 7) : shT S j = shT T j := by
  unfold shT hs
  simp only [h.1 4 (by omega) (by omega), h.1 3 (by omega) (by omega), h.1 (6 + j) (by omega) (by omega), h.1 (13 + j) (by omega) (by omega), h.1 (20 + j) (by omega) (by omega)]
theorem ag_bb {S T : Nat → Int32} {j : Nat} {f : Int32} (h : ag S T j) (hj : j < 7) : bbA S j f = bbA T j f := by
  unfold bbA
  rw [h.1 (27 + j) (by omega) (by omega), h.2 (41 + j) (by omega) (by omega)]
theorem ag_pm {T : Nat → Int32} {n j : Nat} {q : Int32} (hn : n ≤ 7) (hj : j < n) : ag (upd (pm T (j + 1) n) 5 q) T j := by
  refine ⟨fun k h1 h2 => ?_, fun k h1 h2 => ?_⟩
  · rw [up_ne h2, pm_same hn (by omega)]
  · rw [up_ne (by omega), pm_same hn (by omega)]
theorem ag_bbT {S T : Nat → Int32} {j : Nat} {f : Int32} (h : ag S T j) (hj : j < 7) : (∀ k, k < 34 + (j + 1) → k ≠ 5 → bbT S j f k = T k) ∧ shT (bbT S j f) j = shT T j := by
  have a : ∀ k, k < 34 + (j + 1) → k ≠ 5 → bbT S j f k = T k := by
    intro k h1 h2
    unfold bbT
    split
    · exact h.1 k h1 h2
    · rw [up_ne (by omega)]; exact h.1 k h1 h2
  refine ⟨a, ?_⟩
  unfold shT hs
  simp only [a 4 (by omega) (by omega), a 3 (by omega) (by omega), a (6 + j) (by omega) (by omega), a (13 + j) (by omega) (by omega), a (20 + j) (by omega) (by omega)]
theorem step_c {T : Nat → Int32} {n j : Nat} {q f : Int32} (hn : n ≤ 7) (hj : j < n) (hf : f = inF T j) : upd (bbT (upd (pm T (j + 1) n) 5 q) j f) (34 + j) (gn T j) = upd (pm T j n) 5 q := by
  funext k
  have hag := ag_pm (T := T) (q := q) hn hj
  subst hf
  by_cases k34 : k = 34 + j
  · subst k34
    rw [up_eq, up_ne (by omega), pm_g (by omega) hj]
  · rw [up_ne k34]
    by_cases k5 : k = 5
    · subst k5
      unfold bbT
      rw [up_eq]
      split
      · rw [up_eq]
      · rw [up_ne (by omega), up_eq]
    · rw [up_ne k5]
      unfold bbT
      rw [hag.1 (27 + j) (by omega) (by omega), hag.2 (41 + j) (by omega) (by omega)]
      by_cases k41 : k = 41 + j
      · subst k41
        rw [pm_c hn (by omega) hj]
        unfold cn
        split
        · exact hag.2 (41 + j) (by omega) (by omega)
        · rw [up_eq]
      · have e : ∀ (c : Prop) [Decidable c], (if c then upd (pm T (j + 1) n) 5 q else upd (upd (pm T (j + 1) n) 5 q) (41 + j) (T (41 + j) + 1)) k = pm T (j + 1) n k := by
          intro c _
          split
          · rw [up_ne k5]
          · rw [up_ne k41, up_ne k5]
        rw [e]
        unfold pm
        by_cases c1 : 34 + (j + 1) ≤ k ∧ k < 34 + n
        · rw [if_pos c1, if_pos (by omega)]
        · rw [if_neg c1, if_neg (c := 34 + j ≤ k ∧ k < 34 + n) (by omega)]
          by_cases c2 : 41 + (j + 1) ≤ k ∧ k < 41 + n
          · rw [if_pos c2, if_pos (by omega)]
          · rw [if_neg c2, if_neg (by omega)]
/-- what each house is, as the text tells -/
def okK (n : Nat) (T : Nat → Int32) : Prop := T 2 = nI n ∧ n ≤ 7 ∧ ∀ j, j < n → 0 < T (20 + j) ∧ (T (6 + j) = 1 ∨ T (6 + j) = 2 ∨ T (6 + j) = 3 ∨ T (6 + j) = 4 ∨ T (6 + j) = 5)
theorem nI_lt0 {j : Nat} (h : j < 2147483648) : ¬ nI j < 0 := nI_pos h
theorem nI_m1 : nI 0 - 1 < 0 := by decide
set_option maxRecDepth 100000 in
set_option maxHeartbeats 4000000 in
theorem l_passMinute {G : mj_G} {h0 : mj_H} {d p n : Nat} {T : Nat → Int32} (hok : okK n T) (hd : 3 ≤ d) : ∀ (j : Nat), j ≤ n → ∀ (h : mj_H) (y : Int32) (l3 l4 : Option Value) (x : Int32), mj_St G h p (upd (pm T j n) 5 (pondN T n)) → mj_fr p 7 h0 h → x = nI j - 1 → mj_wp G MX2_passMinute d 0 0 45 [some (.ref (G.1 + p)), some (.int y), some (.int x), l3, l4] [] h 0 0 (fun v h' => v = none ∧ mj_St G h' p (mn n T) ∧ mj_fr p 7 h0 h') := by
  have hn7 := hok.2.1
  intro j
  induction j with
  | zero =>
    intro _ h y l3 l4 x hS0 hF hx
    subst hx
    obtain ⟨c0, c1, c2, c3, c4, c5, c6⟩ := id hS0
    refine s_iload_n (n := 46) (i := 2) dX2_passMinute_45 rfl rfl rfl ?_
    refine s_if_lt (n := 49) (tgt := 112) dX2_passMinute_46 rfl rfl (fun b46 => ?_) (fun b46 => ?_)
    · refine s_aload_n (n := 113) (i := 0) dX2_passMinute_112 rfl rfl rfl ?_
      refine s_dup (n := 114) dX2_passMinute_113 rfl rfl ?_
      refine gf_X2_40 (n := 117) rfl dX2_passMinute_114 rfl (by assumption) (by rfl) ?_
      refine s_iconst (n := 118) (v := 1) dX2_passMinute_117 rfl (by decide) ?_
      refine s_iadd (n := 119) dX2_passMinute_118 rfl ?_
      refine pf_X2_40 (n := 122) (fs' := [_, _, _, _, _, _, _, _, _, _, _, _]) rfl dX2_passMinute_119 rfl (by assumption) (by rfl) (by rfl) ?_
      refine St_put_minute hS0 (fun h1 hS1 hF1 => ?_)
      replace hF := fr_tr hF hF1
      refine s_return dX2_passMinute_122 rfl (Nat.le_refl _) (Nat.le_refl _) ?_
      refine ⟨rfl, ?_, hF⟩
      rw [up_ne (by omega), pm_same hn7 (by omega)] at hS1
      exact hS1
    · exact absurd nI_m1 b46
  | succ j ih =>
    intro hjn h y l3 l4 x hS0 hF hx
    rw [nI_pred] at hx
    subst hx
    replace ih := ih (by omega)
    have hag := ag_pm (T := T) (q := pondN T n) hn7 (show j < n by omega)
    obtain ⟨c0, c1, c2, c3, c4, c5, c6⟩ := id hS0
    refine s_iload_n (n := 46) (i := 2) dX2_passMinute_45 rfl rfl rfl ?_
    refine s_if_lt (n := 49) (tgt := 112) dX2_passMinute_46 rfl rfl (fun b46 => ?_) (fun b46 => ?_)
    · exact absurd b46 (nI_lt0 (by omega))
    · refine s_aload_n (n := 50) (i := 0) dX2_passMinute_49 rfl rfl rfl ?_
      refine gf_X2_24 (n := 53) rfl dX2_passMinute_50 rfl (by assumption) (by rfl) ?_
      refine s_iload_n (n := 54) (i := 2) dX2_passMinute_53 rfl rfl rfl ?_
      first | refine s_ials (n := 55) dX2_passMinute_54 rfl (by assumption) (mj_ixn (by omega)) ?_ | refine s_iald (n := 55) dX2_passMinute_54 rfl (by assumption) (mj_ixn (by omega)) ?_
      refine s_aload_n (n := 56) (i := 0) dX2_passMinute_55 rfl rfl rfl ?_
      refine s_iload_n (n := 57) (i := 2) dX2_passMinute_56 rfl rfl rfl ?_
      refine s_v1 (M' := MX2_flowOf) (n := 60) (ci := 2) dX2_passMinute_57 rfl wd_X2_84 okX2_flowOf rfl rfl (by omega) ⟨Nat.le_refl _, Nat.le_refl _⟩ (by assumption) (c_flowOf (d := d - 1) hS0 (by omega) (by omega)) ?_
      rintro v57 hh57 ⟨rfl, rfl⟩
      refine s_isub (n := 61) dX2_passMinute_60 rfl ?_
      refine s_istore_n (n := 62) (i := 3) (ls' := [_, _, _, _, _]) dX2_passMinute_61 rfl rfl rfl rfl rfl ?_
      refine s_iload_n (n := 63) (i := 2) dX2_passMinute_62 rfl rfl rfl ?_
      refine s_if_le (n := 66) (tgt := 81) dX2_passMinute_63 rfl rfl (fun b63 => ?_) (fun b63 => ?_)
      · have hj0 : j = 0 := by
          apply Nat.eq_zero_of_not_pos
          intro q
          exact nI_nle q (by omega) b63
        have haT := hag.1
        have hsh := ag_sh hag (by omega)
        have he := (hok.2.2 (j) (by omega)).1
        have hk := (hok.2.2 (j) (by omega)).2
        rw [← haT (20 + (j)) (by omega) (by omega)] at he
        rw [← haT (6 + (j)) (by omega) (by omega)] at hk
        refine s_iconst (n := 82) (v := 0) dX2_passMinute_81 rfl (by decide) ?_
        refine s_istore (n := 84) (i := 4) (ls' := [_, _, _, _, _]) dX2_passMinute_82 rfl rfl rfl rfl ?_
        refine s_aload_n (n := 85) (i := 0) dX2_passMinute_84 rfl rfl rfl ?_
        refine gf_X2_24 (n := 88) rfl dX2_passMinute_85 rfl (by assumption) (by rfl) ?_
        refine s_iload_n (n := 89) (i := 2) dX2_passMinute_88 rfl rfl rfl ?_
        refine s_sipush (n := 92) (v := 999) dX2_passMinute_89 rfl (by decide) ?_
        refine s_iload_n (n := 93) (i := 3) dX2_passMinute_92 rfl rfl rfl ?_
        refine s_iload (n := 95) dX2_passMinute_93 rfl rfl ?_
        refine s_iadd (n := 96) dX2_passMinute_95 rfl ?_
        refine s_aload_n (n := 97) (i := 0) dX2_passMinute_96 rfl rfl rfl ?_
        refine s_iload_n (n := 98) (i := 2) dX2_passMinute_97 rfl rfl rfl ?_
        refine s_v1 (M' := MX2_shedsOf) (n := 101) (ci := 2) dX2_passMinute_98 rfl wd_X2_94 okX2_shedsOf rfl rfl (by omega) ⟨Nat.le_refl _, Nat.le_refl _⟩ (by assumption) (c_shedsOf (d := d - 1) hS0 (by omega) (by omega) he hk) ?_
        rintro v98 hh98 ⟨rfl, rfl⟩
        refine s_iadd (n := 102) dX2_passMinute_101 rfl ?_
        refine s_min (n := 105) dX2_passMinute_102 rfl wd_X2_88 (by omega) (by simp [Value.category]) (Nat.le_refl _) (Nat.le_refl _) ?_
        refine s_iast (n := 106) dX2_passMinute_105 rfl (by assumption) (mj_ixn (by omega)) ?_
        refine St_put_gutter (by omega) hS0 (fun h1 hS1 hF1 => ?_)
        replace hF := fr_tr hF hF1
        refine s_iinc (n := 109) (v := _ + (-1)) (ls' := [_, _, _, _, _]) dX2_passMinute_106 rfl rfl rfl rfl rfl ?_
        refine s_goto (tgt := 45) dX2_passMinute_109 rfl ?_
        subst hj0
        refine ih h1 _ _ _ _ ?_ hF (by rfl)
        have e : upd (upd (pm T (0 + 1) n) 5 (pondN T n)) (34 + 0) (gn T 0) = upd (pm T 0 n) 5 (pondN T n) := by
          have q := step_c (T := T) (n := n) (j := 0) (q := pondN T n) (f := 0) (by omega) (by omega) rfl
          unfold bbT at q
          rw [if_pos (Or.inl rfl)] at q
          exact q
        rw [← e]
        have g : gn T 0 = (if upd (pm T (0 + 1) n) 5 (pondN T n) (34 + 0) - fl (upd (pm T (0 + 1) n) 5 (pondN T n)) 0 + 0 + shT (upd (pm T (0 + 1) n) 5 (pondN T n)) 0 < 999 then upd (pm T (0 + 1) n) 5 (pondN T n) (34 + 0) - fl (upd (pm T (0 + 1) n) 5 (pondN T n)) 0 + 0 + shT (upd (pm T (0 + 1) n) 5 (pondN T n)) 0 else 999) := by
          rw [hsh, ag_fl hag (by omega), hag.1 (34 + 0) (by omega) (by omega)]
          unfold gn bbA
          rw [if_pos (show inF T 0 = 0 ∨ T (27 + 0) ≤ T (41 + 0) from Or.inl rfl)]
          rfl
        rw [g]
        exact hS1
      · obtain ⟨i, rfl⟩ : ∃ i, j = i + 1 := by
          cases j with
          | zero => exact absurd (by decide) b63
          | succ i => exact ⟨i, rfl⟩
        have haT := (ag_bbT (f := fl (upd (pm T (i + 1 + 1) n) 5 (pondN T n)) i) hag (by omega)).1
        have hsh := (ag_bbT (f := fl (upd (pm T (i + 1 + 1) n) 5 (pondN T n)) i) hag (by omega)).2
        have he := (hok.2.2 (i + 1) (by omega)).1
        have hk := (hok.2.2 (i + 1) (by omega)).2
        rw [← haT (20 + (i + 1)) (by omega) (by omega)] at he
        rw [← haT (6 + (i + 1)) (by omega) (by omega)] at hk
        refine s_aload_n (n := 67) (i := 0) dX2_passMinute_66 rfl rfl rfl ?_
        refine s_iload_n (n := 68) (i := 2) dX2_passMinute_67 rfl rfl rfl ?_
        refine s_aload_n (n := 69) (i := 0) dX2_passMinute_68 rfl rfl rfl ?_
        refine s_iload_n (n := 70) (i := 2) dX2_passMinute_69 rfl rfl rfl ?_
        refine s_iconst (n := 71) (v := 1) dX2_passMinute_70 rfl (by decide) ?_
        refine s_isub (n := 72) dX2_passMinute_71 rfl ?_
        rw [nI_pred]
        refine s_v1 (M' := MX2_flowOf) (n := 75) (ci := 2) dX2_passMinute_72 rfl wd_X2_84 okX2_flowOf rfl rfl (by omega) ⟨Nat.le_refl _, Nat.le_refl _⟩ (by assumption) (c_flowOf (d := d - 1) hS0 (by omega) (by omega)) ?_
        rintro v72 hh72 ⟨rfl, rfl⟩
        refine s_v2 (M' := MX2_behindBars) (n := 78) (ci := 2) dX2_passMinute_75 rfl wd_X2_91 okX2_behindBars rfl rfl (by omega) ⟨Nat.le_refl _, Nat.le_refl _⟩ (by assumption) (c_behindBars (d := d - 1) hS0 (by omega)) ?_
        rintro v75 hh75 ⟨rfl, hS0, hF2⟩
        replace hF := fr_tr hF hF2
        obtain ⟨c0, c1, c2, c3, c4, c5, c6⟩ := id hS0
        refine s_goto (tgt := 82) dX2_passMinute_78 rfl ?_
        refine s_istore (n := 84) (i := 4) (ls' := [_, _, _, _, _]) dX2_passMinute_82 rfl rfl rfl rfl ?_
        refine s_aload_n (n := 85) (i := 0) dX2_passMinute_84 rfl rfl rfl ?_
        refine gf_X2_24 (n := 88) rfl dX2_passMinute_85 rfl (by assumption) (by rfl) ?_
        refine s_iload_n (n := 89) (i := 2) dX2_passMinute_88 rfl rfl rfl ?_
        refine s_sipush (n := 92) (v := 999) dX2_passMinute_89 rfl (by decide) ?_
        refine s_iload_n (n := 93) (i := 3) dX2_passMinute_92 rfl rfl rfl ?_
        refine s_iload (n := 95) dX2_passMinute_93 rfl rfl ?_
        refine s_iadd (n := 96) dX2_passMinute_95 rfl ?_
        refine s_aload_n (n := 97) (i := 0) dX2_passMinute_96 rfl rfl rfl ?_
        refine s_iload_n (n := 98) (i := 2) dX2_passMinute_97 rfl rfl rfl ?_
        refine s_v1 (M' := MX2_shedsOf) (n := 101) (ci := 2) dX2_passMinute_98 rfl wd_X2_94 okX2_shedsOf rfl rfl (by omega) ⟨Nat.le_refl _, Nat.le_refl _⟩ (by assumption) (c_shedsOf (d := d - 1) hS0 (by omega) (by omega) he hk) ?_
        rintro v98 hh98 ⟨rfl, rfl⟩
        refine s_iadd (n := 102) dX2_passMinute_101 rfl ?_
        refine s_min (n := 105) dX2_passMinute_102 rfl wd_X2_88 (by omega) (by simp [Value.category]) (Nat.le_refl _) (Nat.le_refl _) ?_
        refine s_iast (n := 106) dX2_passMinute_105 rfl (by assumption) (mj_ixn (by omega)) ?_
        refine St_put_gutter (by omega) hS0 (fun h1 hS1 hF1 => ?_)
        replace hF := fr_tr hF hF1
        refine s_iinc (n := 109) (v := _ + (-1)) (ls' := [_, _, _, _, _]) dX2_passMinute_106 rfl rfl rfl rfl rfl ?_
        refine s_goto (tgt := 45) dX2_passMinute_109 rfl ?_
        refine ih h1 _ _ _ _ ?_ hF ((pk_m1 i).trans (nI_pred i).symm)
        rw [← step_c (T := T) (n := n) (j := i + 1) (q := pondN T n) (f := fl (upd (pm T (i + 1 + 1) n) 5 (pondN T n)) i) (by omega) (by omega) (by rw [ag_fl hag (by omega)]; rfl)]
        have g : gn T (i + 1) = (if upd (pm T (i + 1 + 1) n) 5 (pondN T n) (34 + (i + 1)) - fl (upd (pm T (i + 1 + 1) n) 5 (pondN T n)) (i + 1) + bbA (upd (pm T (i + 1 + 1) n) 5 (pondN T n)) (i + 1) (fl (upd (pm T (i + 1 + 1) n) 5 (pondN T n)) i) + shT (bbT (upd (pm T (i + 1 + 1) n) 5 (pondN T n)) (i + 1) (fl (upd (pm T (i + 1 + 1) n) 5 (pondN T n)) i)) (i + 1) < 999 then upd (pm T (i + 1 + 1) n) 5 (pondN T n) (34 + (i + 1)) - fl (upd (pm T (i + 1 + 1) n) 5 (pondN T n)) (i + 1) + bbA (upd (pm T (i + 1 + 1) n) 5 (pondN T n)) (i + 1) (fl (upd (pm T (i + 1 + 1) n) 5 (pondN T n)) i) + shT (bbT (upd (pm T (i + 1 + 1) n) 5 (pondN T n)) (i + 1) (fl (upd (pm T (i + 1 + 1) n) 5 (pondN T n)) i)) (i + 1) else 999) := by
          rw [hsh, ag_bb hag (by omega), ag_fl hag (by omega), ag_fl (i := i) hag (by omega), hag.1 (34 + (i + 1)) (by omega) (by omega)]
          rfl
        rw [g]
        exact hS1
