/-- all hushed and the pond empty; the first i houses without bars, their gutters empty but house j's -/
def lgS (T : Nat → Int32) (j i : Nat) : Nat → Int32 := fun k => if 27 ≤ k ∧ k < 27 + i then 0 else if 34 ≤ k ∧ k < 34 + i ∧ k ≠ 34 + j then 0 else T k
theorem lgS_0 {T : Nat → Int32} {j : Nat} : lgS T j 0 = T := by
  funext k
  unfold lgS
  rw [if_neg (by omega), if_neg (by omega)]
theorem lgS_s {T : Nat → Int32} {j i : Nat} {x : Int32} (hi : i < 7) (hx : x = if i = j then T (34 + i) else 0) : upd (upd (lgS T j i) (27 + i) 0) (34 + i) x = lgS T j (i + 1) := by
  funext k
  rw [up_if]
  by_cases h1 : k = 34 + i
  · rw [if_pos h1, hx]
    subst h1
    unfold lgS
    rw [if_neg (c := 27 ≤ 34 + i ∧ 34 + i < 27 + (i + 1)) (by omega)]
    by_cases h2 : i = j
    · rw [if_pos h2, if_neg (by omega)]
    · rw [if_neg h2, if_pos (by omega)]
  · rw [if_neg h1, up_if]
    unfold lgS
    by_cases h2 : k = 27 + i
    · rw [if_pos h2, if_pos (by omega)]
    · rw [if_neg h2]
      by_cases h3 : 27 ≤ k ∧ k < 27 + i
      · rw [if_pos h3, if_pos (by omega)]
      · rw [if_neg h3, if_neg (c := 27 ≤ k ∧ k < 27 + (i + 1)) (by omega)]
        by_cases h4 : 34 ≤ k ∧ k < 34 + i ∧ k ≠ 34 + j
        · rw [if_pos h4, if_pos (by omega)]
        · rw [if_neg h4, if_neg (by omega)]
theorem lgS_n {T : Nat → Int32} {j i k : Nat} (h : k < 27 ∨ 34 + i ≤ k) (h7 : i ≤ 7) : lgS T j i k = T k := by
  unfold lgS
  rw [if_neg (by omega), if_neg (by omega)]
theorem okB_lgS {n j i : Nat} {T : Nat → Int32} (h : okB n T) (hi : i ≤ 7) : okB n (lgS T j i) := by
  have h7 : n ≤ 7 := h.1.2.1
  refine ⟨⟨?_, h7, fun q hq => ⟨?_, ?_⟩⟩, ?_, fun q hq => ⟨?_, ?_, ?_⟩, ?_⟩
  · rw [lgS_n (by omega) hi]; exact h.1.1
  · rw [lgS_n (by omega) hi]; exact (h.1.2.2 q hq).1
  · rw [lgS_n (by omega) hi]; exact (h.1.2.2 q hq).2
  · rw [lgS_n (by omega) hi]; exact h.2.1
  · rw [lgS_n (by omega) hi]; exact (h.2.2.1 q hq).1
  · rw [lgS_n (by omega) hi]; exact (h.2.2.1 q hq).2.1
  · unfold lgS
    split
    · exact ⟨by decide, by decide⟩
    · split
      · exact ⟨by decide, by decide⟩
      · exact (h.2.2.1 q hq).2.2
  · rw [lgS_n (by omega) hi]; exact h.2.2.2
/-- behind how many minutes the pond has something -/
def lgF (n : Nat) : Nat → Nat → (Nat → Int32) → Int32
  | 0, _, _ => -1000000
  | r + 1, i, T => if T 5 = 0 then lgF n r (i + 1) (mn n T) else nI i
def lgT (n : Nat) (T : Nat → Int32) : Nat → Int32 := upd (upd T 4 ((1 <<< (nI n &&& 31)) - 1)) 5 0
theorem w0_ne {x : Int32} {b : Int} (h : Wi x 0 b) (h1 : ¬ x = 0) : ¬ x ≤ 0 := fun q => h1 (Int32.le_antisymm q (w0 h (by omega)))
set_option maxRecDepth 100000 in
set_option maxHeartbeats 4000000 in
theorem y_lag_bad {G : mj_G} {h : mj_H} {d : Nat} {τ : Nat → Nat → Int32} (hY : YS G h τ) {n : Nat} (hn : τ 0 2 = nI n) (h7 : n ≤ 7) {x : Int32} (hb : ¬ Hs n x) (hd : 2 ≤ d) : mj_con G MX5_lag d 0 0 [.ref (G.1 + 220), .int x] h (rI (-1000001) h) := by
  refine mj_conV okX5_lag (ls := [some (.ref (G.1 + 220)), some (.int x), none, none]) rfl rfl ?_
  obtain ⟨y0, y1, y2, y3, y4, y5, y6, y7, y8, y9, y10, y11, y12⟩ := id hY
  refine s_aload_n (n := 1) (i := 0) dX5_lag_0 rfl rfl rfl ?_
  refine s_iload_n (n := 2) (i := 1) dX5_lag_1 rfl rfl rfl ?_
  refine s_v1 (M' := MX5_isHouse) (n := 5) (ci := 5) dX5_lag_2 rfl wd_X5_155 okX5_isHouse rfl rfl (by omega) ⟨Nat.le_refl _, Nat.le_refl _⟩ (by assumption) (y_isHouse (d := d - 1) hY hn h7 (by omega)) ?_
  rintro v2 hh2 ⟨rfl, rfl⟩
  refine s_if_ne (n := 8) (tgt := 11) dX5_lag_5 rfl rfl (fun b5 => ?_) (fun b5 => ?_)
  · exact absurd (if1 b5) hb
  · refine s_ldc (n := 10) dX5_lag_8 rfl wd_X5_64 ?_
    refine s_ireturn dX5_lag_10 rfl (rfl) (Nat.le_refl _) (Nat.le_refl _) ?_
    exact ⟨rfl, rfl⟩
set_option maxRecDepth 100000 in
set_option maxHeartbeats 4000000 in
theorem l_lag2 {G : mj_G} {h0 : mj_H} {d n : Nat} {τ : Nat → Nat → Int32} {j : Nat} (hd : 4 ≤ d) : ∀ (r i : Nat), i + r = 99 → ∀ (h : mj_H) (F : Nat → Int32) (l3 : Option Value), YS G h (u2 (asS τ) 0 F) → okB n F → (∀ k, 48 ≤ k → F k = τ 0 k) → mj_fr 220 13 h0 h → mj_wp G MX5_lag d 0 0 95 [some (.ref (G.1 + 220)), some (.int (nI j)), some (.int (nI i)), l3] [] h 0 0 (fun v h' => v = some (.int (lgF n (r + 1) i F)) ∧ YS G h' (u2 (asS τ) 0 (τ 0)) ∧ mj_fr 220 13 h0 h') := by
  intro r
  induction r with
  | zero =>
    intro i hi h F l3 hY hok ho hF0
    obtain ⟨y0, y1, y2, y3, y4, y5, y6, y7, y8, y9, y10, y11, y12⟩ := id hY
    replace y4 : h.2 224 = mj_ar 0 48 (F) := y4
    replace y0 : h.2 220 = YO G (τ 12) := y0
    refine s_aload_n (n := 96) (i := 0) dX5_lag_95 rfl rfl rfl ?_
    refine gf_X5_19 (n := 99) rfl dX5_lag_96 rfl (by assumption) (by rfl) ?_
    refine s_iconst (n := 100) (v := 5) dX5_lag_99 rfl (by decide) ?_
    refine s_iald (n := 101) dX5_lag_100 rfl (by assumption) (mj_ixe (j := 5) rfl (by omega)) ?_
    refine s_if_ne (n := 104) (tgt := 120) dX5_lag_101 rfl rfl (fun b101 => ?_) (fun b101 => ?_)
    · have q : ¬ F 5 = 0 := b101
      refine s_aload_n (n := 121) (i := 0) dX5_lag_120 rfl rfl rfl ?_
      refine gf_X5_19 (n := 124) rfl dX5_lag_121 rfl (by assumption) (by rfl) ?_
      refine s_iconst (n := 125) (v := 5) dX5_lag_124 rfl (by decide) ?_
      refine s_iald (n := 126) dX5_lag_125 rfl (by assumption) (mj_ixe (j := 5) rfl (by omega)) ?_
      refine s_if_le (n := 129) (tgt := 133) dX5_lag_126 rfl rfl (fun b126 => ?_) (fun b126 => ?_)
      · have q2 : F 5 = 0 := Int32.le_antisymm b126 (w0 hok.2.2.2 (by omega))
        refine s_iconst (n := 134) (v := 0) dX5_lag_133 rfl (by decide) ?_
        refine s_istore_n (n := 135) (i := 3) (ls' := [_, _, _, _]) dX5_lag_134 rfl rfl rfl rfl rfl ?_
        refine s_aload_n (n := 136) (i := 0) dX5_lag_135 rfl rfl rfl ?_
        refine s_v0 (M' := MX5_takeBack) (n := 139) (ci := 5) dX5_lag_136 rfl wd_X5_180 okX5_takeBack rfl rfl (by omega) ⟨Nat.le_refl _, Nat.le_refl _⟩ (by assumption) (y_tb (d := d - 1) hY (ho)) ?_
        rintro v136 hh136 ⟨rfl, hY9, hF9⟩
        have hFa := fr_tr (hF0) hF9
        obtain ⟨y0, y1, y2, y3, y4, y5, y6, y7, y8, y9, y10, y11, y12⟩ := id hY9
        replace y4 : hh136.2 224 = mj_ar 0 48 (τ 0) := y4
        replace y0 : hh136.2 220 = YO G (τ 12) := y0
        refine s_iload_n (n := 140) (i := 3) dX5_lag_139 rfl rfl rfl ?_
        refine s_if_eq (n := 143) (tgt := 147) dX5_lag_140 rfl rfl (fun b140 => ?_) (fun b140 => ?_)
        · have q3 := b140
          refine s_ldc (n := 149) dX5_lag_147 rfl wd_X5_186 ?_
          refine s_ireturn dX5_lag_149 rfl (rfl) (Nat.le_refl _) (Nat.le_refl _) ?_
          first | exact absurd q3 one_ne | exact absurd rfl q3 | exact absurd q2 q | exact absurd q q2 | exact ⟨by unfold lgF; rw [if_neg q], hY9, hFa⟩ | exact ⟨by unfold lgF; rw [if_pos q]; rfl, hY9, hFa⟩
        · have q3 := b140
          refine s_iload_n (n := 144) (i := 2) dX5_lag_143 rfl rfl rfl ?_
          refine s_goto (tgt := 149) dX5_lag_144 rfl ?_
          refine s_ireturn dX5_lag_149 rfl (rfl) (Nat.le_refl _) (Nat.le_refl _) ?_
          first | exact absurd q3 one_ne | exact absurd rfl q3 | exact absurd q2 q | exact absurd q q2 | exact ⟨by unfold lgF; rw [if_neg q], hY9, hFa⟩ | exact ⟨by unfold lgF; rw [if_pos q]; rfl, hY9, hFa⟩
      · have q2 : ¬ F 5 = 0 := fun z => b126 (by rw [z]; exact Int32.le_refl _)
        refine s_iconst (n := 130) (v := 1) dX5_lag_129 rfl (by decide) ?_
        refine s_goto (tgt := 134) dX5_lag_130 rfl ?_
        refine s_istore_n (n := 135) (i := 3) (ls' := [_, _, _, _]) dX5_lag_134 rfl rfl rfl rfl rfl ?_
        refine s_aload_n (n := 136) (i := 0) dX5_lag_135 rfl rfl rfl ?_
        refine s_v0 (M' := MX5_takeBack) (n := 139) (ci := 5) dX5_lag_136 rfl wd_X5_180 okX5_takeBack rfl rfl (by omega) ⟨Nat.le_refl _, Nat.le_refl _⟩ (by assumption) (y_tb (d := d - 1) hY (ho)) ?_
        rintro v136 hh136 ⟨rfl, hY9, hF9⟩
        have hFa := fr_tr (hF0) hF9
        obtain ⟨y0, y1, y2, y3, y4, y5, y6, y7, y8, y9, y10, y11, y12⟩ := id hY9
        replace y4 : hh136.2 224 = mj_ar 0 48 (τ 0) := y4
        replace y0 : hh136.2 220 = YO G (τ 12) := y0
        refine s_iload_n (n := 140) (i := 3) dX5_lag_139 rfl rfl rfl ?_
        refine s_if_eq (n := 143) (tgt := 147) dX5_lag_140 rfl rfl (fun b140 => ?_) (fun b140 => ?_)
        · have q3 := b140
          refine s_ldc (n := 149) dX5_lag_147 rfl wd_X5_186 ?_
          refine s_ireturn dX5_lag_149 rfl (rfl) (Nat.le_refl _) (Nat.le_refl _) ?_
          first | exact absurd q3 one_ne | exact absurd rfl q3 | exact absurd q2 q | exact absurd q q2 | exact ⟨by unfold lgF; rw [if_neg q], hY9, hFa⟩ | exact ⟨by unfold lgF; rw [if_pos q]; rfl, hY9, hFa⟩
        · have q3 := b140
          refine s_iload_n (n := 144) (i := 2) dX5_lag_143 rfl rfl rfl ?_
          refine s_goto (tgt := 149) dX5_lag_144 rfl ?_
          refine s_ireturn dX5_lag_149 rfl (rfl) (Nat.le_refl _) (Nat.le_refl _) ?_
          first | exact absurd q3 one_ne | exact absurd rfl q3 | exact absurd q2 q | exact absurd q q2 | exact ⟨by unfold lgF; rw [if_neg q], hY9, hFa⟩ | exact ⟨by unfold lgF; rw [if_pos q]; rfl, hY9, hFa⟩
    · have q : F 5 = 0 := b101
      refine s_iload_n (n := 105) (i := 2) dX5_lag_104 rfl rfl rfl ?_
      refine s_bipush (n := 107) (v := 99) dX5_lag_105 rfl (by decide) ?_
      refine s_icmp_ge (n := 110) (tgt := 120) dX5_lag_107 rfl rfl (fun b107 => ?_) (fun b107 => ?_)
      · refine s_aload_n (n := 121) (i := 0) dX5_lag_120 rfl rfl rfl ?_
        refine gf_X5_19 (n := 124) rfl dX5_lag_121 rfl (by assumption) (by rfl) ?_
        refine s_iconst (n := 125) (v := 5) dX5_lag_124 rfl (by decide) ?_
        refine s_iald (n := 126) dX5_lag_125 rfl (by assumption) (mj_ixe (j := 5) rfl (by omega)) ?_
        refine s_if_le (n := 129) (tgt := 133) dX5_lag_126 rfl rfl (fun b126 => ?_) (fun b126 => ?_)
        · have q2 : F 5 = 0 := Int32.le_antisymm b126 (w0 hok.2.2.2 (by omega))
          refine s_iconst (n := 134) (v := 0) dX5_lag_133 rfl (by decide) ?_
          refine s_istore_n (n := 135) (i := 3) (ls' := [_, _, _, _]) dX5_lag_134 rfl rfl rfl rfl rfl ?_
          refine s_aload_n (n := 136) (i := 0) dX5_lag_135 rfl rfl rfl ?_
          refine s_v0 (M' := MX5_takeBack) (n := 139) (ci := 5) dX5_lag_136 rfl wd_X5_180 okX5_takeBack rfl rfl (by omega) ⟨Nat.le_refl _, Nat.le_refl _⟩ (by assumption) (y_tb (d := d - 1) hY (ho)) ?_
          rintro v136 hh136 ⟨rfl, hY9, hF9⟩
          have hFa := fr_tr (hF0) hF9
          obtain ⟨y0, y1, y2, y3, y4, y5, y6, y7, y8, y9, y10, y11, y12⟩ := id hY9
          replace y4 : hh136.2 224 = mj_ar 0 48 (τ 0) := y4
          replace y0 : hh136.2 220 = YO G (τ 12) := y0
          refine s_iload_n (n := 140) (i := 3) dX5_lag_139 rfl rfl rfl ?_
          refine s_if_eq (n := 143) (tgt := 147) dX5_lag_140 rfl rfl (fun b140 => ?_) (fun b140 => ?_)
          · have q3 := b140
            refine s_ldc (n := 149) dX5_lag_147 rfl wd_X5_186 ?_
            refine s_ireturn dX5_lag_149 rfl (rfl) (Nat.le_refl _) (Nat.le_refl _) ?_
            first | exact absurd q3 one_ne | exact absurd rfl q3 | exact absurd q2 q | exact absurd q q2 | exact ⟨by unfold lgF; rw [if_neg q], hY9, hFa⟩ | exact ⟨by unfold lgF; rw [if_pos q]; rfl, hY9, hFa⟩
          · have q3 := b140
            refine s_iload_n (n := 144) (i := 2) dX5_lag_143 rfl rfl rfl ?_
            refine s_goto (tgt := 149) dX5_lag_144 rfl ?_
            refine s_ireturn dX5_lag_149 rfl (rfl) (Nat.le_refl _) (Nat.le_refl _) ?_
            first | exact absurd q3 one_ne | exact absurd rfl q3 | exact absurd q2 q | exact absurd q q2 | exact ⟨by unfold lgF; rw [if_neg q], hY9, hFa⟩ | exact ⟨by unfold lgF; rw [if_pos q]; rfl, hY9, hFa⟩
        · have q2 : ¬ F 5 = 0 := fun z => b126 (by rw [z]; exact Int32.le_refl _)
          refine s_iconst (n := 130) (v := 1) dX5_lag_129 rfl (by decide) ?_
          refine s_goto (tgt := 134) dX5_lag_130 rfl ?_
          refine s_istore_n (n := 135) (i := 3) (ls' := [_, _, _, _]) dX5_lag_134 rfl rfl rfl rfl rfl ?_
          refine s_aload_n (n := 136) (i := 0) dX5_lag_135 rfl rfl rfl ?_
          refine s_v0 (M' := MX5_takeBack) (n := 139) (ci := 5) dX5_lag_136 rfl wd_X5_180 okX5_takeBack rfl rfl (by omega) ⟨Nat.le_refl _, Nat.le_refl _⟩ (by assumption) (y_tb (d := d - 1) hY (ho)) ?_
          rintro v136 hh136 ⟨rfl, hY9, hF9⟩
          have hFa := fr_tr (hF0) hF9
          obtain ⟨y0, y1, y2, y3, y4, y5, y6, y7, y8, y9, y10, y11, y12⟩ := id hY9
          replace y4 : hh136.2 224 = mj_ar 0 48 (τ 0) := y4
          replace y0 : hh136.2 220 = YO G (τ 12) := y0
          refine s_iload_n (n := 140) (i := 3) dX5_lag_139 rfl rfl rfl ?_
          refine s_if_eq (n := 143) (tgt := 147) dX5_lag_140 rfl rfl (fun b140 => ?_) (fun b140 => ?_)
          · have q3 := b140
            refine s_ldc (n := 149) dX5_lag_147 rfl wd_X5_186 ?_
            refine s_ireturn dX5_lag_149 rfl (rfl) (Nat.le_refl _) (Nat.le_refl _) ?_
            first | exact absurd q3 one_ne | exact absurd rfl q3 | exact absurd q2 q | exact absurd q q2 | exact ⟨by unfold lgF; rw [if_neg q], hY9, hFa⟩ | exact ⟨by unfold lgF; rw [if_pos q]; rfl, hY9, hFa⟩
          · have q3 := b140
            refine s_iload_n (n := 144) (i := 2) dX5_lag_143 rfl rfl rfl ?_
            refine s_goto (tgt := 149) dX5_lag_144 rfl ?_
            refine s_ireturn dX5_lag_149 rfl (rfl) (Nat.le_refl _) (Nat.le_refl _) ?_
            first | exact absurd q3 one_ne | exact absurd rfl q3 | exact absurd q2 q | exact absurd q q2 | exact ⟨by unfold lgF; rw [if_neg q], hY9, hFa⟩ | exact ⟨by unfold lgF; rw [if_pos q]; rfl, hY9, hFa⟩
      · exfalso
        exact b107 ((nI_leE (a := 99) (by omega) (by omega)).mpr (by omega))
  | succ r ih =>
    intro i hi h F l3 hY hok ho hF0
    obtain ⟨y0, y1, y2, y3, y4, y5, y6, y7, y8, y9, y10, y11, y12⟩ := id hY
    replace y4 : h.2 224 = mj_ar 0 48 (F) := y4
    replace y0 : h.2 220 = YO G (τ 12) := y0
    refine s_aload_n (n := 96) (i := 0) dX5_lag_95 rfl rfl rfl ?_
    refine gf_X5_19 (n := 99) rfl dX5_lag_96 rfl (by assumption) (by rfl) ?_
    refine s_iconst (n := 100) (v := 5) dX5_lag_99 rfl (by decide) ?_
    refine s_iald (n := 101) dX5_lag_100 rfl (by assumption) (mj_ixe (j := 5) rfl (by omega)) ?_
    refine s_if_ne (n := 104) (tgt := 120) dX5_lag_101 rfl rfl (fun b101 => ?_) (fun b101 => ?_)
    · have q : ¬ F 5 = 0 := b101
      refine s_aload_n (n := 121) (i := 0) dX5_lag_120 rfl rfl rfl ?_
      refine gf_X5_19 (n := 124) rfl dX5_lag_121 rfl (by assumption) (by rfl) ?_
      refine s_iconst (n := 125) (v := 5) dX5_lag_124 rfl (by decide) ?_
      refine s_iald (n := 126) dX5_lag_125 rfl (by assumption) (mj_ixe (j := 5) rfl (by omega)) ?_
      refine s_if_le (n := 129) (tgt := 133) dX5_lag_126 rfl rfl (fun b126 => ?_) (fun b126 => ?_)
      · have q2 : F 5 = 0 := Int32.le_antisymm b126 (w0 hok.2.2.2 (by omega))
        refine s_iconst (n := 134) (v := 0) dX5_lag_133 rfl (by decide) ?_
        refine s_istore_n (n := 135) (i := 3) (ls' := [_, _, _, _]) dX5_lag_134 rfl rfl rfl rfl rfl ?_
        refine s_aload_n (n := 136) (i := 0) dX5_lag_135 rfl rfl rfl ?_
        refine s_v0 (M' := MX5_takeBack) (n := 139) (ci := 5) dX5_lag_136 rfl wd_X5_180 okX5_takeBack rfl rfl (by omega) ⟨Nat.le_refl _, Nat.le_refl _⟩ (by assumption) (y_tb (d := d - 1) hY (ho)) ?_
        rintro v136 hh136 ⟨rfl, hY9, hF9⟩
        have hFa := fr_tr (hF0) hF9
        obtain ⟨y0, y1, y2, y3, y4, y5, y6, y7, y8, y9, y10, y11, y12⟩ := id hY9
        replace y4 : hh136.2 224 = mj_ar 0 48 (τ 0) := y4
        replace y0 : hh136.2 220 = YO G (τ 12) := y0
        refine s_iload_n (n := 140) (i := 3) dX5_lag_139 rfl rfl rfl ?_
        refine s_if_eq (n := 143) (tgt := 147) dX5_lag_140 rfl rfl (fun b140 => ?_) (fun b140 => ?_)
        · have q3 := b140
          refine s_ldc (n := 149) dX5_lag_147 rfl wd_X5_186 ?_
          refine s_ireturn dX5_lag_149 rfl (rfl) (Nat.le_refl _) (Nat.le_refl _) ?_
          first | exact absurd q3 one_ne | exact absurd rfl q3 | exact absurd q2 q | exact absurd q q2 | exact ⟨by unfold lgF; rw [if_neg q], hY9, hFa⟩ | exact ⟨by unfold lgF; rw [if_pos q]; rfl, hY9, hFa⟩
        · have q3 := b140
          refine s_iload_n (n := 144) (i := 2) dX5_lag_143 rfl rfl rfl ?_
          refine s_goto (tgt := 149) dX5_lag_144 rfl ?_
          refine s_ireturn dX5_lag_149 rfl (rfl) (Nat.le_refl _) (Nat.le_refl _) ?_
          first | exact absurd q3 one_ne | exact absurd rfl q3 | exact absurd q2 q | exact absurd q q2 | exact ⟨by unfold lgF; rw [if_neg q], hY9, hFa⟩ | exact ⟨by unfold lgF; rw [if_pos q]; rfl, hY9, hFa⟩
      · have q2 : ¬ F 5 = 0 := fun z => b126 (by rw [z]; exact Int32.le_refl _)
        refine s_iconst (n := 130) (v := 1) dX5_lag_129 rfl (by decide) ?_
        refine s_goto (tgt := 134) dX5_lag_130 rfl ?_
        refine s_istore_n (n := 135) (i := 3) (ls' := [_, _, _, _]) dX5_lag_134 rfl rfl rfl rfl rfl ?_
        refine s_aload_n (n := 136) (i := 0) dX5_lag_135 rfl rfl rfl ?_
        refine s_v0 (M' := MX5_takeBack) (n := 139) (ci := 5) dX5_lag_136 rfl wd_X5_180 okX5_takeBack rfl rfl (by omega) ⟨Nat.le_refl _, Nat.le_refl _⟩ (by assumption) (y_tb (d := d - 1) hY (ho)) ?_
        rintro v136 hh136 ⟨rfl, hY9, hF9⟩
        have hFa := fr_tr (hF0) hF9
        obtain ⟨y0, y1, y2, y3, y4, y5, y6, y7, y8, y9, y10, y11, y12⟩ := id hY9
        replace y4 : hh136.2 224 = mj_ar 0 48 (τ 0) := y4
        replace y0 : hh136.2 220 = YO G (τ 12) := y0
        refine s_iload_n (n := 140) (i := 3) dX5_lag_139 rfl rfl rfl ?_
        refine s_if_eq (n := 143) (tgt := 147) dX5_lag_140 rfl rfl (fun b140 => ?_) (fun b140 => ?_)
        · have q3 := b140
          refine s_ldc (n := 149) dX5_lag_147 rfl wd_X5_186 ?_
          refine s_ireturn dX5_lag_149 rfl (rfl) (Nat.le_refl _) (Nat.le_refl _) ?_
          first | exact absurd q3 one_ne | exact absurd rfl q3 | exact absurd q2 q | exact absurd q q2 | exact ⟨by unfold lgF; rw [if_neg q], hY9, hFa⟩ | exact ⟨by unfold lgF; rw [if_pos q]; rfl, hY9, hFa⟩
        · have q3 := b140
          refine s_iload_n (n := 144) (i := 2) dX5_lag_143 rfl rfl rfl ?_
          refine s_goto (tgt := 149) dX5_lag_144 rfl ?_
          refine s_ireturn dX5_lag_149 rfl (rfl) (Nat.le_refl _) (Nat.le_refl _) ?_
          first | exact absurd q3 one_ne | exact absurd rfl q3 | exact absurd q2 q | exact absurd q q2 | exact ⟨by unfold lgF; rw [if_neg q], hY9, hFa⟩ | exact ⟨by unfold lgF; rw [if_pos q]; rfl, hY9, hFa⟩
    · have q : F 5 = 0 := b101
      refine s_iload_n (n := 105) (i := 2) dX5_lag_104 rfl rfl rfl ?_
      refine s_bipush (n := 107) (v := 99) dX5_lag_105 rfl (by decide) ?_
      refine s_icmp_ge (n := 110) (tgt := 120) dX5_lag_107 rfl rfl (fun b107 => ?_) (fun b107 => ?_)
      · exfalso
        have q9 := (nI_leE (a := 99) (by omega) (by omega)).mp b107
        omega
      · refine s_aload_n (n := 111) (i := 0) dX5_lag_110 rfl rfl rfl ?_
        refine s_v0 (M' := MX5_oneMinute) (n := 114) (ci := 5) dX5_lag_111 rfl wd_X5_152 okX5_oneMinute rfl rfl (by omega) ⟨Nat.le_refl _, Nat.le_refl _⟩ (by assumption) (y_om (d := d - 1) hY (n := n) hok (by omega)) ?_
        rintro v111 hh111 ⟨rfl, hY1, hF1⟩
        obtain ⟨y0, y1, y2, y3, y4, y5, y6, y7, y8, y9, y10, y11, y12⟩ := id hY1
        replace y4 : hh111.2 224 = mj_ar 0 48 (mn n F) := y4
        replace y0 : hh111.2 220 = YO G (τ 12) := y0
        refine s_iinc (n := 117) (v := _ + 1) (ls' := [_, _, _, _]) dX5_lag_114 rfl rfl rfl rfl rfl ?_
        refine s_goto (tgt := 95) dX5_lag_117 rfl ?_
        rw [nI_1]
        unfold lgF
        rw [if_pos q]
        exact ih (i + 1) (by omega) _ _ _ hY1 (okB_mn hok) (fun k hk => (mn_o hok.1.2.1 hk).trans (ho k hk)) (fr_tr hF0 hF1)
set_option maxRecDepth 100000 in
set_option maxHeartbeats 4000000 in
theorem l_lag1 {G : mj_G} {h0 : mj_H} {d n j : Nat} {τ : Nat → Nat → Int32} {T : Nat → Int32} {o3 : Option Value} (hok : okB n T) (ho : ∀ k, 48 ≤ k → T k = τ 0 k) (hj : j < n) (hd : 4 ≤ d) : ∀ (r i : Nat), i + r = n → ∀ (h : mj_H), YS G h (u2 (asS τ) 0 (lgS T j i)) → mj_fr 220 13 h0 h → mj_wp G MX5_lag d 0 0 40 [some (.ref (G.1 + 220)), some (.int (nI j)), some (.int (nI i)), o3] [] h 0 0 (fun v h' => v = some (.int (lgF n 100 0 (lgS T j n))) ∧ YS G h' (u2 (asS τ) 0 (τ 0)) ∧ mj_fr 220 13 h0 h') := by
  have h7 : n ≤ 7 := hok.1.2.1
  intro r
  induction r with
  | zero =>
    intro i hi h hY hF0
    have hin : i = n := by omega
    subst hin
    obtain ⟨y0, y1, y2, y3, y4, y5, y6, y7, y8, y9, y10, y11, y12⟩ := id hY
    replace y4 : h.2 224 = mj_ar 0 48 (lgS T j i) := y4
    replace y0 : h.2 220 = YO G (τ 12) := y0
    refine s_iload_n (n := 41) (i := 2) dX5_lag_40 rfl rfl rfl ?_
    refine s_aload_n (n := 42) (i := 0) dX5_lag_41 rfl rfl rfl ?_
    refine gf_X5_19 (n := 45) rfl dX5_lag_42 rfl (by assumption) (by rfl) ?_
    refine s_iconst (n := 46) (v := 2) dX5_lag_45 rfl (by decide) ?_
    refine s_iald (n := 47) dX5_lag_46 rfl (by assumption) (mj_ixe (j := 2) rfl (by omega)) ?_
    rw [lgS_n (by omega) (by omega), hok.1.1]
    refine s_icmp_ge (n := 50) (tgt := 93) dX5_lag_47 rfl rfl (fun b47 => ?_) (fun b47 => ?_)
    · refine s_iconst (n := 94) (v := 0) dX5_lag_93 rfl (by decide) ?_
      refine s_istore_n (n := 95) (i := 2) (ls' := [_, _, _, _]) dX5_lag_94 rfl rfl rfl rfl rfl ?_
      exact l_lag2 hd 99 0 (by omega) _ _ _ hY (okB_lgS hok h7) (fun k hk => (lgS_n (by omega) h7).trans (ho k hk)) hF0
    · exact absurd (Int32.le_refl _) b47
  | succ r ih =>
    intro i hi h hY hF0
    obtain ⟨y0, y1, y2, y3, y4, y5, y6, y7, y8, y9, y10, y11, y12⟩ := id hY
    replace y4 : h.2 224 = mj_ar 0 48 (lgS T j i) := y4
    replace y0 : h.2 220 = YO G (τ 12) := y0
    refine s_iload_n (n := 41) (i := 2) dX5_lag_40 rfl rfl rfl ?_
    refine s_aload_n (n := 42) (i := 0) dX5_lag_41 rfl rfl rfl ?_
    refine gf_X5_19 (n := 45) rfl dX5_lag_42 rfl (by assumption) (by rfl) ?_
    refine s_iconst (n := 46) (v := 2) dX5_lag_45 rfl (by decide) ?_
    refine s_iald (n := 47) dX5_lag_46 rfl (by assumption) (mj_ixe (j := 2) rfl (by omega)) ?_
    rw [lgS_n (by omega) (by omega), hok.1.1]
    refine s_icmp_ge (n := 50) (tgt := 93) dX5_lag_47 rfl rfl (fun b47 => ?_) (fun b47 => ?_)
    · exact absurd ((nI_leE (by omega) (by omega)).mp b47) (by omega)
    · refine s_aload_n (n := 51) (i := 0) dX5_lag_50 rfl rfl rfl ?_
      refine gf_X5_19 (n := 54) rfl dX5_lag_51 rfl (by assumption) (by rfl) ?_
      refine s_bipush (n := 56) (v := 27) dX5_lag_54 rfl (by decide) ?_
      refine s_iload_n (n := 57) (i := 2) dX5_lag_56 rfl rfl rfl ?_
      refine s_iadd (n := 58) dX5_lag_57 rfl ?_
      refine s_iconst (n := 59) (v := 0) dX5_lag_58 rfl (by decide) ?_
      refine s_iast (n := 60) dX5_lag_59 rfl (by assumption) (mj_ixa (o := 27) rfl (by omega)) ?_
      refine YA_0 hY (fun h1 hY1 hF1 => ?_)
      rw [u2_u2] at hY1
      obtain ⟨y0, y1, y2, y3, y4, y5, y6, y7, y8, y9, y10, y11, y12⟩ := id hY1
      replace y4 : h1.2 224 = mj_ar 0 48 (upd (lgS T j i) (27 + i) 0) := y4
      replace y0 : h1.2 220 = YO G (τ 12) := y0
      refine s_aload_n (n := 61) (i := 0) dX5_lag_60 rfl rfl rfl ?_
      refine gf_X5_19 (n := 64) rfl dX5_lag_61 rfl (by assumption) (by rfl) ?_
      refine s_bipush (n := 66) (v := 34) dX5_lag_64 rfl (by decide) ?_
      refine s_iload_n (n := 67) (i := 2) dX5_lag_66 rfl rfl rfl ?_
      refine s_iadd (n := 68) dX5_lag_67 rfl ?_
      refine s_iload_n (n := 69) (i := 2) dX5_lag_68 rfl rfl rfl ?_
      refine s_iload_n (n := 70) (i := 1) dX5_lag_69 rfl rfl rfl ?_
      refine s_icmp_ne (n := 73) (tgt := 85) dX5_lag_70 rfl rfl (fun b70 => ?_) (fun b70 => ?_)
      · have hx : (0 : Int32) = if i = j then T (34 + i) else 0 := by
          rw [if_neg (fun z => b70 (by rw [z]))]
        refine s_iconst (n := 86) (v := 0) dX5_lag_85 rfl (by decide) ?_
        refine s_iast (n := 87) dX5_lag_86 rfl (by assumption) (mj_ixa (o := 34) rfl (by omega)) ?_
        refine YA_0 hY1 (fun h2 hY2 hF2 => ?_)
        rw [u2_u2] at hY2
        rw [lgS_s (by omega) hx] at hY2
        refine s_iinc (n := 90) (v := _ + 1) (ls' := [_, _, _, _]) dX5_lag_87 rfl rfl rfl rfl rfl ?_
        refine s_goto (tgt := 40) dX5_lag_90 rfl ?_
        rw [nI_1]
        exact ih (i + 1) (by omega) _ hY2 (fr_tr hF0 (fr_tr hF1 hF2))
      · have hx : (upd (lgS T j i) (27 + i) 0) (34 + i) = if i = j then T (34 + i) else 0 := by
          rw [if_pos (nI_inj (by omega) (by omega) b70), up_ne (by omega), lgS_n (by omega) (by omega)]
        refine s_aload_n (n := 74) (i := 0) dX5_lag_73 rfl rfl rfl ?_
        refine gf_X5_19 (n := 77) rfl dX5_lag_74 rfl (by assumption) (by rfl) ?_
        refine s_bipush (n := 79) (v := 34) dX5_lag_77 rfl (by decide) ?_
        refine s_iload_n (n := 80) (i := 2) dX5_lag_79 rfl rfl rfl ?_
        refine s_iadd (n := 81) dX5_lag_80 rfl ?_
        refine s_iald (n := 82) dX5_lag_81 rfl (by assumption) (mj_ixa (o := 34) rfl (by omega)) ?_
        refine s_goto (tgt := 86) dX5_lag_82 rfl ?_
        refine s_iast (n := 87) dX5_lag_86 rfl (by assumption) (mj_ixa (o := 34) rfl (by omega)) ?_
        refine YA_0 hY1 (fun h2 hY2 hF2 => ?_)
        rw [u2_u2] at hY2
        rw [lgS_s (by omega) hx] at hY2
        refine s_iinc (n := 90) (v := _ + 1) (ls' := [_, _, _, _]) dX5_lag_87 rfl rfl rfl rfl rfl ?_
        refine s_goto (tgt := 40) dX5_lag_90 rfl ?_
        rw [nI_1]
        exact ih (i + 1) (by omega) _ hY2 (fr_tr hF0 (fr_tr hF1 hF2))
set_option maxRecDepth 100000 in
set_option maxHeartbeats 4000000 in
theorem y_lag {G : mj_G} {h : mj_H} {d : Nat} {τ : Nat → Nat → Int32} (hY : YS G h τ) {n : Nat} (hn : τ 0 2 = nI n) (h7 : n ≤ 7) (hok : okB n (τ 0)) {j : Nat} (hj : j < n) (hd : 4 ≤ d) : mj_con G MX5_lag d 0 0 [.ref (G.1 + 220), .int (nI j)] h (fun v h' => v = some (.int (lgF n 100 0 (lgS (lgT n (τ 0)) j n))) ∧ YS G h' (u2 (asS τ) 0 (τ 0)) ∧ mj_fr 220 13 h h') := by
  refine mj_conV okX5_lag (ls := [some (.ref (G.1 + 220)), some (.int (nI j)), none, none]) rfl rfl ?_
  obtain ⟨y0, y1, y2, y3, y4, y5, y6, y7, y8, y9, y10, y11, y12⟩ := id hY
  refine s_aload_n (n := 1) (i := 0) dX5_lag_0 rfl rfl rfl ?_
  refine s_iload_n (n := 2) (i := 1) dX5_lag_1 rfl rfl rfl ?_
  refine s_v1 (M' := MX5_isHouse) (n := 5) (ci := 5) dX5_lag_2 rfl wd_X5_155 okX5_isHouse rfl rfl (by omega) ⟨Nat.le_refl _, Nat.le_refl _⟩ (by assumption) (y_isHouse (d := d - 1) hY hn h7 (by omega)) ?_
  rintro v2 hh2 ⟨rfl, rfl⟩
  refine s_if_ne (n := 8) (tgt := 11) dX5_lag_5 rfl rfl (fun b5 => ?_) (fun b5 => ?_)
  · refine s_aload_n (n := 12) (i := 0) dX5_lag_11 rfl rfl rfl ?_
    refine s_v0 (M' := MX5_putAside) (n := 15) (ci := 5) dX5_lag_12 rfl wd_X5_174 okX5_putAside rfl rfl (by omega) ⟨Nat.le_refl _, Nat.le_refl _⟩ (by assumption) (y_pa (d := d - 1) hY) ?_
    rintro v12 hh12 ⟨rfl, hY1, hF1⟩
    obtain ⟨y0, y1, y2, y3, y4, y5, y6, y7, y8, y9, y10, y11, y12⟩ := id hY1
    replace y4 : hh12.2 224 = mj_ar 0 48 (τ 0) := y4
    replace y0 : hh12.2 220 = YO G (τ 12) := y0
    refine s_aload_n (n := 16) (i := 0) dX5_lag_15 rfl rfl rfl ?_
    refine gf_X5_19 (n := 19) rfl dX5_lag_16 rfl (by assumption) (by rfl) ?_
    refine s_iconst (n := 20) (v := 4) dX5_lag_19 rfl (by decide) ?_
    refine s_iconst (n := 21) (v := 1) dX5_lag_20 rfl (by decide) ?_
    refine s_aload_n (n := 22) (i := 0) dX5_lag_21 rfl rfl rfl ?_
    refine gf_X5_19 (n := 25) rfl dX5_lag_22 rfl (by assumption) (by rfl) ?_
    refine s_iconst (n := 26) (v := 2) dX5_lag_25 rfl (by decide) ?_
    refine s_iald (n := 27) dX5_lag_26 rfl (by assumption) (mj_ixe (j := 2) rfl (by omega)) ?_
    rw [hn]
    refine s_ishl (n := 28) dX5_lag_27 rfl ?_
    refine s_iconst (n := 29) (v := 1) dX5_lag_28 rfl (by decide) ?_
    refine s_isub (n := 30) dX5_lag_29 rfl ?_
    refine s_iast (n := 31) dX5_lag_30 rfl (by assumption) (mj_ixe (j := 4) rfl (by omega)) ?_
    refine YA_0 hY1 (fun h2 hY2 hF2 => ?_)
    rw [u2_u2] at hY2
    obtain ⟨y0, y1, y2, y3, y4, y5, y6, y7, y8, y9, y10, y11, y12⟩ := id hY2
    replace y4 : h2.2 224 = mj_ar 0 48 (upd (τ 0) 4 ((1 <<< (nI n &&& 31)) - 1)) := y4
    replace y0 : h2.2 220 = YO G (τ 12) := y0
    refine s_aload_n (n := 32) (i := 0) dX5_lag_31 rfl rfl rfl ?_
    refine gf_X5_19 (n := 35) rfl dX5_lag_32 rfl (by assumption) (by rfl) ?_
    refine s_iconst (n := 36) (v := 5) dX5_lag_35 rfl (by decide) ?_
    refine s_iconst (n := 37) (v := 0) dX5_lag_36 rfl (by decide) ?_
    refine s_iast (n := 38) dX5_lag_37 rfl (by assumption) (mj_ixe (j := 5) rfl (by omega)) ?_
    refine YA_0 hY2 (fun h3 hY3 hF3 => ?_)
    rw [u2_u2] at hY3
    refine s_iconst (n := 39) (v := 0) dX5_lag_38 rfl (by decide) ?_
    refine s_istore_n (n := 40) (i := 2) (ls' := [_, _, _, _]) dX5_lag_39 rfl rfl rfl rfl rfl ?_
    refine l_lag1 (T := lgT n (τ 0)) (okB_pond (okB_up hok (Or.inl rfl)) ⟨by decide, by decide⟩) (fun k hk => (up_ne (by omega)).trans (up_ne (by omega))) hj hd n 0 (by omega) _ ?_ (fr_tr hF1 (fr_tr hF2 hF3))
    rw [lgS_0]
    exact hY3
  · exact absurd (Hs_n hj h7) (if0 b5)
