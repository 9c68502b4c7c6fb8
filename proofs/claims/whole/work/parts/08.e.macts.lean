theorem up_up {f : Nat → Int32} {k : Nat} {x y : Int32} : upd (upd f k x) k y = upd f k y := by
  funext j
  rw [up_if, up_if, up_if]
  split <;> rfl
/-- the acts, one further back -/
def shF (f : Nat → Int32) (q : Nat) : Nat → Int32 := fun i => if i < q then f (i + 48) else f i
theorem shF_0 {f : Nat → Int32} : shF f 0 = f := by
  funext k
  unfold shF
  rw [if_neg (by omega)]
theorem shF_s {f : Nat → Int32} {q : Nat} {x : Int32} (hx : x = f (q + 48)) : upd (shF f q) q x = shF f (q + 1) := by
  funext k
  unfold shF
  rw [up_if]
  by_cases h1 : k = q
  · rw [if_pos h1, if_pos (by omega), hx, h1]
  · rw [if_neg h1]
    by_cases h2 : k < q
    · rw [if_pos h2, if_pos (by omega)]
    · rw [if_neg h2, if_neg (by omega)]
theorem shF_n {f : Nat → Int32} {q k : Nat} (h : q ≤ k) : shF f q k = f k := by
  unfold shF
  rw [if_neg (by omega)]
def ntF (f : Nat → Int32) (k : Nat) (T : Nat → Int32) : Nat → Int32 := if k = 24 then cpI (shF f 1104) T (48 * 23) 48 else cpI f T (48 * k) 48
/-- the model, its street noted -/
def ntS (τ : Nat → Nat → Int32) (k : Nat) : Nat → Nat → Int32 := u2 (u2 τ 7 (ntF (τ 7) k (τ 0))) 12 (upd (τ 12) 9 (nI (kpN k)))
set_option maxRecDepth 100000 in
set_option maxHeartbeats 4000000 in
theorem l_note2 {G : mj_G} {h0 : mj_H} {d k : Nat} {τ : Nat → Nat → Int32} (hk0 : τ 12 9 = nI k) (hk : k < 24) : ∀ (r i : Nat), i + r = 48 → ∀ (h : mj_H), YS G h (u2 τ 7 (cpI (τ 7) (τ 0) (48 * k) i)) → mj_fr 220 13 h0 h → mj_wp G MX5_note d 0 0 51 [some (.ref (G.1 + 220)), some (.int (nI i))] [] h 0 0 (fun v h' => v = none ∧ YS G h' (u2 (u2 τ 7 (cpI (τ 7) (τ 0) (48 * k) 48)) 12 (upd (τ 12) 9 (nI (k + 1)))) ∧ mj_fr 220 13 h0 h') := by
  intro r
  induction r with
  | zero =>
    intro i hi h hY hF
    have hi8 : i = 48 := by omega
    subst hi8
    obtain ⟨y0, y1, y2, y3, y4, y5, y6, y7, y8, y9, y10, y11, y12⟩ := id hY
    replace y0 : h.2 220 = YO G (τ 12) := y0
    refine s_iload_n (n := 52) (i := 1) dX5_note_51 rfl rfl rfl ?_
    refine s_bipush (n := 54) (v := 48) dX5_note_52 rfl (by decide) ?_
    refine s_icmp_ge (n := 57) (tgt := 83) dX5_note_54 rfl rfl (fun b54 => ?_) (fun b54 => ?_)
    · refine s_aload_n (n := 84) (i := 0) dX5_note_83 rfl rfl rfl ?_
      refine s_dup (n := 85) dX5_note_84 rfl rfl ?_
      refine gf_X5_136 (n := 88) rfl dX5_note_85 rfl (by assumption) (by rfl) ?_
      rw [hk0]
      refine s_iconst (n := 89) (v := 1) dX5_note_88 rfl (by decide) ?_
      refine s_iadd (n := 90) dX5_note_89 rfl ?_
      rw [nI_1]
      refine pf_X5_136 (n := 93) (fs' := [_, _, _, _, _, _, _, _, _, _, _, _, _, _, _, _, _, _, _, _, _, _, _]) rfl dX5_note_90 rfl (by assumption) (by rfl) (by rfl) ?_
      refine YF_9 (τ := u2 τ 7 (cpI (τ 7) (τ 0) (48 * k) 48)) hY (fun h1 hY1 hF1 => ?_)
      refine s_return dX5_note_93 rfl (Nat.le_refl _) (Nat.le_refl _) ?_
      exact ⟨rfl, hY1, fr_tr hF hF1⟩
    · exact absurd (Int32.le_refl _) b54
  | succ r ih =>
    intro i hi h hY hF
    obtain ⟨y0, y1, y2, y3, y4, y5, y6, y7, y8, y9, y10, y11, y12⟩ := id hY
    replace y8 : h.2 228 = mj_ar 0 1152 (cpI (τ 7) (τ 0) (48 * k) i) := y8
    replace y0 : h.2 220 = YO G (τ 12) := y0
    replace y4 : h.2 224 = mj_ar 0 48 (τ 0) := y4
    refine s_iload_n (n := 52) (i := 1) dX5_note_51 rfl rfl rfl ?_
    refine s_bipush (n := 54) (v := 48) dX5_note_52 rfl (by decide) ?_
    refine s_icmp_ge (n := 57) (tgt := 83) dX5_note_54 rfl rfl (fun b54 => ?_) (fun b54 => ?_)
    · exact absurd ((nI_leE (a := 48) (by omega) (by omega)).mp b54) (by omega)
    · refine s_aload_n (n := 58) (i := 0) dX5_note_57 rfl rfl rfl ?_
      refine gf_X5_31 (n := 61) rfl dX5_note_58 rfl (by assumption) (by rfl) ?_
      refine s_bipush (n := 63) (v := 48) dX5_note_61 rfl (by decide) ?_
      refine s_aload_n (n := 64) (i := 0) dX5_note_63 rfl rfl rfl ?_
      refine gf_X5_136 (n := 67) rfl dX5_note_64 rfl (by assumption) (by rfl) ?_
      rw [hk0]
      refine s_imul (n := 68) dX5_note_67 rfl ?_
      refine s_iload_n (n := 69) (i := 1) dX5_note_68 rfl rfl rfl ?_
      refine s_iadd (n := 70) dX5_note_69 rfl ?_
      refine s_aload_n (n := 71) (i := 0) dX5_note_70 rfl rfl rfl ?_
      refine gf_X5_19 (n := 74) rfl dX5_note_71 rfl (by assumption) (by rfl) ?_
      refine s_iload_n (n := 75) (i := 1) dX5_note_74 rfl rfl rfl ?_
      refine s_iald (n := 76) dX5_note_75 rfl (by assumption) (mj_ixn (by omega)) ?_
      refine s_iast (n := 77) dX5_note_76 rfl (by assumption) (mj_ixm (k := 48) rfl (by omega)) ?_
      refine YA_7 hY (fun h1 hY1 hF1 => ?_)
      rw [cpI_s rfl, u2_u2] at hY1
      refine s_iinc (n := 80) (v := _ + 1) (ls' := [_, _]) dX5_note_77 rfl rfl rfl rfl rfl ?_
      refine s_goto (tgt := 51) dX5_note_80 rfl ?_
      rw [nI_1]
      exact ih (i + 1) (by omega) _ hY1 (fr_tr hF hF1)
set_option maxRecDepth 100000 in
set_option maxHeartbeats 4000000 in
theorem l_note1 {G : mj_G} {h0 : mj_H} {d : Nat} {τ : Nat → Nat → Int32} (hk0 : τ 12 9 = nI 24) : ∀ (r i : Nat), i + r = 1104 → ∀ (h : mj_H), YS G h (u2 τ 7 (shF (τ 7) i)) → mj_fr 220 13 h0 h → mj_wp G MX5_note d 0 0 11 [some (.ref (G.1 + 220)), some (.int (nI i))] [] h 0 0 (fun v h' => v = none ∧ YS G h' (ntS τ 24) ∧ mj_fr 220 13 h0 h') := by
  intro r
  induction r with
  | zero =>
    intro i hi h hY hF
    have hi8 : i = 1104 := by omega
    subst hi8
    obtain ⟨y0, y1, y2, y3, y4, y5, y6, y7, y8, y9, y10, y11, y12⟩ := id hY
    replace y0 : h.2 220 = YO G (τ 12) := y0
    refine s_iload_n (n := 12) (i := 1) dX5_note_11 rfl rfl rfl ?_
    refine s_sipush (n := 15) (v := 1104) dX5_note_12 rfl (by decide) ?_
    refine s_icmp_ge (n := 18) (tgt := 39) dX5_note_15 rfl rfl (fun b15 => ?_) (fun b15 => ?_)
    · refine s_aload_n (n := 40) (i := 0) dX5_note_39 rfl rfl rfl ?_
      refine s_dup (n := 41) dX5_note_40 rfl rfl ?_
      refine gf_X5_136 (n := 44) rfl dX5_note_41 rfl (by assumption) (by rfl) ?_
      rw [hk0]
      refine s_iconst (n := 45) (v := 1) dX5_note_44 rfl (by decide) ?_
      refine s_isub (n := 46) dX5_note_45 rfl ?_
      rw [show nI 24 - 1 = nI 23 from by decide]
      refine pf_X5_136 (n := 49) (fs' := [_, _, _, _, _, _, _, _, _, _, _, _, _, _, _, _, _, _, _, _, _, _, _]) rfl dX5_note_46 rfl (by assumption) (by rfl) (by rfl) ?_
      refine YF_9 (τ := u2 τ 7 (shF (τ 7) 1104)) hY (fun h1 hY1 hF1 => ?_)
      replace hY1 : YS G h1 (u2 (u2 τ 7 (shF (τ 7) 1104)) 12 (upd (τ 12) 9 (nI 23))) := hY1
      refine s_iconst (n := 50) (v := 0) dX5_note_49 rfl (by decide) ?_
      refine s_istore_n (n := 51) (i := 1) (ls' := [_, _]) dX5_note_50 rfl rfl rfl rfl rfl ?_
      have q := l_note2 (d := d) (τ := u2 (u2 τ 7 (shF (τ 7) 1104)) 12 (upd (τ 12) 9 (nI 23))) (k := 23) (h0 := h0) (by show upd (τ 12) 9 (nI 23) 9 = nI 23; rw [up_eq]) (by omega) 48 0 (by omega) h1 (by rw [cpI_0]; exact (u2_self (σ := u2 (u2 τ 7 (shF (τ 7) 1104)) 12 (upd (τ 12) 9 (nI 23))) (i := 7)).symm ▸ hY1) (fr_tr hF hF1)
      refine mj_wp_mono (fun v h2 q => ⟨q.1, ?_, q.2.2⟩) q
      have e : u2 (u2 (u2 (u2 τ 7 (shF (τ 7) 1104)) 12 (upd (τ 12) 9 (nI 23))) 7 (cpI (shF (τ 7) 1104) (τ 0) (48 * 23) 48)) 12 (upd (upd (τ 12) 9 (nI 23)) 9 (nI (23 + 1))) = ntS τ 24 := by
        rw [up_up, u2_comm (i := 12) (j := 7) (by omega), u2_u2, u2_u2]
        rfl
      exact e ▸ q.2.1
    · exact absurd (Int32.le_refl _) b15
  | succ r ih =>
    intro i hi h hY hF
    obtain ⟨y0, y1, y2, y3, y4, y5, y6, y7, y8, y9, y10, y11, y12⟩ := id hY
    replace y8 : h.2 228 = mj_ar 0 1152 (shF (τ 7) i) := y8
    replace y0 : h.2 220 = YO G (τ 12) := y0
    replace y4 : h.2 224 = mj_ar 0 48 (τ 0) := y4
    refine s_iload_n (n := 12) (i := 1) dX5_note_11 rfl rfl rfl ?_
    refine s_sipush (n := 15) (v := 1104) dX5_note_12 rfl (by decide) ?_
    refine s_icmp_ge (n := 18) (tgt := 39) dX5_note_15 rfl rfl (fun b15 => ?_) (fun b15 => ?_)
    · exact absurd ((nI_leE (a := 1104) (by omega) (by omega)).mp b15) (by omega)
    · refine s_aload_n (n := 19) (i := 0) dX5_note_18 rfl rfl rfl ?_
      refine gf_X5_31 (n := 22) rfl dX5_note_19 rfl (by assumption) (by rfl) ?_
      refine s_iload_n (n := 23) (i := 1) dX5_note_22 rfl rfl rfl ?_
      refine s_aload_n (n := 24) (i := 0) dX5_note_23 rfl rfl rfl ?_
      refine gf_X5_31 (n := 27) rfl dX5_note_24 rfl (by assumption) (by rfl) ?_
      refine s_iload_n (n := 28) (i := 1) dX5_note_27 rfl rfl rfl ?_
      refine s_bipush (n := 30) (v := 48) dX5_note_28 rfl (by decide) ?_
      refine s_iadd (n := 31) dX5_note_30 rfl ?_
      refine s_iald (n := 32) dX5_note_31 rfl (by assumption) (mj_ixs (m := 48) (by omega)) ?_
      refine s_iast (n := 33) dX5_note_32 rfl (by assumption) (mj_ixn (by omega)) ?_
      rw [shF_n (by omega)]
      refine YA_7 hY (fun h1 hY1 hF1 => ?_)
      rw [shF_s rfl, u2_u2] at hY1
      refine s_iinc (n := 36) (v := _ + 1) (ls' := [_, _]) dX5_note_33 rfl rfl rfl rfl rfl ?_
      refine s_goto (tgt := 11) dX5_note_36 rfl ?_
      rw [nI_1]
      exact ih (i + 1) (by omega) _ hY1 (fr_tr hF hF1)
set_option maxRecDepth 100000 in
set_option maxHeartbeats 4000000 in
theorem y_note {G : mj_G} {h : mj_H} {d : Nat} {τ : Nat → Nat → Int32} (hY : YS G h τ) {k : Nat} (hk0 : τ 12 9 = nI k) (hk : k ≤ 24) : mj_con G MX5_note d 0 0 [.ref (G.1 + 220)] h (fun v h' => v = none ∧ YS G h' (ntS τ k) ∧ mj_fr 220 13 h h') := by
  refine mj_conV okX5_note (ls := [some (.ref (G.1 + 220)), none]) rfl rfl ?_
  obtain ⟨y0, y1, y2, y3, y4, y5, y6, y7, y8, y9, y10, y11, y12⟩ := id hY
  refine s_aload_n (n := 1) (i := 0) dX5_note_0 rfl rfl rfl ?_
  refine gf_X5_136 (n := 4) rfl dX5_note_1 rfl (by assumption) (by rfl) ?_
  refine s_bipush (n := 6) (v := 24) dX5_note_4 rfl (by decide) ?_
  rw [hk0]
  refine s_icmp_ne (n := 9) (tgt := 49) dX5_note_6 rfl rfl (fun b6 => ?_) (fun b6 => ?_)
  · have hk2 : k ≠ 24 := fun z => b6 (z ▸ rfl)
    refine s_iconst (n := 50) (v := 0) dX5_note_49 rfl (by decide) ?_
    refine s_istore_n (n := 51) (i := 1) (ls' := [_, _]) dX5_note_50 rfl rfl rfl rfl rfl ?_
    have q := l_note2 (d := d) hk0 (by omega) 48 0 (by omega) h (by rw [cpI_0, u2_self]; exact hY) fr_rf
    have e : u2 (u2 τ 7 (cpI (τ 7) (τ 0) (48 * k) 48)) 12 (upd (τ 12) 9 (nI (k + 1))) = ntS τ k := by
      unfold ntS ntF kpN
      rw [if_neg hk2, if_pos (by omega)]
    exact e ▸ q
  · have hk2 : k = 24 := nI_inj (by omega) (by omega) b6
    subst hk2
    refine s_iconst (n := 10) (v := 0) dX5_note_9 rfl (by decide) ?_
    refine s_istore_n (n := 11) (i := 1) (ls' := [_, _]) dX5_note_10 rfl rfl rfl rfl rfl ?_
    exact l_note1 hk0 1104 0 (by omega) _ (by rw [shF_0, u2_self]; exact hY) fr_rf
set_option maxRecDepth 100000 in
set_option maxHeartbeats 4000000 in
theorem y_undo_st {G : mj_G} {h : mj_H} {d : Nat} {τ : Nat → Nat → Int32} (hY : YS G h τ) (hb : τ 12 9 = 0) : mj_con G MX5_undo d 0 0 [.ref (G.1 + 220)] h (rI (-1000002) h) := by
  refine mj_conV okX5_undo (ls := [some (.ref (G.1 + 220)), none]) rfl rfl ?_
  obtain ⟨y0, y1, y2, y3, y4, y5, y6, y7, y8, y9, y10, y11, y12⟩ := id hY
  refine s_aload_n (n := 1) (i := 0) dX5_undo_0 rfl rfl rfl ?_
  refine gf_X5_136 (n := 4) rfl dX5_undo_1 rfl (by assumption) (by rfl) ?_
  refine s_if_ne (n := 7) (tgt := 10) dX5_undo_4 rfl rfl (fun b4 => ?_) (fun b4 => ?_)
  · exact absurd hb b4
  · refine s_ldc (n := 9) dX5_undo_7 rfl wd_X5_146 ?_
    refine s_ireturn dX5_undo_9 rfl (rfl) (Nat.le_refl _) (Nat.le_refl _) ?_
    exact ⟨rfl, rfl⟩
set_option maxRecDepth 100000 in
set_option maxHeartbeats 4000000 in
theorem l_undo {G : mj_G} {h0 : mj_H} {d k : Nat} {τ : Nat → Nat → Int32} (hk0 : τ 12 9 = nI k) (hk : k < 24) : ∀ (r i : Nat), i + r = 48 → ∀ (h : mj_H), YS G h (u2 τ 0 (mvF (τ 7) (τ 0) (48 * k) i)) → mj_fr 220 13 h0 h → mj_wp G MX5_undo d 0 0 22 [some (.ref (G.1 + 220)), some (.int (nI i))] [] h 0 0 (fun v h' => v = some (.int (nI k)) ∧ YS G h' (u2 τ 0 (mvF (τ 7) (τ 0) (48 * k) 48)) ∧ mj_fr 220 13 h0 h') := by
  intro r
  induction r with
  | zero =>
    intro i hi h hY hF
    have hi8 : i = 48 := by omega
    subst hi8
    obtain ⟨y0, y1, y2, y3, y4, y5, y6, y7, y8, y9, y10, y11, y12⟩ := id hY
    replace y0 : h.2 220 = YO G (τ 12) := y0
    refine s_iload_n (n := 23) (i := 1) dX5_undo_22 rfl rfl rfl ?_
    refine s_bipush (n := 25) (v := 48) dX5_undo_23 rfl (by decide) ?_
    refine s_icmp_ge (n := 28) (tgt := 54) dX5_undo_25 rfl rfl (fun b25 => ?_) (fun b25 => ?_)
    · refine s_aload_n (n := 55) (i := 0) dX5_undo_54 rfl rfl rfl ?_
      refine gf_X5_136 (n := 58) rfl dX5_undo_55 rfl (by assumption) (by rfl) ?_
      rw [hk0]
      refine s_ireturn dX5_undo_58 rfl (rfl) (Nat.le_refl _) (Nat.le_refl _) ?_
      exact ⟨rfl, hY, hF⟩
    · exact absurd (Int32.le_refl _) b25
  | succ r ih =>
    intro i hi h hY hF
    obtain ⟨y0, y1, y2, y3, y4, y5, y6, y7, y8, y9, y10, y11, y12⟩ := id hY
    replace y8 : h.2 228 = mj_ar 0 1152 (τ 7) := y8
    replace y0 : h.2 220 = YO G (τ 12) := y0
    replace y4 : h.2 224 = mj_ar 0 48 (mvF (τ 7) (τ 0) (48 * k) i) := y4
    refine s_iload_n (n := 23) (i := 1) dX5_undo_22 rfl rfl rfl ?_
    refine s_bipush (n := 25) (v := 48) dX5_undo_23 rfl (by decide) ?_
    refine s_icmp_ge (n := 28) (tgt := 54) dX5_undo_25 rfl rfl (fun b25 => ?_) (fun b25 => ?_)
    · exact absurd ((nI_leE (a := 48) (by omega) (by omega)).mp b25) (by omega)
    · refine s_aload_n (n := 29) (i := 0) dX5_undo_28 rfl rfl rfl ?_
      refine gf_X5_19 (n := 32) rfl dX5_undo_29 rfl (by assumption) (by rfl) ?_
      refine s_iload_n (n := 33) (i := 1) dX5_undo_32 rfl rfl rfl ?_
      refine s_aload_n (n := 34) (i := 0) dX5_undo_33 rfl rfl rfl ?_
      refine gf_X5_31 (n := 37) rfl dX5_undo_34 rfl (by assumption) (by rfl) ?_
      refine s_bipush (n := 39) (v := 48) dX5_undo_37 rfl (by decide) ?_
      refine s_aload_n (n := 40) (i := 0) dX5_undo_39 rfl rfl rfl ?_
      refine gf_X5_136 (n := 43) rfl dX5_undo_40 rfl (by assumption) (by rfl) ?_
      rw [hk0]
      refine s_imul (n := 44) dX5_undo_43 rfl ?_
      refine s_iload_n (n := 45) (i := 1) dX5_undo_44 rfl rfl rfl ?_
      refine s_iadd (n := 46) dX5_undo_45 rfl ?_
      refine s_iald (n := 47) dX5_undo_46 rfl (by assumption) (mj_ixm (k := 48) rfl (by omega)) ?_
      refine s_iast (n := 48) dX5_undo_47 rfl (by assumption) (mj_ixn (by omega)) ?_
      refine YA_0 hY (fun h1 hY1 hF1 => ?_)
      rw [mvF_s rfl, u2_u2] at hY1
      refine s_iinc (n := 51) (v := _ + 1) (ls' := [_, _]) dX5_undo_48 rfl rfl rfl rfl rfl ?_
      refine s_goto (tgt := 22) dX5_undo_51 rfl ?_
      rw [nI_1]
      exact ih (i + 1) (by omega) _ hY1 (fr_tr hF hF1)
/-- the model, an act undone: k acts stay -/
def udY (τ : Nat → Nat → Int32) (k : Nat) : Nat → Nat → Int32 := u2 (u2 τ 12 (upd (τ 12) 9 (nI k))) 0 (mvF (τ 7) (τ 0) (48 * k) 48)
theorem nI_s1 {k : Nat} : nI (k + 1) - 1 = nI k := by
  rw [← nI_1, Int32.add_sub_cancel]
set_option maxRecDepth 100000 in
set_option maxHeartbeats 4000000 in
theorem y_undo {G : mj_G} {h : mj_H} {d : Nat} {τ : Nat → Nat → Int32} (hY : YS G h τ) {k : Nat} (hk0 : τ 12 9 = nI (k + 1)) (hk : k < 24) : mj_con G MX5_undo d 0 0 [.ref (G.1 + 220)] h (fun v h' => v = some (.int (nI k)) ∧ YS G h' (udY τ k) ∧ mj_fr 220 13 h h') := by
  refine mj_conV okX5_undo (ls := [some (.ref (G.1 + 220)), none]) rfl rfl ?_
  obtain ⟨y0, y1, y2, y3, y4, y5, y6, y7, y8, y9, y10, y11, y12⟩ := id hY
  refine s_aload_n (n := 1) (i := 0) dX5_undo_0 rfl rfl rfl ?_
  refine gf_X5_136 (n := 4) rfl dX5_undo_1 rfl (by assumption) (by rfl) ?_
  rw [hk0]
  refine s_if_ne (n := 7) (tgt := 10) dX5_undo_4 rfl rfl (fun b4 => ?_) (fun b4 => ?_)
  · refine s_aload_n (n := 11) (i := 0) dX5_undo_10 rfl rfl rfl ?_
    refine s_dup (n := 12) dX5_undo_11 rfl rfl ?_
    refine gf_X5_136 (n := 15) rfl dX5_undo_12 rfl (by assumption) (by rfl) ?_
    rw [hk0]
    refine s_iconst (n := 16) (v := 1) dX5_undo_15 rfl (by decide) ?_
    refine s_isub (n := 17) dX5_undo_16 rfl ?_
    rw [nI_s1]
    refine pf_X5_136 (n := 20) (fs' := [_, _, _, _, _, _, _, _, _, _, _, _, _, _, _, _, _, _, _, _, _, _, _]) rfl dX5_undo_17 rfl (by assumption) (by rfl) (by rfl) ?_
    refine YF_9 hY (fun h1 hY1 hF1 => ?_)
    refine s_iconst (n := 21) (v := 0) dX5_undo_20 rfl (by decide) ?_
    refine s_istore_n (n := 22) (i := 1) (ls' := [_, _]) dX5_undo_21 rfl rfl rfl rfl rfl ?_
    exact l_undo (τ := u2 τ 12 (upd (τ 12) 9 (nI k))) (by show upd (τ 12) 9 (nI k) 9 = nI k; rw [up_eq]) hk 48 0 (by omega) h1 (by rw [show mvF (u2 τ 12 (upd (τ 12) 9 (nI k)) 7) (u2 τ 12 (upd (τ 12) 9 (nI k)) 0) (48 * k) 0 = u2 τ 12 (upd (τ 12) 9 (nI k)) 0 from cpI_0, u2_self]; exact hY1) hF1
  · exact absurd ((nI_z (by omega)).mp b4) (by omega)
set_option maxRecDepth 100000 in
set_option maxHeartbeats 4000000 in
theorem y_minutes_st {G : mj_G} {h : mj_H} {d : Nat} {τ : Nat → Nat → Int32} (hY : YS G h τ) {x : Int32} (hb : τ 12 1 = 0) (hd : 2 ≤ d) : mj_con G MX5_minutes d 0 0 [.ref (G.1 + 220), .int x] h (rI (-1000002) h) := by
  refine mj_conV okX5_minutes (ls := [some (.ref (G.1 + 220)), some (.int x), none]) rfl rfl ?_
  obtain ⟨y0, y1, y2, y3, y4, y5, y6, y7, y8, y9, y10, y11, y12⟩ := id hY
  refine s_aload_n (n := 1) (i := 0) dX5_minutes_0 rfl rfl rfl ?_
  refine gf_X5_132 (n := 4) rfl dX5_minutes_1 rfl (by assumption) (by rfl) ?_
  refine s_if_ne (n := 7) (tgt := 10) dX5_minutes_4 rfl rfl (fun b4 => ?_) (fun b4 => ?_)
  · exact absurd hb b4
  · refine s_ldc (n := 9) dX5_minutes_7 rfl wd_X5_146 ?_
    refine s_ireturn dX5_minutes_9 rfl (rfl) (Nat.le_refl _) (Nat.le_refl _) ?_
    exact ⟨rfl, rfl⟩
set_option maxRecDepth 100000 in
set_option maxHeartbeats 4000000 in
theorem y_minutes_bad {G : mj_G} {h : mj_H} {d : Nat} {τ : Nat → Nat → Int32} (hY : YS G h τ) {x : Int32} (hT : ¬ τ 12 1 = 0) (hb : ¬ Wi x 1 24) (hd : 2 ≤ d) : mj_con G MX5_minutes d 0 0 [.ref (G.1 + 220), .int x] h (rI (-1000001) h) := by
  refine mj_conV okX5_minutes (ls := [some (.ref (G.1 + 220)), some (.int x), none]) rfl rfl ?_
  obtain ⟨y0, y1, y2, y3, y4, y5, y6, y7, y8, y9, y10, y11, y12⟩ := id hY
  refine s_aload_n (n := 1) (i := 0) dX5_minutes_0 rfl rfl rfl ?_
  refine gf_X5_132 (n := 4) rfl dX5_minutes_1 rfl (by assumption) (by rfl) ?_
  refine s_if_ne (n := 7) (tgt := 10) dX5_minutes_4 rfl rfl (fun b4 => ?_) (fun b4 => ?_)
  · refine s_iload_n (n := 11) (i := 1) dX5_minutes_10 rfl rfl rfl ?_
    refine s_i2l (n := 12) dX5_minutes_11 rfl ?_
    refine s_lconst (n := 13) (v := 1) dX5_minutes_12 rfl (by decide) ?_
    refine s_ldc2 (n := 16) dX5_minutes_13 rfl wd_X5_147 ?_
    refine s_s3 (M' := MX5_in) (n := 19) dX5_minutes_16 rfl wd_X5_54 okX5_in rfl (by omega) ⟨Nat.le_refl _, Nat.le_refl _⟩ (y_in (d := d - 1) (A := 1) (B := 24) (by decide) (by decide)) ?_
    rintro v16 hh16 ⟨rfl, rfl⟩
    refine s_if_ne (n := 22) (tgt := 25) dX5_minutes_19 rfl rfl (fun b19 => ?_) (fun b19 => ?_)
    · exact absurd (if1 b19) hb
    · refine s_ldc (n := 24) dX5_minutes_22 rfl wd_X5_64 ?_
      refine s_ireturn dX5_minutes_24 rfl (rfl) (Nat.le_refl _) (Nat.le_refl _) ?_
      exact ⟨rfl, rfl⟩
  · exact absurd b4 hT
set_option maxRecDepth 100000 in
set_option maxHeartbeats 4000000 in
theorem y_minutes_full {G : mj_G} {h : mj_H} {d : Nat} {τ : Nat → Nat → Int32} (hY : YS G h τ) {x : Int32} (hT : ¬ τ 12 1 = 0) (hx : Wi x 1 24) (hf : ¬ τ 0 3 + x ≤ 999) (hd : 2 ≤ d) : mj_con G MX5_minutes d 0 0 [.ref (G.1 + 220), .int x] h (rI (-1000003) h) := by
  refine mj_conV okX5_minutes (ls := [some (.ref (G.1 + 220)), some (.int x), none]) rfl rfl ?_
  obtain ⟨y0, y1, y2, y3, y4, y5, y6, y7, y8, y9, y10, y11, y12⟩ := id hY
  refine s_aload_n (n := 1) (i := 0) dX5_minutes_0 rfl rfl rfl ?_
  refine gf_X5_132 (n := 4) rfl dX5_minutes_1 rfl (by assumption) (by rfl) ?_
  refine s_if_ne (n := 7) (tgt := 10) dX5_minutes_4 rfl rfl (fun b4 => ?_) (fun b4 => ?_)
  · refine s_iload_n (n := 11) (i := 1) dX5_minutes_10 rfl rfl rfl ?_
    refine s_i2l (n := 12) dX5_minutes_11 rfl ?_
    refine s_lconst (n := 13) (v := 1) dX5_minutes_12 rfl (by decide) ?_
    refine s_ldc2 (n := 16) dX5_minutes_13 rfl wd_X5_147 ?_
    refine s_s3 (M' := MX5_in) (n := 19) dX5_minutes_16 rfl wd_X5_54 okX5_in rfl (by omega) ⟨Nat.le_refl _, Nat.le_refl _⟩ (y_in (d := d - 1) (A := 1) (B := 24) (by decide) (by decide)) ?_
    rintro v16 hh16 ⟨rfl, rfl⟩
    refine s_if_ne (n := 22) (tgt := 25) dX5_minutes_19 rfl rfl (fun b19 => ?_) (fun b19 => ?_)
    · refine s_aload_n (n := 26) (i := 0) dX5_minutes_25 rfl rfl rfl ?_
      refine gf_X5_19 (n := 29) rfl dX5_minutes_26 rfl (by assumption) (by rfl) ?_
      refine s_iconst (n := 30) (v := 3) dX5_minutes_29 rfl (by decide) ?_
      refine s_iald (n := 31) dX5_minutes_30 rfl (by assumption) (mj_ixe (j := 3) rfl (by omega)) ?_
      refine s_iload_n (n := 32) (i := 1) dX5_minutes_31 rfl rfl rfl ?_
      refine s_iadd (n := 33) dX5_minutes_32 rfl ?_
      refine s_sipush (n := 36) (v := 999) dX5_minutes_33 rfl (by decide) ?_
      refine s_icmp_le (n := 39) (tgt := 42) dX5_minutes_36 rfl rfl (fun b36 => ?_) (fun b36 => ?_)
      · exact absurd b36 hf
      · refine s_ldc (n := 41) dX5_minutes_39 rfl wd_X5_81 ?_
        refine s_ireturn dX5_minutes_41 rfl (rfl) (Nat.le_refl _) (Nat.le_refl _) ?_
        exact ⟨rfl, rfl⟩
    · exact absurd (hx) (if0 b19)
  · exact absurd b4 hT
/-- m minutes of the model, an act each -/
def minY (n : Nat) : Nat → (Nat → Nat → Int32) → Nat → Nat → Nat → Int32
  | 0, τ, _ => τ
  | m + 1, τ, k => minY n m (u2 (ntS τ k) 0 (mn n (τ 0))) (kpN k)
set_option maxRecDepth 100000 in
set_option maxHeartbeats 4000000 in
theorem l_ymin {G : mj_G} {h0 : mj_H} {d n m : Nat} (hm : m ≤ 24) (hd : 3 ≤ d) : ∀ (r i : Nat), i + r = m → ∀ (h : mj_H) (τ : Nat → Nat → Int32) (k : Nat), YS G h τ → okB n (τ 0) → τ 12 9 = nI k → k ≤ 24 → mj_fr 220 13 h0 h → mj_wp G MX5_minutes d 0 0 44 [some (.ref (G.1 + 220)), some (.int (nI m)), some (.int (nI i))] [] h 0 0 (fun v h' => v = some (.int (minY n r τ k 0 5)) ∧ YS G h' (minY n r τ k) ∧ mj_fr 220 13 h0 h') := by
  intro r
  induction r with
  | zero =>
    intro i hi h τ k hY hok hk0 hk hF
    have hi8 : i = m := by omega
    subst hi8
    obtain ⟨y0, y1, y2, y3, y4, y5, y6, y7, y8, y9, y10, y11, y12⟩ := id hY
    refine s_iload_n (n := 45) (i := 2) dX5_minutes_44 rfl rfl rfl ?_
    refine s_iload_n (n := 46) (i := 1) dX5_minutes_45 rfl rfl rfl ?_
    refine s_icmp_ge (n := 49) (tgt := 63) dX5_minutes_46 rfl rfl (fun b46 => ?_) (fun b46 => ?_)
    · refine s_aload_n (n := 64) (i := 0) dX5_minutes_63 rfl rfl rfl ?_
      refine gf_X5_19 (n := 67) rfl dX5_minutes_64 rfl (by assumption) (by rfl) ?_
      refine s_iconst (n := 68) (v := 5) dX5_minutes_67 rfl (by decide) ?_
      refine s_iald (n := 69) dX5_minutes_68 rfl (by assumption) (mj_ixe (j := 5) rfl (by omega)) ?_
      refine s_ireturn dX5_minutes_69 rfl (rfl) (Nat.le_refl _) (Nat.le_refl _) ?_
      exact ⟨rfl, hY, hF⟩
    · exact absurd (Int32.le_refl _) b46
  | succ r ih =>
    intro i hi h τ k hY hok hk0 hk hF
    obtain ⟨y0, y1, y2, y3, y4, y5, y6, y7, y8, y9, y10, y11, y12⟩ := id hY
    refine s_iload_n (n := 45) (i := 2) dX5_minutes_44 rfl rfl rfl ?_
    refine s_iload_n (n := 46) (i := 1) dX5_minutes_45 rfl rfl rfl ?_
    refine s_icmp_ge (n := 49) (tgt := 63) dX5_minutes_46 rfl rfl (fun b46 => ?_) (fun b46 => ?_)
    · exact absurd ((nI_leE (by omega) (by omega)).mp b46) (by omega)
    · refine s_aload_n (n := 50) (i := 0) dX5_minutes_49 rfl rfl rfl ?_
      refine s_v0 (M' := MX5_note) (n := 53) (ci := 5) dX5_minutes_50 rfl wd_X5_149 okX5_note rfl rfl (by omega) ⟨Nat.le_refl _, Nat.le_refl _⟩ (by assumption) (y_note (d := d - 1) hY hk0 hk) ?_
      rintro v50 hh50 ⟨rfl, hY1, hF1⟩
      obtain ⟨y0, y1, y2, y3, y4, y5, y6, y7, y8, y9, y10, y11, y12⟩ := id hY1
      replace y4 : hh50.2 224 = mj_ar 0 48 (τ 0) := y4
      replace y0 : hh50.2 220 = YO G (ntS τ k 12) := y0
      refine s_aload_n (n := 54) (i := 0) dX5_minutes_53 rfl rfl rfl ?_
      refine s_v0 (M' := MX5_oneMinute) (n := 57) (ci := 5) dX5_minutes_54 rfl wd_X5_152 okX5_oneMinute rfl rfl (by omega) ⟨Nat.le_refl _, Nat.le_refl _⟩ (by assumption) (y_oneMinute (d := d - 1) hY1 (n := n) (okB_M hok) (by omega)) ?_
      rintro v54 hh54 ⟨rfl, hY2, hF2⟩
      refine s_iinc (n := 60) (v := _ + 1) (ls' := [_, _, _]) dX5_minutes_57 rfl rfl rfl rfl rfl ?_
      refine s_goto (tgt := 44) dX5_minutes_60 rfl ?_
      rw [nI_1]
      exact ih (i + 1) (by omega) _ _ _ hY2 (okB_mn hok) rfl (kpN_le hk) (fr_tr hF (fr_tr hF1 hF2))
set_option maxRecDepth 100000 in
set_option maxHeartbeats 4000000 in
theorem y_minutes {G : mj_G} {h : mj_H} {d : Nat} {τ : Nat → Nat → Int32} (hY : YS G h τ) {n k m : Nat} (hok : okB n (τ 0)) (hk0 : τ 12 9 = nI k) (hk : k ≤ 24) (hm1 : 1 ≤ m) (hm : m ≤ 24) (hT : ¬ τ 12 1 = 0) (hf : τ 0 3 + nI m ≤ 999) (hd : 3 ≤ d) : mj_con G MX5_minutes d 0 0 [.ref (G.1 + 220), .int (nI m)] h (fun v h' => v = some (.int (minY n m τ k 0 5)) ∧ YS G h' (minY n m τ k) ∧ mj_fr 220 13 h h') := by
  refine mj_conV okX5_minutes (ls := [some (.ref (G.1 + 220)), some (.int (nI m)), none]) rfl rfl ?_
  obtain ⟨y0, y1, y2, y3, y4, y5, y6, y7, y8, y9, y10, y11, y12⟩ := id hY
  refine s_aload_n (n := 1) (i := 0) dX5_minutes_0 rfl rfl rfl ?_
  refine gf_X5_132 (n := 4) rfl dX5_minutes_1 rfl (by assumption) (by rfl) ?_
  refine s_if_ne (n := 7) (tgt := 10) dX5_minutes_4 rfl rfl (fun b4 => ?_) (fun b4 => ?_)
  · refine s_iload_n (n := 11) (i := 1) dX5_minutes_10 rfl rfl rfl ?_
    refine s_i2l (n := 12) dX5_minutes_11 rfl ?_
    refine s_lconst (n := 13) (v := 1) dX5_minutes_12 rfl (by decide) ?_
    refine s_ldc2 (n := 16) dX5_minutes_13 rfl wd_X5_147 ?_
    refine s_s3 (M' := MX5_in) (n := 19) dX5_minutes_16 rfl wd_X5_54 okX5_in rfl (by omega) ⟨Nat.le_refl _, Nat.le_refl _⟩ (y_in (d := d - 1) (A := 1) (B := 24) (by decide) (by decide)) ?_
    rintro v16 hh16 ⟨rfl, rfl⟩
    refine s_if_ne (n := 22) (tgt := 25) dX5_minutes_19 rfl rfl (fun b19 => ?_) (fun b19 => ?_)
    · refine s_aload_n (n := 26) (i := 0) dX5_minutes_25 rfl rfl rfl ?_
      refine gf_X5_19 (n := 29) rfl dX5_minutes_26 rfl (by assumption) (by rfl) ?_
      refine s_iconst (n := 30) (v := 3) dX5_minutes_29 rfl (by decide) ?_
      refine s_iald (n := 31) dX5_minutes_30 rfl (by assumption) (mj_ixe (j := 3) rfl (by omega)) ?_
      refine s_iload_n (n := 32) (i := 1) dX5_minutes_31 rfl rfl rfl ?_
      refine s_iadd (n := 33) dX5_minutes_32 rfl ?_
      refine s_sipush (n := 36) (v := 999) dX5_minutes_33 rfl (by decide) ?_
      refine s_icmp_le (n := 39) (tgt := 42) dX5_minutes_36 rfl rfl (fun b36 => ?_) (fun b36 => ?_)
      · refine s_iconst (n := 43) (v := 0) dX5_minutes_42 rfl (by decide) ?_
        refine s_istore_n (n := 44) (i := 2) (ls' := [_, _, _]) dX5_minutes_43 rfl rfl rfl rfl rfl ?_
        exact l_ymin hm hd m 0 (by omega) _ _ _ hY hok hk0 hk fr_rf
      · exact absurd hf b36
    · exact absurd (Wi_n (by omega) (by omega) (by omega)) (if0 b19)
  · exact absurd b4 hT
set_option maxRecDepth 100000 in
set_option maxHeartbeats 4000000 in
theorem y_talk_bad {G : mj_G} {h : mj_H} {d : Nat} {τ : Nat → Nat → Int32} (hY : YS G h τ) {n : Nat} (hn : τ 0 2 = nI n) (h7 : n ≤ 7) {x y : Int32} (hb : ¬ (Hs n x ∧ Wi y 0 20)) (hd : 2 ≤ d) : mj_con G MX5_talk d 0 0 [.ref (G.1 + 220), .int x, .int y] h (rI (-1000001) h) := by
  refine mj_conV okX5_talk (ls := [some (.ref (G.1 + 220)), some (.int x), some (.int y), none]) rfl rfl ?_
  obtain ⟨y0, y1, y2, y3, y4, y5, y6, y7, y8, y9, y10, y11, y12⟩ := id hY
  refine s_aload_n (n := 1) (i := 0) dX5_talk_0 rfl rfl rfl ?_
  refine s_iload_n (n := 2) (i := 1) dX5_talk_1 rfl rfl rfl ?_
  refine s_v1 (M' := MX5_isHouse) (n := 5) (ci := 5) dX5_talk_2 rfl wd_X5_155 okX5_isHouse rfl rfl (by omega) ⟨Nat.le_refl _, Nat.le_refl _⟩ (by assumption) (y_isHouse (d := d - 1) hY hn h7 (by omega)) ?_
  rintro v2 hh2 ⟨rfl, rfl⟩
  refine s_if_eq (n := 8) (tgt := 20) dX5_talk_5 rfl rfl (fun b5 => ?_) (fun b5 => ?_)
  · refine s_ldc (n := 22) dX5_talk_20 rfl wd_X5_64 ?_
    refine s_ireturn dX5_talk_22 rfl (rfl) (Nat.le_refl _) (Nat.le_refl _) ?_
    exact ⟨rfl, rfl⟩
  · refine s_iload_n (n := 9) (i := 2) dX5_talk_8 rfl rfl rfl ?_
    refine s_i2l (n := 10) dX5_talk_9 rfl ?_
    refine s_lconst (n := 11) (v := 0) dX5_talk_10 rfl (by decide) ?_
    refine s_ldc2 (n := 14) dX5_talk_11 rfl wd_X5_158 ?_
    refine s_s3 (M' := MX5_in) (n := 17) dX5_talk_14 rfl wd_X5_54 okX5_in rfl (by omega) ⟨Nat.le_refl _, Nat.le_refl _⟩ (y_in (d := d - 1) (A := 0) (B := 20) (by decide) (by decide)) ?_
    rintro v14 hh14 ⟨rfl, rfl⟩
    refine s_if_ne (n := 20) (tgt := 23) dX5_talk_17 rfl rfl (fun b17 => ?_) (fun b17 => ?_)
    · exact absurd (⟨if1 b5, if1 b17⟩) hb
    · refine s_ldc (n := 22) dX5_talk_20 rfl wd_X5_64 ?_
      refine s_ireturn dX5_talk_22 rfl (rfl) (Nat.le_refl _) (Nat.le_refl _) ?_
      exact ⟨rfl, rfl⟩
set_option maxRecDepth 100000 in
set_option maxHeartbeats 4000000 in
theorem y_talk {G : mj_G} {h : mj_H} {d : Nat} {τ : Nat → Nat → Int32} (hY : YS G h τ) {n : Nat} (hn : τ 0 2 = nI n) (h7 : n ≤ 7) {k : Nat} (hk0 : τ 12 9 = nI k) (hk : k ≤ 24) {j : Nat} (hj : j < n) {y : Int32} (hy : Wi y 0 20) (hd : 2 ≤ d) : mj_con G MX5_talk d 0 0 [.ref (G.1 + 220), .int (nI j), .int y] h (fun v h' => v = some (.int (τ 0 (13 + j))) ∧ YS G h' (u2 (ntS τ k) 0 (upd (τ 0) (13 + j) y)) ∧ mj_fr 220 13 h h') := by
  refine mj_conV okX5_talk (ls := [some (.ref (G.1 + 220)), some (.int (nI j)), some (.int y), none]) rfl rfl ?_
  obtain ⟨y0, y1, y2, y3, y4, y5, y6, y7, y8, y9, y10, y11, y12⟩ := id hY
  refine s_aload_n (n := 1) (i := 0) dX5_talk_0 rfl rfl rfl ?_
  refine s_iload_n (n := 2) (i := 1) dX5_talk_1 rfl rfl rfl ?_
  refine s_v1 (M' := MX5_isHouse) (n := 5) (ci := 5) dX5_talk_2 rfl wd_X5_155 okX5_isHouse rfl rfl (by omega) ⟨Nat.le_refl _, Nat.le_refl _⟩ (by assumption) (y_isHouse (d := d - 1) hY hn h7 (by omega)) ?_
  rintro v2 hh2 ⟨rfl, rfl⟩
  refine s_if_eq (n := 8) (tgt := 20) dX5_talk_5 rfl rfl (fun b5 => ?_) (fun b5 => ?_)
  · exact absurd (Hs_n hj h7) (if0 b5)
  · refine s_iload_n (n := 9) (i := 2) dX5_talk_8 rfl rfl rfl ?_
    refine s_i2l (n := 10) dX5_talk_9 rfl ?_
    refine s_lconst (n := 11) (v := 0) dX5_talk_10 rfl (by decide) ?_
    refine s_ldc2 (n := 14) dX5_talk_11 rfl wd_X5_158 ?_
    refine s_s3 (M' := MX5_in) (n := 17) dX5_talk_14 rfl wd_X5_54 okX5_in rfl (by omega) ⟨Nat.le_refl _, Nat.le_refl _⟩ (y_in (d := d - 1) (A := 0) (B := 20) (by decide) (by decide)) ?_
    rintro v14 hh14 ⟨rfl, rfl⟩
    refine s_if_ne (n := 20) (tgt := 23) dX5_talk_17 rfl rfl (fun b17 => ?_) (fun b17 => ?_)
    · refine s_aload_n (n := 24) (i := 0) dX5_talk_23 rfl rfl rfl ?_
      refine s_v0 (M' := MX5_note) (n := 27) (ci := 5) dX5_talk_24 rfl wd_X5_149 okX5_note rfl rfl (by omega) ⟨Nat.le_refl _, Nat.le_refl _⟩ (by assumption) (y_note (d := d - 1) hY hk0 hk) ?_
      rintro v24 hh24 ⟨rfl, hY1, hF1⟩
      obtain ⟨y0, y1, y2, y3, y4, y5, y6, y7, y8, y9, y10, y11, y12⟩ := id hY1
      replace y4 : hh24.2 224 = mj_ar 0 48 (τ 0) := y4
      replace y0 : hh24.2 220 = YO G (ntS τ k 12) := y0
      refine s_aload_n (n := 28) (i := 0) dX5_talk_27 rfl rfl rfl ?_
      refine gf_X5_19 (n := 31) rfl dX5_talk_28 rfl (by assumption) (by rfl) ?_
      refine s_bipush (n := 33) (v := 13) dX5_talk_31 rfl (by decide) ?_
      refine s_iload_n (n := 34) (i := 1) dX5_talk_33 rfl rfl rfl ?_
      refine s_iadd (n := 35) dX5_talk_34 rfl ?_
      refine s_iald (n := 36) dX5_talk_35 rfl (by assumption) (mj_ixa (o := 13) rfl (by omega)) ?_
      refine s_istore_n (n := 37) (i := 3) (ls' := [_, _, _, _]) dX5_talk_36 rfl rfl rfl rfl rfl ?_
      refine s_aload_n (n := 38) (i := 0) dX5_talk_37 rfl rfl rfl ?_
      refine gf_X5_19 (n := 41) rfl dX5_talk_38 rfl (by assumption) (by rfl) ?_
      refine s_bipush (n := 43) (v := 13) dX5_talk_41 rfl (by decide) ?_
      refine s_iload_n (n := 44) (i := 1) dX5_talk_43 rfl rfl rfl ?_
      refine s_iadd (n := 45) dX5_talk_44 rfl ?_
      refine s_iload_n (n := 46) (i := 2) dX5_talk_45 rfl rfl rfl ?_
      refine s_iast (n := 47) dX5_talk_46 rfl (by assumption) (mj_ixa (o := 13) rfl (by omega)) ?_
      refine YA_0 hY1 (fun h2 hY2 hF2 => ?_)
      refine s_iload_n (n := 48) (i := 3) dX5_talk_47 rfl rfl rfl ?_
      refine s_ireturn dX5_talk_48 rfl (rfl) (Nat.le_refl _) (Nat.le_refl _) ?_
      exact ⟨rfl, hY2, fr_tr hF1 hF2⟩
    · exact absurd (hy) (if0 b17)
set_option maxRecDepth 100000 in
set_option maxHeartbeats 4000000 in
theorem y_bars_bad {G : mj_G} {h : mj_H} {d : Nat} {τ : Nat → Nat → Int32} (hY : YS G h τ) {n : Nat} (hn : τ 0 2 = nI n) (h7 : n ≤ 7) {x y : Int32} (hb : ¬ (Hs n x ∧ Wi y 0 9)) (hd : 2 ≤ d) : mj_con G MX5_bars d 0 0 [.ref (G.1 + 220), .int x, .int y] h (rI (-1000001) h) := by
  refine mj_conV okX5_bars (ls := [some (.ref (G.1 + 220)), some (.int x), some (.int y), none]) rfl rfl ?_
  obtain ⟨y0, y1, y2, y3, y4, y5, y6, y7, y8, y9, y10, y11, y12⟩ := id hY
  refine s_aload_n (n := 1) (i := 0) dX5_bars_0 rfl rfl rfl ?_
  refine s_iload_n (n := 2) (i := 1) dX5_bars_1 rfl rfl rfl ?_
  refine s_v1 (M' := MX5_isHouse) (n := 5) (ci := 5) dX5_bars_2 rfl wd_X5_155 okX5_isHouse rfl rfl (by omega) ⟨Nat.le_refl _, Nat.le_refl _⟩ (by assumption) (y_isHouse (d := d - 1) hY hn h7 (by omega)) ?_
  rintro v2 hh2 ⟨rfl, rfl⟩
  refine s_if_eq (n := 8) (tgt := 20) dX5_bars_5 rfl rfl (fun b5 => ?_) (fun b5 => ?_)
  · refine s_ldc (n := 22) dX5_bars_20 rfl wd_X5_64 ?_
    refine s_ireturn dX5_bars_22 rfl (rfl) (Nat.le_refl _) (Nat.le_refl _) ?_
    exact ⟨rfl, rfl⟩
  · refine s_iload_n (n := 9) (i := 2) dX5_bars_8 rfl rfl rfl ?_
    refine s_i2l (n := 10) dX5_bars_9 rfl ?_
    refine s_lconst (n := 11) (v := 0) dX5_bars_10 rfl (by decide) ?_
    refine s_ldc2 (n := 14) dX5_bars_11 rfl wd_X5_160 ?_
    refine s_s3 (M' := MX5_in) (n := 17) dX5_bars_14 rfl wd_X5_54 okX5_in rfl (by omega) ⟨Nat.le_refl _, Nat.le_refl _⟩ (y_in (d := d - 1) (A := 0) (B := 9) (by decide) (by decide)) ?_
    rintro v14 hh14 ⟨rfl, rfl⟩
    refine s_if_ne (n := 20) (tgt := 23) dX5_bars_17 rfl rfl (fun b17 => ?_) (fun b17 => ?_)
    · exact absurd (⟨if1 b5, if1 b17⟩) hb
    · refine s_ldc (n := 22) dX5_bars_20 rfl wd_X5_64 ?_
      refine s_ireturn dX5_bars_22 rfl (rfl) (Nat.le_refl _) (Nat.le_refl _) ?_
      exact ⟨rfl, rfl⟩
set_option maxRecDepth 100000 in
set_option maxHeartbeats 4000000 in
theorem y_bars {G : mj_G} {h : mj_H} {d : Nat} {τ : Nat → Nat → Int32} (hY : YS G h τ) {n : Nat} (hn : τ 0 2 = nI n) (h7 : n ≤ 7) {k : Nat} (hk0 : τ 12 9 = nI k) (hk : k ≤ 24) {j : Nat} (hj : j < n) {y : Int32} (hy : Wi y 0 9) (hd : 2 ≤ d) : mj_con G MX5_bars d 0 0 [.ref (G.1 + 220), .int (nI j), .int y] h (fun v h' => v = some (.int (τ 0 (41 + j))) ∧ YS G h' (u2 (ntS τ k) 0 (upd (upd (τ 0) (27 + j) y) (41 + j) 0)) ∧ mj_fr 220 13 h h') := by
  refine mj_conV okX5_bars (ls := [some (.ref (G.1 + 220)), some (.int (nI j)), some (.int y), none]) rfl rfl ?_
  obtain ⟨y0, y1, y2, y3, y4, y5, y6, y7, y8, y9, y10, y11, y12⟩ := id hY
  refine s_aload_n (n := 1) (i := 0) dX5_bars_0 rfl rfl rfl ?_
  refine s_iload_n (n := 2) (i := 1) dX5_bars_1 rfl rfl rfl ?_
  refine s_v1 (M' := MX5_isHouse) (n := 5) (ci := 5) dX5_bars_2 rfl wd_X5_155 okX5_isHouse rfl rfl (by omega) ⟨Nat.le_refl _, Nat.le_refl _⟩ (by assumption) (y_isHouse (d := d - 1) hY hn h7 (by omega)) ?_
  rintro v2 hh2 ⟨rfl, rfl⟩
  refine s_if_eq (n := 8) (tgt := 20) dX5_bars_5 rfl rfl (fun b5 => ?_) (fun b5 => ?_)
  · exact absurd (Hs_n hj h7) (if0 b5)
  · refine s_iload_n (n := 9) (i := 2) dX5_bars_8 rfl rfl rfl ?_
    refine s_i2l (n := 10) dX5_bars_9 rfl ?_
    refine s_lconst (n := 11) (v := 0) dX5_bars_10 rfl (by decide) ?_
    refine s_ldc2 (n := 14) dX5_bars_11 rfl wd_X5_160 ?_
    refine s_s3 (M' := MX5_in) (n := 17) dX5_bars_14 rfl wd_X5_54 okX5_in rfl (by omega) ⟨Nat.le_refl _, Nat.le_refl _⟩ (y_in (d := d - 1) (A := 0) (B := 9) (by decide) (by decide)) ?_
    rintro v14 hh14 ⟨rfl, rfl⟩
    refine s_if_ne (n := 20) (tgt := 23) dX5_bars_17 rfl rfl (fun b17 => ?_) (fun b17 => ?_)
    · refine s_aload_n (n := 24) (i := 0) dX5_bars_23 rfl rfl rfl ?_
      refine s_v0 (M' := MX5_note) (n := 27) (ci := 5) dX5_bars_24 rfl wd_X5_149 okX5_note rfl rfl (by omega) ⟨Nat.le_refl _, Nat.le_refl _⟩ (by assumption) (y_note (d := d - 1) hY hk0 hk) ?_
      rintro v24 hh24 ⟨rfl, hY1, hF1⟩
      obtain ⟨y0, y1, y2, y3, y4, y5, y6, y7, y8, y9, y10, y11, y12⟩ := id hY1
      replace y4 : hh24.2 224 = mj_ar 0 48 (τ 0) := y4
      replace y0 : hh24.2 220 = YO G (ntS τ k 12) := y0
      refine s_aload_n (n := 28) (i := 0) dX5_bars_27 rfl rfl rfl ?_
      refine gf_X5_19 (n := 31) rfl dX5_bars_28 rfl (by assumption) (by rfl) ?_
      refine s_bipush (n := 33) (v := 41) dX5_bars_31 rfl (by decide) ?_
      refine s_iload_n (n := 34) (i := 1) dX5_bars_33 rfl rfl rfl ?_
      refine s_iadd (n := 35) dX5_bars_34 rfl ?_
      refine s_iald (n := 36) dX5_bars_35 rfl (by assumption) (mj_ixa (o := 41) rfl (by omega)) ?_
      refine s_istore_n (n := 37) (i := 3) (ls' := [_, _, _, _]) dX5_bars_36 rfl rfl rfl rfl rfl ?_
      refine s_aload_n (n := 38) (i := 0) dX5_bars_37 rfl rfl rfl ?_
      refine gf_X5_19 (n := 41) rfl dX5_bars_38 rfl (by assumption) (by rfl) ?_
      refine s_bipush (n := 43) (v := 27) dX5_bars_41 rfl (by decide) ?_
      refine s_iload_n (n := 44) (i := 1) dX5_bars_43 rfl rfl rfl ?_
      refine s_iadd (n := 45) dX5_bars_44 rfl ?_
      refine s_iload_n (n := 46) (i := 2) dX5_bars_45 rfl rfl rfl ?_
      refine s_iast (n := 47) dX5_bars_46 rfl (by assumption) (mj_ixa (o := 27) rfl (by omega)) ?_
      refine YA_0 hY1 (fun h2 hY2 hF2 => ?_)
      obtain ⟨y0, y1, y2, y3, y4, y5, y6, y7, y8, y9, y10, y11, y12⟩ := id hY2
      replace y4 : h2.2 224 = mj_ar 0 48 (upd (τ 0) (27 + j) y) := y4
      replace y0 : h2.2 220 = YO G (ntS τ k 12) := y0
      refine s_aload_n (n := 48) (i := 0) dX5_bars_47 rfl rfl rfl ?_
      refine gf_X5_19 (n := 51) rfl dX5_bars_48 rfl (by assumption) (by rfl) ?_
      refine s_bipush (n := 53) (v := 41) dX5_bars_51 rfl (by decide) ?_
      refine s_iload_n (n := 54) (i := 1) dX5_bars_53 rfl rfl rfl ?_
      refine s_iadd (n := 55) dX5_bars_54 rfl ?_
      refine s_iconst (n := 56) (v := 0) dX5_bars_55 rfl (by decide) ?_
      refine s_iast (n := 57) dX5_bars_56 rfl (by assumption) (mj_ixa (o := 41) rfl (by omega)) ?_
      refine YA_0 hY2 (fun h3 hY3 hF3 => ?_)
      rw [u2_u2] at hY3
      refine s_iload_n (n := 58) (i := 3) dX5_bars_57 rfl rfl rfl ?_
      refine s_ireturn dX5_bars_58 rfl (rfl) (Nat.le_refl _) (Nat.le_refl _) ?_
      exact ⟨rfl, hY3, fr_tr hF1 (fr_tr hF2 hF3)⟩
    · exact absurd (hy) (if0 b17)
set_option maxRecDepth 100000 in
set_option maxHeartbeats 4000000 in
theorem y_hush_bad {G : mj_G} {h : mj_H} {d : Nat} {τ : Nat → Nat → Int32} (hY : YS G h τ) {n : Nat} (hn : τ 0 2 = nI n) (h7 : n ≤ 7) {x y : Int32} (hb : ¬ (Hs n x ∧ Wi y 0 1)) (hd : 2 ≤ d) : mj_con G MX5_hush d 0 0 [.ref (G.1 + 220), .int x, .int y] h (rI (-1000001) h) := by
  refine mj_conV okX5_hush (ls := [some (.ref (G.1 + 220)), some (.int x), some (.int y)]) rfl rfl ?_
  obtain ⟨y0, y1, y2, y3, y4, y5, y6, y7, y8, y9, y10, y11, y12⟩ := id hY
  refine s_aload_n (n := 1) (i := 0) dX5_hush_0 rfl rfl rfl ?_
  refine s_iload_n (n := 2) (i := 1) dX5_hush_1 rfl rfl rfl ?_
  refine s_v1 (M' := MX5_isHouse) (n := 5) (ci := 5) dX5_hush_2 rfl wd_X5_155 okX5_isHouse rfl rfl (by omega) ⟨Nat.le_refl _, Nat.le_refl _⟩ (by assumption) (y_isHouse (d := d - 1) hY hn h7 (by omega)) ?_
  rintro v2 hh2 ⟨rfl, rfl⟩
  refine s_if_eq (n := 8) (tgt := 18) dX5_hush_5 rfl rfl (fun b5 => ?_) (fun b5 => ?_)
  · refine s_ldc (n := 20) dX5_hush_18 rfl wd_X5_64 ?_
    refine s_ireturn dX5_hush_20 rfl (rfl) (Nat.le_refl _) (Nat.le_refl _) ?_
    exact ⟨rfl, rfl⟩
  · refine s_iload_n (n := 9) (i := 2) dX5_hush_8 rfl rfl rfl ?_
    refine s_i2l (n := 10) dX5_hush_9 rfl ?_
    refine s_lconst (n := 11) (v := 0) dX5_hush_10 rfl (by decide) ?_
    refine s_lconst (n := 12) (v := 1) dX5_hush_11 rfl (by decide) ?_
    refine s_s3 (M' := MX5_in) (n := 15) dX5_hush_12 rfl wd_X5_54 okX5_in rfl (by omega) ⟨Nat.le_refl _, Nat.le_refl _⟩ (y_in (d := d - 1) (A := 0) (B := 1) (by decide) (by decide)) ?_
    rintro v12 hh12 ⟨rfl, rfl⟩
    refine s_if_ne (n := 18) (tgt := 21) dX5_hush_15 rfl rfl (fun b15 => ?_) (fun b15 => ?_)
    · exact absurd (⟨if1 b5, if1 b15⟩) hb
    · refine s_ldc (n := 20) dX5_hush_18 rfl wd_X5_64 ?_
      refine s_ireturn dX5_hush_20 rfl (rfl) (Nat.le_refl _) (Nat.le_refl _) ?_
      exact ⟨rfl, rfl⟩
set_option maxRecDepth 100000 in
set_option maxHeartbeats 4000000 in
theorem y_hush_st {G : mj_G} {h : mj_H} {d : Nat} {τ : Nat → Nat → Int32} (hY : YS G h τ) {n : Nat} (hn : τ 0 2 = nI n) (h7 : n ≤ 7) {j : Nat} (hj : j < n) {y : Int32} (hy : Wi y 0 1) (hq : (if hs (τ 0) (nI j) then (1 : Int32) else 0) = if y = 1 then 1 else 0) (hd : 2 ≤ d) : mj_con G MX5_hush d 0 0 [.ref (G.1 + 220), .int (nI j), .int y] h (rI (-1000002) h) := by
  refine mj_conV okX5_hush (ls := [some (.ref (G.1 + 220)), some (.int (nI j)), some (.int y)]) rfl rfl ?_
  obtain ⟨y0, y1, y2, y3, y4, y5, y6, y7, y8, y9, y10, y11, y12⟩ := id hY
  refine s_aload_n (n := 1) (i := 0) dX5_hush_0 rfl rfl rfl ?_
  refine s_iload_n (n := 2) (i := 1) dX5_hush_1 rfl rfl rfl ?_
  refine s_v1 (M' := MX5_isHouse) (n := 5) (ci := 5) dX5_hush_2 rfl wd_X5_155 okX5_isHouse rfl rfl (by omega) ⟨Nat.le_refl _, Nat.le_refl _⟩ (by assumption) (y_isHouse (d := d - 1) hY hn h7 (by omega)) ?_
  rintro v2 hh2 ⟨rfl, rfl⟩
  refine s_if_eq (n := 8) (tgt := 18) dX5_hush_5 rfl rfl (fun b5 => ?_) (fun b5 => ?_)
  · exact absurd (Hs_n hj h7) (if0 b5)
  · refine s_iload_n (n := 9) (i := 2) dX5_hush_8 rfl rfl rfl ?_
    refine s_i2l (n := 10) dX5_hush_9 rfl ?_
    refine s_lconst (n := 11) (v := 0) dX5_hush_10 rfl (by decide) ?_
    refine s_lconst (n := 12) (v := 1) dX5_hush_11 rfl (by decide) ?_
    refine s_s3 (M' := MX5_in) (n := 15) dX5_hush_12 rfl wd_X5_54 okX5_in rfl (by omega) ⟨Nat.le_refl _, Nat.le_refl _⟩ (y_in (d := d - 1) (A := 0) (B := 1) (by decide) (by decide)) ?_
    rintro v12 hh12 ⟨rfl, rfl⟩
    refine s_if_ne (n := 18) (tgt := 21) dX5_hush_15 rfl rfl (fun b15 => ?_) (fun b15 => ?_)
    · refine s_aload_n (n := 22) (i := 0) dX5_hush_21 rfl rfl rfl ?_
      refine gf_X5_19 (n := 25) rfl dX5_hush_22 rfl (by assumption) (by rfl) ?_
      refine s_iconst (n := 26) (v := 4) dX5_hush_25 rfl (by decide) ?_
      refine s_iald (n := 27) dX5_hush_26 rfl (by assumption) (mj_ixe (j := 4) rfl (by omega)) ?_
      refine s_iload_n (n := 28) (i := 1) dX5_hush_27 rfl rfl rfl ?_
      refine s_s2 (M' := MX5_has) (n := 31) dX5_hush_28 rfl wd_X5_139 okX5_has rfl (by omega) ⟨Nat.le_refl _, Nat.le_refl _⟩ (y_has (d := d - 1)) ?_
      rintro v28 hh28 ⟨rfl, rfl⟩
      refine s_iload_n (n := 32) (i := 2) dX5_hush_31 rfl rfl rfl ?_
      refine s_iconst (n := 33) (v := 1) dX5_hush_32 rfl (by decide) ?_
      refine s_icmp_ne (n := 36) (tgt := 40) dX5_hush_33 rfl rfl (fun b33 => ?_) (fun b33 => ?_)
      · rw [if_neg b33] at hq
        refine s_iconst (n := 41) (v := 0) dX5_hush_40 rfl (by decide) ?_
        refine s_icmp_ne (n := 44) (tgt := 47) dX5_hush_41 rfl rfl (fun b41 => ?_) (fun b41 => ?_)
        · exact absurd hq b41
        · refine s_ldc (n := 46) dX5_hush_44 rfl wd_X5_146 ?_
          refine s_ireturn dX5_hush_46 rfl (rfl) (Nat.le_refl _) (Nat.le_refl _) ?_
          exact ⟨rfl, rfl⟩
      · rw [if_pos b33] at hq
        refine s_iconst (n := 37) (v := 1) dX5_hush_36 rfl (by decide) ?_
        refine s_goto (tgt := 41) dX5_hush_37 rfl ?_
        refine s_icmp_ne (n := 44) (tgt := 47) dX5_hush_41 rfl rfl (fun b41 => ?_) (fun b41 => ?_)
        · exact absurd hq b41
        · refine s_ldc (n := 46) dX5_hush_44 rfl wd_X5_146 ?_
          refine s_ireturn dX5_hush_46 rfl (rfl) (Nat.le_refl _) (Nat.le_refl _) ?_
          exact ⟨rfl, rfl⟩
    · exact absurd (hy) (if0 b15)
set_option maxRecDepth 100000 in
set_option maxHeartbeats 4000000 in
theorem y_hush {G : mj_G} {h : mj_H} {d : Nat} {τ : Nat → Nat → Int32} (hY : YS G h τ) {n : Nat} (hn : τ 0 2 = nI n) (h7 : n ≤ 7) {k : Nat} (hk0 : τ 12 9 = nI k) (hk : k ≤ 24) {j : Nat} (hj : j < n) {y : Int32} (hy : Wi y 0 1) (hq : ¬ ((if hs (τ 0) (nI j) then (1 : Int32) else 0) = if y = 1 then 1 else 0)) (hd : 2 ≤ d) : mj_con G MX5_hush d 0 0 [.ref (G.1 + 220), .int (nI j), .int y] h (fun v h' => v = some (.int (τ 0 4 ^^^ (1 <<< (nI j &&& 31)))) ∧ YS G h' (u2 (ntS τ k) 0 (upd (τ 0) 4 (τ 0 4 ^^^ (1 <<< (nI j &&& 31))))) ∧ mj_fr 220 13 h h') := by
  refine mj_conV okX5_hush (ls := [some (.ref (G.1 + 220)), some (.int (nI j)), some (.int y)]) rfl rfl ?_
  obtain ⟨y0, y1, y2, y3, y4, y5, y6, y7, y8, y9, y10, y11, y12⟩ := id hY
  refine s_aload_n (n := 1) (i := 0) dX5_hush_0 rfl rfl rfl ?_
  refine s_iload_n (n := 2) (i := 1) dX5_hush_1 rfl rfl rfl ?_
  refine s_v1 (M' := MX5_isHouse) (n := 5) (ci := 5) dX5_hush_2 rfl wd_X5_155 okX5_isHouse rfl rfl (by omega) ⟨Nat.le_refl _, Nat.le_refl _⟩ (by assumption) (y_isHouse (d := d - 1) hY hn h7 (by omega)) ?_
  rintro v2 hh2 ⟨rfl, rfl⟩
  refine s_if_eq (n := 8) (tgt := 18) dX5_hush_5 rfl rfl (fun b5 => ?_) (fun b5 => ?_)
  · exact absurd (Hs_n hj h7) (if0 b5)
  · refine s_iload_n (n := 9) (i := 2) dX5_hush_8 rfl rfl rfl ?_
    refine s_i2l (n := 10) dX5_hush_9 rfl ?_
    refine s_lconst (n := 11) (v := 0) dX5_hush_10 rfl (by decide) ?_
    refine s_lconst (n := 12) (v := 1) dX5_hush_11 rfl (by decide) ?_
    refine s_s3 (M' := MX5_in) (n := 15) dX5_hush_12 rfl wd_X5_54 okX5_in rfl (by omega) ⟨Nat.le_refl _, Nat.le_refl _⟩ (y_in (d := d - 1) (A := 0) (B := 1) (by decide) (by decide)) ?_
    rintro v12 hh12 ⟨rfl, rfl⟩
    refine s_if_ne (n := 18) (tgt := 21) dX5_hush_15 rfl rfl (fun b15 => ?_) (fun b15 => ?_)
    · refine s_aload_n (n := 22) (i := 0) dX5_hush_21 rfl rfl rfl ?_
      refine gf_X5_19 (n := 25) rfl dX5_hush_22 rfl (by assumption) (by rfl) ?_
      refine s_iconst (n := 26) (v := 4) dX5_hush_25 rfl (by decide) ?_
      refine s_iald (n := 27) dX5_hush_26 rfl (by assumption) (mj_ixe (j := 4) rfl (by omega)) ?_
      refine s_iload_n (n := 28) (i := 1) dX5_hush_27 rfl rfl rfl ?_
      refine s_s2 (M' := MX5_has) (n := 31) dX5_hush_28 rfl wd_X5_139 okX5_has rfl (by omega) ⟨Nat.le_refl _, Nat.le_refl _⟩ (y_has (d := d - 1)) ?_
      rintro v28 hh28 ⟨rfl, rfl⟩
      refine s_iload_n (n := 32) (i := 2) dX5_hush_31 rfl rfl rfl ?_
      refine s_iconst (n := 33) (v := 1) dX5_hush_32 rfl (by decide) ?_
      refine s_icmp_ne (n := 36) (tgt := 40) dX5_hush_33 rfl rfl (fun b33 => ?_) (fun b33 => ?_)
      · rw [if_neg b33] at hq
        refine s_iconst (n := 41) (v := 0) dX5_hush_40 rfl (by decide) ?_
        refine s_icmp_ne (n := 44) (tgt := 47) dX5_hush_41 rfl rfl (fun b41 => ?_) (fun b41 => ?_)
        · refine s_aload_n (n := 48) (i := 0) dX5_hush_47 rfl rfl rfl ?_
          refine s_v0 (M' := MX5_note) (n := 51) (ci := 5) dX5_hush_48 rfl wd_X5_149 okX5_note rfl rfl (by omega) ⟨Nat.le_refl _, Nat.le_refl _⟩ (by assumption) (y_note (d := d - 1) hY hk0 hk) ?_
          rintro v48 hh48 ⟨rfl, hY1, hF1⟩
          obtain ⟨y0, y1, y2, y3, y4, y5, y6, y7, y8, y9, y10, y11, y12⟩ := id hY1
          replace y4 : hh48.2 224 = mj_ar 0 48 (τ 0) := y4
          replace y0 : hh48.2 220 = YO G (ntS τ k 12) := y0
          refine s_aload_n (n := 52) (i := 0) dX5_hush_51 rfl rfl rfl ?_
          refine gf_X5_19 (n := 55) rfl dX5_hush_52 rfl (by assumption) (by rfl) ?_
          refine s_iconst (n := 56) (v := 4) dX5_hush_55 rfl (by decide) ?_
          refine s_dup2 (n := 57) dX5_hush_56 rfl rfl rfl ?_
          refine s_iald (n := 58) dX5_hush_57 rfl (by assumption) (mj_ixe (j := 4) rfl (by omega)) ?_
          refine s_iconst (n := 59) (v := 1) dX5_hush_58 rfl (by decide) ?_
          refine s_iload_n (n := 60) (i := 1) dX5_hush_59 rfl rfl rfl ?_
          refine s_ishl (n := 61) dX5_hush_60 rfl ?_
          refine s_ixor (n := 62) dX5_hush_61 rfl ?_
          refine s_iast (n := 63) dX5_hush_62 rfl (by assumption) (mj_ixe (j := 4) rfl (by omega)) ?_
          refine YA_0 hY1 (fun h2 hY2 hF2 => ?_)
          obtain ⟨y0, y1, y2, y3, y4, y5, y6, y7, y8, y9, y10, y11, y12⟩ := id hY2
          replace y4 : h2.2 224 = mj_ar 0 48 (upd (τ 0) 4 (τ 0 4 ^^^ (1 <<< (nI j &&& 31)))) := y4
          replace y0 : h2.2 220 = YO G (ntS τ k 12) := y0
          refine s_aload_n (n := 64) (i := 0) dX5_hush_63 rfl rfl rfl ?_
          refine gf_X5_19 (n := 67) rfl dX5_hush_64 rfl (by assumption) (by rfl) ?_
          refine s_iconst (n := 68) (v := 4) dX5_hush_67 rfl (by decide) ?_
          refine s_iald (n := 69) dX5_hush_68 rfl (by assumption) (mj_ixe (j := 4) rfl (by omega)) ?_
          refine s_ireturn dX5_hush_69 rfl (rfl) (Nat.le_refl _) (Nat.le_refl _) ?_
          exact ⟨by rw [up_eq], hY2, fr_tr hF1 hF2⟩
        · exact absurd b41 hq
      · rw [if_pos b33] at hq
        refine s_iconst (n := 37) (v := 1) dX5_hush_36 rfl (by decide) ?_
        refine s_goto (tgt := 41) dX5_hush_37 rfl ?_
        refine s_icmp_ne (n := 44) (tgt := 47) dX5_hush_41 rfl rfl (fun b41 => ?_) (fun b41 => ?_)
        · refine s_aload_n (n := 48) (i := 0) dX5_hush_47 rfl rfl rfl ?_
          refine s_v0 (M' := MX5_note) (n := 51) (ci := 5) dX5_hush_48 rfl wd_X5_149 okX5_note rfl rfl (by omega) ⟨Nat.le_refl _, Nat.le_refl _⟩ (by assumption) (y_note (d := d - 1) hY hk0 hk) ?_
          rintro v48 hh48 ⟨rfl, hY1, hF1⟩
          obtain ⟨y0, y1, y2, y3, y4, y5, y6, y7, y8, y9, y10, y11, y12⟩ := id hY1
          replace y4 : hh48.2 224 = mj_ar 0 48 (τ 0) := y4
          replace y0 : hh48.2 220 = YO G (ntS τ k 12) := y0
          refine s_aload_n (n := 52) (i := 0) dX5_hush_51 rfl rfl rfl ?_
          refine gf_X5_19 (n := 55) rfl dX5_hush_52 rfl (by assumption) (by rfl) ?_
          refine s_iconst (n := 56) (v := 4) dX5_hush_55 rfl (by decide) ?_
          refine s_dup2 (n := 57) dX5_hush_56 rfl rfl rfl ?_
          refine s_iald (n := 58) dX5_hush_57 rfl (by assumption) (mj_ixe (j := 4) rfl (by omega)) ?_
          refine s_iconst (n := 59) (v := 1) dX5_hush_58 rfl (by decide) ?_
          refine s_iload_n (n := 60) (i := 1) dX5_hush_59 rfl rfl rfl ?_
          refine s_ishl (n := 61) dX5_hush_60 rfl ?_
          refine s_ixor (n := 62) dX5_hush_61 rfl ?_
          refine s_iast (n := 63) dX5_hush_62 rfl (by assumption) (mj_ixe (j := 4) rfl (by omega)) ?_
          refine YA_0 hY1 (fun h2 hY2 hF2 => ?_)
          obtain ⟨y0, y1, y2, y3, y4, y5, y6, y7, y8, y9, y10, y11, y12⟩ := id hY2
          replace y4 : h2.2 224 = mj_ar 0 48 (upd (τ 0) 4 (τ 0 4 ^^^ (1 <<< (nI j &&& 31)))) := y4
          replace y0 : h2.2 220 = YO G (ntS τ k 12) := y0
          refine s_aload_n (n := 64) (i := 0) dX5_hush_63 rfl rfl rfl ?_
          refine gf_X5_19 (n := 67) rfl dX5_hush_64 rfl (by assumption) (by rfl) ?_
          refine s_iconst (n := 68) (v := 4) dX5_hush_67 rfl (by decide) ?_
          refine s_iald (n := 69) dX5_hush_68 rfl (by assumption) (mj_ixe (j := 4) rfl (by omega)) ?_
          refine s_ireturn dX5_hush_69 rfl (rfl) (Nat.le_refl _) (Nat.le_refl _) ?_
          exact ⟨by rw [up_eq], hY2, fr_tr hF1 hF2⟩
        · exact absurd b41 hq
    · exact absurd (hy) (if0 b15)
set_option maxRecDepth 100000 in
set_option maxHeartbeats 4000000 in
theorem y_letDown_st {G : mj_G} {h : mj_H} {d : Nat} {τ : Nat → Nat → Int32} (hY : YS G h τ) {x : Int32} (hb : τ 12 1 = 0) (hd : 2 ≤ d) : mj_con G MX5_letDown d 0 0 [.ref (G.1 + 220), .int x] h (rI (-1000002) h) := by
  refine mj_conV okX5_letDown (ls := [some (.ref (G.1 + 220)), some (.int x)]) rfl rfl ?_
  obtain ⟨y0, y1, y2, y3, y4, y5, y6, y7, y8, y9, y10, y11, y12⟩ := id hY
  refine s_aload_n (n := 1) (i := 0) dX5_letDown_0 rfl rfl rfl ?_
  refine gf_X5_132 (n := 4) rfl dX5_letDown_1 rfl (by assumption) (by rfl) ?_
  refine s_if_ne (n := 7) (tgt := 10) dX5_letDown_4 rfl rfl (fun b4 => ?_) (fun b4 => ?_)
  · exact absurd hb b4
  · refine s_ldc (n := 9) dX5_letDown_7 rfl wd_X5_146 ?_
    refine s_ireturn dX5_letDown_9 rfl (rfl) (Nat.le_refl _) (Nat.le_refl _) ?_
    exact ⟨rfl, rfl⟩
set_option maxRecDepth 100000 in
set_option maxHeartbeats 4000000 in
theorem y_letDown_bad {G : mj_G} {h : mj_H} {d : Nat} {τ : Nat → Nat → Int32} (hY : YS G h τ) {x : Int32} (hT : ¬ τ 12 1 = 0) (hb : ¬ Wi x 1 99) (hd : 2 ≤ d) : mj_con G MX5_letDown d 0 0 [.ref (G.1 + 220), .int x] h (rI (-1000001) h) := by
  refine mj_conV okX5_letDown (ls := [some (.ref (G.1 + 220)), some (.int x)]) rfl rfl ?_
  obtain ⟨y0, y1, y2, y3, y4, y5, y6, y7, y8, y9, y10, y11, y12⟩ := id hY
  refine s_aload_n (n := 1) (i := 0) dX5_letDown_0 rfl rfl rfl ?_
  refine gf_X5_132 (n := 4) rfl dX5_letDown_1 rfl (by assumption) (by rfl) ?_
  refine s_if_ne (n := 7) (tgt := 10) dX5_letDown_4 rfl rfl (fun b4 => ?_) (fun b4 => ?_)
  · refine s_iload_n (n := 11) (i := 1) dX5_letDown_10 rfl rfl rfl ?_
    refine s_i2l (n := 12) dX5_letDown_11 rfl ?_
    refine s_lconst (n := 13) (v := 1) dX5_letDown_12 rfl (by decide) ?_
    refine s_ldc2 (n := 16) dX5_letDown_13 rfl wd_X5_162 ?_
    refine s_s3 (M' := MX5_in) (n := 19) dX5_letDown_16 rfl wd_X5_54 okX5_in rfl (by omega) ⟨Nat.le_refl _, Nat.le_refl _⟩ (y_in (d := d - 1) (A := 1) (B := 99) (by decide) (by decide)) ?_
    rintro v16 hh16 ⟨rfl, rfl⟩
    refine s_if_ne (n := 22) (tgt := 25) dX5_letDown_19 rfl rfl (fun b19 => ?_) (fun b19 => ?_)
    · exact absurd (if1 b19) hb
    · refine s_ldc (n := 24) dX5_letDown_22 rfl wd_X5_64 ?_
      refine s_ireturn dX5_letDown_24 rfl (rfl) (Nat.le_refl _) (Nat.le_refl _) ?_
      exact ⟨rfl, rfl⟩
  · exact absurd b4 hT
set_option maxRecDepth 100000 in
set_option maxHeartbeats 4000000 in
theorem y_letDown {G : mj_G} {h : mj_H} {d : Nat} {τ : Nat → Nat → Int32} (hY : YS G h τ) {k : Nat} (hk0 : τ 12 9 = nI k) (hk : k ≤ 24) {x : Int32} (hT : ¬ τ 12 1 = 0) (hx : Wi x 1 99) (h5 : Wi (τ 0 5) 0 9999) (hd : 2 ≤ d) : mj_con G MX5_letDown d 0 0 [.ref (G.1 + 220), .int x] h (fun v h' => v = some (.int (lowP (τ 0) x 5)) ∧ YS G h' (u2 (ntS τ k) 0 (lowP (τ 0) x)) ∧ mj_fr 220 13 h h') := by
  refine mj_conV okX5_letDown (ls := [some (.ref (G.1 + 220)), some (.int x)]) rfl rfl ?_
  obtain ⟨y0, y1, y2, y3, y4, y5, y6, y7, y8, y9, y10, y11, y12⟩ := id hY
  refine s_aload_n (n := 1) (i := 0) dX5_letDown_0 rfl rfl rfl ?_
  refine gf_X5_132 (n := 4) rfl dX5_letDown_1 rfl (by assumption) (by rfl) ?_
  refine s_if_ne (n := 7) (tgt := 10) dX5_letDown_4 rfl rfl (fun b4 => ?_) (fun b4 => ?_)
  · refine s_iload_n (n := 11) (i := 1) dX5_letDown_10 rfl rfl rfl ?_
    refine s_i2l (n := 12) dX5_letDown_11 rfl ?_
    refine s_lconst (n := 13) (v := 1) dX5_letDown_12 rfl (by decide) ?_
    refine s_ldc2 (n := 16) dX5_letDown_13 rfl wd_X5_162 ?_
    refine s_s3 (M' := MX5_in) (n := 19) dX5_letDown_16 rfl wd_X5_54 okX5_in rfl (by omega) ⟨Nat.le_refl _, Nat.le_refl _⟩ (y_in (d := d - 1) (A := 1) (B := 99) (by decide) (by decide)) ?_
    rintro v16 hh16 ⟨rfl, rfl⟩
    refine s_if_ne (n := 22) (tgt := 25) dX5_letDown_19 rfl rfl (fun b19 => ?_) (fun b19 => ?_)
    · refine s_aload_n (n := 26) (i := 0) dX5_letDown_25 rfl rfl rfl ?_
      refine s_v0 (M' := MX5_note) (n := 29) (ci := 5) dX5_letDown_26 rfl wd_X5_149 okX5_note rfl rfl (by omega) ⟨Nat.le_refl _, Nat.le_refl _⟩ (by assumption) (y_note (d := d - 1) hY hk0 hk) ?_
      rintro v26 hh26 ⟨rfl, hY1, hF1⟩
      obtain ⟨y0, y1, y2, y3, y4, y5, y6, y7, y8, y9, y10, y11, y12⟩ := id hY1
      replace y4 : hh26.2 224 = mj_ar 0 48 (τ 0) := y4
      replace y0 : hh26.2 220 = YO G (ntS τ k 12) := y0
      refine s_aload_n (n := 30) (i := 0) dX5_letDown_29 rfl rfl rfl ?_
      refine s_iload_n (n := 31) (i := 1) dX5_letDown_30 rfl rfl rfl ?_
      refine s_v1 (M' := MX5_letOff) (n := 34) (ci := 5) dX5_letDown_31 rfl wd_X5_164 okX5_letOff rfl rfl (by omega) ⟨Nat.le_refl _, Nat.le_refl _⟩ (by assumption) (y_letOff (d := d - 1) (A := ntS τ k) (F := τ 0) ((u2_self (σ := ntS τ k) (i := 0)).symm ▸ hY1) h5 ⟨by have := hx.1; omega, by have := hx.2; omega⟩) ?_
      rintro v31 hh31 ⟨rfl, hY2, hF2⟩
      obtain ⟨y0, y1, y2, y3, y4, y5, y6, y7, y8, y9, y10, y11, y12⟩ := id hY2
      replace y4 : hh31.2 224 = mj_ar 0 48 (lowP (τ 0) x) := y4
      replace y0 : hh31.2 220 = YO G (ntS τ k 12) := y0
      refine s_aload_n (n := 35) (i := 0) dX5_letDown_34 rfl rfl rfl ?_
      refine gf_X5_19 (n := 38) rfl dX5_letDown_35 rfl (by assumption) (by rfl) ?_
      refine s_iconst (n := 39) (v := 5) dX5_letDown_38 rfl (by decide) ?_
      refine s_iald (n := 40) dX5_letDown_39 rfl (by assumption) (mj_ixe (j := 5) rfl (by omega)) ?_
      refine s_ireturn dX5_letDown_40 rfl (rfl) (Nat.le_refl _) (Nat.le_refl _) ?_
      exact ⟨rfl, hY2, fr_tr hF1 hF2⟩
    · exact absurd (hx) (if0 b19)
  · exact absurd b4 hT
set_option maxRecDepth 100000 in
set_option maxHeartbeats 4000000 in
theorem y_house_bad {G : mj_G} {h : mj_H} {d : Nat} {τ : Nat → Nat → Int32} (hY : YS G h τ) {n : Nat} (hn : τ 0 2 = nI n) (h7 : n ≤ 7) {x y : Int32} (hb : ¬ (Hs n x ∧ Wi y 0 6)) (hd : 3 ≤ d) : mj_con G MX5_house d 0 0 [.ref (G.1 + 220), .int x, .int y] h (rI (-1000001) h) := by
  refine mj_conV okX5_house (ls := [some (.ref (G.1 + 220)), some (.int x), some (.int y)]) rfl rfl ?_
  obtain ⟨y0, y1, y2, y3, y4, y5, y6, y7, y8, y9, y10, y11, y12⟩ := id hY
  refine s_aload_n (n := 1) (i := 0) dX5_house_0 rfl rfl rfl ?_
  refine s_iload_n (n := 2) (i := 1) dX5_house_1 rfl rfl rfl ?_
  refine s_v1 (M' := MX5_isHouse) (n := 5) (ci := 5) dX5_house_2 rfl wd_X5_155 okX5_isHouse rfl rfl (by omega) ⟨Nat.le_refl _, Nat.le_refl _⟩ (by assumption) (y_isHouse (d := d - 1) hY hn h7 (by omega)) ?_
  rintro v2 hh2 ⟨rfl, rfl⟩
  refine s_if_ne (n := 8) (tgt := 11) dX5_house_5 rfl rfl (fun b5 => ?_) (fun b5 => ?_)
  · have hb2 : ¬ Wi y 0 6 := fun z => hb ⟨if1 b5, z⟩
    refine s_iload_n (n := 12) (i := 2) dX5_house_11 rfl rfl rfl ?_
    refine t_X5_house_12 dX5_house_12 (fun e0 => ?_) (fun e1 => ?_) (fun e2 => ?_) (fun e3 => ?_) (fun e4 => ?_) (fun e5 => ?_) (fun e6 => ?_) (fun e0 e1 e2 e3 e4 e5 e6 => ?_)
    · subst e0
      exact absurd (by decide) hb2
    · subst e1
      exact absurd (by decide) hb2
    · subst e2
      exact absurd (by decide) hb2
    · subst e3
      exact absurd (by decide) hb2
    · subst e4
      exact absurd (by decide) hb2
    · subst e5
      exact absurd (by decide) hb2
    · subst e6
      exact absurd (by decide) hb2
    · refine s_ldc (n := 133) dX5_house_131 rfl wd_X5_64 ?_
      refine s_ireturn dX5_house_133 rfl (rfl) (Nat.le_refl _) (Nat.le_refl _) ?_
      exact ⟨rfl, rfl⟩
  · refine s_ldc (n := 10) dX5_house_8 rfl wd_X5_64 ?_
    refine s_ireturn dX5_house_10 rfl (rfl) (Nat.le_refl _) (Nat.le_refl _) ?_
    exact ⟨rfl, rfl⟩
set_option maxRecDepth 100000 in
set_option maxHeartbeats 4000000 in
theorem y_house0 {G : mj_G} {h : mj_H} {d : Nat} {τ : Nat → Nat → Int32} (hY : YS G h τ) {n : Nat} (hn : τ 0 2 = nI n) (h7 : n ≤ 7) (hok : okM n (τ 0)) {j : Nat} (hj : j < n) (hd : 3 ≤ d) : mj_con G MX5_house d 0 0 [.ref (G.1 + 220), .int (nI j), .int 0] h (rI (houF (τ 0) j 0) h) := by
  refine mj_conV okX5_house (ls := [some (.ref (G.1 + 220)), some (.int (nI j)), some (.int 0)]) rfl rfl ?_
  obtain ⟨y0, y1, y2, y3, y4, y5, y6, y7, y8, y9, y10, y11, y12⟩ := id hY
  refine s_aload_n (n := 1) (i := 0) dX5_house_0 rfl rfl rfl ?_
  refine s_iload_n (n := 2) (i := 1) dX5_house_1 rfl rfl rfl ?_
  refine s_v1 (M' := MX5_isHouse) (n := 5) (ci := 5) dX5_house_2 rfl wd_X5_155 okX5_isHouse rfl rfl (by omega) ⟨Nat.le_refl _, Nat.le_refl _⟩ (by assumption) (y_isHouse (d := d - 1) hY hn h7 (by omega)) ?_
  rintro v2 hh2 ⟨rfl, rfl⟩
  refine s_if_ne (n := 8) (tgt := 11) dX5_house_5 rfl rfl (fun b5 => ?_) (fun b5 => ?_)
  · refine s_iload_n (n := 12) (i := 2) dX5_house_11 rfl rfl rfl ?_
    refine t_X5_house_12 dX5_house_12 (fun e0 => ?_) (fun e1 => ?_) (fun e2 => ?_) (fun e3 => ?_) (fun e4 => ?_) (fun e5 => ?_) (fun e6 => ?_) (fun e0 e1 e2 e3 e4 e5 e6 => ?_)
    · refine s_aload_n (n := 57) (i := 0) dX5_house_56 rfl rfl rfl ?_
      refine gf_X5_19 (n := 60) rfl dX5_house_57 rfl (by assumption) (by rfl) ?_
      refine s_bipush (n := 62) (v := 13) dX5_house_60 rfl (by decide) ?_
      refine s_iload_n (n := 63) (i := 1) dX5_house_62 rfl rfl rfl ?_
      refine s_iadd (n := 64) dX5_house_63 rfl ?_
      refine s_iald (n := 65) dX5_house_64 rfl (by assumption) (mj_ixa (o := 13) rfl (by omega)) ?_
      refine s_ireturn dX5_house_65 rfl (rfl) (Nat.le_refl _) (Nat.le_refl _) ?_
      exact rI_ok rfl
    · exact absurd e1 (by decide)
    · exact absurd e2 (by decide)
    · exact absurd e3 (by decide)
    · exact absurd e4 (by decide)
    · exact absurd e5 (by decide)
    · exact absurd e6 (by decide)
    · exact absurd rfl e0
  · exact absurd (Hs_n hj h7) (if0 b5)
set_option maxRecDepth 100000 in
set_option maxHeartbeats 4000000 in
theorem y_house1 {G : mj_G} {h : mj_H} {d : Nat} {τ : Nat → Nat → Int32} (hY : YS G h τ) {n : Nat} (hn : τ 0 2 = nI n) (h7 : n ≤ 7) (hok : okM n (τ 0)) {j : Nat} (hj : j < n) (hd : 3 ≤ d) : mj_con G MX5_house d 0 0 [.ref (G.1 + 220), .int (nI j), .int 1] h (rI (houF (τ 0) j 1) h) := by
  refine mj_conV okX5_house (ls := [some (.ref (G.1 + 220)), some (.int (nI j)), some (.int 1)]) rfl rfl ?_
  obtain ⟨y0, y1, y2, y3, y4, y5, y6, y7, y8, y9, y10, y11, y12⟩ := id hY
  refine s_aload_n (n := 1) (i := 0) dX5_house_0 rfl rfl rfl ?_
  refine s_iload_n (n := 2) (i := 1) dX5_house_1 rfl rfl rfl ?_
  refine s_v1 (M' := MX5_isHouse) (n := 5) (ci := 5) dX5_house_2 rfl wd_X5_155 okX5_isHouse rfl rfl (by omega) ⟨Nat.le_refl _, Nat.le_refl _⟩ (by assumption) (y_isHouse (d := d - 1) hY hn h7 (by omega)) ?_
  rintro v2 hh2 ⟨rfl, rfl⟩
  refine s_if_ne (n := 8) (tgt := 11) dX5_house_5 rfl rfl (fun b5 => ?_) (fun b5 => ?_)
  · refine s_iload_n (n := 12) (i := 2) dX5_house_11 rfl rfl rfl ?_
    refine t_X5_house_12 dX5_house_12 (fun e0 => ?_) (fun e1 => ?_) (fun e2 => ?_) (fun e3 => ?_) (fun e4 => ?_) (fun e5 => ?_) (fun e6 => ?_) (fun e0 e1 e2 e3 e4 e5 e6 => ?_)
    · exact absurd e0 (by decide)
    · refine s_aload_n (n := 67) (i := 0) dX5_house_66 rfl rfl rfl ?_
      refine gf_X5_19 (n := 70) rfl dX5_house_67 rfl (by assumption) (by rfl) ?_
      refine s_bipush (n := 72) (v := 20) dX5_house_70 rfl (by decide) ?_
      refine s_iload_n (n := 73) (i := 1) dX5_house_72 rfl rfl rfl ?_
      refine s_iadd (n := 74) dX5_house_73 rfl ?_
      refine s_iald (n := 75) dX5_house_74 rfl (by assumption) (mj_ixa (o := 20) rfl (by omega)) ?_
      refine s_ireturn dX5_house_75 rfl (rfl) (Nat.le_refl _) (Nat.le_refl _) ?_
      exact rI_ok rfl
    · exact absurd e2 (by decide)
    · exact absurd e3 (by decide)
    · exact absurd e4 (by decide)
    · exact absurd e5 (by decide)
    · exact absurd e6 (by decide)
    · exact absurd rfl e1
  · exact absurd (Hs_n hj h7) (if0 b5)
set_option maxRecDepth 100000 in
set_option maxHeartbeats 4000000 in
theorem y_house2 {G : mj_G} {h : mj_H} {d : Nat} {τ : Nat → Nat → Int32} (hY : YS G h τ) {n : Nat} (hn : τ 0 2 = nI n) (h7 : n ≤ 7) (hok : okM n (τ 0)) {j : Nat} (hj : j < n) (hd : 3 ≤ d) : mj_con G MX5_house d 0 0 [.ref (G.1 + 220), .int (nI j), .int 2] h (rI (houF (τ 0) j 2) h) := by
  refine mj_conV okX5_house (ls := [some (.ref (G.1 + 220)), some (.int (nI j)), some (.int 2)]) rfl rfl ?_
  obtain ⟨y0, y1, y2, y3, y4, y5, y6, y7, y8, y9, y10, y11, y12⟩ := id hY
  refine s_aload_n (n := 1) (i := 0) dX5_house_0 rfl rfl rfl ?_
  refine s_iload_n (n := 2) (i := 1) dX5_house_1 rfl rfl rfl ?_
  refine s_v1 (M' := MX5_isHouse) (n := 5) (ci := 5) dX5_house_2 rfl wd_X5_155 okX5_isHouse rfl rfl (by omega) ⟨Nat.le_refl _, Nat.le_refl _⟩ (by assumption) (y_isHouse (d := d - 1) hY hn h7 (by omega)) ?_
  rintro v2 hh2 ⟨rfl, rfl⟩
  refine s_if_ne (n := 8) (tgt := 11) dX5_house_5 rfl rfl (fun b5 => ?_) (fun b5 => ?_)
  · refine s_iload_n (n := 12) (i := 2) dX5_house_11 rfl rfl rfl ?_
    refine t_X5_house_12 dX5_house_12 (fun e0 => ?_) (fun e1 => ?_) (fun e2 => ?_) (fun e3 => ?_) (fun e4 => ?_) (fun e5 => ?_) (fun e6 => ?_) (fun e0 e1 e2 e3 e4 e5 e6 => ?_)
    · exact absurd e0 (by decide)
    · exact absurd e1 (by decide)
    · refine s_aload_n (n := 77) (i := 0) dX5_house_76 rfl rfl rfl ?_
      refine gf_X5_19 (n := 80) rfl dX5_house_77 rfl (by assumption) (by rfl) ?_
      refine s_bipush (n := 82) (v := 27) dX5_house_80 rfl (by decide) ?_
      refine s_iload_n (n := 83) (i := 1) dX5_house_82 rfl rfl rfl ?_
      refine s_iadd (n := 84) dX5_house_83 rfl ?_
      refine s_iald (n := 85) dX5_house_84 rfl (by assumption) (mj_ixa (o := 27) rfl (by omega)) ?_
      refine s_ireturn dX5_house_85 rfl (rfl) (Nat.le_refl _) (Nat.le_refl _) ?_
      exact rI_ok rfl
    · exact absurd e3 (by decide)
    · exact absurd e4 (by decide)
    · exact absurd e5 (by decide)
    · exact absurd e6 (by decide)
    · exact absurd rfl e2
  · exact absurd (Hs_n hj h7) (if0 b5)
set_option maxRecDepth 100000 in
set_option maxHeartbeats 4000000 in
theorem y_house3 {G : mj_G} {h : mj_H} {d : Nat} {τ : Nat → Nat → Int32} (hY : YS G h τ) {n : Nat} (hn : τ 0 2 = nI n) (h7 : n ≤ 7) (hok : okM n (τ 0)) {j : Nat} (hj : j < n) (hd : 3 ≤ d) : mj_con G MX5_house d 0 0 [.ref (G.1 + 220), .int (nI j), .int 3] h (rI (houF (τ 0) j 3) h) := by
  refine mj_conV okX5_house (ls := [some (.ref (G.1 + 220)), some (.int (nI j)), some (.int 3)]) rfl rfl ?_
  obtain ⟨y0, y1, y2, y3, y4, y5, y6, y7, y8, y9, y10, y11, y12⟩ := id hY
  refine s_aload_n (n := 1) (i := 0) dX5_house_0 rfl rfl rfl ?_
  refine s_iload_n (n := 2) (i := 1) dX5_house_1 rfl rfl rfl ?_
  refine s_v1 (M' := MX5_isHouse) (n := 5) (ci := 5) dX5_house_2 rfl wd_X5_155 okX5_isHouse rfl rfl (by omega) ⟨Nat.le_refl _, Nat.le_refl _⟩ (by assumption) (y_isHouse (d := d - 1) hY hn h7 (by omega)) ?_
  rintro v2 hh2 ⟨rfl, rfl⟩
  refine s_if_ne (n := 8) (tgt := 11) dX5_house_5 rfl rfl (fun b5 => ?_) (fun b5 => ?_)
  · refine s_iload_n (n := 12) (i := 2) dX5_house_11 rfl rfl rfl ?_
    refine t_X5_house_12 dX5_house_12 (fun e0 => ?_) (fun e1 => ?_) (fun e2 => ?_) (fun e3 => ?_) (fun e4 => ?_) (fun e5 => ?_) (fun e6 => ?_) (fun e0 e1 e2 e3 e4 e5 e6 => ?_)
    · exact absurd e0 (by decide)
    · exact absurd e1 (by decide)
    · exact absurd e2 (by decide)
    · refine s_aload_n (n := 87) (i := 0) dX5_house_86 rfl rfl rfl ?_
      refine gf_X5_19 (n := 90) rfl dX5_house_87 rfl (by assumption) (by rfl) ?_
      refine s_bipush (n := 92) (v := 34) dX5_house_90 rfl (by decide) ?_
      refine s_iload_n (n := 93) (i := 1) dX5_house_92 rfl rfl rfl ?_
      refine s_iadd (n := 94) dX5_house_93 rfl ?_
      refine s_iald (n := 95) dX5_house_94 rfl (by assumption) (mj_ixa (o := 34) rfl (by omega)) ?_
      refine s_ireturn dX5_house_95 rfl (rfl) (Nat.le_refl _) (Nat.le_refl _) ?_
      exact rI_ok rfl
    · exact absurd e4 (by decide)
    · exact absurd e5 (by decide)
    · exact absurd e6 (by decide)
    · exact absurd rfl e3
  · exact absurd (Hs_n hj h7) (if0 b5)
set_option maxRecDepth 100000 in
set_option maxHeartbeats 4000000 in
theorem y_house4 {G : mj_G} {h : mj_H} {d : Nat} {τ : Nat → Nat → Int32} (hY : YS G h τ) {n : Nat} (hn : τ 0 2 = nI n) (h7 : n ≤ 7) (hok : okM n (τ 0)) {j : Nat} (hj : j < n) (hd : 3 ≤ d) : mj_con G MX5_house d 0 0 [.ref (G.1 + 220), .int (nI j), .int 4] h (rI (houF (τ 0) j 4) h) := by
  refine mj_conV okX5_house (ls := [some (.ref (G.1 + 220)), some (.int (nI j)), some (.int 4)]) rfl rfl ?_
  obtain ⟨y0, y1, y2, y3, y4, y5, y6, y7, y8, y9, y10, y11, y12⟩ := id hY
  refine s_aload_n (n := 1) (i := 0) dX5_house_0 rfl rfl rfl ?_
  refine s_iload_n (n := 2) (i := 1) dX5_house_1 rfl rfl rfl ?_
  refine s_v1 (M' := MX5_isHouse) (n := 5) (ci := 5) dX5_house_2 rfl wd_X5_155 okX5_isHouse rfl rfl (by omega) ⟨Nat.le_refl _, Nat.le_refl _⟩ (by assumption) (y_isHouse (d := d - 1) hY hn h7 (by omega)) ?_
  rintro v2 hh2 ⟨rfl, rfl⟩
  refine s_if_ne (n := 8) (tgt := 11) dX5_house_5 rfl rfl (fun b5 => ?_) (fun b5 => ?_)
  · refine s_iload_n (n := 12) (i := 2) dX5_house_11 rfl rfl rfl ?_
    refine t_X5_house_12 dX5_house_12 (fun e0 => ?_) (fun e1 => ?_) (fun e2 => ?_) (fun e3 => ?_) (fun e4 => ?_) (fun e5 => ?_) (fun e6 => ?_) (fun e0 e1 e2 e3 e4 e5 e6 => ?_)
    · exact absurd e0 (by decide)
    · exact absurd e1 (by decide)
    · exact absurd e2 (by decide)
    · exact absurd e3 (by decide)
    · refine s_aload_n (n := 97) (i := 0) dX5_house_96 rfl rfl rfl ?_
      refine gf_X5_19 (n := 100) rfl dX5_house_97 rfl (by assumption) (by rfl) ?_
      refine s_bipush (n := 102) (v := 41) dX5_house_100 rfl (by decide) ?_
      refine s_iload_n (n := 103) (i := 1) dX5_house_102 rfl rfl rfl ?_
      refine s_iadd (n := 104) dX5_house_103 rfl ?_
      refine s_iald (n := 105) dX5_house_104 rfl (by assumption) (mj_ixa (o := 41) rfl (by omega)) ?_
      refine s_ireturn dX5_house_105 rfl (rfl) (Nat.le_refl _) (Nat.le_refl _) ?_
      exact rI_ok rfl
    · exact absurd e5 (by decide)
    · exact absurd e6 (by decide)
    · exact absurd rfl e4
  · exact absurd (Hs_n hj h7) (if0 b5)
set_option maxRecDepth 100000 in
set_option maxHeartbeats 4000000 in
theorem y_house5 {G : mj_G} {h : mj_H} {d : Nat} {τ : Nat → Nat → Int32} (hY : YS G h τ) {n : Nat} (hn : τ 0 2 = nI n) (h7 : n ≤ 7) (hok : okM n (τ 0)) {j : Nat} (hj : j < n) (hd : 3 ≤ d) : mj_con G MX5_house d 0 0 [.ref (G.1 + 220), .int (nI j), .int 5] h (rI (houF (τ 0) j 5) h) := by
  refine mj_conV okX5_house (ls := [some (.ref (G.1 + 220)), some (.int (nI j)), some (.int 5)]) rfl rfl ?_
  obtain ⟨y0, y1, y2, y3, y4, y5, y6, y7, y8, y9, y10, y11, y12⟩ := id hY
  refine s_aload_n (n := 1) (i := 0) dX5_house_0 rfl rfl rfl ?_
  refine s_iload_n (n := 2) (i := 1) dX5_house_1 rfl rfl rfl ?_
  refine s_v1 (M' := MX5_isHouse) (n := 5) (ci := 5) dX5_house_2 rfl wd_X5_155 okX5_isHouse rfl rfl (by omega) ⟨Nat.le_refl _, Nat.le_refl _⟩ (by assumption) (y_isHouse (d := d - 1) hY hn h7 (by omega)) ?_
  rintro v2 hh2 ⟨rfl, rfl⟩
  refine s_if_ne (n := 8) (tgt := 11) dX5_house_5 rfl rfl (fun b5 => ?_) (fun b5 => ?_)
  · refine s_iload_n (n := 12) (i := 2) dX5_house_11 rfl rfl rfl ?_
    refine t_X5_house_12 dX5_house_12 (fun e0 => ?_) (fun e1 => ?_) (fun e2 => ?_) (fun e3 => ?_) (fun e4 => ?_) (fun e5 => ?_) (fun e6 => ?_) (fun e0 e1 e2 e3 e4 e5 e6 => ?_)
    · exact absurd e0 (by decide)
    · exact absurd e1 (by decide)
    · exact absurd e2 (by decide)
    · exact absurd e3 (by decide)
    · exact absurd e4 (by decide)
    · refine s_aload_n (n := 107) (i := 0) dX5_house_106 rfl rfl rfl ?_
      refine s_iload_n (n := 108) (i := 1) dX5_house_107 rfl rfl rfl ?_
      refine s_v1 (M' := MX5_shedsOf) (n := 111) (ci := 5) dX5_house_108 rfl wd_X5_143 okX5_shedsOf rfl rfl (by omega) ⟨Nat.le_refl _, Nat.le_refl _⟩ (by assumption) (y_sheds (d := d - 1) hY (by omega) (hok.1.2.2 j hj).1 (hok.1.2.2 j hj).2 (hok.2.2 j hj).1 (by omega)) ?_
      rintro v108 hh108 ⟨rfl, rfl⟩
      refine s_ireturn dX5_house_111 rfl (rfl) (Nat.le_refl _) (Nat.le_refl _) ?_
      exact rI_ok rfl
    · exact absurd e6 (by decide)
    · exact absurd rfl e5
  · exact absurd (Hs_n hj h7) (if0 b5)
set_option maxRecDepth 100000 in
set_option maxHeartbeats 4000000 in
theorem y_house6 {G : mj_G} {h : mj_H} {d : Nat} {τ : Nat → Nat → Int32} (hY : YS G h τ) {n : Nat} (hn : τ 0 2 = nI n) (h7 : n ≤ 7) (hok : okM n (τ 0)) {j : Nat} (hj : j < n) (hd : 3 ≤ d) : mj_con G MX5_house d 0 0 [.ref (G.1 + 220), .int (nI j), .int 6] h (rI (houF (τ 0) j 6) h) := by
  refine mj_conV okX5_house (ls := [some (.ref (G.1 + 220)), some (.int (nI j)), some (.int 6)]) rfl rfl ?_
  obtain ⟨y0, y1, y2, y3, y4, y5, y6, y7, y8, y9, y10, y11, y12⟩ := id hY
  refine s_aload_n (n := 1) (i := 0) dX5_house_0 rfl rfl rfl ?_
  refine s_iload_n (n := 2) (i := 1) dX5_house_1 rfl rfl rfl ?_
  refine s_v1 (M' := MX5_isHouse) (n := 5) (ci := 5) dX5_house_2 rfl wd_X5_155 okX5_isHouse rfl rfl (by omega) ⟨Nat.le_refl _, Nat.le_refl _⟩ (by assumption) (y_isHouse (d := d - 1) hY hn h7 (by omega)) ?_
  rintro v2 hh2 ⟨rfl, rfl⟩
  refine s_if_ne (n := 8) (tgt := 11) dX5_house_5 rfl rfl (fun b5 => ?_) (fun b5 => ?_)
  · refine s_iload_n (n := 12) (i := 2) dX5_house_11 rfl rfl rfl ?_
    refine t_X5_house_12 dX5_house_12 (fun e0 => ?_) (fun e1 => ?_) (fun e2 => ?_) (fun e3 => ?_) (fun e4 => ?_) (fun e5 => ?_) (fun e6 => ?_) (fun e0 e1 e2 e3 e4 e5 e6 => ?_)
    · exact absurd e0 (by decide)
    · exact absurd e1 (by decide)
    · exact absurd e2 (by decide)
    · exact absurd e3 (by decide)
    · exact absurd e4 (by decide)
    · exact absurd e5 (by decide)
    · refine s_aload_n (n := 113) (i := 0) dX5_house_112 rfl rfl rfl ?_
      refine gf_X5_19 (n := 116) rfl dX5_house_113 rfl (by assumption) (by rfl) ?_
      refine s_iconst (n := 117) (v := 4) dX5_house_116 rfl (by decide) ?_
      refine s_iald (n := 118) dX5_house_117 rfl (by assumption) (mj_ixe (j := 4) rfl (by omega)) ?_
      refine s_iload_n (n := 119) (i := 1) dX5_house_118 rfl rfl rfl ?_
      refine s_s2 (M' := MX5_has) (n := 122) dX5_house_119 rfl wd_X5_139 okX5_has rfl (by omega) ⟨Nat.le_refl _, Nat.le_refl _⟩ (y_has (d := d - 1)) ?_
      rintro v119 hh119 ⟨rfl, rfl⟩
      refine s_if_eq (n := 125) (tgt := 129) dX5_house_122 rfl rfl (fun b122 => ?_) (fun b122 => ?_)
      · refine s_iconst (n := 130) (v := 0) dX5_house_129 rfl (by decide) ?_
        refine s_ireturn dX5_house_130 rfl (rfl) (Nat.le_refl _) (Nat.le_refl _) ?_
        refine rI_ok ?_
        show _ = if hs (τ 0) (nI j) then (1 : Int32) else 0
        first | rw [if_pos (if1 b122)] | rw [if_neg (if0 b122)]
      · refine s_iconst (n := 126) (v := 1) dX5_house_125 rfl (by decide) ?_
        refine s_goto (tgt := 130) dX5_house_126 rfl ?_
        refine s_ireturn dX5_house_130 rfl (rfl) (Nat.le_refl _) (Nat.le_refl _) ?_
        refine rI_ok ?_
        show _ = if hs (τ 0) (nI j) then (1 : Int32) else 0
        first | rw [if_pos (if1 b122)] | rw [if_neg (if0 b122)]
    · exact absurd rfl e6
  · exact absurd (Hs_n hj h7) (if0 b5)
set_option maxRecDepth 100000 in
set_option maxHeartbeats 4000000 in
theorem y_stand_st {G : mj_G} {h : mj_H} {d : Nat} {τ : Nat → Nat → Int32} (hY : YS G h τ) {x : Int32} (hb : τ 12 1 = 0) (hd : 2 ≤ d) : mj_con G MX5_stand d 0 0 [.ref (G.1 + 220), .int x] h (rI (-1000002) h) := by
  refine mj_conV okX5_stand (ls := [some (.ref (G.1 + 220)), some (.int x)]) rfl rfl ?_
  obtain ⟨y0, y1, y2, y3, y4, y5, y6, y7, y8, y9, y10, y11, y12⟩ := id hY
  refine s_aload_n (n := 1) (i := 0) dX5_stand_0 rfl rfl rfl ?_
  refine gf_X5_132 (n := 4) rfl dX5_stand_1 rfl (by assumption) (by rfl) ?_
  refine s_if_ne (n := 7) (tgt := 10) dX5_stand_4 rfl rfl (fun b4 => ?_) (fun b4 => ?_)
  · exact absurd hb b4
  · refine s_ldc (n := 9) dX5_stand_7 rfl wd_X5_146 ?_
    refine s_ireturn dX5_stand_9 rfl (rfl) (Nat.le_refl _) (Nat.le_refl _) ?_
    exact ⟨rfl, rfl⟩
set_option maxRecDepth 100000 in
set_option maxHeartbeats 4000000 in
theorem y_stand_bad {G : mj_G} {h : mj_H} {d : Nat} {τ : Nat → Nat → Int32} (hY : YS G h τ) {x : Int32} (hT : ¬ τ 12 1 = 0) (hb2 : ¬ Wi x 0 4) (hd : 2 ≤ d) : mj_con G MX5_stand d 0 0 [.ref (G.1 + 220), .int x] h (rI (-1000001) h) := by
  refine mj_conV okX5_stand (ls := [some (.ref (G.1 + 220)), some (.int x)]) rfl rfl ?_
  obtain ⟨y0, y1, y2, y3, y4, y5, y6, y7, y8, y9, y10, y11, y12⟩ := id hY
  refine s_aload_n (n := 1) (i := 0) dX5_stand_0 rfl rfl rfl ?_
  refine gf_X5_132 (n := 4) rfl dX5_stand_1 rfl (by assumption) (by rfl) ?_
  refine s_if_ne (n := 7) (tgt := 10) dX5_stand_4 rfl rfl (fun b4 => ?_) (fun b4 => ?_)
  · refine s_iload_n (n := 11) (i := 1) dX5_stand_10 rfl rfl rfl ?_
    refine t_X5_stand_11 dX5_stand_11 (fun e0 => ?_) (fun e1 => ?_) (fun e2 => ?_) (fun e3 => ?_) (fun e4 => ?_) (fun e0 e1 e2 e3 e4 => ?_)
    · subst e0
      exact absurd (by decide) hb2
    · subst e1
      exact absurd (by decide) hb2
    · subst e2
      exact absurd (by decide) hb2
    · subst e3
      exact absurd (by decide) hb2
    · subst e4
      exact absurd (by decide) hb2
    · refine s_ldc (n := 87) dX5_stand_85 rfl wd_X5_64 ?_
      refine s_ireturn dX5_stand_87 rfl (rfl) (Nat.le_refl _) (Nat.le_refl _) ?_
      exact ⟨rfl, rfl⟩
  · exact absurd b4 hT
set_option maxRecDepth 100000 in
set_option maxHeartbeats 4000000 in
theorem y_stand0 {G : mj_G} {h : mj_H} {d : Nat} {τ : Nat → Nat → Int32} (hY : YS G h τ) {n : Nat} (hn : τ 0 2 = nI n) (h7 : n ≤ 7) (hT : ¬ τ 12 1 = 0) (hd : 2 ≤ d) : mj_con G MX5_stand d 0 0 [.ref (G.1 + 220), .int 0] h (rI (staF n (τ 0) 0) h) := by
  refine mj_conV okX5_stand (ls := [some (.ref (G.1 + 220)), some (.int 0)]) rfl rfl ?_
  obtain ⟨y0, y1, y2, y3, y4, y5, y6, y7, y8, y9, y10, y11, y12⟩ := id hY
  refine s_aload_n (n := 1) (i := 0) dX5_stand_0 rfl rfl rfl ?_
  refine gf_X5_132 (n := 4) rfl dX5_stand_1 rfl (by assumption) (by rfl) ?_
  refine s_if_ne (n := 7) (tgt := 10) dX5_stand_4 rfl rfl (fun b4 => ?_) (fun b4 => ?_)
  · refine s_iload_n (n := 11) (i := 1) dX5_stand_10 rfl rfl rfl ?_
    refine t_X5_stand_11 dX5_stand_11 (fun e0 => ?_) (fun e1 => ?_) (fun e2 => ?_) (fun e3 => ?_) (fun e4 => ?_) (fun e0 e1 e2 e3 e4 => ?_)
    · refine s_aload_n (n := 45) (i := 0) dX5_stand_44 rfl rfl rfl ?_
      refine gf_X5_19 (n := 48) rfl dX5_stand_45 rfl (by assumption) (by rfl) ?_
      refine s_iconst (n := 49) (v := 5) dX5_stand_48 rfl (by decide) ?_
      refine s_iald (n := 50) dX5_stand_49 rfl (by assumption) (mj_ixe (j := 5) rfl (by omega)) ?_
      refine s_ireturn dX5_stand_50 rfl (rfl) (Nat.le_refl _) (Nat.le_refl _) ?_
      exact rI_ok rfl
    · exact absurd e1 (by decide)
    · exact absurd e2 (by decide)
    · exact absurd e3 (by decide)
    · exact absurd e4 (by decide)
    · exact absurd rfl e0
  · exact absurd b4 hT
set_option maxRecDepth 100000 in
set_option maxHeartbeats 4000000 in
theorem y_stand1 {G : mj_G} {h : mj_H} {d : Nat} {τ : Nat → Nat → Int32} (hY : YS G h τ) {n : Nat} (hn : τ 0 2 = nI n) (h7 : n ≤ 7) (hT : ¬ τ 12 1 = 0) (hd : 2 ≤ d) : mj_con G MX5_stand d 0 0 [.ref (G.1 + 220), .int 1] h (rI (staF n (τ 0) 1) h) := by
  refine mj_conV okX5_stand (ls := [some (.ref (G.1 + 220)), some (.int 1)]) rfl rfl ?_
  obtain ⟨y0, y1, y2, y3, y4, y5, y6, y7, y8, y9, y10, y11, y12⟩ := id hY
  refine s_aload_n (n := 1) (i := 0) dX5_stand_0 rfl rfl rfl ?_
  refine gf_X5_132 (n := 4) rfl dX5_stand_1 rfl (by assumption) (by rfl) ?_
  refine s_if_ne (n := 7) (tgt := 10) dX5_stand_4 rfl rfl (fun b4 => ?_) (fun b4 => ?_)
  · refine s_iload_n (n := 11) (i := 1) dX5_stand_10 rfl rfl rfl ?_
    refine t_X5_stand_11 dX5_stand_11 (fun e0 => ?_) (fun e1 => ?_) (fun e2 => ?_) (fun e3 => ?_) (fun e4 => ?_) (fun e0 e1 e2 e3 e4 => ?_)
    · exact absurd e0 (by decide)
    · refine s_aload_n (n := 52) (i := 0) dX5_stand_51 rfl rfl rfl ?_
      refine s_v0 (M' := MX5_isOver) (n := 55) (ci := 5) dX5_stand_52 rfl wd_X5_168 okX5_isOver rfl rfl (by omega) ⟨Nat.le_refl _, Nat.le_refl _⟩ (by assumption) (y_isOver (d := d - 1) hY) ?_
      rintro v52 hh52 ⟨rfl, rfl⟩
      refine s_if_eq (n := 58) (tgt := 62) dX5_stand_55 rfl rfl (fun b55 => ?_) (fun b55 => ?_)
      · refine s_iconst (n := 63) (v := 0) dX5_stand_62 rfl (by decide) ?_
        refine s_ireturn dX5_stand_63 rfl (rfl) (Nat.le_refl _) (Nat.le_refl _) ?_
        refine rI_ok ?_
        show _ = if τ 0 1 < τ 0 5 then (1 : Int32) else 0
        first | rw [if_pos (if1 b55)] | rw [if_neg (if0 b55)]
      · refine s_iconst (n := 59) (v := 1) dX5_stand_58 rfl (by decide) ?_
        refine s_goto (tgt := 63) dX5_stand_59 rfl ?_
        refine s_ireturn dX5_stand_63 rfl (rfl) (Nat.le_refl _) (Nat.le_refl _) ?_
        refine rI_ok ?_
        show _ = if τ 0 1 < τ 0 5 then (1 : Int32) else 0
        first | rw [if_pos (if1 b55)] | rw [if_neg (if0 b55)]
    · exact absurd e2 (by decide)
    · exact absurd e3 (by decide)
    · exact absurd e4 (by decide)
    · exact absurd rfl e1
  · exact absurd b4 hT
set_option maxRecDepth 100000 in
set_option maxHeartbeats 4000000 in
theorem y_stand2 {G : mj_G} {h : mj_H} {d : Nat} {τ : Nat → Nat → Int32} (hY : YS G h τ) {n : Nat} (hn : τ 0 2 = nI n) (h7 : n ≤ 7) (hT : ¬ τ 12 1 = 0) (hd : 2 ≤ d) : mj_con G MX5_stand d 0 0 [.ref (G.1 + 220), .int 2] h (rI (staF n (τ 0) 2) h) := by
  refine mj_conV okX5_stand (ls := [some (.ref (G.1 + 220)), some (.int 2)]) rfl rfl ?_
  obtain ⟨y0, y1, y2, y3, y4, y5, y6, y7, y8, y9, y10, y11, y12⟩ := id hY
  refine s_aload_n (n := 1) (i := 0) dX5_stand_0 rfl rfl rfl ?_
  refine gf_X5_132 (n := 4) rfl dX5_stand_1 rfl (by assumption) (by rfl) ?_
  refine s_if_ne (n := 7) (tgt := 10) dX5_stand_4 rfl rfl (fun b4 => ?_) (fun b4 => ?_)
  · refine s_iload_n (n := 11) (i := 1) dX5_stand_10 rfl rfl rfl ?_
    refine t_X5_stand_11 dX5_stand_11 (fun e0 => ?_) (fun e1 => ?_) (fun e2 => ?_) (fun e3 => ?_) (fun e4 => ?_) (fun e0 e1 e2 e3 e4 => ?_)
    · exact absurd e0 (by decide)
    · exact absurd e1 (by decide)
    · refine s_aload_n (n := 65) (i := 0) dX5_stand_64 rfl rfl rfl ?_
      refine gf_X5_19 (n := 68) rfl dX5_stand_65 rfl (by assumption) (by rfl) ?_
      refine s_iconst (n := 69) (v := 4) dX5_stand_68 rfl (by decide) ?_
      refine s_iald (n := 70) dX5_stand_69 rfl (by assumption) (mj_ixe (j := 4) rfl (by omega)) ?_
      refine s_ireturn dX5_stand_70 rfl (rfl) (Nat.le_refl _) (Nat.le_refl _) ?_
      exact rI_ok rfl
    · exact absurd e3 (by decide)
    · exact absurd e4 (by decide)
    · exact absurd rfl e2
  · exact absurd b4 hT
set_option maxRecDepth 100000 in
set_option maxHeartbeats 4000000 in
theorem y_stand3 {G : mj_G} {h : mj_H} {d : Nat} {τ : Nat → Nat → Int32} (hY : YS G h τ) {n : Nat} (hn : τ 0 2 = nI n) (h7 : n ≤ 7) (hT : ¬ τ 12 1 = 0) (hd : 2 ≤ d) : mj_con G MX5_stand d 0 0 [.ref (G.1 + 220), .int 3] h (rI (staF n (τ 0) 3) h) := by
  refine mj_conV okX5_stand (ls := [some (.ref (G.1 + 220)), some (.int 3)]) rfl rfl ?_
  obtain ⟨y0, y1, y2, y3, y4, y5, y6, y7, y8, y9, y10, y11, y12⟩ := id hY
  refine s_aload_n (n := 1) (i := 0) dX5_stand_0 rfl rfl rfl ?_
  refine gf_X5_132 (n := 4) rfl dX5_stand_1 rfl (by assumption) (by rfl) ?_
  refine s_if_ne (n := 7) (tgt := 10) dX5_stand_4 rfl rfl (fun b4 => ?_) (fun b4 => ?_)
  · refine s_iload_n (n := 11) (i := 1) dX5_stand_10 rfl rfl rfl ?_
    refine t_X5_stand_11 dX5_stand_11 (fun e0 => ?_) (fun e1 => ?_) (fun e2 => ?_) (fun e3 => ?_) (fun e4 => ?_) (fun e0 e1 e2 e3 e4 => ?_)
    · exact absurd e0 (by decide)
    · exact absurd e1 (by decide)
    · exact absurd e2 (by decide)
    · refine s_aload_n (n := 72) (i := 0) dX5_stand_71 rfl rfl rfl ?_
      refine s_bipush (n := 74) (v := 41) dX5_stand_72 rfl (by decide) ?_
      refine s_v1 (M' := MX5_sumOf) (n := 77) (ci := 5) dX5_stand_74 rfl wd_X5_171 okX5_sumOf rfl rfl (by omega) ⟨Nat.le_refl _, Nat.le_refl _⟩ (by assumption) (y_sumOf (d := d - 1) hY hn h7 (o := 41) (by omega)) ?_
      rintro v74 hh74 ⟨rfl, rfl⟩
      refine s_ireturn dX5_stand_77 rfl (rfl) (Nat.le_refl _) (Nat.le_refl _) ?_
      exact rI_ok rfl
    · exact absurd e4 (by decide)
    · exact absurd rfl e3
  · exact absurd b4 hT
set_option maxRecDepth 100000 in
set_option maxHeartbeats 4000000 in
theorem y_stand4 {G : mj_G} {h : mj_H} {d : Nat} {τ : Nat → Nat → Int32} (hY : YS G h τ) {n : Nat} (hn : τ 0 2 = nI n) (h7 : n ≤ 7) (hT : ¬ τ 12 1 = 0) (hd : 2 ≤ d) : mj_con G MX5_stand d 0 0 [.ref (G.1 + 220), .int 4] h (rI (staF n (τ 0) 4) h) := by
  refine mj_conV okX5_stand (ls := [some (.ref (G.1 + 220)), some (.int 4)]) rfl rfl ?_
  obtain ⟨y0, y1, y2, y3, y4, y5, y6, y7, y8, y9, y10, y11, y12⟩ := id hY
  refine s_aload_n (n := 1) (i := 0) dX5_stand_0 rfl rfl rfl ?_
  refine gf_X5_132 (n := 4) rfl dX5_stand_1 rfl (by assumption) (by rfl) ?_
  refine s_if_ne (n := 7) (tgt := 10) dX5_stand_4 rfl rfl (fun b4 => ?_) (fun b4 => ?_)
  · refine s_iload_n (n := 11) (i := 1) dX5_stand_10 rfl rfl rfl ?_
    refine t_X5_stand_11 dX5_stand_11 (fun e0 => ?_) (fun e1 => ?_) (fun e2 => ?_) (fun e3 => ?_) (fun e4 => ?_) (fun e0 e1 e2 e3 e4 => ?_)
    · exact absurd e0 (by decide)
    · exact absurd e1 (by decide)
    · exact absurd e2 (by decide)
    · exact absurd e3 (by decide)
    · refine s_aload_n (n := 79) (i := 0) dX5_stand_78 rfl rfl rfl ?_
      refine s_bipush (n := 81) (v := 34) dX5_stand_79 rfl (by decide) ?_
      refine s_v1 (M' := MX5_sumOf) (n := 84) (ci := 5) dX5_stand_81 rfl wd_X5_171 okX5_sumOf rfl rfl (by omega) ⟨Nat.le_refl _, Nat.le_refl _⟩ (by assumption) (y_sumOf (d := d - 1) hY hn h7 (o := 34) (by omega)) ?_
      rintro v81 hh81 ⟨rfl, rfl⟩
      refine s_ireturn dX5_stand_84 rfl (rfl) (Nat.le_refl _) (Nat.le_refl _) ?_
      exact rI_ok rfl
    · exact absurd rfl e4
  · exact absurd b4 hT
