theorem u2_u2 {σ : Nat → Nat → Int32} {i : Nat} {f g : Nat → Int32} : u2 (u2 σ i f) i g = u2 σ i g := by
  funext j
  unfold u2
  split <;> rfl
theorem XS_f {G : mj_G} {h : mj_H} {σ : Nat → Nat → Int32} (hX : XS G h σ) : XS G h (u2 σ 1 (σ 1)) := by
  rw [u2_self]
  exact hX
theorem XS_for2 {G : mj_G} {h h' : mj_H} {σ : Nat → Nat → Int32} {F T : Nat → Int32} (hX : XS G h (u2 σ 1 F)) (h1 : mj_St G h' 11 T) (hF : mj_fr 11 7 h h') : XS G h' (u2 σ 1 T) := by
  have := XS_for hX h1 hF
  rw [u2_u2] at this
  exact this
/-- an int's answer, nothing changed but what is foreseen -/
abbrev rF (G : mj_G) (σ : Nat → Nat → Int32) (A : Int32) (h : mj_H) : Option Value → mj_H → Prop := fun v h' => v = some (.int A) ∧ ∃ F, XS G h' (u2 σ 1 F) ∧ mj_fr 0 220 h h'
section XFW
variable {G : mj_G} {M : mj_M} {d kc ks pc : Nat} {ls : List (Option Value)} {st : List Value} {h : mj_H} {uc us : Nat} {Q : Option Value → mj_H → Prop}
theorem XF_hushed {σ : Nat → Nat → Int32} {F : Nat → Int32} {x : Int32} (hX : XS G h (u2 σ 1 F)) (k : ∀ h', XS G h' (u2 σ 1 (upd F 4 x)) → mj_fr 0 220 h h' → mj_wp G M d kc ks pc ls st h' uc us Q) : mj_wp G M d kc ks pc ls st (mj_up h 11 (mj_ob 2 [.ref (G.1 + (11 + 1)), .ref (G.1 + (11 + 2)), .ref (G.1 + (11 + 3)), .ref (G.1 + (11 + 4)), .ref (G.1 + (11 + 5)), .ref (G.1 + (11 + 6)), .int (F 0), .int (F 1), .int (F 2), .int (F 3), .int (F 5), .int x])) uc us Q := by
  have hS : mj_St G h 11 F := hX.2.2.2.2.1
  exact St_put_hushed hS (fun h' a b => k h' (XS_for2 hX a b) (fr_wid b (by omega) (by omega)))
theorem XF_talk {σ : Nat → Nat → Int32} {F : Nat → Int32} {x : Int32} {j : Nat} (hj : j < 7) (hX : XS G h (u2 σ 1 F)) (k : ∀ h', XS G h' (u2 σ 1 (upd F (13 + j) x)) → mj_fr 0 220 h h' → mj_wp G M d kc ks pc ls st h' uc us Q) : mj_wp G M d kc ks pc ls st (mj_up h (11 + 2) (mj_ar 0 7 (upd (sl F 13) j x))) uc us Q := by
  have hS : mj_St G h 11 F := hX.2.2.2.2.1
  exact St_put_talk hj hS (fun h' a b => k h' (XS_for2 hX a b) (fr_wid b (by omega) (by omega)))
theorem XF_kind {σ : Nat → Nat → Int32} {F : Nat → Int32} {x : Int32} {j : Nat} (hj : j < 7) (hX : XS G h (u2 σ 1 F)) (k : ∀ h', XS G h' (u2 σ 1 (upd F (6 + j) x)) → mj_fr 0 220 h h' → mj_wp G M d kc ks pc ls st h' uc us Q) : mj_wp G M d kc ks pc ls st (mj_up h (11 + 1) (mj_ar 0 7 (upd (sl F 6) j x))) uc us Q := by
  have hS : mj_St G h 11 F := hX.2.2.2.2.1
  exact St_put_kind hj hS (fun h' a b => k h' (XS_for2 hX a b) (fr_wid b (by omega) (by omega)))
theorem XF_keeps {σ : Nat → Nat → Int32} {F : Nat → Int32} {x : Int32} {j : Nat} (hj : j < 7) (hX : XS G h (u2 σ 1 F)) (k : ∀ h', XS G h' (u2 σ 1 (upd F (20 + j) x)) → mj_fr 0 220 h h' → mj_wp G M d kc ks pc ls st h' uc us Q) : mj_wp G M d kc ks pc ls st (mj_up h (11 + 3) (mj_ar 0 7 (upd (sl F 20) j x))) uc us Q := by
  have hS : mj_St G h 11 F := hX.2.2.2.2.1
  exact St_put_keeps hj hS (fun h' a b => k h' (XS_for2 hX a b) (fr_wid b (by omega) (by omega)))
end XFW
theorem okK_up {n k : Nat} {T : Nat → Int32} {x : Int32} (h : okK n T) (h2 : k ≠ 2) (hk : k < 6 ∨ (13 ≤ k ∧ k < 20) ∨ 27 ≤ k) : okK n (upd T k x) := by
  refine ⟨by rw [up_ne (Ne.symm h2)]; exact h.1, h.2.1, fun j hj => ?_⟩
  have := h.2.1
  rw [up_ne (by omega), up_ne (by omega)]
  exact h.2.2 j hj
set_option maxRecDepth 100000 in
set_option maxHeartbeats 4000000 in
theorem c_isHouse2 {G : mj_G} {h : mj_H} {d n : Nat} {σ : Nat → Nat → Int32} {F : Nat → Int32} {x : Int32} (hX : XS G h (u2 σ 1 F)) (hn : σ 0 2 = nI n) (h7 : n ≤ 7) (hd : 1 ≤ d) : mj_con G MX4_isHouse d 0 0 [.ref (G.1 + 0), .int x] h (rI (if Hs n x then 1 else 0) h) := c_isHouse hX hn h7 hd
set_option maxRecDepth 100000 in
set_option maxHeartbeats 4000000 in
theorem c_foresee {G : mj_G} {h : mj_H} {d : Nat} {σ : Nat → Nat → Int32} {F : Nat → Int32} (hX : XS G h (u2 σ 1 F)) {n k : Nat} (hok : okK n (σ 0)) {x : Int32} (hk : k < 1000) (hd : 5 ≤ d) : mj_con G MX4_foreseeHushed d 0 0 [.ref (G.1 + 0), .int x, .int (nI k)] h (fun v h' => v = none ∧ XS G h' (u2 σ 1 (mns n k (upd (σ 0) 4 (σ 0 4 ||| x)))) ∧ mj_fr 0 220 h h') := by
  refine mj_conV okX4_foreseeHushed (ls := [some (.ref (G.1 + 0)), some (.int x), some (.int (nI k))]) rfl rfl ?_
  obtain ⟨x0, x1, xt, xn, xf, xa, x188, x189, xr, xi⟩ := id hX
  replace x0 : _ = XO G (σ 42) := x0
  replace xn : mj_St G _ 4 (σ 0) := xn
  replace xf : mj_St G _ 11 (F) := xf
  obtain ⟨n0, n1, n2, n3, n4, n5, n6⟩ := id xn
  obtain ⟨f0, f1, f2, f3, f4, f5, f6⟩ := id xf
  refine s_aload_n (n := 1) (i := 0) dX4_foreseeHushed_0 rfl rfl rfl ?_
  refine gf_X4_29 (n := 4) rfl dX4_foreseeHushed_1 rfl (by assumption) (by rfl) ?_
  refine s_aload_n (n := 5) (i := 0) dX4_foreseeHushed_4 rfl rfl rfl ?_
  refine gf_X4_25 (n := 8) rfl dX4_foreseeHushed_5 rfl (by assumption) (by rfl) ?_
  refine s_v1 (M' := MX2_takeFrom) (n := 11) (ci := 2) dX4_foreseeHushed_8 rfl wd_X4_120 okX2_takeFrom rfl rfl (by omega) ⟨Nat.le_refl _, Nat.le_refl _⟩ (by assumption) (c_takeFrom (d := d - 1) xf xn (by omega) (by omega)) ?_
  rintro v8 hh8 ⟨rfl, hS1, hF1⟩
  replace hX := XS_for2 hX hS1 hF1
  have hFx := fr_wid (p' := 0) (w' := 220) hF1 (by omega) (by omega)
  obtain ⟨x0, x1, xt, xn, xf, xa, x188, x189, xr, xi⟩ := id hX
  replace x0 : _ = XO G (σ 42) := x0
  replace xn : mj_St G _ 4 (σ 0) := xn
  replace xf : mj_St G _ 11 (σ 0) := xf
  obtain ⟨n0, n1, n2, n3, n4, n5, n6⟩ := id xn
  obtain ⟨f0, f1, f2, f3, f4, f5, f6⟩ := id xf
  refine s_aload_n (n := 12) (i := 0) dX4_foreseeHushed_11 rfl rfl rfl ?_
  refine gf_X4_29 (n := 15) rfl dX4_foreseeHushed_12 rfl (by assumption) (by rfl) ?_
  refine s_dup (n := 16) dX4_foreseeHushed_15 rfl rfl ?_
  refine gf_X4_161 (n := 19) rfl dX4_foreseeHushed_16 rfl (by assumption) (by rfl) ?_
  refine s_iload_n (n := 20) (i := 1) dX4_foreseeHushed_19 rfl rfl rfl ?_
  refine s_ior (n := 21) dX4_foreseeHushed_20 rfl ?_
  refine pf_X4_161 (n := 24) (fs' := [_, _, _, _, _, _, _, _, _, _, _, _]) rfl dX4_foreseeHushed_21 rfl (by assumption) (by rfl) (by rfl) ?_
  refine XF_hushed hX (fun h2 hX2 hF2 => ?_)
  replace hX := hX2
  replace hFx := fr_tr hFx hF2
  obtain ⟨x0, x1, xt, xn, xf, xa, x188, x189, xr, xi⟩ := id hX
  replace x0 : _ = XO G (σ 42) := x0
  replace xn : mj_St G _ 4 (σ 0) := xn
  replace xf : mj_St G _ 11 (upd (σ 0) 4 (σ 0 4 ||| x)) := xf
  obtain ⟨n0, n1, n2, n3, n4, n5, n6⟩ := id xn
  obtain ⟨f0, f1, f2, f3, f4, f5, f6⟩ := id xf
  refine s_aload_n (n := 25) (i := 0) dX4_foreseeHushed_24 rfl rfl rfl ?_
  refine gf_X4_29 (n := 28) rfl dX4_foreseeHushed_25 rfl (by assumption) (by rfl) ?_
  refine s_iload_n (n := 29) (i := 2) dX4_foreseeHushed_28 rfl rfl rfl ?_
  refine s_v1 (M' := MX2_passMinutes) (n := 32) (ci := 2) dX4_foreseeHushed_29 rfl wd_X4_196 okX2_passMinutes rfl rfl (by omega) ⟨Nat.le_refl _, Nat.le_refl _⟩ (by assumption) (c_passMinutes (d := d - 1) xf (okK_up hok (by omega) (by omega)) (by omega) (by omega)) ?_
  rintro v29 hh29 ⟨rfl, hS2, hF2⟩
  replace hX := XS_for2 hX hS2 hF2
  replace hFx := fr_tr hFx (fr_wid (p' := 0) (w' := 220) hF2 (by omega) (by omega))
  obtain ⟨x0, x1, xt, xn, xf, xa, x188, x189, xr, xi⟩ := id hX
  replace x0 : _ = XO G (σ 42) := x0
  replace xn : mj_St G _ 4 (σ 0) := xn
  replace xf : mj_St G _ 11 (mns n k (upd (σ 0) 4 (σ 0 4 ||| x))) := xf
  obtain ⟨n0, n1, n2, n3, n4, n5, n6⟩ := id xn
  obtain ⟨f0, f1, f2, f3, f4, f5, f6⟩ := id xf
  refine s_return dX4_foreseeHushed_32 rfl (Nat.le_refl _) (Nat.le_refl _) ?_
  exact ⟨rfl, hX, hFx⟩
set_option maxRecDepth 100000 in
set_option maxHeartbeats 4000000 in
theorem k_ahead_bad {G : mj_G} {h : mj_H} {d : Nat} {σ : Nat → Nat → Int32} (hX : XS G h σ) {n : Nat} (hn : σ 0 2 = nI n) (h7 : n ≤ 7) {x y : Int32} (hb : ¬ (Hs n x ∧ Wi y 0 99)) (hd : 2 ≤ d) : mj_con G MX4_ahead d 0 0 [.ref (G.1 + 0), .int x, .int y] h (rI (-1000001) h) := by
  refine mj_conV okX4_ahead (ls := [some (.ref (G.1 + 0)), some (.int x), some (.int y)]) rfl rfl ?_
  obtain ⟨x0, x1, xt, xn, xf, xa, x188, x189, xr, xi⟩ := id hX
  obtain ⟨n0, n1, n2, n3, n4, n5, n6⟩ := id xn
  have a18 := xa.1
  have t2 := xt.1
  have t3 := xt.2
  refine s_aload_n (n := 1) (i := 0) dX4_ahead_0 rfl rfl rfl ?_
  refine s_iload_n (n := 2) (i := 1) dX4_ahead_1 rfl rfl rfl ?_
  refine s_v1 (M' := MX4_isHouse) (n := 5) (ci := 4) dX4_ahead_2 rfl wd_X4_152 okX4_isHouse rfl rfl (by omega) ⟨Nat.le_refl _, Nat.le_refl _⟩ (by assumption) (c_isHouse (d := d - 1) hX hn h7 (by omega)) ?_
  rintro v2 hh2 ⟨rfl, rfl⟩
  refine s_if_eq (n := 8) (tgt := 18) dX4_ahead_5 rfl rfl (fun b5 => ?_) (fun b5 => ?_)
  · refine s_ldc (n := 20) dX4_ahead_18 rfl wd_X4_56 ?_
    refine s_ireturn dX4_ahead_20 rfl (rfl) (Nat.le_refl _) (Nat.le_refl _) ?_
    exact ⟨rfl, rfl⟩
  · refine s_iload_n (n := 9) (i := 2) dX4_ahead_8 rfl rfl rfl ?_
    refine s_iconst (n := 10) (v := 0) dX4_ahead_9 rfl (by decide) ?_
    refine s_bipush (n := 12) (v := 99) dX4_ahead_10 rfl (by decide) ?_
    refine s_s3 (M' := MX4_isWithin) (n := 15) dX4_ahead_12 rfl wd_X4_52 okX4_isWithin rfl (by omega) ⟨Nat.le_refl _, Nat.le_refl _⟩ (c_within (d := d - 1) (A := 0) (B := 99) (by decide) (by decide)) ?_
    rintro v12 hh12 ⟨rfl, rfl⟩
    refine s_if_ne (n := 18) (tgt := 21) dX4_ahead_15 rfl rfl (fun b15 => ?_) (fun b15 => ?_)
    · exact absurd (⟨if1 b5, if1 b15⟩) hb
    · refine s_ldc (n := 20) dX4_ahead_18 rfl wd_X4_56 ?_
      refine s_ireturn dX4_ahead_20 rfl (rfl) (Nat.le_refl _) (Nat.le_refl _) ?_
      exact ⟨rfl, rfl⟩
set_option maxRecDepth 100000 in
set_option maxHeartbeats 4000000 in
theorem k_ahead {G : mj_G} {h : mj_H} {d : Nat} {σ : Nat → Nat → Int32} (hX : XS G h σ) {n : Nat} (hn : σ 0 2 = nI n) (h7 : n ≤ 7) (hok : okK n (σ 0)) {j k : Nat} (hj : j < n) (hk : k ≤ 99) (hd : 6 ≤ d) : mj_con G MX4_ahead d 0 0 [.ref (G.1 + 0), .int (nI j), .int (nI k)] h (rF G σ (mns n k (σ 0) (34 + j)) h) := by
  refine mj_conV okX4_ahead (ls := [some (.ref (G.1 + 0)), some (.int (nI j)), some (.int (nI k))]) rfl rfl ?_
  replace hX := XS_f hX
  obtain ⟨x0, x1, xt, xn, xf, xa, x188, x189, xr, xi⟩ := id hX
  replace x0 : _ = XO G (σ 42) := x0
  replace xn : mj_St G _ 4 (σ 0) := xn
  replace xf : mj_St G _ 11 (σ 1) := xf
  obtain ⟨n0, n1, n2, n3, n4, n5, n6⟩ := id xn
  obtain ⟨f0, f1, f2, f3, f4, f5, f6⟩ := id xf
  refine s_aload_n (n := 1) (i := 0) dX4_ahead_0 rfl rfl rfl ?_
  refine s_iload_n (n := 2) (i := 1) dX4_ahead_1 rfl rfl rfl ?_
  refine s_v1 (M' := MX4_isHouse) (n := 5) (ci := 4) dX4_ahead_2 rfl wd_X4_152 okX4_isHouse rfl rfl (by omega) ⟨Nat.le_refl _, Nat.le_refl _⟩ (by assumption) (c_isHouse2 (d := d - 1) hX hn h7 (by omega)) ?_
  rintro v2 hh2 ⟨rfl, rfl⟩
  refine s_if_eq (n := 8) (tgt := 18) dX4_ahead_5 rfl rfl (fun b5 => ?_) (fun b5 => ?_)
  · exact absurd (Hs_n hj h7) (if0 b5)
  · refine s_iload_n (n := 9) (i := 2) dX4_ahead_8 rfl rfl rfl ?_
    refine s_iconst (n := 10) (v := 0) dX4_ahead_9 rfl (by decide) ?_
    refine s_bipush (n := 12) (v := 99) dX4_ahead_10 rfl (by decide) ?_
    refine s_s3 (M' := MX4_isWithin) (n := 15) dX4_ahead_12 rfl wd_X4_52 okX4_isWithin rfl (by omega) ⟨Nat.le_refl _, Nat.le_refl _⟩ (c_within (d := d - 1) (A := 0) (B := 99) (by decide) (by decide)) ?_
    rintro v12 hh12 ⟨rfl, rfl⟩
    refine s_if_ne (n := 18) (tgt := 21) dX4_ahead_15 rfl rfl (fun b15 => ?_) (fun b15 => ?_)
    · refine s_aload_n (n := 22) (i := 0) dX4_ahead_21 rfl rfl rfl ?_
      refine gf_X4_29 (n := 25) rfl dX4_ahead_22 rfl (by assumption) (by rfl) ?_
      refine s_aload_n (n := 26) (i := 0) dX4_ahead_25 rfl rfl rfl ?_
      refine gf_X4_25 (n := 29) rfl dX4_ahead_26 rfl (by assumption) (by rfl) ?_
      refine s_v1 (M' := MX2_takeFrom) (n := 32) (ci := 2) dX4_ahead_29 rfl wd_X4_120 okX2_takeFrom rfl rfl (by omega) ⟨Nat.le_refl _, Nat.le_refl _⟩ (by assumption) (c_takeFrom (d := d - 1) xf xn (by omega) (by omega)) ?_
      rintro v29 hh29 ⟨rfl, hS1, hF1⟩
      replace hX := XS_for2 hX hS1 hF1
      have hFx := fr_wid (p' := 0) (w' := 220) hF1 (by omega) (by omega)
      obtain ⟨x0, x1, xt, xn, xf, xa, x188, x189, xr, xi⟩ := id hX
      replace x0 : _ = XO G (σ 42) := x0
      replace xn : mj_St G _ 4 (σ 0) := xn
      replace xf : mj_St G _ 11 (σ 0) := xf
      obtain ⟨n0, n1, n2, n3, n4, n5, n6⟩ := id xn
      obtain ⟨f0, f1, f2, f3, f4, f5, f6⟩ := id xf
      refine s_aload_n (n := 33) (i := 0) dX4_ahead_32 rfl rfl rfl ?_
      refine gf_X4_29 (n := 36) rfl dX4_ahead_33 rfl (by assumption) (by rfl) ?_
      refine s_iload_n (n := 37) (i := 2) dX4_ahead_36 rfl rfl rfl ?_
      refine s_v1 (M' := MX2_passMinutes) (n := 40) (ci := 2) dX4_ahead_37 rfl wd_X4_196 okX2_passMinutes rfl rfl (by omega) ⟨Nat.le_refl _, Nat.le_refl _⟩ (by assumption) (c_passMinutes (d := d - 1) xf (hok) (by omega) (by omega)) ?_
      rintro v37 hh37 ⟨rfl, hS2, hF2⟩
      replace hX := XS_for2 hX hS2 hF2
      replace hFx := fr_tr hFx (fr_wid (p' := 0) (w' := 220) hF2 (by omega) (by omega))
      obtain ⟨x0, x1, xt, xn, xf, xa, x188, x189, xr, xi⟩ := id hX
      replace x0 : _ = XO G (σ 42) := x0
      replace xn : mj_St G _ 4 (σ 0) := xn
      replace xf : mj_St G _ 11 (mns n k (σ 0)) := xf
      obtain ⟨n0, n1, n2, n3, n4, n5, n6⟩ := id xn
      obtain ⟨f0, f1, f2, f3, f4, f5, f6⟩ := id xf
      refine s_aload_n (n := 41) (i := 0) dX4_ahead_40 rfl rfl rfl ?_
      refine gf_X4_29 (n := 44) rfl dX4_ahead_41 rfl (by assumption) (by rfl) ?_
      refine gf_X4_180 (n := 47) rfl dX4_ahead_44 rfl (by assumption) (by rfl) ?_
      refine s_iload_n (n := 48) (i := 1) dX4_ahead_47 rfl rfl rfl ?_
      first | refine s_ials (n := 49) dX4_ahead_48 rfl (by assumption) (mj_ixn (by omega)) ?_ | refine s_iald (n := 49) dX4_ahead_48 rfl (by assumption) (mj_ixn (by omega)) ?_
      refine s_ireturn dX4_ahead_49 rfl (rfl) (Nat.le_refl _) (Nat.le_refl _) ?_
      exact ⟨rfl, _, hX, hFx⟩
    · exact absurd (Wi_n (by omega) (by omega) (by omega)) (if0 b15)
set_option maxRecDepth 100000 in
set_option maxHeartbeats 4000000 in
theorem k_pond_st {G : mj_G} {h : mj_H} {d : Nat} {σ : Nat → Nat → Int32} (hX : XS G h σ) {x y : Int32} (hb : ¬ 0 < σ 0 2) (hd : 2 ≤ d) : mj_con G MX4_pond d 0 0 [.ref (G.1 + 0), .int x, .int y] h (rI (-1000002) h) := by
  refine mj_conV okX4_pond (ls := [some (.ref (G.1 + 0)), some (.int x), some (.int y)]) rfl rfl ?_
  obtain ⟨x0, x1, xt, xn, xf, xa, x188, x189, xr, xi⟩ := id hX
  obtain ⟨n0, n1, n2, n3, n4, n5, n6⟩ := id xn
  have a18 := xa.1
  have t2 := xt.1
  have t3 := xt.2
  refine s_aload_n (n := 1) (i := 0) dX4_pond_0 rfl rfl rfl ?_
  refine gf_X4_25 (n := 4) rfl dX4_pond_1 rfl (by assumption) (by rfl) ?_
  refine s_v0 (M' := MX2_stands) (n := 7) (ci := 2) dX4_pond_4 rfl wd_X4_137 okX2_stands rfl rfl (by omega) ⟨Nat.le_refl _, Nat.le_refl _⟩ (by assumption) (c_stands (d := d - 1) xn) ?_
  rintro v4 hh4 ⟨rfl, rfl⟩
  refine s_if_ne (n := 10) (tgt := 13) dX4_pond_7 rfl rfl (fun b7 => ?_) (fun b7 => ?_)
  · exact absurd (if1 b7) (hb)
  · refine s_ldc (n := 12) dX4_pond_10 rfl wd_X4_136 ?_
    refine s_ireturn dX4_pond_12 rfl (rfl) (Nat.le_refl _) (Nat.le_refl _) ?_
    exact ⟨rfl, rfl⟩
set_option maxRecDepth 100000 in
set_option maxHeartbeats 4000000 in
theorem k_pond_bad {G : mj_G} {h : mj_H} {d : Nat} {σ : Nat → Nat → Int32} (hX : XS G h σ) {x y : Int32} (h0 : 0 < σ 0 2) (hb : ¬ (Wi x 0 99 ∧ Wi y 0 1)) (hd : 2 ≤ d) : mj_con G MX4_pond d 0 0 [.ref (G.1 + 0), .int x, .int y] h (rI (-1000001) h) := by
  refine mj_conV okX4_pond (ls := [some (.ref (G.1 + 0)), some (.int x), some (.int y)]) rfl rfl ?_
  obtain ⟨x0, x1, xt, xn, xf, xa, x188, x189, xr, xi⟩ := id hX
  obtain ⟨n0, n1, n2, n3, n4, n5, n6⟩ := id xn
  have a18 := xa.1
  have t2 := xt.1
  have t3 := xt.2
  refine s_aload_n (n := 1) (i := 0) dX4_pond_0 rfl rfl rfl ?_
  refine gf_X4_25 (n := 4) rfl dX4_pond_1 rfl (by assumption) (by rfl) ?_
  refine s_v0 (M' := MX2_stands) (n := 7) (ci := 2) dX4_pond_4 rfl wd_X4_137 okX2_stands rfl rfl (by omega) ⟨Nat.le_refl _, Nat.le_refl _⟩ (by assumption) (c_stands (d := d - 1) xn) ?_
  rintro v4 hh4 ⟨rfl, rfl⟩
  refine s_if_ne (n := 10) (tgt := 13) dX4_pond_7 rfl rfl (fun b7 => ?_) (fun b7 => ?_)
  · refine s_iload_n (n := 14) (i := 1) dX4_pond_13 rfl rfl rfl ?_
    refine s_iconst (n := 15) (v := 0) dX4_pond_14 rfl (by decide) ?_
    refine s_bipush (n := 17) (v := 99) dX4_pond_15 rfl (by decide) ?_
    refine s_s3 (M' := MX4_isWithin) (n := 20) dX4_pond_17 rfl wd_X4_52 okX4_isWithin rfl (by omega) ⟨Nat.le_refl _, Nat.le_refl _⟩ (c_within (d := d - 1) (A := 0) (B := 99) (by decide) (by decide)) ?_
    rintro v17 hh17 ⟨rfl, rfl⟩
    refine s_if_eq (n := 23) (tgt := 32) dX4_pond_20 rfl rfl (fun b20 => ?_) (fun b20 => ?_)
    · refine s_ldc (n := 34) dX4_pond_32 rfl wd_X4_56 ?_
      refine s_ireturn dX4_pond_34 rfl (rfl) (Nat.le_refl _) (Nat.le_refl _) ?_
      exact ⟨rfl, rfl⟩
    · refine s_iload_n (n := 24) (i := 2) dX4_pond_23 rfl rfl rfl ?_
      refine s_iconst (n := 25) (v := 0) dX4_pond_24 rfl (by decide) ?_
      refine s_iconst (n := 26) (v := 1) dX4_pond_25 rfl (by decide) ?_
      refine s_s3 (M' := MX4_isWithin) (n := 29) dX4_pond_26 rfl wd_X4_52 okX4_isWithin rfl (by omega) ⟨Nat.le_refl _, Nat.le_refl _⟩ (c_within (d := d - 1) (A := 0) (B := 1) (by decide) (by decide)) ?_
      rintro v26 hh26 ⟨rfl, rfl⟩
      refine s_if_ne (n := 32) (tgt := 35) dX4_pond_29 rfl rfl (fun b29 => ?_) (fun b29 => ?_)
      · exact absurd (⟨if1 b20, if1 b29⟩) hb
      · refine s_ldc (n := 34) dX4_pond_32 rfl wd_X4_56 ?_
        refine s_ireturn dX4_pond_34 rfl (rfl) (Nat.le_refl _) (Nat.le_refl _) ?_
        exact ⟨rfl, rfl⟩
  · exact absurd (h0) (if0 b7)
set_option maxRecDepth 100000 in
set_option maxHeartbeats 4000000 in
theorem k_pond {G : mj_G} {h : mj_H} {d : Nat} {σ : Nat → Nat → Int32} (hX : XS G h σ) {n : Nat} (hn : σ 0 2 = nI n) (h7 : n ≤ 7) (hok : okK n (σ 0)) {k : Nat} (hk : k ≤ 99) (h0 : 0 < σ 0 2) {w : Int32} (hw : Wi w 0 1) (hd : 6 ≤ d) : mj_con G MX4_pond d 0 0 [.ref (G.1 + 0), .int (nI k), .int w] h (rF G σ (if w = 0 then mns n k (σ 0) 5 else sumF (mns n k (σ 0)) 41 n) h) := by
  refine mj_conV okX4_pond (ls := [some (.ref (G.1 + 0)), some (.int (nI k)), some (.int w)]) rfl rfl ?_
  replace hX := XS_f hX
  obtain ⟨x0, x1, xt, xn, xf, xa, x188, x189, xr, xi⟩ := id hX
  replace x0 : _ = XO G (σ 42) := x0
  replace xn : mj_St G _ 4 (σ 0) := xn
  replace xf : mj_St G _ 11 (σ 1) := xf
  obtain ⟨n0, n1, n2, n3, n4, n5, n6⟩ := id xn
  obtain ⟨f0, f1, f2, f3, f4, f5, f6⟩ := id xf
  refine s_aload_n (n := 1) (i := 0) dX4_pond_0 rfl rfl rfl ?_
  refine gf_X4_25 (n := 4) rfl dX4_pond_1 rfl (by assumption) (by rfl) ?_
  refine s_v0 (M' := MX2_stands) (n := 7) (ci := 2) dX4_pond_4 rfl wd_X4_137 okX2_stands rfl rfl (by omega) ⟨Nat.le_refl _, Nat.le_refl _⟩ (by assumption) (c_stands (d := d - 1) xn) ?_
  rintro v4 hh4 ⟨rfl, rfl⟩
  refine s_if_ne (n := 10) (tgt := 13) dX4_pond_7 rfl rfl (fun b7 => ?_) (fun b7 => ?_)
  · refine s_iload_n (n := 14) (i := 1) dX4_pond_13 rfl rfl rfl ?_
    refine s_iconst (n := 15) (v := 0) dX4_pond_14 rfl (by decide) ?_
    refine s_bipush (n := 17) (v := 99) dX4_pond_15 rfl (by decide) ?_
    refine s_s3 (M' := MX4_isWithin) (n := 20) dX4_pond_17 rfl wd_X4_52 okX4_isWithin rfl (by omega) ⟨Nat.le_refl _, Nat.le_refl _⟩ (c_within (d := d - 1) (A := 0) (B := 99) (by decide) (by decide)) ?_
    rintro v17 hh17 ⟨rfl, rfl⟩
    refine s_if_eq (n := 23) (tgt := 32) dX4_pond_20 rfl rfl (fun b20 => ?_) (fun b20 => ?_)
    · exact absurd (Wi_n (by omega) (by omega) (by omega)) (if0 b20)
    · refine s_iload_n (n := 24) (i := 2) dX4_pond_23 rfl rfl rfl ?_
      refine s_iconst (n := 25) (v := 0) dX4_pond_24 rfl (by decide) ?_
      refine s_iconst (n := 26) (v := 1) dX4_pond_25 rfl (by decide) ?_
      refine s_s3 (M' := MX4_isWithin) (n := 29) dX4_pond_26 rfl wd_X4_52 okX4_isWithin rfl (by omega) ⟨Nat.le_refl _, Nat.le_refl _⟩ (c_within (d := d - 1) (A := 0) (B := 1) (by decide) (by decide)) ?_
      rintro v26 hh26 ⟨rfl, rfl⟩
      refine s_if_ne (n := 32) (tgt := 35) dX4_pond_29 rfl rfl (fun b29 => ?_) (fun b29 => ?_)
      · refine s_aload_n (n := 36) (i := 0) dX4_pond_35 rfl rfl rfl ?_
        refine gf_X4_29 (n := 39) rfl dX4_pond_36 rfl (by assumption) (by rfl) ?_
        refine s_aload_n (n := 40) (i := 0) dX4_pond_39 rfl rfl rfl ?_
        refine gf_X4_25 (n := 43) rfl dX4_pond_40 rfl (by assumption) (by rfl) ?_
        refine s_v1 (M' := MX2_takeFrom) (n := 46) (ci := 2) dX4_pond_43 rfl wd_X4_120 okX2_takeFrom rfl rfl (by omega) ⟨Nat.le_refl _, Nat.le_refl _⟩ (by assumption) (c_takeFrom (d := d - 1) xf xn (by omega) (by omega)) ?_
        rintro v43 hh43 ⟨rfl, hS1, hF1⟩
        replace hX := XS_for2 hX hS1 hF1
        have hFx := fr_wid (p' := 0) (w' := 220) hF1 (by omega) (by omega)
        obtain ⟨x0, x1, xt, xn, xf, xa, x188, x189, xr, xi⟩ := id hX
        replace x0 : _ = XO G (σ 42) := x0
        replace xn : mj_St G _ 4 (σ 0) := xn
        replace xf : mj_St G _ 11 (σ 0) := xf
        obtain ⟨n0, n1, n2, n3, n4, n5, n6⟩ := id xn
        obtain ⟨f0, f1, f2, f3, f4, f5, f6⟩ := id xf
        refine s_aload_n (n := 47) (i := 0) dX4_pond_46 rfl rfl rfl ?_
        refine gf_X4_29 (n := 50) rfl dX4_pond_47 rfl (by assumption) (by rfl) ?_
        refine s_iload_n (n := 51) (i := 1) dX4_pond_50 rfl rfl rfl ?_
        refine s_v1 (M' := MX2_passMinutes) (n := 54) (ci := 2) dX4_pond_51 rfl wd_X4_196 okX2_passMinutes rfl rfl (by omega) ⟨Nat.le_refl _, Nat.le_refl _⟩ (by assumption) (c_passMinutes (d := d - 1) xf (hok) (by omega) (by omega)) ?_
        rintro v51 hh51 ⟨rfl, hS2, hF2⟩
        replace hX := XS_for2 hX hS2 hF2
        replace hFx := fr_tr hFx (fr_wid (p' := 0) (w' := 220) hF2 (by omega) (by omega))
        obtain ⟨x0, x1, xt, xn, xf, xa, x188, x189, xr, xi⟩ := id hX
        replace x0 : _ = XO G (σ 42) := x0
        replace xn : mj_St G _ 4 (σ 0) := xn
        replace xf : mj_St G _ 11 (mns n k (σ 0)) := xf
        obtain ⟨n0, n1, n2, n3, n4, n5, n6⟩ := id xn
        obtain ⟨f0, f1, f2, f3, f4, f5, f6⟩ := id xf
        refine s_iload_n (n := 55) (i := 2) dX4_pond_54 rfl rfl rfl ?_
        refine s_if_ne (n := 58) (tgt := 68) dX4_pond_55 rfl rfl (fun b55 => ?_) (fun b55 => ?_)
        · refine s_aload_n (n := 69) (i := 0) dX4_pond_68 rfl rfl rfl ?_
          refine gf_X4_29 (n := 72) rfl dX4_pond_69 rfl (by assumption) (by rfl) ?_
          refine s_v0 (M' := MX2_caughtInAll) (n := 75) (ci := 2) dX4_pond_72 rfl wd_X4_189 okX2_caughtInAll rfl rfl (by omega) ⟨Nat.le_refl _, Nat.le_refl _⟩ (by assumption) (c_caughtInAll (d := d - 1) xf (okK_mns hok k).1 h7) ?_
          rintro v72 hh72 ⟨rfl, rfl⟩
          refine s_ireturn dX4_pond_75 rfl (rfl) (Nat.le_refl _) (Nat.le_refl _) ?_
          refine ⟨?_, _, hX, hFx⟩
          first | rw [if_neg b55] | rw [if_pos b55]
        · refine s_aload_n (n := 59) (i := 0) dX4_pond_58 rfl rfl rfl ?_
          refine gf_X4_29 (n := 62) rfl dX4_pond_59 rfl (by assumption) (by rfl) ?_
          refine gf_X4_149 (n := 65) rfl dX4_pond_62 rfl (by assumption) (by rfl) ?_
          refine s_goto (tgt := 75) dX4_pond_65 rfl ?_
          refine s_ireturn dX4_pond_75 rfl (rfl) (Nat.le_refl _) (Nat.le_refl _) ?_
          refine ⟨?_, _, hX, hFx⟩
          first | rw [if_neg b55] | rw [if_pos b55]
      · exact absurd (hw) (if0 b29)
  · exact absurd (h0) (if0 b7)
def ovF (n : Nat) : Nat → Nat → (Nat → Int32) → Int32
  | 0, _, _ => -1000000
  | r + 1, i, T => if T 1 < T 5 then nI i else ovF n r (i + 1) (mn n T)
def fuF (n : Nat) (w : Int32) : Nat → Nat → (Nat → Int32) → Int32
  | 0, _, _ => -1000000
  | r + 1, i, T => if ffb T 0 n = -1000000 then fuF n w r (i + 1) (mn n T) else if w = 0 then ffb T 0 n else nI i
set_option maxRecDepth 100000 in
set_option maxHeartbeats 4000000 in
theorem k_over_st {G : mj_G} {h : mj_H} {d : Nat} {σ : Nat → Nat → Int32} (hX : XS G h σ) (hb : ¬ 0 < σ 0 2) (hd : 2 ≤ d) : mj_con G MX4_over d 0 0 [.ref (G.1 + 0)] h (rI (-1000002) h) := by
  refine mj_conV okX4_over (ls := [some (.ref (G.1 + 0)), none]) rfl rfl ?_
  obtain ⟨x0, x1, xt, xn, xf, xa, x188, x189, xr, xi⟩ := id hX
  obtain ⟨n0, n1, n2, n3, n4, n5, n6⟩ := id xn
  have a18 := xa.1
  have t2 := xt.1
  have t3 := xt.2
  refine s_aload_n (n := 1) (i := 0) dX4_over_0 rfl rfl rfl ?_
  refine gf_X4_25 (n := 4) rfl dX4_over_1 rfl (by assumption) (by rfl) ?_
  refine s_v0 (M' := MX2_stands) (n := 7) (ci := 2) dX4_over_4 rfl wd_X4_137 okX2_stands rfl rfl (by omega) ⟨Nat.le_refl _, Nat.le_refl _⟩ (by assumption) (c_stands (d := d - 1) xn) ?_
  rintro v4 hh4 ⟨rfl, rfl⟩
  refine s_if_ne (n := 10) (tgt := 13) dX4_over_7 rfl rfl (fun b7 => ?_) (fun b7 => ?_)
  · exact absurd (if1 b7) (hb)
  · refine s_ldc (n := 12) dX4_over_10 rfl wd_X4_136 ?_
    refine s_ireturn dX4_over_12 rfl (rfl) (Nat.le_refl _) (Nat.le_refl _) ?_
    exact ⟨rfl, rfl⟩
set_option maxRecDepth 100000 in
set_option maxHeartbeats 4000000 in
theorem l_over {G : mj_G} {h0 : mj_H} {d n : Nat} {σ : Nat → Nat → Int32} (hd : 6 ≤ d) : ∀ (r i : Nat), i + r = 201 → ∀ (h : mj_H) (F : Nat → Int32), XS G h (u2 σ 1 F) → okK n F → mj_fr 0 220 h0 h → mj_wp G MX4_over d 0 0 26 [some (.ref (G.1 + 0)), some (.int (nI i))] [] h 0 0 (rF G σ (ovF n r i F) h0) := by
  intro r
  induction r with
  | zero =>
    intro i hi h F hX hok hFx
    obtain ⟨x0, x1, xt, xn, xf, xa, x188, x189, xr, xi⟩ := id hX
    replace x0 : _ = XO G (σ 42) := x0
    replace xn : mj_St G _ 4 (σ 0) := xn
    replace xf : mj_St G _ 11 (F) := xf
    obtain ⟨n0, n1, n2, n3, n4, n5, n6⟩ := id xn
    obtain ⟨f0, f1, f2, f3, f4, f5, f6⟩ := id xf
    refine s_iload_n (n := 27) (i := 1) dX4_over_26 rfl rfl rfl ?_
    refine s_sipush (n := 30) (v := 200) dX4_over_27 rfl (by decide) ?_
    refine s_icmp_gt (n := 33) (tgt := 58) dX4_over_30 rfl rfl (fun b30 => ?_) (fun b30 => ?_)
    · refine s_ldc (n := 60) dX4_over_58 rfl wd_X4_199 ?_
      refine s_ireturn dX4_over_60 rfl (rfl) (Nat.le_refl _) (Nat.le_refl _) ?_
      exact ⟨rfl, _, hX, hFx⟩
    · exfalso
      exact b30 ((nI_ltE (a := 200) (by omega) (by omega)).mpr (by omega))
  | succ r ih =>
    intro i hi h F hX hok hFx
    obtain ⟨x0, x1, xt, xn, xf, xa, x188, x189, xr, xi⟩ := id hX
    replace x0 : _ = XO G (σ 42) := x0
    replace xn : mj_St G _ 4 (σ 0) := xn
    replace xf : mj_St G _ 11 (F) := xf
    obtain ⟨n0, n1, n2, n3, n4, n5, n6⟩ := id xn
    obtain ⟨f0, f1, f2, f3, f4, f5, f6⟩ := id xf
    refine s_iload_n (n := 27) (i := 1) dX4_over_26 rfl rfl rfl ?_
    refine s_sipush (n := 30) (v := 200) dX4_over_27 rfl (by decide) ?_
    refine s_icmp_gt (n := 33) (tgt := 58) dX4_over_30 rfl rfl (fun b30 => ?_) (fun b30 => ?_)
    · exfalso
      have q := (nI_ltE (a := 200) (by omega) (by omega)).mp b30
      omega
    · refine s_aload_n (n := 34) (i := 0) dX4_over_33 rfl rfl rfl ?_
      refine gf_X4_29 (n := 37) rfl dX4_over_34 rfl (by assumption) (by rfl) ?_
      refine s_v0 (M' := MX2_isOverPlank) (n := 40) (ci := 2) dX4_over_37 rfl wd_X4_186 okX2_isOverPlank rfl rfl (by omega) ⟨Nat.le_refl _, Nat.le_refl _⟩ (by assumption) (c_isOverPlank (d := d - 1) xf) ?_
      rintro v37 hh37 ⟨rfl, rfl⟩
      refine s_if_eq (n := 43) (tgt := 45) dX4_over_40 rfl rfl (fun b40 => ?_) (fun b40 => ?_)
      · have q := if0 b40
        refine s_aload_n (n := 46) (i := 0) dX4_over_45 rfl rfl rfl ?_
        refine gf_X4_29 (n := 49) rfl dX4_over_46 rfl (by assumption) (by rfl) ?_
        refine s_v0 (M' := MX2_passMinute) (n := 52) (ci := 2) dX4_over_49 rfl wd_X4_146 okX2_passMinute rfl rfl (by omega) ⟨Nat.le_refl _, Nat.le_refl _⟩ (by assumption) (c_passMinute (d := d - 1) xf (hok) (by omega)) ?_
        rintro v49 hh49 ⟨rfl, hS2, hF2⟩
        replace hX := XS_for2 hX hS2 hF2
        replace hFx := fr_tr hFx (fr_wid (p' := 0) (w' := 220) hF2 (by omega) (by omega))
        obtain ⟨x0, x1, xt, xn, xf, xa, x188, x189, xr, xi⟩ := id hX
        replace x0 : _ = XO G (σ 42) := x0
        replace xn : mj_St G _ 4 (σ 0) := xn
        replace xf : mj_St G _ 11 (mn n (F)) := xf
        obtain ⟨n0, n1, n2, n3, n4, n5, n6⟩ := id xn
        obtain ⟨f0, f1, f2, f3, f4, f5, f6⟩ := id xf
        refine s_iinc (n := 55) (v := _ + 1) (ls' := [_, _]) dX4_over_52 rfl rfl rfl rfl rfl ?_
        refine s_goto (tgt := 26) dX4_over_55 rfl ?_
        rw [nI_1]
        unfold ovF
        rw [if_neg q]
        exact ih (i + 1) (by omega) _ _ hX (okK_mn hok) hFx
      · have q := if1 b40
        refine s_iload_n (n := 44) (i := 1) dX4_over_43 rfl rfl rfl ?_
        refine s_ireturn dX4_over_44 rfl (rfl) (Nat.le_refl _) (Nat.le_refl _) ?_
        unfold ovF
        rw [if_pos q]
        exact ⟨rfl, _, hX, hFx⟩
set_option maxRecDepth 100000 in
set_option maxHeartbeats 4000000 in
theorem k_over {G : mj_G} {h : mj_H} {d : Nat} {σ : Nat → Nat → Int32} (hX : XS G h σ) {n : Nat} (hn : σ 0 2 = nI n) (h7 : n ≤ 7) (hok : okK n (σ 0)) (h0 : 0 < σ 0 2) (hd : 6 ≤ d) : mj_con G MX4_over d 0 0 [.ref (G.1 + 0)] h (rF G σ (ovF n 201 0 (σ 0)) h) := by
  refine mj_conV okX4_over (ls := [some (.ref (G.1 + 0)), none]) rfl rfl ?_
  replace hX := XS_f hX
  obtain ⟨x0, x1, xt, xn, xf, xa, x188, x189, xr, xi⟩ := id hX
  replace x0 : _ = XO G (σ 42) := x0
  replace xn : mj_St G _ 4 (σ 0) := xn
  replace xf : mj_St G _ 11 (σ 1) := xf
  obtain ⟨n0, n1, n2, n3, n4, n5, n6⟩ := id xn
  obtain ⟨f0, f1, f2, f3, f4, f5, f6⟩ := id xf
  refine s_aload_n (n := 1) (i := 0) dX4_over_0 rfl rfl rfl ?_
  refine gf_X4_25 (n := 4) rfl dX4_over_1 rfl (by assumption) (by rfl) ?_
  refine s_v0 (M' := MX2_stands) (n := 7) (ci := 2) dX4_over_4 rfl wd_X4_137 okX2_stands rfl rfl (by omega) ⟨Nat.le_refl _, Nat.le_refl _⟩ (by assumption) (c_stands (d := d - 1) xn) ?_
  rintro v4 hh4 ⟨rfl, rfl⟩
  refine s_if_ne (n := 10) (tgt := 13) dX4_over_7 rfl rfl (fun b7 => ?_) (fun b7 => ?_)
  · refine s_aload_n (n := 14) (i := 0) dX4_over_13 rfl rfl rfl ?_
    refine gf_X4_29 (n := 17) rfl dX4_over_14 rfl (by assumption) (by rfl) ?_
    refine s_aload_n (n := 18) (i := 0) dX4_over_17 rfl rfl rfl ?_
    refine gf_X4_25 (n := 21) rfl dX4_over_18 rfl (by assumption) (by rfl) ?_
    refine s_v1 (M' := MX2_takeFrom) (n := 24) (ci := 2) dX4_over_21 rfl wd_X4_120 okX2_takeFrom rfl rfl (by omega) ⟨Nat.le_refl _, Nat.le_refl _⟩ (by assumption) (c_takeFrom (d := d - 1) xf xn (by omega) (by omega)) ?_
    rintro v21 hh21 ⟨rfl, hS1, hF1⟩
    replace hX := XS_for2 hX hS1 hF1
    have hFx := fr_wid (p' := 0) (w' := 220) hF1 (by omega) (by omega)
    obtain ⟨x0, x1, xt, xn, xf, xa, x188, x189, xr, xi⟩ := id hX
    replace x0 : _ = XO G (σ 42) := x0
    replace xn : mj_St G _ 4 (σ 0) := xn
    replace xf : mj_St G _ 11 (σ 0) := xf
    obtain ⟨n0, n1, n2, n3, n4, n5, n6⟩ := id xn
    obtain ⟨f0, f1, f2, f3, f4, f5, f6⟩ := id xf
    refine s_iconst (n := 25) (v := 0) dX4_over_24 rfl (by decide) ?_
    refine s_istore_n (n := 26) (i := 1) (ls' := [_, _]) dX4_over_25 rfl rfl rfl rfl rfl ?_
    exact l_over (by omega) 201 0 (by omega) _ _ hX hok hFx
  · exact absurd (h0) (if0 b7)
set_option maxRecDepth 100000 in
set_option maxHeartbeats 4000000 in
theorem k_full_st {G : mj_G} {h : mj_H} {d : Nat} {σ : Nat → Nat → Int32} (hX : XS G h σ) {x : Int32} (hb : ¬ 0 < σ 0 2) (hd : 2 ≤ d) : mj_con G MX4_full d 0 0 [.ref (G.1 + 0), .int x] h (rI (-1000002) h) := by
  refine mj_conV okX4_full (ls := [some (.ref (G.1 + 0)), some (.int x), none, none]) rfl rfl ?_
  obtain ⟨x0, x1, xt, xn, xf, xa, x188, x189, xr, xi⟩ := id hX
  obtain ⟨n0, n1, n2, n3, n4, n5, n6⟩ := id xn
  have a18 := xa.1
  have t2 := xt.1
  have t3 := xt.2
  refine s_aload_n (n := 1) (i := 0) dX4_full_0 rfl rfl rfl ?_
  refine gf_X4_25 (n := 4) rfl dX4_full_1 rfl (by assumption) (by rfl) ?_
  refine s_v0 (M' := MX2_stands) (n := 7) (ci := 2) dX4_full_4 rfl wd_X4_137 okX2_stands rfl rfl (by omega) ⟨Nat.le_refl _, Nat.le_refl _⟩ (by assumption) (c_stands (d := d - 1) xn) ?_
  rintro v4 hh4 ⟨rfl, rfl⟩
  refine s_if_ne (n := 10) (tgt := 13) dX4_full_7 rfl rfl (fun b7 => ?_) (fun b7 => ?_)
  · exact absurd (if1 b7) (hb)
  · refine s_ldc (n := 12) dX4_full_10 rfl wd_X4_136 ?_
    refine s_ireturn dX4_full_12 rfl (rfl) (Nat.le_refl _) (Nat.le_refl _) ?_
    exact ⟨rfl, rfl⟩
set_option maxRecDepth 100000 in
set_option maxHeartbeats 4000000 in
theorem k_full_bad {G : mj_G} {h : mj_H} {d : Nat} {σ : Nat → Nat → Int32} (hX : XS G h σ) {x : Int32} (h0 : 0 < σ 0 2) (hb : ¬ Wi x 0 1) (hd : 2 ≤ d) : mj_con G MX4_full d 0 0 [.ref (G.1 + 0), .int x] h (rI (-1000001) h) := by
  refine mj_conV okX4_full (ls := [some (.ref (G.1 + 0)), some (.int x), none, none]) rfl rfl ?_
  obtain ⟨x0, x1, xt, xn, xf, xa, x188, x189, xr, xi⟩ := id hX
  obtain ⟨n0, n1, n2, n3, n4, n5, n6⟩ := id xn
  have a18 := xa.1
  have t2 := xt.1
  have t3 := xt.2
  refine s_aload_n (n := 1) (i := 0) dX4_full_0 rfl rfl rfl ?_
  refine gf_X4_25 (n := 4) rfl dX4_full_1 rfl (by assumption) (by rfl) ?_
  refine s_v0 (M' := MX2_stands) (n := 7) (ci := 2) dX4_full_4 rfl wd_X4_137 okX2_stands rfl rfl (by omega) ⟨Nat.le_refl _, Nat.le_refl _⟩ (by assumption) (c_stands (d := d - 1) xn) ?_
  rintro v4 hh4 ⟨rfl, rfl⟩
  refine s_if_ne (n := 10) (tgt := 13) dX4_full_7 rfl rfl (fun b7 => ?_) (fun b7 => ?_)
  · refine s_iload_n (n := 14) (i := 1) dX4_full_13 rfl rfl rfl ?_
    refine s_iconst (n := 15) (v := 0) dX4_full_14 rfl (by decide) ?_
    refine s_iconst (n := 16) (v := 1) dX4_full_15 rfl (by decide) ?_
    refine s_s3 (M' := MX4_isWithin) (n := 19) dX4_full_16 rfl wd_X4_52 okX4_isWithin rfl (by omega) ⟨Nat.le_refl _, Nat.le_refl _⟩ (c_within (d := d - 1) (A := 0) (B := 1) (by decide) (by decide)) ?_
    rintro v16 hh16 ⟨rfl, rfl⟩
    refine s_if_ne (n := 22) (tgt := 25) dX4_full_19 rfl rfl (fun b19 => ?_) (fun b19 => ?_)
    · exact absurd (if1 b19) hb
    · refine s_ldc (n := 24) dX4_full_22 rfl wd_X4_56 ?_
      refine s_ireturn dX4_full_24 rfl (rfl) (Nat.le_refl _) (Nat.le_refl _) ?_
      exact ⟨rfl, rfl⟩
  · exact absurd (h0) (if0 b7)
set_option maxRecDepth 100000 in
set_option maxHeartbeats 4000000 in
theorem l_full {G : mj_G} {h0 : mj_H} {d n : Nat} {σ : Nat → Nat → Int32} {w : Int32} (h7 : n ≤ 7) (hd : 6 ≤ d) : ∀ (r i : Nat), i + r = 100 → ∀ (h : mj_H) (F : Nat → Int32) (l3 : Option Value), XS G h (u2 σ 1 F) → okK n F → mj_fr 0 220 h0 h → mj_wp G MX4_full d 0 0 38 [some (.ref (G.1 + 0)), some (.int w), some (.int (nI i)), l3] [] h 0 0 (rF G σ (fuF n w r i F) h0) := by
  intro r
  induction r with
  | zero =>
    intro i hi h F l3 hX hok hFx
    obtain ⟨x0, x1, xt, xn, xf, xa, x188, x189, xr, xi⟩ := id hX
    replace x0 : _ = XO G (σ 42) := x0
    replace xn : mj_St G _ 4 (σ 0) := xn
    replace xf : mj_St G _ 11 (F) := xf
    obtain ⟨n0, n1, n2, n3, n4, n5, n6⟩ := id xn
    obtain ⟨f0, f1, f2, f3, f4, f5, f6⟩ := id xf
    refine s_iload_n (n := 39) (i := 2) dX4_full_38 rfl rfl rfl ?_
    refine s_bipush (n := 41) (v := 99) dX4_full_39 rfl (by decide) ?_
    refine s_icmp_gt (n := 44) (tgt := 81) dX4_full_41 rfl rfl (fun b41 => ?_) (fun b41 => ?_)
    · refine s_ldc (n := 83) dX4_full_81 rfl wd_X4_199 ?_
      refine s_ireturn dX4_full_83 rfl (rfl) (Nat.le_refl _) (Nat.le_refl _) ?_
      exact ⟨rfl, _, hX, hFx⟩
    · exfalso
      exact b41 ((nI_ltE (a := 99) (by omega) (by omega)).mpr (by omega))
  | succ r ih =>
    intro i hi h F l3 hX hok hFx
    obtain ⟨x0, x1, xt, xn, xf, xa, x188, x189, xr, xi⟩ := id hX
    replace x0 : _ = XO G (σ 42) := x0
    replace xn : mj_St G _ 4 (σ 0) := xn
    replace xf : mj_St G _ 11 (F) := xf
    obtain ⟨n0, n1, n2, n3, n4, n5, n6⟩ := id xn
    obtain ⟨f0, f1, f2, f3, f4, f5, f6⟩ := id xf
    refine s_iload_n (n := 39) (i := 2) dX4_full_38 rfl rfl rfl ?_
    refine s_bipush (n := 41) (v := 99) dX4_full_39 rfl (by decide) ?_
    refine s_icmp_gt (n := 44) (tgt := 81) dX4_full_41 rfl rfl (fun b41 => ?_) (fun b41 => ?_)
    · exfalso
      have q := (nI_ltE (a := 99) (by omega) (by omega)).mp b41
      omega
    · refine s_aload_n (n := 45) (i := 0) dX4_full_44 rfl rfl rfl ?_
      refine gf_X4_29 (n := 48) rfl dX4_full_45 rfl (by assumption) (by rfl) ?_
      refine s_v0 (M' := MX2_firstFullBars) (n := 51) (ci := 2) dX4_full_48 rfl wd_X4_200 okX2_firstFullBars rfl rfl (by omega) ⟨Nat.le_refl _, Nat.le_refl _⟩ (by assumption) (c_firstFullBars (d := d - 1) xf hok.1 h7) ?_
      rintro v48 hh48 ⟨rfl, rfl⟩
      refine s_istore_n (n := 52) (i := 3) (ls' := [_, _, _, _]) dX4_full_51 rfl rfl rfl rfl rfl ?_
      refine s_iload_n (n := 53) (i := 3) dX4_full_52 rfl rfl rfl ?_
      refine s_ldc (n := 55) dX4_full_53 rfl wd_X4_199 ?_
      refine s_icmp_eq (n := 58) (tgt := 68) dX4_full_55 rfl rfl (fun b55 => ?_) (fun b55 => ?_)
      · refine s_aload_n (n := 69) (i := 0) dX4_full_68 rfl rfl rfl ?_
        refine gf_X4_29 (n := 72) rfl dX4_full_69 rfl (by assumption) (by rfl) ?_
        refine s_v0 (M' := MX2_passMinute) (n := 75) (ci := 2) dX4_full_72 rfl wd_X4_146 okX2_passMinute rfl rfl (by omega) ⟨Nat.le_refl _, Nat.le_refl _⟩ (by assumption) (c_passMinute (d := d - 1) xf (hok) (by omega)) ?_
        rintro v72 hh72 ⟨rfl, hS2, hF2⟩
        replace hX := XS_for2 hX hS2 hF2
        replace hFx := fr_tr hFx (fr_wid (p' := 0) (w' := 220) hF2 (by omega) (by omega))
        obtain ⟨x0, x1, xt, xn, xf, xa, x188, x189, xr, xi⟩ := id hX
        replace x0 : _ = XO G (σ 42) := x0
        replace xn : mj_St G _ 4 (σ 0) := xn
        replace xf : mj_St G _ 11 (mn n (F)) := xf
        obtain ⟨n0, n1, n2, n3, n4, n5, n6⟩ := id xn
        obtain ⟨f0, f1, f2, f3, f4, f5, f6⟩ := id xf
        refine s_iinc (n := 78) (v := _ + 1) (ls' := [_, _, _, _]) dX4_full_75 rfl rfl rfl rfl rfl ?_
        refine s_goto (tgt := 38) dX4_full_78 rfl ?_
        rw [nI_1]
        unfold fuF
        rw [if_pos b55]
        exact ih (i + 1) (by omega) _ _ _ hX (okK_mn hok) hFx
      · refine s_iload_n (n := 59) (i := 1) dX4_full_58 rfl rfl rfl ?_
        refine s_if_ne (n := 62) (tgt := 66) dX4_full_59 rfl rfl (fun b59 => ?_) (fun b59 => ?_)
        · refine s_iload_n (n := 67) (i := 2) dX4_full_66 rfl rfl rfl ?_
          refine s_ireturn dX4_full_67 rfl (rfl) (Nat.le_refl _) (Nat.le_refl _) ?_
          unfold fuF
          rw [if_neg b55]
          first | rw [if_pos b59] | rw [if_neg b59]
          exact ⟨rfl, _, hX, hFx⟩
        · refine s_iload_n (n := 63) (i := 3) dX4_full_62 rfl rfl rfl ?_
          refine s_goto (tgt := 67) dX4_full_63 rfl ?_
          refine s_ireturn dX4_full_67 rfl (rfl) (Nat.le_refl _) (Nat.le_refl _) ?_
          unfold fuF
          rw [if_neg b55]
          first | rw [if_pos b59] | rw [if_neg b59]
          exact ⟨rfl, _, hX, hFx⟩
set_option maxRecDepth 100000 in
set_option maxHeartbeats 4000000 in
theorem k_full {G : mj_G} {h : mj_H} {d : Nat} {σ : Nat → Nat → Int32} (hX : XS G h σ) {n : Nat} (hn : σ 0 2 = nI n) (h7 : n ≤ 7) (hok : okK n (σ 0)) (h0 : 0 < σ 0 2) {w : Int32} (hw : Wi w 0 1) (hd : 6 ≤ d) : mj_con G MX4_full d 0 0 [.ref (G.1 + 0), .int w] h (rF G σ (fuF n w 100 0 (σ 0)) h) := by
  refine mj_conV okX4_full (ls := [some (.ref (G.1 + 0)), some (.int w), none, none]) rfl rfl ?_
  replace hX := XS_f hX
  obtain ⟨x0, x1, xt, xn, xf, xa, x188, x189, xr, xi⟩ := id hX
  replace x0 : _ = XO G (σ 42) := x0
  replace xn : mj_St G _ 4 (σ 0) := xn
  replace xf : mj_St G _ 11 (σ 1) := xf
  obtain ⟨n0, n1, n2, n3, n4, n5, n6⟩ := id xn
  obtain ⟨f0, f1, f2, f3, f4, f5, f6⟩ := id xf
  refine s_aload_n (n := 1) (i := 0) dX4_full_0 rfl rfl rfl ?_
  refine gf_X4_25 (n := 4) rfl dX4_full_1 rfl (by assumption) (by rfl) ?_
  refine s_v0 (M' := MX2_stands) (n := 7) (ci := 2) dX4_full_4 rfl wd_X4_137 okX2_stands rfl rfl (by omega) ⟨Nat.le_refl _, Nat.le_refl _⟩ (by assumption) (c_stands (d := d - 1) xn) ?_
  rintro v4 hh4 ⟨rfl, rfl⟩
  refine s_if_ne (n := 10) (tgt := 13) dX4_full_7 rfl rfl (fun b7 => ?_) (fun b7 => ?_)
  · refine s_iload_n (n := 14) (i := 1) dX4_full_13 rfl rfl rfl ?_
    refine s_iconst (n := 15) (v := 0) dX4_full_14 rfl (by decide) ?_
    refine s_iconst (n := 16) (v := 1) dX4_full_15 rfl (by decide) ?_
    refine s_s3 (M' := MX4_isWithin) (n := 19) dX4_full_16 rfl wd_X4_52 okX4_isWithin rfl (by omega) ⟨Nat.le_refl _, Nat.le_refl _⟩ (c_within (d := d - 1) (A := 0) (B := 1) (by decide) (by decide)) ?_
    rintro v16 hh16 ⟨rfl, rfl⟩
    refine s_if_ne (n := 22) (tgt := 25) dX4_full_19 rfl rfl (fun b19 => ?_) (fun b19 => ?_)
    · refine s_aload_n (n := 26) (i := 0) dX4_full_25 rfl rfl rfl ?_
      refine gf_X4_29 (n := 29) rfl dX4_full_26 rfl (by assumption) (by rfl) ?_
      refine s_aload_n (n := 30) (i := 0) dX4_full_29 rfl rfl rfl ?_
      refine gf_X4_25 (n := 33) rfl dX4_full_30 rfl (by assumption) (by rfl) ?_
      refine s_v1 (M' := MX2_takeFrom) (n := 36) (ci := 2) dX4_full_33 rfl wd_X4_120 okX2_takeFrom rfl rfl (by omega) ⟨Nat.le_refl _, Nat.le_refl _⟩ (by assumption) (c_takeFrom (d := d - 1) xf xn (by omega) (by omega)) ?_
      rintro v33 hh33 ⟨rfl, hS1, hF1⟩
      replace hX := XS_for2 hX hS1 hF1
      have hFx := fr_wid (p' := 0) (w' := 220) hF1 (by omega) (by omega)
      obtain ⟨x0, x1, xt, xn, xf, xa, x188, x189, xr, xi⟩ := id hX
      replace x0 : _ = XO G (σ 42) := x0
      replace xn : mj_St G _ 4 (σ 0) := xn
      replace xf : mj_St G _ 11 (σ 0) := xf
      obtain ⟨n0, n1, n2, n3, n4, n5, n6⟩ := id xn
      obtain ⟨f0, f1, f2, f3, f4, f5, f6⟩ := id xf
      refine s_iconst (n := 37) (v := 0) dX4_full_36 rfl (by decide) ?_
      refine s_istore_n (n := 38) (i := 2) (ls' := [_, _, _, _]) dX4_full_37 rfl rfl rfl rfl rfl ?_
      exact l_full h7 (by omega) 100 0 (by omega) _ _ _ hX hok hFx
    · exact absurd (hw) (if0 b19)
  · exact absurd (h0) (if0 b7)
/-- the most in gutter j, and behind how many: i minutes have passed, much and behind so far, r are left -/
def moF (n j : Nat) : Nat → Nat → (Nat → Int32) → Int32 → Int32 → Int32 × Int32
  | 0, _, _, much, beh => (much, beh)
  | r + 1, i, T, much, beh => if much < mn n T (34 + j) then moF n j r (i + 1) (mn n T) (mn n T (34 + j)) (nI i) else moF n j r (i + 1) (mn n T) much beh
set_option maxRecDepth 100000 in
set_option maxHeartbeats 4000000 in
theorem k_most_bad {G : mj_G} {h : mj_H} {d : Nat} {σ : Nat → Nat → Int32} (hX : XS G h σ) {n : Nat} (hn : σ 0 2 = nI n) (h7 : n ≤ 7) {x y z : Int32} (hb : ¬ (Hs n x ∧ Wi y 0 99 ∧ Wi z 0 1)) (hd : 2 ≤ d) : mj_con G MX4_most d 0 0 [.ref (G.1 + 0), .int x, .int y, .int z] h (rI (-1000001) h) := by
  refine mj_conV okX4_most (ls := [some (.ref (G.1 + 0)), some (.int x), some (.int y), some (.int z), none, none, none]) rfl rfl ?_
  obtain ⟨x0, x1, xt, xn, xf, xa, x188, x189, xr, xi⟩ := id hX
  obtain ⟨n0, n1, n2, n3, n4, n5, n6⟩ := id xn
  have a18 := xa.1
  have t2 := xt.1
  have t3 := xt.2
  refine s_aload_n (n := 1) (i := 0) dX4_most_0 rfl rfl rfl ?_
  refine s_iload_n (n := 2) (i := 1) dX4_most_1 rfl rfl rfl ?_
  refine s_v1 (M' := MX4_isHouse) (n := 5) (ci := 4) dX4_most_2 rfl wd_X4_152 okX4_isHouse rfl rfl (by omega) ⟨Nat.le_refl _, Nat.le_refl _⟩ (by assumption) (c_isHouse (d := d - 1) hX hn h7 (by omega)) ?_
  rintro v2 hh2 ⟨rfl, rfl⟩
  refine s_if_eq (n := 8) (tgt := 27) dX4_most_5 rfl rfl (fun b5 => ?_) (fun b5 => ?_)
  · refine s_ldc (n := 29) dX4_most_27 rfl wd_X4_56 ?_
    refine s_ireturn dX4_most_29 rfl (rfl) (Nat.le_refl _) (Nat.le_refl _) ?_
    exact ⟨rfl, rfl⟩
  · refine s_iload_n (n := 9) (i := 2) dX4_most_8 rfl rfl rfl ?_
    refine s_iconst (n := 10) (v := 0) dX4_most_9 rfl (by decide) ?_
    refine s_bipush (n := 12) (v := 99) dX4_most_10 rfl (by decide) ?_
    refine s_s3 (M' := MX4_isWithin) (n := 15) dX4_most_12 rfl wd_X4_52 okX4_isWithin rfl (by omega) ⟨Nat.le_refl _, Nat.le_refl _⟩ (c_within (d := d - 1) (A := 0) (B := 99) (by decide) (by decide)) ?_
    rintro v12 hh12 ⟨rfl, rfl⟩
    refine s_if_eq (n := 18) (tgt := 27) dX4_most_15 rfl rfl (fun b15 => ?_) (fun b15 => ?_)
    · refine s_ldc (n := 29) dX4_most_27 rfl wd_X4_56 ?_
      refine s_ireturn dX4_most_29 rfl (rfl) (Nat.le_refl _) (Nat.le_refl _) ?_
      exact ⟨rfl, rfl⟩
    · refine s_iload_n (n := 19) (i := 3) dX4_most_18 rfl rfl rfl ?_
      refine s_iconst (n := 20) (v := 0) dX4_most_19 rfl (by decide) ?_
      refine s_iconst (n := 21) (v := 1) dX4_most_20 rfl (by decide) ?_
      refine s_s3 (M' := MX4_isWithin) (n := 24) dX4_most_21 rfl wd_X4_52 okX4_isWithin rfl (by omega) ⟨Nat.le_refl _, Nat.le_refl _⟩ (c_within (d := d - 1) (A := 0) (B := 1) (by decide) (by decide)) ?_
      rintro v21 hh21 ⟨rfl, rfl⟩
      refine s_if_ne (n := 27) (tgt := 30) dX4_most_24 rfl rfl (fun b24 => ?_) (fun b24 => ?_)
      · exact absurd (⟨if1 b5, if1 b15, if1 b24⟩) hb
      · refine s_ldc (n := 29) dX4_most_27 rfl wd_X4_56 ?_
        refine s_ireturn dX4_most_29 rfl (rfl) (Nat.le_refl _) (Nat.le_refl _) ?_
        exact ⟨rfl, rfl⟩
set_option maxRecDepth 100000 in
set_option maxHeartbeats 4000000 in
theorem l_most {G : mj_G} {h0 : mj_H} {d n j k : Nat} {σ : Nat → Nat → Int32} {w : Int32} (hj : j < 7) (hk : k ≤ 99) (hd : 6 ≤ d) : ∀ (r i : Nat), i + r = k + 1 → ∀ (h : mj_H) (F : Nat → Int32) (much beh : Int32), XS G h (u2 σ 1 F) → okK n F → mj_fr 0 220 h0 h → mj_wp G MX4_most d 0 0 58 [some (.ref (G.1 + 0)), some (.int (nI j)), some (.int (nI k)), some (.int w), some (.int much), some (.int beh), some (.int (nI i))] [] h 0 0 (rF G σ (if w = 0 then (moF n j r i F much beh).1 else (moF n j r i F much beh).2) h0) := by
  intro r
  induction r with
  | zero =>
    intro i hi h F much beh hX hok hFx
    obtain ⟨x0, x1, xt, xn, xf, xa, x188, x189, xr, xi⟩ := id hX
    replace x0 : _ = XO G (σ 42) := x0
    replace xn : mj_St G _ 4 (σ 0) := xn
    replace xf : mj_St G _ 11 (F) := xf
    obtain ⟨n0, n1, n2, n3, n4, n5, n6⟩ := id xn
    obtain ⟨f0, f1, f2, f3, f4, f5, f6⟩ := id xf
    refine s_iload (n := 60) dX4_most_58 rfl rfl ?_
    refine s_iload_n (n := 61) (i := 2) dX4_most_60 rfl rfl rfl ?_
    refine s_icmp_gt (n := 64) (tgt := 106) dX4_most_61 rfl rfl (fun b61 => ?_) (fun b61 => ?_)
    · refine s_iload_n (n := 107) (i := 3) dX4_most_106 rfl rfl rfl ?_
      refine s_if_ne (n := 110) (tgt := 115) dX4_most_107 rfl rfl (fun b107 => ?_) (fun b107 => ?_)
      · refine s_iload (n := 117) dX4_most_115 rfl rfl ?_
        refine s_ireturn dX4_most_117 rfl (rfl) (Nat.le_refl _) (Nat.le_refl _) ?_
        refine ⟨?_, _, hX, hFx⟩
        first | rw [if_neg b107] | rw [if_pos b107]
        rfl
      · refine s_iload (n := 112) dX4_most_110 rfl rfl ?_
        refine s_goto (tgt := 117) dX4_most_112 rfl ?_
        refine s_ireturn dX4_most_117 rfl (rfl) (Nat.le_refl _) (Nat.le_refl _) ?_
        refine ⟨?_, _, hX, hFx⟩
        first | rw [if_neg b107] | rw [if_pos b107]
        rfl
    · exfalso
      exact b61 ((nI_ltE (by omega) (by omega)).mpr (by omega))
  | succ r ih =>
    intro i hi h F much beh hX hok hFx
    obtain ⟨x0, x1, xt, xn, xf, xa, x188, x189, xr, xi⟩ := id hX
    replace x0 : _ = XO G (σ 42) := x0
    replace xn : mj_St G _ 4 (σ 0) := xn
    replace xf : mj_St G _ 11 (F) := xf
    obtain ⟨n0, n1, n2, n3, n4, n5, n6⟩ := id xn
    obtain ⟨f0, f1, f2, f3, f4, f5, f6⟩ := id xf
    refine s_iload (n := 60) dX4_most_58 rfl rfl ?_
    refine s_iload_n (n := 61) (i := 2) dX4_most_60 rfl rfl rfl ?_
    refine s_icmp_gt (n := 64) (tgt := 106) dX4_most_61 rfl rfl (fun b61 => ?_) (fun b61 => ?_)
    · exfalso
      have q := (nI_ltE (by omega) (by omega)).mp b61
      omega
    · refine s_aload_n (n := 65) (i := 0) dX4_most_64 rfl rfl rfl ?_
      refine gf_X4_29 (n := 68) rfl dX4_most_65 rfl (by assumption) (by rfl) ?_
      refine s_v0 (M' := MX2_passMinute) (n := 71) (ci := 2) dX4_most_68 rfl wd_X4_146 okX2_passMinute rfl rfl (by omega) ⟨Nat.le_refl _, Nat.le_refl _⟩ (by assumption) (c_passMinute (d := d - 1) xf (hok) (by omega)) ?_
      rintro v68 hh68 ⟨rfl, hS2, hF2⟩
      replace hX := XS_for2 hX hS2 hF2
      replace hFx := fr_tr hFx (fr_wid (p' := 0) (w' := 220) hF2 (by omega) (by omega))
      obtain ⟨x0, x1, xt, xn, xf, xa, x188, x189, xr, xi⟩ := id hX
      replace x0 : _ = XO G (σ 42) := x0
      replace xn : mj_St G _ 4 (σ 0) := xn
      replace xf : mj_St G _ 11 (mn n (F)) := xf
      obtain ⟨n0, n1, n2, n3, n4, n5, n6⟩ := id xn
      obtain ⟨f0, f1, f2, f3, f4, f5, f6⟩ := id xf
      refine s_aload_n (n := 72) (i := 0) dX4_most_71 rfl rfl rfl ?_
      refine gf_X4_29 (n := 75) rfl dX4_most_72 rfl (by assumption) (by rfl) ?_
      refine gf_X4_180 (n := 78) rfl dX4_most_75 rfl (by assumption) (by rfl) ?_
      refine s_iload_n (n := 79) (i := 1) dX4_most_78 rfl rfl rfl ?_
      first | refine s_ials (n := 80) dX4_most_79 rfl (by assumption) (mj_ixn (by omega)) ?_ | refine s_iald (n := 80) dX4_most_79 rfl (by assumption) (mj_ixn (by omega)) ?_
      refine s_iload (n := 82) dX4_most_80 rfl rfl ?_
      refine s_icmp_le (n := 85) (tgt := 100) dX4_most_82 rfl rfl (fun b82 => ?_) (fun b82 => ?_)
      · have e : moF n j (r + 1) i F much beh = moF n j r (i + 1) (mn n F) much beh := by
          show (if much < mn n F (34 + j) then _ else _) = _
          rw [if_neg (Int32.not_lt.mpr b82)]
        refine s_iinc (n := 103) (v := _ + 1) (ls' := [_, _, _, _, _, _, _]) dX4_most_100 rfl rfl rfl rfl rfl ?_
        refine s_goto (tgt := 58) dX4_most_103 rfl ?_
        rw [nI_1, e]
        exact ih (i + 1) (by omega) _ _ _ _ hX (okK_mn hok) hFx
      · have e : moF n j (r + 1) i F much beh = moF n j r (i + 1) (mn n F) (mn n F (34 + j)) (nI i) := by
          show (if much < mn n F (34 + j) then _ else _) = _
          rw [if_pos (Int32.not_le.mp b82)]
        refine s_aload_n (n := 86) (i := 0) dX4_most_85 rfl rfl rfl ?_
        refine gf_X4_29 (n := 89) rfl dX4_most_86 rfl (by assumption) (by rfl) ?_
        refine gf_X4_180 (n := 92) rfl dX4_most_89 rfl (by assumption) (by rfl) ?_
        refine s_iload_n (n := 93) (i := 1) dX4_most_92 rfl rfl rfl ?_
        first | refine s_ials (n := 94) dX4_most_93 rfl (by assumption) (mj_ixn (by omega)) ?_ | refine s_iald (n := 94) dX4_most_93 rfl (by assumption) (mj_ixn (by omega)) ?_
        refine s_istore (n := 96) (i := 4) (ls' := [_, _, _, _, _, _, _]) dX4_most_94 rfl rfl rfl rfl ?_
        refine s_iload (n := 98) dX4_most_96 rfl rfl ?_
        refine s_istore (n := 100) (i := 5) (ls' := [_, _, _, _, _, _, _]) dX4_most_98 rfl rfl rfl rfl ?_
        refine s_iinc (n := 103) (v := _ + 1) (ls' := [_, _, _, _, _, _, _]) dX4_most_100 rfl rfl rfl rfl rfl ?_
        refine s_goto (tgt := 58) dX4_most_103 rfl ?_
        rw [nI_1, e]
        exact ih (i + 1) (by omega) _ _ _ _ hX (okK_mn hok) hFx
set_option maxRecDepth 100000 in
set_option maxHeartbeats 4000000 in
theorem k_most {G : mj_G} {h : mj_H} {d : Nat} {σ : Nat → Nat → Int32} (hX : XS G h σ) {n : Nat} (hn : σ 0 2 = nI n) (h7 : n ≤ 7) (hok : okK n (σ 0)) {j k : Nat} (hj : j < n) (hk : k ≤ 99) {w : Int32} (hw : Wi w 0 1) (hd : 6 ≤ d) : mj_con G MX4_most d 0 0 [.ref (G.1 + 0), .int (nI j), .int (nI k), .int w] h (rF G σ (if w = 0 then (moF n j k 1 (σ 0) (σ 0 (34 + j)) 0).1 else (moF n j k 1 (σ 0) (σ 0 (34 + j)) 0).2) h) := by
  refine mj_conV okX4_most (ls := [some (.ref (G.1 + 0)), some (.int (nI j)), some (.int (nI k)), some (.int w), none, none, none]) rfl rfl ?_
  replace hX := XS_f hX
  obtain ⟨x0, x1, xt, xn, xf, xa, x188, x189, xr, xi⟩ := id hX
  replace x0 : _ = XO G (σ 42) := x0
  replace xn : mj_St G _ 4 (σ 0) := xn
  replace xf : mj_St G _ 11 (σ 1) := xf
  obtain ⟨n0, n1, n2, n3, n4, n5, n6⟩ := id xn
  obtain ⟨f0, f1, f2, f3, f4, f5, f6⟩ := id xf
  refine s_aload_n (n := 1) (i := 0) dX4_most_0 rfl rfl rfl ?_
  refine s_iload_n (n := 2) (i := 1) dX4_most_1 rfl rfl rfl ?_
  refine s_v1 (M' := MX4_isHouse) (n := 5) (ci := 4) dX4_most_2 rfl wd_X4_152 okX4_isHouse rfl rfl (by omega) ⟨Nat.le_refl _, Nat.le_refl _⟩ (by assumption) (c_isHouse2 (d := d - 1) hX hn h7 (by omega)) ?_
  rintro v2 hh2 ⟨rfl, rfl⟩
  refine s_if_eq (n := 8) (tgt := 27) dX4_most_5 rfl rfl (fun b5 => ?_) (fun b5 => ?_)
  · exact absurd (Hs_n hj h7) (if0 b5)
  · refine s_iload_n (n := 9) (i := 2) dX4_most_8 rfl rfl rfl ?_
    refine s_iconst (n := 10) (v := 0) dX4_most_9 rfl (by decide) ?_
    refine s_bipush (n := 12) (v := 99) dX4_most_10 rfl (by decide) ?_
    refine s_s3 (M' := MX4_isWithin) (n := 15) dX4_most_12 rfl wd_X4_52 okX4_isWithin rfl (by omega) ⟨Nat.le_refl _, Nat.le_refl _⟩ (c_within (d := d - 1) (A := 0) (B := 99) (by decide) (by decide)) ?_
    rintro v12 hh12 ⟨rfl, rfl⟩
    refine s_if_eq (n := 18) (tgt := 27) dX4_most_15 rfl rfl (fun b15 => ?_) (fun b15 => ?_)
    · exact absurd (Wi_n (by omega) (by omega) (by omega)) (if0 b15)
    · refine s_iload_n (n := 19) (i := 3) dX4_most_18 rfl rfl rfl ?_
      refine s_iconst (n := 20) (v := 0) dX4_most_19 rfl (by decide) ?_
      refine s_iconst (n := 21) (v := 1) dX4_most_20 rfl (by decide) ?_
      refine s_s3 (M' := MX4_isWithin) (n := 24) dX4_most_21 rfl wd_X4_52 okX4_isWithin rfl (by omega) ⟨Nat.le_refl _, Nat.le_refl _⟩ (c_within (d := d - 1) (A := 0) (B := 1) (by decide) (by decide)) ?_
      rintro v21 hh21 ⟨rfl, rfl⟩
      refine s_if_ne (n := 27) (tgt := 30) dX4_most_24 rfl rfl (fun b24 => ?_) (fun b24 => ?_)
      · refine s_aload_n (n := 31) (i := 0) dX4_most_30 rfl rfl rfl ?_
        refine gf_X4_29 (n := 34) rfl dX4_most_31 rfl (by assumption) (by rfl) ?_
        refine s_aload_n (n := 35) (i := 0) dX4_most_34 rfl rfl rfl ?_
        refine gf_X4_25 (n := 38) rfl dX4_most_35 rfl (by assumption) (by rfl) ?_
        refine s_v1 (M' := MX2_takeFrom) (n := 41) (ci := 2) dX4_most_38 rfl wd_X4_120 okX2_takeFrom rfl rfl (by omega) ⟨Nat.le_refl _, Nat.le_refl _⟩ (by assumption) (c_takeFrom (d := d - 1) xf xn (by omega) (by omega)) ?_
        rintro v38 hh38 ⟨rfl, hS1, hF1⟩
        replace hX := XS_for2 hX hS1 hF1
        have hFx := fr_wid (p' := 0) (w' := 220) hF1 (by omega) (by omega)
        obtain ⟨x0, x1, xt, xn, xf, xa, x188, x189, xr, xi⟩ := id hX
        replace x0 : _ = XO G (σ 42) := x0
        replace xn : mj_St G _ 4 (σ 0) := xn
        replace xf : mj_St G _ 11 (σ 0) := xf
        obtain ⟨n0, n1, n2, n3, n4, n5, n6⟩ := id xn
        obtain ⟨f0, f1, f2, f3, f4, f5, f6⟩ := id xf
        refine s_aload_n (n := 42) (i := 0) dX4_most_41 rfl rfl rfl ?_
        refine gf_X4_29 (n := 45) rfl dX4_most_42 rfl (by assumption) (by rfl) ?_
        refine gf_X4_180 (n := 48) rfl dX4_most_45 rfl (by assumption) (by rfl) ?_
        refine s_iload_n (n := 49) (i := 1) dX4_most_48 rfl rfl rfl ?_
        first | refine s_ials (n := 50) dX4_most_49 rfl (by assumption) (mj_ixn (by omega)) ?_ | refine s_iald (n := 50) dX4_most_49 rfl (by assumption) (mj_ixn (by omega)) ?_
        refine s_istore (n := 52) (i := 4) (ls' := [_, _, _, _, _, _, _]) dX4_most_50 rfl rfl rfl rfl ?_
        refine s_iconst (n := 53) (v := 0) dX4_most_52 rfl (by decide) ?_
        refine s_istore (n := 55) (i := 5) (ls' := [_, _, _, _, _, _, _]) dX4_most_53 rfl rfl rfl rfl ?_
        refine s_iconst (n := 56) (v := 1) dX4_most_55 rfl (by decide) ?_
        refine s_istore (n := 58) (i := 6) (ls' := [_, _, _, _, _, _, _]) dX4_most_56 rfl rfl rfl rfl ?_
        exact l_most (by omega) hk (by omega) k 1 (by omega) _ _ _ _ hX hok hFx
      · exact absurd (hw) (if0 b24)
set_option maxRecDepth 100000 in
set_option maxHeartbeats 4000000 in
theorem k_from_bad {G : mj_G} {h : mj_H} {d : Nat} {σ : Nat → Nat → Int32} (hX : XS G h σ) {n : Nat} (hn : σ 0 2 = nI n) (h7 : n ≤ 7) {x y : Int32} (hb : ¬ (Hs n x ∧ Wi y 1 40)) (hd : 2 ≤ d) : mj_con G MX4_from d 0 0 [.ref (G.1 + 0), .int x, .int y] h (rI (-1000001) h) := by
  refine mj_conV okX4_from (ls := [some (.ref (G.1 + 0)), some (.int x), some (.int y), none]) rfl rfl ?_
  obtain ⟨x0, x1, xt, xn, xf, xa, x188, x189, xr, xi⟩ := id hX
  obtain ⟨n0, n1, n2, n3, n4, n5, n6⟩ := id xn
  have a18 := xa.1
  have t2 := xt.1
  have t3 := xt.2
  refine s_aload_n (n := 1) (i := 0) dX4_from_0 rfl rfl rfl ?_
  refine s_iload_n (n := 2) (i := 1) dX4_from_1 rfl rfl rfl ?_
  refine s_v1 (M' := MX4_isHouse) (n := 5) (ci := 4) dX4_from_2 rfl wd_X4_152 okX4_isHouse rfl rfl (by omega) ⟨Nat.le_refl _, Nat.le_refl _⟩ (by assumption) (c_isHouse (d := d - 1) hX hn h7 (by omega)) ?_
  rintro v2 hh2 ⟨rfl, rfl⟩
  refine s_if_eq (n := 8) (tgt := 18) dX4_from_5 rfl rfl (fun b5 => ?_) (fun b5 => ?_)
  · refine s_ldc (n := 20) dX4_from_18 rfl wd_X4_56 ?_
    refine s_ireturn dX4_from_20 rfl (rfl) (Nat.le_refl _) (Nat.le_refl _) ?_
    exact ⟨rfl, rfl⟩
  · refine s_iload_n (n := 9) (i := 2) dX4_from_8 rfl rfl rfl ?_
    refine s_iconst (n := 10) (v := 1) dX4_from_9 rfl (by decide) ?_
    refine s_bipush (n := 12) (v := 40) dX4_from_10 rfl (by decide) ?_
    refine s_s3 (M' := MX4_isWithin) (n := 15) dX4_from_12 rfl wd_X4_52 okX4_isWithin rfl (by omega) ⟨Nat.le_refl _, Nat.le_refl _⟩ (c_within (d := d - 1) (A := 1) (B := 40) (by decide) (by decide)) ?_
    rintro v12 hh12 ⟨rfl, rfl⟩
    refine s_if_ne (n := 18) (tgt := 21) dX4_from_15 rfl rfl (fun b15 => ?_) (fun b15 => ?_)
    · exact absurd (⟨if1 b5, if1 b15⟩) hb
    · refine s_ldc (n := 20) dX4_from_18 rfl wd_X4_56 ?_
      refine s_ireturn dX4_from_20 rfl (rfl) (Nat.le_refl _) (Nat.le_refl _) ?_
      exact ⟨rfl, rfl⟩
set_option maxRecDepth 100000 in
set_option maxHeartbeats 4000000 in
theorem k_from {G : mj_G} {h : mj_H} {d : Nat} {σ : Nat → Nat → Int32} (hX : XS G h σ) {n : Nat} (hn : σ 0 2 = nI n) (h7 : n ≤ 7) (hok : okK n (σ 0)) {j k : Nat} (hj : j < n) (hk : k ≤ 40) (hk1 : 1 ≤ k) (hd : 6 ≤ d) : mj_con G MX4_from d 0 0 [.ref (G.1 + 0), .int (nI j), .int (nI k)] h (rF G σ ((1000 : Int32) + mns n k (upd (σ 0) 4 (σ 0 4 ||| 0)) 5 - mns n k (upd (σ 0) 4 (σ 0 4 ||| (1 <<< (nI j &&& 31)))) 5) h) := by
  refine mj_conV okX4_from (ls := [some (.ref (G.1 + 0)), some (.int (nI j)), some (.int (nI k)), none]) rfl rfl ?_
  replace hX := XS_f hX
  obtain ⟨x0, x1, xt, xn, xf, xa, x188, x189, xr, xi⟩ := id hX
  replace x0 : _ = XO G (σ 42) := x0
  replace xn : mj_St G _ 4 (σ 0) := xn
  replace xf : mj_St G _ 11 (σ 1) := xf
  obtain ⟨n0, n1, n2, n3, n4, n5, n6⟩ := id xn
  obtain ⟨f0, f1, f2, f3, f4, f5, f6⟩ := id xf
  refine s_aload_n (n := 1) (i := 0) dX4_from_0 rfl rfl rfl ?_
  refine s_iload_n (n := 2) (i := 1) dX4_from_1 rfl rfl rfl ?_
  refine s_v1 (M' := MX4_isHouse) (n := 5) (ci := 4) dX4_from_2 rfl wd_X4_152 okX4_isHouse rfl rfl (by omega) ⟨Nat.le_refl _, Nat.le_refl _⟩ (by assumption) (c_isHouse2 (d := d - 1) hX hn h7 (by omega)) ?_
  rintro v2 hh2 ⟨rfl, rfl⟩
  refine s_if_eq (n := 8) (tgt := 18) dX4_from_5 rfl rfl (fun b5 => ?_) (fun b5 => ?_)
  · exact absurd (Hs_n hj h7) (if0 b5)
  · refine s_iload_n (n := 9) (i := 2) dX4_from_8 rfl rfl rfl ?_
    refine s_iconst (n := 10) (v := 1) dX4_from_9 rfl (by decide) ?_
    refine s_bipush (n := 12) (v := 40) dX4_from_10 rfl (by decide) ?_
    refine s_s3 (M' := MX4_isWithin) (n := 15) dX4_from_12 rfl wd_X4_52 okX4_isWithin rfl (by omega) ⟨Nat.le_refl _, Nat.le_refl _⟩ (c_within (d := d - 1) (A := 1) (B := 40) (by decide) (by decide)) ?_
    rintro v12 hh12 ⟨rfl, rfl⟩
    refine s_if_ne (n := 18) (tgt := 21) dX4_from_15 rfl rfl (fun b15 => ?_) (fun b15 => ?_)
    · refine s_aload_n (n := 22) (i := 0) dX4_from_21 rfl rfl rfl ?_
      refine s_iconst (n := 23) (v := 0) dX4_from_22 rfl (by decide) ?_
      refine s_iload_n (n := 24) (i := 2) dX4_from_23 rfl rfl rfl ?_
      refine s_v2 (M' := MX4_foreseeHushed) (n := 27) (ci := 4) dX4_from_24 rfl wd_X4_209 okX4_foreseeHushed rfl rfl (by omega) ⟨Nat.le_refl _, Nat.le_refl _⟩ (by assumption) (c_foresee (d := d - 1) hX hok (by omega) (by omega)) ?_
      rintro v24 hh24 ⟨rfl, hX1, hF1⟩
      replace hX := hX1
      have hFx := hF1
      obtain ⟨x0, x1, xt, xn, xf, xa, x188, x189, xr, xi⟩ := id hX
      replace x0 : _ = XO G (σ 42) := x0
      replace xn : mj_St G _ 4 (σ 0) := xn
      replace xf : mj_St G _ 11 (mns n k (upd (σ 0) 4 (σ 0 4 ||| 0))) := xf
      obtain ⟨n0, n1, n2, n3, n4, n5, n6⟩ := id xn
      obtain ⟨f0, f1, f2, f3, f4, f5, f6⟩ := id xf
      refine s_aload_n (n := 28) (i := 0) dX4_from_27 rfl rfl rfl ?_
      refine gf_X4_29 (n := 31) rfl dX4_from_28 rfl (by assumption) (by rfl) ?_
      refine gf_X4_149 (n := 34) rfl dX4_from_31 rfl (by assumption) (by rfl) ?_
      refine s_istore_n (n := 35) (i := 3) (ls' := [_, _, _, _]) dX4_from_34 rfl rfl rfl rfl rfl ?_
      refine s_aload_n (n := 36) (i := 0) dX4_from_35 rfl rfl rfl ?_
      refine s_iconst (n := 37) (v := 1) dX4_from_36 rfl (by decide) ?_
      refine s_iload_n (n := 38) (i := 1) dX4_from_37 rfl rfl rfl ?_
      refine s_ishl (n := 39) dX4_from_38 rfl ?_
      refine s_iload_n (n := 40) (i := 2) dX4_from_39 rfl rfl rfl ?_
      refine s_v2 (M' := MX4_foreseeHushed) (n := 43) (ci := 4) dX4_from_40 rfl wd_X4_209 okX4_foreseeHushed rfl rfl (by omega) ⟨Nat.le_refl _, Nat.le_refl _⟩ (by assumption) (c_foresee (d := d - 1) hX hok (by omega) (by omega)) ?_
      rintro v40 hh40 ⟨rfl, hX1, hF1⟩
      replace hX := hX1
      replace hFx := fr_tr hFx hF1
      obtain ⟨x0, x1, xt, xn, xf, xa, x188, x189, xr, xi⟩ := id hX
      replace x0 : _ = XO G (σ 42) := x0
      replace xn : mj_St G _ 4 (σ 0) := xn
      replace xf : mj_St G _ 11 (mns n k (upd (σ 0) 4 (σ 0 4 ||| (1 <<< (nI j &&& 31))))) := xf
      obtain ⟨n0, n1, n2, n3, n4, n5, n6⟩ := id xn
      obtain ⟨f0, f1, f2, f3, f4, f5, f6⟩ := id xf
      refine s_sipush (n := 46) (v := 1000) dX4_from_43 rfl (by decide) ?_
      refine s_iload_n (n := 47) (i := 3) dX4_from_46 rfl rfl rfl ?_
      refine s_iadd (n := 48) dX4_from_47 rfl ?_
      refine s_aload_n (n := 49) (i := 0) dX4_from_48 rfl rfl rfl ?_
      refine gf_X4_29 (n := 52) rfl dX4_from_49 rfl (by assumption) (by rfl) ?_
      refine gf_X4_149 (n := 55) rfl dX4_from_52 rfl (by assumption) (by rfl) ?_
      refine s_isub (n := 56) dX4_from_55 rfl ?_
      refine s_ireturn dX4_from_56 rfl (rfl) (Nat.le_refl _) (Nat.le_refl _) ?_
      exact ⟨rfl, _, hX, hFx⟩
    · exact absurd (Wi_n (by omega) (by omega) (by omega)) (if0 b15)
def loF (n j k : Nat) (T : Nat → Int32) : Nat → Nat → Int32
  | 0, _ => -1000000
  | r + 1, i => if mns n k (upd T (13 + j) (nI i)) 1 < mns n k (upd T (13 + j) (nI i)) 5 then nI i else loF n j k T r (i + 1)
set_option maxRecDepth 100000 in
set_option maxHeartbeats 4000000 in
theorem k_loud_bad {G : mj_G} {h : mj_H} {d : Nat} {σ : Nat → Nat → Int32} (hX : XS G h σ) {n : Nat} (hn : σ 0 2 = nI n) (h7 : n ≤ 7) {x y : Int32} (hb : ¬ (Hs n x ∧ Wi y 1 99)) (hd : 2 ≤ d) : mj_con G MX4_loud d 0 0 [.ref (G.1 + 0), .int x, .int y] h (rI (-1000001) h) := by
  refine mj_conV okX4_loud (ls := [some (.ref (G.1 + 0)), some (.int x), some (.int y), none]) rfl rfl ?_
  obtain ⟨x0, x1, xt, xn, xf, xa, x188, x189, xr, xi⟩ := id hX
  obtain ⟨n0, n1, n2, n3, n4, n5, n6⟩ := id xn
  have a18 := xa.1
  have t2 := xt.1
  have t3 := xt.2
  refine s_aload_n (n := 1) (i := 0) dX4_loud_0 rfl rfl rfl ?_
  refine s_iload_n (n := 2) (i := 1) dX4_loud_1 rfl rfl rfl ?_
  refine s_v1 (M' := MX4_isHouse) (n := 5) (ci := 4) dX4_loud_2 rfl wd_X4_152 okX4_isHouse rfl rfl (by omega) ⟨Nat.le_refl _, Nat.le_refl _⟩ (by assumption) (c_isHouse (d := d - 1) hX hn h7 (by omega)) ?_
  rintro v2 hh2 ⟨rfl, rfl⟩
  refine s_if_eq (n := 8) (tgt := 18) dX4_loud_5 rfl rfl (fun b5 => ?_) (fun b5 => ?_)
  · refine s_ldc (n := 20) dX4_loud_18 rfl wd_X4_56 ?_
    refine s_ireturn dX4_loud_20 rfl (rfl) (Nat.le_refl _) (Nat.le_refl _) ?_
    exact ⟨rfl, rfl⟩
  · refine s_iload_n (n := 9) (i := 2) dX4_loud_8 rfl rfl rfl ?_
    refine s_iconst (n := 10) (v := 1) dX4_loud_9 rfl (by decide) ?_
    refine s_bipush (n := 12) (v := 99) dX4_loud_10 rfl (by decide) ?_
    refine s_s3 (M' := MX4_isWithin) (n := 15) dX4_loud_12 rfl wd_X4_52 okX4_isWithin rfl (by omega) ⟨Nat.le_refl _, Nat.le_refl _⟩ (c_within (d := d - 1) (A := 1) (B := 99) (by decide) (by decide)) ?_
    rintro v12 hh12 ⟨rfl, rfl⟩
    refine s_if_ne (n := 18) (tgt := 21) dX4_loud_15 rfl rfl (fun b15 => ?_) (fun b15 => ?_)
    · exact absurd (⟨if1 b5, if1 b15⟩) hb
    · refine s_ldc (n := 20) dX4_loud_18 rfl wd_X4_56 ?_
      refine s_ireturn dX4_loud_20 rfl (rfl) (Nat.le_refl _) (Nat.le_refl _) ?_
      exact ⟨rfl, rfl⟩
set_option maxRecDepth 100000 in
set_option maxHeartbeats 4000000 in
theorem l_loud {G : mj_G} {h0 : mj_H} {d n j k : Nat} {σ : Nat → Nat → Int32} (hj : j < 7) (hk : k ≤ 99) (hok : okK n (σ 0)) (hd : 6 ≤ d) : ∀ (r i : Nat), i + r = 21 → ∀ (h : mj_H) (F : Nat → Int32), XS G h (u2 σ 1 F) → mj_fr 0 220 h0 h → mj_wp G MX4_loud d 0 0 23 [some (.ref (G.1 + 0)), some (.int (nI j)), some (.int (nI k)), some (.int (nI i))] [] h 0 0 (rF G σ (loF n j k (σ 0) r i) h0) := by
  intro r
  induction r with
  | zero =>
    intro i hi h F hX hFx
    obtain ⟨x0, x1, xt, xn, xf, xa, x188, x189, xr, xi⟩ := id hX
    replace x0 : _ = XO G (σ 42) := x0
    replace xn : mj_St G _ 4 (σ 0) := xn
    replace xf : mj_St G _ 11 (F) := xf
    obtain ⟨n0, n1, n2, n3, n4, n5, n6⟩ := id xn
    obtain ⟨f0, f1, f2, f3, f4, f5, f6⟩ := id xf
    refine s_iload_n (n := 24) (i := 3) dX4_loud_23 rfl rfl rfl ?_
    refine s_bipush (n := 26) (v := 20) dX4_loud_24 rfl (by decide) ?_
    refine s_icmp_gt (n := 29) (tgt := 76) dX4_loud_26 rfl rfl (fun b26 => ?_) (fun b26 => ?_)
    · refine s_ldc (n := 78) dX4_loud_76 rfl wd_X4_199 ?_
      refine s_ireturn dX4_loud_78 rfl (rfl) (Nat.le_refl _) (Nat.le_refl _) ?_
      exact ⟨rfl, _, hX, hFx⟩
    · exfalso
      exact b26 ((nI_ltE (a := 20) (by omega) (by omega)).mpr (by omega))
  | succ r ih =>
    intro i hi h F hX hFx
    obtain ⟨x0, x1, xt, xn, xf, xa, x188, x189, xr, xi⟩ := id hX
    replace x0 : _ = XO G (σ 42) := x0
    replace xn : mj_St G _ 4 (σ 0) := xn
    replace xf : mj_St G _ 11 (F) := xf
    obtain ⟨n0, n1, n2, n3, n4, n5, n6⟩ := id xn
    obtain ⟨f0, f1, f2, f3, f4, f5, f6⟩ := id xf
    refine s_iload_n (n := 24) (i := 3) dX4_loud_23 rfl rfl rfl ?_
    refine s_bipush (n := 26) (v := 20) dX4_loud_24 rfl (by decide) ?_
    refine s_icmp_gt (n := 29) (tgt := 76) dX4_loud_26 rfl rfl (fun b26 => ?_) (fun b26 => ?_)
    · exfalso
      have q := (nI_ltE (a := 20) (by omega) (by omega)).mp b26
      omega
    · refine s_aload_n (n := 30) (i := 0) dX4_loud_29 rfl rfl rfl ?_
      refine gf_X4_29 (n := 33) rfl dX4_loud_30 rfl (by assumption) (by rfl) ?_
      refine s_aload_n (n := 34) (i := 0) dX4_loud_33 rfl rfl rfl ?_
      refine gf_X4_25 (n := 37) rfl dX4_loud_34 rfl (by assumption) (by rfl) ?_
      refine s_v1 (M' := MX2_takeFrom) (n := 40) (ci := 2) dX4_loud_37 rfl wd_X4_120 okX2_takeFrom rfl rfl (by omega) ⟨Nat.le_refl _, Nat.le_refl _⟩ (by assumption) (c_takeFrom (d := d - 1) xf xn (by omega) (by omega)) ?_
      rintro v37 hh37 ⟨rfl, hS1, hF1⟩
      replace hX := XS_for2 hX hS1 hF1
      replace hFx := fr_tr hFx (fr_wid (p' := 0) (w' := 220) hF1 (by omega) (by omega))
      obtain ⟨x0, x1, xt, xn, xf, xa, x188, x189, xr, xi⟩ := id hX
      replace x0 : _ = XO G (σ 42) := x0
      replace xn : mj_St G _ 4 (σ 0) := xn
      replace xf : mj_St G _ 11 (σ 0) := xf
      obtain ⟨n0, n1, n2, n3, n4, n5, n6⟩ := id xn
      obtain ⟨f0, f1, f2, f3, f4, f5, f6⟩ := id xf
      refine s_aload_n (n := 41) (i := 0) dX4_loud_40 rfl rfl rfl ?_
      refine gf_X4_29 (n := 44) rfl dX4_loud_41 rfl (by assumption) (by rfl) ?_
      refine gf_X4_155 (n := 47) rfl dX4_loud_44 rfl (by assumption) (by rfl) ?_
      refine s_iload_n (n := 48) (i := 1) dX4_loud_47 rfl rfl rfl ?_
      refine s_iload_n (n := 49) (i := 3) dX4_loud_48 rfl rfl rfl ?_
      refine s_iast (n := 50) dX4_loud_49 rfl (by assumption) (mj_ixn (by omega)) ?_
      refine XF_talk hj hX (fun h2 hX2 hF2 => ?_)
      replace hX := hX2
      replace hFx := fr_tr hFx hF2
      obtain ⟨x0, x1, xt, xn, xf, xa, x188, x189, xr, xi⟩ := id hX
      replace x0 : _ = XO G (σ 42) := x0
      replace xn : mj_St G _ 4 (σ 0) := xn
      replace xf : mj_St G _ 11 (upd (σ 0) (13 + j) (nI i)) := xf
      obtain ⟨n0, n1, n2, n3, n4, n5, n6⟩ := id xn
      obtain ⟨f0, f1, f2, f3, f4, f5, f6⟩ := id xf
      refine s_aload_n (n := 51) (i := 0) dX4_loud_50 rfl rfl rfl ?_
      refine gf_X4_29 (n := 54) rfl dX4_loud_51 rfl (by assumption) (by rfl) ?_
      refine s_iload_n (n := 55) (i := 2) dX4_loud_54 rfl rfl rfl ?_
      refine s_v1 (M' := MX2_passMinutes) (n := 58) (ci := 2) dX4_loud_55 rfl wd_X4_196 okX2_passMinutes rfl rfl (by omega) ⟨Nat.le_refl _, Nat.le_refl _⟩ (by assumption) (c_passMinutes (d := d - 1) xf (okK_up hok (by omega) (by omega)) (by omega) (by omega)) ?_
      rintro v55 hh55 ⟨rfl, hS2, hF2⟩
      replace hX := XS_for2 hX hS2 hF2
      replace hFx := fr_tr hFx (fr_wid (p' := 0) (w' := 220) hF2 (by omega) (by omega))
      obtain ⟨x0, x1, xt, xn, xf, xa, x188, x189, xr, xi⟩ := id hX
      replace x0 : _ = XO G (σ 42) := x0
      replace xn : mj_St G _ 4 (σ 0) := xn
      replace xf : mj_St G _ 11 (mns n k (upd (σ 0) (13 + j) (nI i))) := xf
      obtain ⟨n0, n1, n2, n3, n4, n5, n6⟩ := id xn
      obtain ⟨f0, f1, f2, f3, f4, f5, f6⟩ := id xf
      refine s_aload_n (n := 59) (i := 0) dX4_loud_58 rfl rfl rfl ?_
      refine gf_X4_29 (n := 62) rfl dX4_loud_59 rfl (by assumption) (by rfl) ?_
      refine s_v0 (M' := MX2_isOverPlank) (n := 65) (ci := 2) dX4_loud_62 rfl wd_X4_186 okX2_isOverPlank rfl rfl (by omega) ⟨Nat.le_refl _, Nat.le_refl _⟩ (by assumption) (c_isOverPlank (d := d - 1) xf) ?_
      rintro v62 hh62 ⟨rfl, rfl⟩
      refine s_if_eq (n := 68) (tgt := 70) dX4_loud_65 rfl rfl (fun b65 => ?_) (fun b65 => ?_)
      · have q := if0 b65
        refine s_iinc (n := 73) (v := _ + 1) (ls' := [_, _, _, _]) dX4_loud_70 rfl rfl rfl rfl rfl ?_
        refine s_goto (tgt := 23) dX4_loud_73 rfl ?_
        rw [nI_1]
        unfold loF
        rw [if_neg q]
        exact ih (i + 1) (by omega) _ _ hX hFx
      · have q := if1 b65
        refine s_iload_n (n := 69) (i := 3) dX4_loud_68 rfl rfl rfl ?_
        refine s_ireturn dX4_loud_69 rfl (rfl) (Nat.le_refl _) (Nat.le_refl _) ?_
        unfold loF
        rw [if_pos q]
        exact ⟨rfl, _, hX, hFx⟩
set_option maxRecDepth 100000 in
set_option maxHeartbeats 4000000 in
theorem k_loud {G : mj_G} {h : mj_H} {d : Nat} {σ : Nat → Nat → Int32} (hX : XS G h σ) {n : Nat} (hn : σ 0 2 = nI n) (h7 : n ≤ 7) (hok : okK n (σ 0)) {j k : Nat} (hj : j < n) (hk : k ≤ 99) (hk1 : 1 ≤ k) (hd : 6 ≤ d) : mj_con G MX4_loud d 0 0 [.ref (G.1 + 0), .int (nI j), .int (nI k)] h (rF G σ (loF n j k (σ 0) 21 0) h) := by
  refine mj_conV okX4_loud (ls := [some (.ref (G.1 + 0)), some (.int (nI j)), some (.int (nI k)), none]) rfl rfl ?_
  replace hX := XS_f hX
  obtain ⟨x0, x1, xt, xn, xf, xa, x188, x189, xr, xi⟩ := id hX
  replace x0 : _ = XO G (σ 42) := x0
  replace xn : mj_St G _ 4 (σ 0) := xn
  replace xf : mj_St G _ 11 (σ 1) := xf
  obtain ⟨n0, n1, n2, n3, n4, n5, n6⟩ := id xn
  obtain ⟨f0, f1, f2, f3, f4, f5, f6⟩ := id xf
  refine s_aload_n (n := 1) (i := 0) dX4_loud_0 rfl rfl rfl ?_
  refine s_iload_n (n := 2) (i := 1) dX4_loud_1 rfl rfl rfl ?_
  refine s_v1 (M' := MX4_isHouse) (n := 5) (ci := 4) dX4_loud_2 rfl wd_X4_152 okX4_isHouse rfl rfl (by omega) ⟨Nat.le_refl _, Nat.le_refl _⟩ (by assumption) (c_isHouse2 (d := d - 1) hX hn h7 (by omega)) ?_
  rintro v2 hh2 ⟨rfl, rfl⟩
  refine s_if_eq (n := 8) (tgt := 18) dX4_loud_5 rfl rfl (fun b5 => ?_) (fun b5 => ?_)
  · exact absurd (Hs_n hj h7) (if0 b5)
  · refine s_iload_n (n := 9) (i := 2) dX4_loud_8 rfl rfl rfl ?_
    refine s_iconst (n := 10) (v := 1) dX4_loud_9 rfl (by decide) ?_
    refine s_bipush (n := 12) (v := 99) dX4_loud_10 rfl (by decide) ?_
    refine s_s3 (M' := MX4_isWithin) (n := 15) dX4_loud_12 rfl wd_X4_52 okX4_isWithin rfl (by omega) ⟨Nat.le_refl _, Nat.le_refl _⟩ (c_within (d := d - 1) (A := 1) (B := 99) (by decide) (by decide)) ?_
    rintro v12 hh12 ⟨rfl, rfl⟩
    refine s_if_ne (n := 18) (tgt := 21) dX4_loud_15 rfl rfl (fun b15 => ?_) (fun b15 => ?_)
    · refine s_iconst (n := 22) (v := 0) dX4_loud_21 rfl (by decide) ?_
      refine s_istore_n (n := 23) (i := 3) (ls' := [_, _, _, _]) dX4_loud_22 rfl rfl rfl rfl rfl ?_
      exact l_loud (by omega) hk hok (by omega) 21 0 (by omega) _ _ hX fr_rf
    · exact absurd (Wi_n (by omega) (by omega) (by omega)) (if0 b15)
