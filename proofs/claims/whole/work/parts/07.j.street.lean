theorem XS_f2 {G : mj_G} {h h' : mj_H} {σ : Nat → Nat → Int32} {F g : Nat → Int32} (hX : XS G h σ) (h1 : TpS G h' (σ 31) g) (h2 : mj_St G h' 11 F) (hF : mj_f2 h h') : XS G h' (u2 (u2 σ 32 g) 1 F) := by
  obtain ⟨x0, x1, xt, xn, xf, xa, x188, x189, xr, xi⟩ := hX
  have o : ∀ j, j ≠ 32 → j ≠ 1 → u2 (u2 σ 32 g) 1 F j = σ j := fun j a b => by rw [u2_ne b, u2_ne a]
  have st : ∀ (q : Nat) (T : Nat → Int32), q = 4 ∨ 18 ≤ q → mj_St G h q T → mj_St G h' q T := by
    intro q T hq hS
    obtain ⟨c0, c1, c2, c3, c4, c5, c6⟩ := hS
    exact ⟨(hF.2 _ (by omega)).trans c0, (hF.2 _ (by omega)).trans c1, (hF.2 _ (by omega)).trans c2, (hF.2 _ (by omega)).trans c3, (hF.2 _ (by omega)).trans c4, (hF.2 _ (by omega)).trans c5, (hF.2 _ (by omega)).trans c6⟩
  refine ⟨(hF.2 _ (by omega)).trans x0, (hF.2 _ (by omega)).trans x1, h1, st 4 _ (by omega) xn, h2, ?_, (hF.2 _ (by omega)).trans x188, (hF.2 _ (by omega)).trans x189, fun r hr => ?_, fun k hk => ?_⟩
  · refine ⟨(hF.2 _ (by omega)).trans xa.1, (hF.2 _ (by omega)).trans xa.2.1, fun i hi => ?_⟩
    show mj_St G h' _ (u2 (u2 σ 32 g) 1 F (2 + i))
    rw [o _ (by omega) (by omega)]
    exact st _ _ (by omega) (xa.2.2 i hi)
  · rw [o _ (by omega) (by omega), o _ (by omega) (by omega), o _ (by omega) (by omega)]
    exact ⟨(hF.2 _ (by omega)).trans (xr r hr).1, (hF.2 _ (by omega)).trans (xr r hr).2⟩
  · rw [o _ (by omega) (by omega)]
    exact st _ _ (by omega) (xi k hk)
theorem XS_rd {G : mj_G} {h h1 h2 : mj_H} {σ : Nat → Nat → Int32} {F g g2 : Nat → Int32} (hX : XS G h σ) (a1 : TpS G h1 (σ 31) g) (a2 : mj_St G h1 11 F) (hF : mj_f2 h h1) (b1 : TpS G h2 (σ 31) g2) (b2 : mj_fr 2 2 h1 h2) : ∃ s, XS G h2 s ∧ s 32 = g2 ∧ s 1 = F ∧ ∀ j, j ≠ 1 → j ≠ 32 → s j = σ j := by
  have q := XS_tape (XS_f2 hX a1 a2 hF) b1 b2
  refine ⟨_, q, rfl, rfl, fun j c e => ?_⟩
  rw [u2_ne e, show u2 (u2 (u2 σ 32 g) 1 F) 31 (σ 31) j = u2 (u2 σ 32 g) 1 F j from congrFun (u2_self (σ := u2 (u2 σ 32 g) 1 F) (i := 31)) j, u2_ne c, u2_ne e]
theorem uA_id {σ : Nat → Nat → Int32} {B : Nat → Int32} {j : Nat} (h : j ≠ 28) : uA σ (fun i => σ (2 + i)) B j = σ j := by
  unfold uA
  rw [if_neg h]
  by_cases q : 2 ≤ j ∧ j < 26
  · rw [if_pos q]
    show σ (2 + (j - 2)) = σ j
    rw [show 2 + (j - 2) = j by omega]
  · rw [if_neg q]
theorem f2_w {h h' : mj_H} (a : mj_f2 h h') : mj_fr 0 220 h h' := ⟨a.1, fun j q => a.2 j (by omega)⟩
set_option maxRecDepth 100000 in
set_option maxHeartbeats 4000000 in
theorem k_street_f {G : mj_G} {h : mj_H} {d : Nat} {σ : Nat → Nat → Int32} (hX : XS G h σ) {l : Nat} (ql : σ 32 0 = nI l) (hl : l ≤ 120) (hb : bts (σ 31) l) (hf : ¬ (strP (σ 31) l (σ 1)).1.1 = 0) (hd : 6 ≤ d) : mj_con G MX4_street d 0 0 [.ref (G.1 + 0)] h (fun v h' => v = some (.int (-1000100 - nI (strP (σ 31) l (σ 1)).1.2)) ∧ ∃ σ', XS G h' σ' ∧ mj_fr 0 220 h h' ∧ σ' 32 0 = 0 ∧ σ' 42 = upd (σ 42) 1 (strP (σ 31) l (σ 1)).1.1 ∧ ∀ j, j ≠ 1 → j ≠ 32 → j ≠ 42 → σ' j = σ j) := by
  refine mj_conV okX4_street (ls := [some (.ref (G.1 + 0)), none]) rfl rfl ?_
  obtain ⟨x0, x1, xt, xn, xf, xa, x188, x189, xr, xi⟩ := id hX
  obtain ⟨n0, n1, n2, n3, n4, n5, n6⟩ := id xn
  have a18 := xa.1
  have t2 := xt.1
  have t3 := xt.2
  refine s_aload_n (n := 1) (i := 0) dX4_street_0 rfl rfl rfl ?_
  refine gf_X4_18 (n := 4) rfl dX4_street_1 rfl (by assumption) (by rfl) ?_
  refine s_aload_n (n := 5) (i := 0) dX4_street_4 rfl rfl rfl ?_
  refine gf_X4_29 (n := 8) rfl dX4_street_5 rfl (by assumption) (by rfl) ?_
  refine s_v1 (M' := MX3_readStreet) (n := 11) (ci := 3) dX4_street_8 rfl wd_X4_106 okX3_readStreet rfl rfl (by omega) ⟨Nat.le_refl _, Nat.le_refl _⟩ (by assumption) (c_readStreet (d := d - 1) xt ql hl hb xf (by omega)) ?_
  rintro v8 hh8 ⟨rfl, g1, hS1, z1, ok1, no1, hF1⟩
  obtain ⟨o1, o2, F1, o3⟩ := no1 hf
  have hX1 := XS_f2 hX hS1 o3 hF1
  have x0 : _ = XO G (σ 42) := hX1.1
  have t2 := hS1.1
  refine s_istore_n (n := 12) (i := 1) (ls' := [_, _]) dX4_street_11 rfl rfl rfl rfl rfl ?_
  refine s_aload_n (n := 13) (i := 0) dX4_street_12 rfl rfl rfl ?_
  refine gf_X4_18 (n := 16) rfl dX4_street_13 rfl (by assumption) (by rfl) ?_
  refine s_iconst (n := 17) (v := 0) dX4_street_16 rfl (by decide) ?_
  refine pf_X4_102 (n := 20) (fs' := [_, _, _, _, _, _, _, _]) rfl dX4_street_17 rfl (by assumption) (by rfl) (by rfl) ?_
  refine TP_0 hS1 (fun h2 hT2 hF2 => ?_)
  obtain ⟨σ2, hX2, e32, e1, eo⟩ := XS_rd hX hS1 o3 hF1 hT2 hF2
  obtain ⟨x0, x1, xt, xn, xf, xa, x188, x189, xr, xi⟩ := id hX2
  have t2 := xt.1
  refine s_iload_n (n := 21) (i := 1) dX4_street_20 rfl rfl rfl ?_
  refine s_if_ne (n := 24) (tgt := 46) dX4_street_21 rfl rfl (fun b21 => ?_) (fun b21 => ?_)
  · exact absurd (if1 b21) hf
  · refine s_aload_n (n := 25) (i := 0) dX4_street_24 rfl rfl rfl ?_
    refine s_aload_n (n := 26) (i := 0) dX4_street_25 rfl rfl rfl ?_
    refine gf_X4_18 (n := 29) rfl dX4_street_26 rfl (by assumption) (by rfl) ?_
    refine gf_X4_110 (n := 32) rfl dX4_street_29 rfl (by assumption) (by rfl) ?_
    rw [show σ2 32 2 = _ from (congrFun e32 2).trans o2]
    refine pf_X4_113 (n := 35) (fs' := [_, _, _, _, _, _, _, _, _, _]) rfl dX4_street_32 rfl (by assumption) (by rfl) (by rfl) ?_
    refine XP_lf hX2 (fun h3 hX3 hF3 => ?_)
    have x0 := hX3.1
    have t2 := hX3.2.2.1.1
    refine s_ldc (n := 37) dX4_street_35 rfl wd_X4_116 ?_
    refine s_aload_n (n := 38) (i := 0) dX4_street_37 rfl rfl rfl ?_
    refine gf_X4_18 (n := 41) rfl dX4_street_38 rfl (by assumption) (by rfl) ?_
    refine gf_X4_117 (n := 44) rfl dX4_street_41 rfl (by assumption) (by rfl) ?_
    rw [show u2 σ2 42 (upd (σ2 42) 1 (strP (σ 31) l (σ 1)).1.1) 32 1 = _ from (congrFun e32 1).trans o1]
    refine s_isub (n := 45) dX4_street_44 rfl ?_
    refine s_ireturn dX4_street_45 rfl (rfl) (Nat.le_refl _) (Nat.le_refl _) ?_
    refine ⟨rfl, _, hX3, fr_tr (f2_w hF1) (fr_tr (fr_wid hF2 (by omega) (by omega)) hF3), congrFun e32 0, ?_, fun j a b c => ?_⟩
    · rw [u2_eq, eo 42 (by omega) (by omega)]
    · rw [u2_ne c, eo j a b]
set_option maxRecDepth 100000 in
set_option maxHeartbeats 4000000 in
theorem k_street {G : mj_G} {h : mj_H} {d : Nat} {σ : Nat → Nat → Int32} (hX : XS G h σ) {l : Nat} (ql : σ 32 0 = nI l) (hl : l ≤ 120) (hb : bts (σ 31) l) (hf : (strP (σ 31) l (σ 1)).1.1 = 0) (hd : 6 ≤ d) : mj_con G MX4_street d 0 0 [.ref (G.1 + 0)] h (fun v h' => v = some (.int ((strP (σ 31) l (σ 1)).2.1 2)) ∧ ∃ σ', XS G h' σ' ∧ mj_fr 0 220 h h' ∧ σ' 0 = (strP (σ 31) l (σ 1)).2.1 ∧ σ' 28 0 = σ 28 0 ∧ σ' 28 1 = 0 ∧ σ' 32 0 = 0 ∧ ∀ j, j ≠ 0 → j ≠ 1 → j ≠ 28 → j ≠ 32 → σ' j = σ j) := by
  refine mj_conV okX4_street (ls := [some (.ref (G.1 + 0)), none]) rfl rfl ?_
  obtain ⟨x0, x1, xt, xn, xf, xa, x188, x189, xr, xi⟩ := id hX
  obtain ⟨n0, n1, n2, n3, n4, n5, n6⟩ := id xn
  have a18 := xa.1
  have t2 := xt.1
  have t3 := xt.2
  refine s_aload_n (n := 1) (i := 0) dX4_street_0 rfl rfl rfl ?_
  refine gf_X4_18 (n := 4) rfl dX4_street_1 rfl (by assumption) (by rfl) ?_
  refine s_aload_n (n := 5) (i := 0) dX4_street_4 rfl rfl rfl ?_
  refine gf_X4_29 (n := 8) rfl dX4_street_5 rfl (by assumption) (by rfl) ?_
  refine s_v1 (M' := MX3_readStreet) (n := 11) (ci := 3) dX4_street_8 rfl wd_X4_106 okX3_readStreet rfl rfl (by omega) ⟨Nat.le_refl _, Nat.le_refl _⟩ (by assumption) (c_readStreet (d := d - 1) xt ql hl hb xf (by omega)) ?_
  rintro v8 hh8 ⟨rfl, g1, hS1, z1, ok1, no1, hF1⟩
  have o3 := ok1 hf
  have hX1 := XS_f2 hX hS1 o3 hF1
  have x0 : _ = XO G (σ 42) := hX1.1
  have t2 := hS1.1
  refine s_istore_n (n := 12) (i := 1) (ls' := [_, _]) dX4_street_11 rfl rfl rfl rfl rfl ?_
  refine s_aload_n (n := 13) (i := 0) dX4_street_12 rfl rfl rfl ?_
  refine gf_X4_18 (n := 16) rfl dX4_street_13 rfl (by assumption) (by rfl) ?_
  refine s_iconst (n := 17) (v := 0) dX4_street_16 rfl (by decide) ?_
  refine pf_X4_102 (n := 20) (fs' := [_, _, _, _, _, _, _, _]) rfl dX4_street_17 rfl (by assumption) (by rfl) (by rfl) ?_
  refine TP_0 hS1 (fun h2 hT2 hF2 => ?_)
  obtain ⟨σ2, hX2, e32, e1, eo⟩ := XS_rd hX hS1 o3 hF1 hT2 hF2
  obtain ⟨x0, x1, xt, xn, xf, xa, x188, x189, xr, xi⟩ := id hX2
  have t2 := xt.1
  rw [e1] at xf
  obtain ⟨n0, n1, n2, n3, n4, n5, n6⟩ := id xn
  refine s_iload_n (n := 21) (i := 1) dX4_street_20 rfl rfl rfl ?_
  refine s_if_ne (n := 24) (tgt := 46) dX4_street_21 rfl rfl (fun b21 => ?_) (fun b21 => ?_)
  · refine s_aload_n (n := 47) (i := 0) dX4_street_46 rfl rfl rfl ?_
    refine gf_X4_25 (n := 50) rfl dX4_street_47 rfl (by assumption) (by rfl) ?_
    refine s_aload_n (n := 51) (i := 0) dX4_street_50 rfl rfl rfl ?_
    refine gf_X4_29 (n := 54) rfl dX4_street_51 rfl (by assumption) (by rfl) ?_
    refine s_v1 (M' := MX2_takeFrom) (n := 57) (ci := 2) dX4_street_54 rfl wd_X4_120 okX2_takeFrom rfl rfl (by omega) ⟨Nat.le_refl _, Nat.le_refl _⟩ (by assumption) (c_takeFrom (d := d - 1) xn xf (by omega) (by omega)) ?_
    rintro v54 hh54 ⟨rfl, hS3, hF3⟩
    have hX3 := XS_now hX2 hS3 hF3
    obtain ⟨x0, x1, xt, xn, xf, xa, x188, x189, xr, xi⟩ := id hX3
    have a18 := xa.1
    refine s_aload_n (n := 58) (i := 0) dX4_street_57 rfl rfl rfl ?_
    refine gf_X4_35 (n := 61) rfl dX4_street_58 rfl (by assumption) (by rfl) ?_
    refine s_v0 (M' := MX0_forgetAll) (n := 64) (ci := 0) dX4_street_61 rfl wd_X4_124 okX0_forgetAll rfl rfl (by omega) ⟨Nat.le_refl _, Nat.le_refl _⟩ (by assumption) (c_forgetAll (d := d - 1) xa) ?_
    rintro v61 hh61 ⟨rfl, hA4, hF4⟩
    have hX4 := XS_acts hX3 hA4 hF4
    obtain ⟨x0, x1, xt, xn, xf, xa, x188, x189, xr, xi⟩ := id hX4
    replace xn : mj_St G _ 4 (strP (σ 31) l (σ 1)).2.1 := xn
    obtain ⟨n0, n1, n2, n3, n4, n5, n6⟩ := id xn
    refine s_aload_n (n := 65) (i := 0) dX4_street_64 rfl rfl rfl ?_
    refine gf_X4_25 (n := 68) rfl dX4_street_65 rfl (by assumption) (by rfl) ?_
    refine gf_X4_127 (n := 71) rfl dX4_street_68 rfl (by assumption) (by rfl) ?_
    refine s_ireturn dX4_street_71 rfl (rfl) (Nat.le_refl _) (Nat.le_refl _) ?_
    refine ⟨rfl, _, hX4, fr_tr (f2_w hF1) (fr_tr (fr_wid hF2 (by omega) (by omega)) (fr_tr (fr_wid hF3 (by omega) (by omega)) (fr_wid hF4 (by omega) (by omega)))), rfl, ?_, rfl, congrFun e32 0, fun j a b c e => ?_⟩
    · exact congrFun (eo 28 (by omega) (by omega)) 0
    · rw [uA_id c, u2_ne a, eo j b e]
  · exact absurd hf (if0 b21)
