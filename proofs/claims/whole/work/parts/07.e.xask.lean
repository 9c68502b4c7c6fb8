theorem u2_comm {σ : Nat → Nat → Int32} {i j : Nat} {f g : Nat → Int32} (h : i ≠ j) : u2 (u2 σ i f) j g = u2 (u2 σ j g) i f := by
  funext k
  unfold u2
  by_cases h1 : k = j
  · rw [if_pos h1, if_neg (by omega)]
    rw [if_pos h1]
  · rw [if_neg h1]
    by_cases h2 : k = i
    · rw [if_pos h2, if_pos h2]
    · rw [if_neg h2, if_neg h2, if_neg h1]
abbrev rG (G : mj_G) (σ : Nat → Nat → Int32) (A : Int32) (h : mj_H) : Option Value → mj_H → Prop := fun v h' => v = some (.int A) ∧ ∃ F, XS G h' (u2 (u2 σ 42 (upd (σ 42) 2 0)) 1 F) ∧ mj_fr 0 220 h h'
theorem c_unfound2 {G : mj_G} {h : mj_H} {d : Nat} {σ : Nat → Nat → Int32} {F : Nat → Int32} {f : Int32} (hX : XS G h (u2 σ 1 F)) : mj_con G MX4_unfound d 0 0 [.ref (G.1 + 0), .int f] h (fun v h' => v = some (.int f) ∧ XS G h' (u2 (u2 σ 42 (upd (σ 42) 2 0)) 1 F) ∧ mj_fr 0 220 h h') := by
  have q := c_unfound (d := d) (f := f) hX
  rw [show u2 σ 1 F 42 = σ 42 from rfl, u2_comm (by omega)] at q
  exact q
set_option maxRecDepth 100000 in
set_option maxHeartbeats 4000000 in
theorem k_who_bad {G : mj_G} {h : mj_H} {d : Nat} {σ : Nat → Nat → Int32} (hX : XS G h σ) {n : Nat} (hn : σ 0 2 = nI n) (h7 : n ≤ 7) {x1 x2 x3 x4 x5 x6 : Int32} (hb : ¬ ((Hs n x1 ∧ Wi x2 0 2 ∧ Hs n x3) ∧ Wi x4 0 7 ∧ Wi x6 1 12)) (hd : 2 ≤ d) : mj_con G MX4_who d 0 0 [.ref (G.1 + 0), .int x1, .int x2, .int x3, .int x4, .int x5, .int x6] h (rI (-1000001) h) := by
  refine mj_conV okX4_who (ls := [some (.ref (G.1 + 0)), some (.int x1), some (.int x2), some (.int x3), some (.int x4), some (.int x5), some (.int x6), none]) rfl rfl ?_
  obtain ⟨x0, x1, xt, xn, xf, xa, x188, x189, xr, xi⟩ := id hX
  obtain ⟨n0, n1, n2, n3, n4, n5, n6⟩ := id xn
  have a18 := xa.1
  have t2 := xt.1
  have t3 := xt.2
  refine s_aload_n (n := 1) (i := 0) dX4_who_0 rfl rfl rfl ?_
  refine s_iload_n (n := 2) (i := 1) dX4_who_1 rfl rfl rfl ?_
  refine s_v1 (M' := MX4_isHouse) (n := 5) (ci := 4) dX4_who_2 rfl wd_X4_152 okX4_isHouse rfl rfl (by omega) ⟨Nat.le_refl _, Nat.le_refl _⟩ (by assumption) (c_isHouse (d := d - 1) hX hn h7 (by omega)) ?_
  rintro v2 hh2 ⟨rfl, rfl⟩
  refine s_if_eq (n := 8) (tgt := 25) dX4_who_5 rfl rfl (fun b5 => ?_) (fun b5 => ?_)
  · refine s_ldc (n := 27) dX4_who_25 rfl wd_X4_56 ?_
    refine s_ireturn dX4_who_27 rfl (rfl) (Nat.le_refl _) (Nat.le_refl _) ?_
    exact ⟨rfl, rfl⟩
  · refine s_iload_n (n := 9) (i := 2) dX4_who_8 rfl rfl rfl ?_
    refine s_iconst (n := 10) (v := 0) dX4_who_9 rfl (by decide) ?_
    refine s_iconst (n := 11) (v := 2) dX4_who_10 rfl (by decide) ?_
    refine s_s3 (M' := MX4_isWithin) (n := 14) dX4_who_11 rfl wd_X4_52 okX4_isWithin rfl (by omega) ⟨Nat.le_refl _, Nat.le_refl _⟩ (c_within (d := d - 1) (A := 0) (B := 2) (by decide) (by decide)) ?_
    rintro v11 hh11 ⟨rfl, rfl⟩
    refine s_if_eq (n := 17) (tgt := 25) dX4_who_14 rfl rfl (fun b14 => ?_) (fun b14 => ?_)
    · refine s_ldc (n := 27) dX4_who_25 rfl wd_X4_56 ?_
      refine s_ireturn dX4_who_27 rfl (rfl) (Nat.le_refl _) (Nat.le_refl _) ?_
      exact ⟨rfl, rfl⟩
    · refine s_aload_n (n := 18) (i := 0) dX4_who_17 rfl rfl rfl ?_
      refine s_iload_n (n := 19) (i := 3) dX4_who_18 rfl rfl rfl ?_
      refine s_v1 (M' := MX4_isHouse) (n := 22) (ci := 4) dX4_who_19 rfl wd_X4_152 okX4_isHouse rfl rfl (by omega) ⟨Nat.le_refl _, Nat.le_refl _⟩ (by assumption) (c_isHouse (d := d - 1) hX hn h7 (by omega)) ?_
      rintro v19 hh19 ⟨rfl, rfl⟩
      refine s_if_ne (n := 25) (tgt := 28) dX4_who_22 rfl rfl (fun b22 => ?_) (fun b22 => ?_)
      · refine s_iload (n := 30) dX4_who_28 rfl rfl ?_
        refine s_s1 (M' := MX4_isRow) (n := 33) dX4_who_30 rfl wd_X4_48 okX4_isRow rfl (by omega) ⟨Nat.le_refl _, Nat.le_refl _⟩ (c_isRow' (d := d - 1) (by omega)) ?_
        rintro v30 hh30 ⟨rfl, rfl⟩
        refine s_if_eq (n := 36) (tgt := 47) dX4_who_33 rfl rfl (fun b33 => ?_) (fun b33 => ?_)
        · refine s_ldc (n := 49) dX4_who_47 rfl wd_X4_56 ?_
          refine s_ireturn dX4_who_49 rfl (rfl) (Nat.le_refl _) (Nat.le_refl _) ?_
          exact ⟨rfl, rfl⟩
        · refine s_iload (n := 38) dX4_who_36 rfl rfl ?_
          refine s_iconst (n := 39) (v := 1) dX4_who_38 rfl (by decide) ?_
          refine s_bipush (n := 41) (v := 12) dX4_who_39 rfl (by decide) ?_
          refine s_s3 (M' := MX4_isWithin) (n := 44) dX4_who_41 rfl wd_X4_52 okX4_isWithin rfl (by omega) ⟨Nat.le_refl _, Nat.le_refl _⟩ (c_within (d := d - 1) (A := 1) (B := 12) (by decide) (by decide)) ?_
          rintro v41 hh41 ⟨rfl, rfl⟩
          refine s_if_ne (n := 47) (tgt := 50) dX4_who_44 rfl rfl (fun b44 => ?_) (fun b44 => ?_)
          · exact absurd (⟨⟨if1 b5, if1 b14, if1 b22⟩, if1 b33, if1 b44⟩) hb
          · refine s_ldc (n := 49) dX4_who_47 rfl wd_X4_56 ?_
            refine s_ireturn dX4_who_49 rfl (rfl) (Nat.le_refl _) (Nat.le_refl _) ?_
            exact ⟨rfl, rfl⟩
      · refine s_ldc (n := 27) dX4_who_25 rfl wd_X4_56 ?_
        refine s_ireturn dX4_who_27 rfl (rfl) (Nat.le_refl _) (Nat.le_refl _) ?_
        exact ⟨rfl, rfl⟩
set_option maxRecDepth 100000 in
set_option maxHeartbeats 4000000 in
theorem k_who_f {G : mj_G} {h : mj_H} {d : Nat} {σ : Nat → Nat → Int32} (hX : XS G h σ) {n : Nat} (hn : σ 0 2 = nI n) (h7 : n ≤ 7) {x1 x2 x3 x5 x6 : Int32} {a : Nat} (ha : a < 8) (h1 : Hs n x1) (h2 : Wi x2 0 2) (h3 : Hs n x3) (h6 : Wi x6 1 12) (hf : ¬ fndR (σ 29 a) (σ 30 a) x5 x6 = 0) (hd : 3 ≤ d) : mj_con G MX4_who d 0 0 [.ref (G.1 + 0), .int x1, .int x2, .int x3, .int (nI a), .int x5, .int x6] h (fun v h' => v = some (.int (-1000010 - fndR (σ 29 a) (σ 30 a) x5 x6)) ∧ XS G h' (u2 (σ) 42 (upd (σ 42) 2 (fndR (σ 29 a) (σ 30 a) x5 x6))) ∧ mj_fr 0 220 h h') := by
  refine mj_conV okX4_who (ls := [some (.ref (G.1 + 0)), some (.int x1), some (.int x2), some (.int x3), some (.int (nI a)), some (.int x5), some (.int x6), none]) rfl rfl ?_
  obtain ⟨x0, x1, xt, xn, xf, xa, x188, x189, xr, xi⟩ := id hX
  obtain ⟨n0, n1, n2, n3, n4, n5, n6⟩ := id xn
  have a18 := xa.1
  have t2 := xt.1
  have t3 := xt.2
  have r0 := (xr a ha).1
  refine s_aload_n (n := 1) (i := 0) dX4_who_0 rfl rfl rfl ?_
  refine s_iload_n (n := 2) (i := 1) dX4_who_1 rfl rfl rfl ?_
  refine s_v1 (M' := MX4_isHouse) (n := 5) (ci := 4) dX4_who_2 rfl wd_X4_152 okX4_isHouse rfl rfl (by omega) ⟨Nat.le_refl _, Nat.le_refl _⟩ (by assumption) (c_isHouse (d := d - 1) hX hn h7 (by omega)) ?_
  rintro v2 hh2 ⟨rfl, rfl⟩
  refine s_if_eq (n := 8) (tgt := 25) dX4_who_5 rfl rfl (fun b5 => ?_) (fun b5 => ?_)
  · exact absurd (h1) (if0 b5)
  · refine s_iload_n (n := 9) (i := 2) dX4_who_8 rfl rfl rfl ?_
    refine s_iconst (n := 10) (v := 0) dX4_who_9 rfl (by decide) ?_
    refine s_iconst (n := 11) (v := 2) dX4_who_10 rfl (by decide) ?_
    refine s_s3 (M' := MX4_isWithin) (n := 14) dX4_who_11 rfl wd_X4_52 okX4_isWithin rfl (by omega) ⟨Nat.le_refl _, Nat.le_refl _⟩ (c_within (d := d - 1) (A := 0) (B := 2) (by decide) (by decide)) ?_
    rintro v11 hh11 ⟨rfl, rfl⟩
    refine s_if_eq (n := 17) (tgt := 25) dX4_who_14 rfl rfl (fun b14 => ?_) (fun b14 => ?_)
    · exact absurd (h2) (if0 b14)
    · refine s_aload_n (n := 18) (i := 0) dX4_who_17 rfl rfl rfl ?_
      refine s_iload_n (n := 19) (i := 3) dX4_who_18 rfl rfl rfl ?_
      refine s_v1 (M' := MX4_isHouse) (n := 22) (ci := 4) dX4_who_19 rfl wd_X4_152 okX4_isHouse rfl rfl (by omega) ⟨Nat.le_refl _, Nat.le_refl _⟩ (by assumption) (c_isHouse (d := d - 1) hX hn h7 (by omega)) ?_
      rintro v19 hh19 ⟨rfl, rfl⟩
      refine s_if_ne (n := 25) (tgt := 28) dX4_who_22 rfl rfl (fun b22 => ?_) (fun b22 => ?_)
      · refine s_iload (n := 30) dX4_who_28 rfl rfl ?_
        refine s_s1 (M' := MX4_isRow) (n := 33) dX4_who_30 rfl wd_X4_48 okX4_isRow rfl (by omega) ⟨Nat.le_refl _, Nat.le_refl _⟩ (c_isRow' (d := d - 1) (by omega)) ?_
        rintro v30 hh30 ⟨rfl, rfl⟩
        refine s_if_eq (n := 36) (tgt := 47) dX4_who_33 rfl rfl (fun b33 => ?_) (fun b33 => ?_)
        · exact absurd (Wi_n (by omega) (by omega) (by omega)) (if0 b33)
        · refine s_iload (n := 38) dX4_who_36 rfl rfl ?_
          refine s_iconst (n := 39) (v := 1) dX4_who_38 rfl (by decide) ?_
          refine s_bipush (n := 41) (v := 12) dX4_who_39 rfl (by decide) ?_
          refine s_s3 (M' := MX4_isWithin) (n := 44) dX4_who_41 rfl wd_X4_52 okX4_isWithin rfl (by omega) ⟨Nat.le_refl _, Nat.le_refl _⟩ (c_within (d := d - 1) (A := 1) (B := 12) (by decide) (by decide)) ?_
          rintro v41 hh41 ⟨rfl, rfl⟩
          refine s_if_ne (n := 47) (tgt := 50) dX4_who_44 rfl rfl (fun b44 => ?_) (fun b44 => ?_)
          · refine s_aload_n (n := 51) (i := 0) dX4_who_50 rfl rfl rfl ?_
            refine gf_X4_11 (n := 54) rfl dX4_who_51 rfl (by assumption) (by rfl) ?_
            refine s_iload (n := 56) dX4_who_54 rfl rfl ?_
            refine s_aald (n := 57) (t := 2) (C0 := RX1) dX4_who_56 rfl rfl (by assumption) (mj_ixn (by omega)) (rowA_at (by omega)) ?_
            refine s_iload (n := 59) dX4_who_57 rfl rfl ?_
            refine s_iload (n := 61) dX4_who_59 rfl rfl ?_
            refine s_v2 (M' := MX1_findingOf) (n := 64) (ci := 1) dX4_who_61 rfl wd_X4_68 okX1_findingOf rfl rfl (by omega) ⟨Nat.le_refl _, Nat.le_refl _⟩ (by assumption) (c_findingOf (d := d - 1) (xr a ha) (by omega)) ?_
            rintro v61 hh61 ⟨rfl, rfl⟩
            refine s_istore (n := 66) (i := 7) (ls' := [_, _, _, _, _, _, _, _]) dX4_who_64 rfl rfl rfl rfl ?_
            refine s_iload (n := 68) dX4_who_66 rfl rfl ?_
            refine s_if_eq (n := 71) (tgt := 80) dX4_who_68 rfl rfl (fun b68 => ?_) (fun b68 => ?_)
            · exact absurd b68 hf
            · refine s_aload_n (n := 72) (i := 0) dX4_who_71 rfl rfl rfl ?_
              refine s_iload (n := 74) dX4_who_72 rfl rfl ?_
              refine s_v1 (M' := MX4_found) (n := 77) (ci := 4) dX4_who_74 rfl wd_X4_57 okX4_found rfl rfl (by omega) ⟨Nat.le_refl _, Nat.le_refl _⟩ (by assumption) (c_found (d := d - 1) hX) ?_
              rintro v74 hh74 ⟨rfl, hX1, hF1⟩
              refine s_goto (tgt := 102) dX4_who_77 rfl ?_
              refine s_ireturn dX4_who_102 rfl (rfl) (Nat.le_refl _) (Nat.le_refl _) ?_
              exact ⟨rfl, hX1, hF1⟩
          · exact absurd (h6) (if0 b44)
      · exact absurd (h3) (if0 b22)
set_option maxRecDepth 100000 in
set_option maxHeartbeats 4000000 in
theorem k_who0 {G : mj_G} {h : mj_H} {d : Nat} {σ : Nat → Nat → Int32} (hX : XS G h σ) {n : Nat} (hn : σ 0 2 = nI n) (h7 : n ≤ 7) (hok : okK n (σ 0)) {j j2 a i k : Nat} (hj : j < n) (hj2 : j2 < n) (ha : a < 8) (hk1 : 1 ≤ k) (hk : k ≤ 12) (hik : i + k ≤ 40) (hf : fndR (σ 29 a) (σ 30 a) (nI i) (nI k) = 0) (hd : 6 ≤ d) : mj_con G MX4_who d 0 0 [.ref (G.1 + 0), .int (nI j), .int 0, .int (nI j2), .int (nI a), .int (nI i), .int (nI k)] h (rG G σ (fitF n j j2 6 (σ (34 + a)) i k (σ 0) 5 1 0) h) := by
  refine mj_conV okX4_who (ls := [some (.ref (G.1 + 0)), some (.int (nI j)), some (.int 0), some (.int (nI j2)), some (.int (nI a)), some (.int (nI i)), some (.int (nI k)), none]) rfl rfl ?_
  replace hX := XS_f hX
  obtain ⟨x0, x1, xt, xn, xf, xa, x188, x189, xr, xi⟩ := id hX
  replace x0 : _ = XO G (σ 42) := x0
  replace xn : mj_St G _ 4 (σ 0) := xn
  replace xf : mj_St G _ 11 (σ 1) := xf
  obtain ⟨n0, n1, n2, n3, n4, n5, n6⟩ := id xn
  obtain ⟨f0, f1, f2, f3, f4, f5, f6⟩ := id xf
  have r0 := (XS_rw hX ha).1
  refine s_aload_n (n := 1) (i := 0) dX4_who_0 rfl rfl rfl ?_
  refine s_iload_n (n := 2) (i := 1) dX4_who_1 rfl rfl rfl ?_
  refine s_v1 (M' := MX4_isHouse) (n := 5) (ci := 4) dX4_who_2 rfl wd_X4_152 okX4_isHouse rfl rfl (by omega) ⟨Nat.le_refl _, Nat.le_refl _⟩ (by assumption) (c_isHouse2 (d := d - 1) hX hn h7 (by omega)) ?_
  rintro v2 hh2 ⟨rfl, rfl⟩
  refine s_if_eq (n := 8) (tgt := 25) dX4_who_5 rfl rfl (fun b5 => ?_) (fun b5 => ?_)
  · exact absurd (Hs_n hj h7) (if0 b5)
  · refine s_iload_n (n := 9) (i := 2) dX4_who_8 rfl rfl rfl ?_
    refine s_iconst (n := 10) (v := 0) dX4_who_9 rfl (by decide) ?_
    refine s_iconst (n := 11) (v := 2) dX4_who_10 rfl (by decide) ?_
    refine s_s3 (M' := MX4_isWithin) (n := 14) dX4_who_11 rfl wd_X4_52 okX4_isWithin rfl (by omega) ⟨Nat.le_refl _, Nat.le_refl _⟩ (c_within (d := d - 1) (A := 0) (B := 2) (by decide) (by decide)) ?_
    rintro v11 hh11 ⟨rfl, rfl⟩
    refine s_if_eq (n := 17) (tgt := 25) dX4_who_14 rfl rfl (fun b14 => ?_) (fun b14 => ?_)
    · exact absurd (⟨by decide, by decide⟩) (if0 b14)
    · refine s_aload_n (n := 18) (i := 0) dX4_who_17 rfl rfl rfl ?_
      refine s_iload_n (n := 19) (i := 3) dX4_who_18 rfl rfl rfl ?_
      refine s_v1 (M' := MX4_isHouse) (n := 22) (ci := 4) dX4_who_19 rfl wd_X4_152 okX4_isHouse rfl rfl (by omega) ⟨Nat.le_refl _, Nat.le_refl _⟩ (by assumption) (c_isHouse2 (d := d - 1) hX hn h7 (by omega)) ?_
      rintro v19 hh19 ⟨rfl, rfl⟩
      refine s_if_ne (n := 25) (tgt := 28) dX4_who_22 rfl rfl (fun b22 => ?_) (fun b22 => ?_)
      · refine s_iload (n := 30) dX4_who_28 rfl rfl ?_
        refine s_s1 (M' := MX4_isRow) (n := 33) dX4_who_30 rfl wd_X4_48 okX4_isRow rfl (by omega) ⟨Nat.le_refl _, Nat.le_refl _⟩ (c_isRow' (d := d - 1) (by omega)) ?_
        rintro v30 hh30 ⟨rfl, rfl⟩
        refine s_if_eq (n := 36) (tgt := 47) dX4_who_33 rfl rfl (fun b33 => ?_) (fun b33 => ?_)
        · exact absurd (Wi_n (by omega) (by omega) (by omega)) (if0 b33)
        · refine s_iload (n := 38) dX4_who_36 rfl rfl ?_
          refine s_iconst (n := 39) (v := 1) dX4_who_38 rfl (by decide) ?_
          refine s_bipush (n := 41) (v := 12) dX4_who_39 rfl (by decide) ?_
          refine s_s3 (M' := MX4_isWithin) (n := 44) dX4_who_41 rfl wd_X4_52 okX4_isWithin rfl (by omega) ⟨Nat.le_refl _, Nat.le_refl _⟩ (c_within (d := d - 1) (A := 1) (B := 12) (by decide) (by decide)) ?_
          rintro v41 hh41 ⟨rfl, rfl⟩
          refine s_if_ne (n := 47) (tgt := 50) dX4_who_44 rfl rfl (fun b44 => ?_) (fun b44 => ?_)
          · refine s_aload_n (n := 51) (i := 0) dX4_who_50 rfl rfl rfl ?_
            refine gf_X4_11 (n := 54) rfl dX4_who_51 rfl (by assumption) (by rfl) ?_
            refine s_iload (n := 56) dX4_who_54 rfl rfl ?_
            refine s_aald (n := 57) (t := 2) (C0 := RX1) dX4_who_56 rfl rfl (by assumption) (mj_ixn (by omega)) (rowA_at (by omega)) ?_
            refine s_iload (n := 59) dX4_who_57 rfl rfl ?_
            refine s_iload (n := 61) dX4_who_59 rfl rfl ?_
            refine s_v2 (M' := MX1_findingOf) (n := 64) (ci := 1) dX4_who_61 rfl wd_X4_68 okX1_findingOf rfl rfl (by omega) ⟨Nat.le_refl _, Nat.le_refl _⟩ (by assumption) (c_findingOf (d := d - 1) (XS_rw hX ha) (by omega)) ?_
            rintro v61 hh61 ⟨rfl, rfl⟩
            refine s_istore (n := 66) (i := 7) (ls' := [_, _, _, _, _, _, _, _]) dX4_who_64 rfl rfl rfl rfl ?_
            refine s_iload (n := 68) dX4_who_66 rfl rfl ?_
            refine s_if_eq (n := 71) (tgt := 80) dX4_who_68 rfl rfl (fun b68 => ?_) (fun b68 => ?_)
            · refine s_aload_n (n := 81) (i := 0) dX4_who_80 rfl rfl rfl ?_
              refine s_aload_n (n := 82) (i := 0) dX4_who_81 rfl rfl rfl ?_
              refine s_iload_n (n := 83) (i := 1) dX4_who_82 rfl rfl rfl ?_
              refine s_iload_n (n := 84) (i := 2) dX4_who_83 rfl rfl rfl ?_
              refine s_iload_n (n := 85) (i := 3) dX4_who_84 rfl rfl rfl ?_
              refine s_aload_n (n := 86) (i := 0) dX4_who_85 rfl rfl rfl ?_
              refine gf_X4_11 (n := 89) rfl dX4_who_86 rfl (by assumption) (by rfl) ?_
              refine s_iload (n := 91) dX4_who_89 rfl rfl ?_
              refine s_aald (n := 92) (t := 2) (C0 := RX1) dX4_who_91 rfl rfl (by assumption) (mj_ixn (by omega)) (rowA_at (by omega)) ?_
              refine s_iload (n := 94) dX4_who_92 rfl rfl ?_
              refine s_iload (n := 96) dX4_who_94 rfl rfl ?_
              refine s_v6 (M' := MX4_allThatFit) (n := 99) (ci := 4) dX4_who_96 rfl wd_X4_215 okX4_allThatFit rfl rfl (by omega) ⟨Nat.le_refl _, Nat.le_refl _⟩ (by assumption) (c_fit0 (d := d - 1) hX hj hj2 ha hik hok (by omega)) ?_
              rintro v96 hh96 ⟨rfl, F1, hX1, hF1⟩
              have x0 := hX1.1
              refine s_v1 (M' := MX4_unfound) (n := 102) (ci := 4) dX4_who_99 rfl wd_X4_65 okX4_unfound rfl rfl (by omega) ⟨Nat.le_refl _, Nat.le_refl _⟩ (by assumption) (c_unfound2 (d := d - 1) hX1) ?_
              rintro v99 hh99 ⟨rfl, hX2, hF2⟩
              refine s_ireturn dX4_who_102 rfl (rfl) (Nat.le_refl _) (Nat.le_refl _) ?_
              exact ⟨rfl, _, hX2, fr_tr hF1 hF2⟩
            · exact absurd hf b68
          · exact absurd (Wi_n (by omega) (by omega) (by omega)) (if0 b44)
      · exact absurd (Hs_n hj2 h7) (if0 b22)
set_option maxRecDepth 100000 in
set_option maxHeartbeats 4000000 in
theorem k_who1 {G : mj_G} {h : mj_H} {d : Nat} {σ : Nat → Nat → Int32} (hX : XS G h σ) {n : Nat} (hn : σ 0 2 = nI n) (h7 : n ≤ 7) (hok : okK n (σ 0)) {j j2 a i k : Nat} (hj : j < n) (hj2 : j2 < n) (ha : a < 8) (hk1 : 1 ≤ k) (hk : k ≤ 12) (hik : i + k ≤ 40) (hf : fndR (σ 29 a) (σ 30 a) (nI i) (nI k) = 0) (hd : 6 ≤ d) : mj_con G MX4_who d 0 0 [.ref (G.1 + 0), .int (nI j), .int 1, .int (nI j2), .int (nI a), .int (nI i), .int (nI k)] h (rG G σ (fitF n j j2 13 (σ (34 + a)) i k (σ 0) 21 0 0) h) := by
  refine mj_conV okX4_who (ls := [some (.ref (G.1 + 0)), some (.int (nI j)), some (.int 1), some (.int (nI j2)), some (.int (nI a)), some (.int (nI i)), some (.int (nI k)), none]) rfl rfl ?_
  replace hX := XS_f hX
  obtain ⟨x0, x1, xt, xn, xf, xa, x188, x189, xr, xi⟩ := id hX
  replace x0 : _ = XO G (σ 42) := x0
  replace xn : mj_St G _ 4 (σ 0) := xn
  replace xf : mj_St G _ 11 (σ 1) := xf
  obtain ⟨n0, n1, n2, n3, n4, n5, n6⟩ := id xn
  obtain ⟨f0, f1, f2, f3, f4, f5, f6⟩ := id xf
  have r0 := (XS_rw hX ha).1
  refine s_aload_n (n := 1) (i := 0) dX4_who_0 rfl rfl rfl ?_
  refine s_iload_n (n := 2) (i := 1) dX4_who_1 rfl rfl rfl ?_
  refine s_v1 (M' := MX4_isHouse) (n := 5) (ci := 4) dX4_who_2 rfl wd_X4_152 okX4_isHouse rfl rfl (by omega) ⟨Nat.le_refl _, Nat.le_refl _⟩ (by assumption) (c_isHouse2 (d := d - 1) hX hn h7 (by omega)) ?_
  rintro v2 hh2 ⟨rfl, rfl⟩
  refine s_if_eq (n := 8) (tgt := 25) dX4_who_5 rfl rfl (fun b5 => ?_) (fun b5 => ?_)
  · exact absurd (Hs_n hj h7) (if0 b5)
  · refine s_iload_n (n := 9) (i := 2) dX4_who_8 rfl rfl rfl ?_
    refine s_iconst (n := 10) (v := 0) dX4_who_9 rfl (by decide) ?_
    refine s_iconst (n := 11) (v := 2) dX4_who_10 rfl (by decide) ?_
    refine s_s3 (M' := MX4_isWithin) (n := 14) dX4_who_11 rfl wd_X4_52 okX4_isWithin rfl (by omega) ⟨Nat.le_refl _, Nat.le_refl _⟩ (c_within (d := d - 1) (A := 0) (B := 2) (by decide) (by decide)) ?_
    rintro v11 hh11 ⟨rfl, rfl⟩
    refine s_if_eq (n := 17) (tgt := 25) dX4_who_14 rfl rfl (fun b14 => ?_) (fun b14 => ?_)
    · exact absurd (⟨by decide, by decide⟩) (if0 b14)
    · refine s_aload_n (n := 18) (i := 0) dX4_who_17 rfl rfl rfl ?_
      refine s_iload_n (n := 19) (i := 3) dX4_who_18 rfl rfl rfl ?_
      refine s_v1 (M' := MX4_isHouse) (n := 22) (ci := 4) dX4_who_19 rfl wd_X4_152 okX4_isHouse rfl rfl (by omega) ⟨Nat.le_refl _, Nat.le_refl _⟩ (by assumption) (c_isHouse2 (d := d - 1) hX hn h7 (by omega)) ?_
      rintro v19 hh19 ⟨rfl, rfl⟩
      refine s_if_ne (n := 25) (tgt := 28) dX4_who_22 rfl rfl (fun b22 => ?_) (fun b22 => ?_)
      · refine s_iload (n := 30) dX4_who_28 rfl rfl ?_
        refine s_s1 (M' := MX4_isRow) (n := 33) dX4_who_30 rfl wd_X4_48 okX4_isRow rfl (by omega) ⟨Nat.le_refl _, Nat.le_refl _⟩ (c_isRow' (d := d - 1) (by omega)) ?_
        rintro v30 hh30 ⟨rfl, rfl⟩
        refine s_if_eq (n := 36) (tgt := 47) dX4_who_33 rfl rfl (fun b33 => ?_) (fun b33 => ?_)
        · exact absurd (Wi_n (by omega) (by omega) (by omega)) (if0 b33)
        · refine s_iload (n := 38) dX4_who_36 rfl rfl ?_
          refine s_iconst (n := 39) (v := 1) dX4_who_38 rfl (by decide) ?_
          refine s_bipush (n := 41) (v := 12) dX4_who_39 rfl (by decide) ?_
          refine s_s3 (M' := MX4_isWithin) (n := 44) dX4_who_41 rfl wd_X4_52 okX4_isWithin rfl (by omega) ⟨Nat.le_refl _, Nat.le_refl _⟩ (c_within (d := d - 1) (A := 1) (B := 12) (by decide) (by decide)) ?_
          rintro v41 hh41 ⟨rfl, rfl⟩
          refine s_if_ne (n := 47) (tgt := 50) dX4_who_44 rfl rfl (fun b44 => ?_) (fun b44 => ?_)
          · refine s_aload_n (n := 51) (i := 0) dX4_who_50 rfl rfl rfl ?_
            refine gf_X4_11 (n := 54) rfl dX4_who_51 rfl (by assumption) (by rfl) ?_
            refine s_iload (n := 56) dX4_who_54 rfl rfl ?_
            refine s_aald (n := 57) (t := 2) (C0 := RX1) dX4_who_56 rfl rfl (by assumption) (mj_ixn (by omega)) (rowA_at (by omega)) ?_
            refine s_iload (n := 59) dX4_who_57 rfl rfl ?_
            refine s_iload (n := 61) dX4_who_59 rfl rfl ?_
            refine s_v2 (M' := MX1_findingOf) (n := 64) (ci := 1) dX4_who_61 rfl wd_X4_68 okX1_findingOf rfl rfl (by omega) ⟨Nat.le_refl _, Nat.le_refl _⟩ (by assumption) (c_findingOf (d := d - 1) (XS_rw hX ha) (by omega)) ?_
            rintro v61 hh61 ⟨rfl, rfl⟩
            refine s_istore (n := 66) (i := 7) (ls' := [_, _, _, _, _, _, _, _]) dX4_who_64 rfl rfl rfl rfl ?_
            refine s_iload (n := 68) dX4_who_66 rfl rfl ?_
            refine s_if_eq (n := 71) (tgt := 80) dX4_who_68 rfl rfl (fun b68 => ?_) (fun b68 => ?_)
            · refine s_aload_n (n := 81) (i := 0) dX4_who_80 rfl rfl rfl ?_
              refine s_aload_n (n := 82) (i := 0) dX4_who_81 rfl rfl rfl ?_
              refine s_iload_n (n := 83) (i := 1) dX4_who_82 rfl rfl rfl ?_
              refine s_iload_n (n := 84) (i := 2) dX4_who_83 rfl rfl rfl ?_
              refine s_iload_n (n := 85) (i := 3) dX4_who_84 rfl rfl rfl ?_
              refine s_aload_n (n := 86) (i := 0) dX4_who_85 rfl rfl rfl ?_
              refine gf_X4_11 (n := 89) rfl dX4_who_86 rfl (by assumption) (by rfl) ?_
              refine s_iload (n := 91) dX4_who_89 rfl rfl ?_
              refine s_aald (n := 92) (t := 2) (C0 := RX1) dX4_who_91 rfl rfl (by assumption) (mj_ixn (by omega)) (rowA_at (by omega)) ?_
              refine s_iload (n := 94) dX4_who_92 rfl rfl ?_
              refine s_iload (n := 96) dX4_who_94 rfl rfl ?_
              refine s_v6 (M' := MX4_allThatFit) (n := 99) (ci := 4) dX4_who_96 rfl wd_X4_215 okX4_allThatFit rfl rfl (by omega) ⟨Nat.le_refl _, Nat.le_refl _⟩ (by assumption) (c_fit1 (d := d - 1) hX hj hj2 ha hik hok (by omega)) ?_
              rintro v96 hh96 ⟨rfl, F1, hX1, hF1⟩
              have x0 := hX1.1
              refine s_v1 (M' := MX4_unfound) (n := 102) (ci := 4) dX4_who_99 rfl wd_X4_65 okX4_unfound rfl rfl (by omega) ⟨Nat.le_refl _, Nat.le_refl _⟩ (by assumption) (c_unfound2 (d := d - 1) hX1) ?_
              rintro v99 hh99 ⟨rfl, hX2, hF2⟩
              refine s_ireturn dX4_who_102 rfl (rfl) (Nat.le_refl _) (Nat.le_refl _) ?_
              exact ⟨rfl, _, hX2, fr_tr hF1 hF2⟩
            · exact absurd hf b68
          · exact absurd (Wi_n (by omega) (by omega) (by omega)) (if0 b44)
      · exact absurd (Hs_n hj2 h7) (if0 b22)
set_option maxRecDepth 100000 in
set_option maxHeartbeats 4000000 in
theorem k_who2 {G : mj_G} {h : mj_H} {d : Nat} {σ : Nat → Nat → Int32} (hX : XS G h σ) {n : Nat} (hn : σ 0 2 = nI n) (h7 : n ≤ 7) (hok : okK n (σ 0)) {j j2 a i k : Nat} (hj : j < n) (hj2 : j2 < n) (ha : a < 8) (hk1 : 1 ≤ k) (hk : k ≤ 12) (hik : i + k ≤ 40) (hf : fndR (σ 29 a) (σ 30 a) (nI i) (nI k) = 0) (hd : 6 ≤ d) : mj_con G MX4_who d 0 0 [.ref (G.1 + 0), .int (nI j), .int 2, .int (nI j2), .int (nI a), .int (nI i), .int (nI k)] h (rG G σ (fitF n j j2 20 (σ (34 + a)) i k (σ 0) 9 1 0) h) := by
  refine mj_conV okX4_who (ls := [some (.ref (G.1 + 0)), some (.int (nI j)), some (.int 2), some (.int (nI j2)), some (.int (nI a)), some (.int (nI i)), some (.int (nI k)), none]) rfl rfl ?_
  replace hX := XS_f hX
  obtain ⟨x0, x1, xt, xn, xf, xa, x188, x189, xr, xi⟩ := id hX
  replace x0 : _ = XO G (σ 42) := x0
  replace xn : mj_St G _ 4 (σ 0) := xn
  replace xf : mj_St G _ 11 (σ 1) := xf
  obtain ⟨n0, n1, n2, n3, n4, n5, n6⟩ := id xn
  obtain ⟨f0, f1, f2, f3, f4, f5, f6⟩ := id xf
  have r0 := (XS_rw hX ha).1
  refine s_aload_n (n := 1) (i := 0) dX4_who_0 rfl rfl rfl ?_
  refine s_iload_n (n := 2) (i := 1) dX4_who_1 rfl rfl rfl ?_
  refine s_v1 (M' := MX4_isHouse) (n := 5) (ci := 4) dX4_who_2 rfl wd_X4_152 okX4_isHouse rfl rfl (by omega) ⟨Nat.le_refl _, Nat.le_refl _⟩ (by assumption) (c_isHouse2 (d := d - 1) hX hn h7 (by omega)) ?_
  rintro v2 hh2 ⟨rfl, rfl⟩
  refine s_if_eq (n := 8) (tgt := 25) dX4_who_5 rfl rfl (fun b5 => ?_) (fun b5 => ?_)
  · exact absurd (Hs_n hj h7) (if0 b5)
  · refine s_iload_n (n := 9) (i := 2) dX4_who_8 rfl rfl rfl ?_
    refine s_iconst (n := 10) (v := 0) dX4_who_9 rfl (by decide) ?_
    refine s_iconst (n := 11) (v := 2) dX4_who_10 rfl (by decide) ?_
    refine s_s3 (M' := MX4_isWithin) (n := 14) dX4_who_11 rfl wd_X4_52 okX4_isWithin rfl (by omega) ⟨Nat.le_refl _, Nat.le_refl _⟩ (c_within (d := d - 1) (A := 0) (B := 2) (by decide) (by decide)) ?_
    rintro v11 hh11 ⟨rfl, rfl⟩
    refine s_if_eq (n := 17) (tgt := 25) dX4_who_14 rfl rfl (fun b14 => ?_) (fun b14 => ?_)
    · exact absurd (⟨by decide, by decide⟩) (if0 b14)
    · refine s_aload_n (n := 18) (i := 0) dX4_who_17 rfl rfl rfl ?_
      refine s_iload_n (n := 19) (i := 3) dX4_who_18 rfl rfl rfl ?_
      refine s_v1 (M' := MX4_isHouse) (n := 22) (ci := 4) dX4_who_19 rfl wd_X4_152 okX4_isHouse rfl rfl (by omega) ⟨Nat.le_refl _, Nat.le_refl _⟩ (by assumption) (c_isHouse2 (d := d - 1) hX hn h7 (by omega)) ?_
      rintro v19 hh19 ⟨rfl, rfl⟩
      refine s_if_ne (n := 25) (tgt := 28) dX4_who_22 rfl rfl (fun b22 => ?_) (fun b22 => ?_)
      · refine s_iload (n := 30) dX4_who_28 rfl rfl ?_
        refine s_s1 (M' := MX4_isRow) (n := 33) dX4_who_30 rfl wd_X4_48 okX4_isRow rfl (by omega) ⟨Nat.le_refl _, Nat.le_refl _⟩ (c_isRow' (d := d - 1) (by omega)) ?_
        rintro v30 hh30 ⟨rfl, rfl⟩
        refine s_if_eq (n := 36) (tgt := 47) dX4_who_33 rfl rfl (fun b33 => ?_) (fun b33 => ?_)
        · exact absurd (Wi_n (by omega) (by omega) (by omega)) (if0 b33)
        · refine s_iload (n := 38) dX4_who_36 rfl rfl ?_
          refine s_iconst (n := 39) (v := 1) dX4_who_38 rfl (by decide) ?_
          refine s_bipush (n := 41) (v := 12) dX4_who_39 rfl (by decide) ?_
          refine s_s3 (M' := MX4_isWithin) (n := 44) dX4_who_41 rfl wd_X4_52 okX4_isWithin rfl (by omega) ⟨Nat.le_refl _, Nat.le_refl _⟩ (c_within (d := d - 1) (A := 1) (B := 12) (by decide) (by decide)) ?_
          rintro v41 hh41 ⟨rfl, rfl⟩
          refine s_if_ne (n := 47) (tgt := 50) dX4_who_44 rfl rfl (fun b44 => ?_) (fun b44 => ?_)
          · refine s_aload_n (n := 51) (i := 0) dX4_who_50 rfl rfl rfl ?_
            refine gf_X4_11 (n := 54) rfl dX4_who_51 rfl (by assumption) (by rfl) ?_
            refine s_iload (n := 56) dX4_who_54 rfl rfl ?_
            refine s_aald (n := 57) (t := 2) (C0 := RX1) dX4_who_56 rfl rfl (by assumption) (mj_ixn (by omega)) (rowA_at (by omega)) ?_
            refine s_iload (n := 59) dX4_who_57 rfl rfl ?_
            refine s_iload (n := 61) dX4_who_59 rfl rfl ?_
            refine s_v2 (M' := MX1_findingOf) (n := 64) (ci := 1) dX4_who_61 rfl wd_X4_68 okX1_findingOf rfl rfl (by omega) ⟨Nat.le_refl _, Nat.le_refl _⟩ (by assumption) (c_findingOf (d := d - 1) (XS_rw hX ha) (by omega)) ?_
            rintro v61 hh61 ⟨rfl, rfl⟩
            refine s_istore (n := 66) (i := 7) (ls' := [_, _, _, _, _, _, _, _]) dX4_who_64 rfl rfl rfl rfl ?_
            refine s_iload (n := 68) dX4_who_66 rfl rfl ?_
            refine s_if_eq (n := 71) (tgt := 80) dX4_who_68 rfl rfl (fun b68 => ?_) (fun b68 => ?_)
            · refine s_aload_n (n := 81) (i := 0) dX4_who_80 rfl rfl rfl ?_
              refine s_aload_n (n := 82) (i := 0) dX4_who_81 rfl rfl rfl ?_
              refine s_iload_n (n := 83) (i := 1) dX4_who_82 rfl rfl rfl ?_
              refine s_iload_n (n := 84) (i := 2) dX4_who_83 rfl rfl rfl ?_
              refine s_iload_n (n := 85) (i := 3) dX4_who_84 rfl rfl rfl ?_
              refine s_aload_n (n := 86) (i := 0) dX4_who_85 rfl rfl rfl ?_
              refine gf_X4_11 (n := 89) rfl dX4_who_86 rfl (by assumption) (by rfl) ?_
              refine s_iload (n := 91) dX4_who_89 rfl rfl ?_
              refine s_aald (n := 92) (t := 2) (C0 := RX1) dX4_who_91 rfl rfl (by assumption) (mj_ixn (by omega)) (rowA_at (by omega)) ?_
              refine s_iload (n := 94) dX4_who_92 rfl rfl ?_
              refine s_iload (n := 96) dX4_who_94 rfl rfl ?_
              refine s_v6 (M' := MX4_allThatFit) (n := 99) (ci := 4) dX4_who_96 rfl wd_X4_215 okX4_allThatFit rfl rfl (by omega) ⟨Nat.le_refl _, Nat.le_refl _⟩ (by assumption) (c_fit2 (d := d - 1) hX hj hj2 ha hik hok (by omega)) ?_
              rintro v96 hh96 ⟨rfl, F1, hX1, hF1⟩
              have x0 := hX1.1
              refine s_v1 (M' := MX4_unfound) (n := 102) (ci := 4) dX4_who_99 rfl wd_X4_65 okX4_unfound rfl rfl (by omega) ⟨Nat.le_refl _, Nat.le_refl _⟩ (by assumption) (c_unfound2 (d := d - 1) hX1) ?_
              rintro v99 hh99 ⟨rfl, hX2, hF2⟩
              refine s_ireturn dX4_who_102 rfl (rfl) (Nat.le_refl _) (Nat.le_refl _) ?_
              exact ⟨rfl, _, hX2, fr_tr hF1 hF2⟩
            · exact absurd hf b68
          · exact absurd (Wi_n (by omega) (by omega) (by omega)) (if0 b44)
      · exact absurd (Hs_n hj2 h7) (if0 b22)
def siF (n j : Nat) (it : Nat → Int32) (i k : Nat) (T : Nat → Int32) : Nat → Nat → Int32 → Int32
  | 0, _, acc => acc
  | r + 1, v, acc => if hs T (nI v) then siF n j it i k T r (v + 1) acc else siF n j it i k T r (v + 1) (acc ||| (if asF n j it i k 0 (upd T 4 (T 4 ||| (1 <<< (nI v &&& 31)))) = 0 then (0 : Int32) else 1 <<< (nI v &&& 31)))
set_option maxRecDepth 100000 in
set_option maxHeartbeats 4000000 in
theorem l_silent {G : mj_G} {h0 : mj_H} {d n j a i k : Nat} {σ : Nat → Nat → Int32} (hj : j < n) (ha : a < 8) (hik : i + k ≤ 40) (hok : okK n (σ 0)) (hd : 5 ≤ d) : ∀ (r v : Nat), v + r = n → ∀ (h : mj_H) (F : Nat → Int32) (acc : Int32), XS G h (u2 σ 1 F) → mj_fr 0 220 h0 h → mj_wp G MX4_silentOnesThatFit d 0 0 35 [some (.ref (G.1 + 0)), some (.int (nI j)), some (.ref (G.1 + (190 + 2 * a))), some (.int (nI i)), some (.int (nI k)), some (.int acc), some (.int (nI v))] [] h 0 0 (rF G σ (siF n j (σ (34 + a)) i k (σ 0) r v acc) h0) := by
  have h7 := hok.2.1
  have hn := hok.1
  intro r
  induction r with
  | zero =>
    intro v hv h F acc hX hFx
    obtain ⟨x0, x1, xt, xn, xf, xa, x188, x189, xr, xi⟩ := id hX
    replace x0 : _ = XO G (σ 42) := x0
    replace xn : mj_St G _ 4 (σ 0) := xn
    replace xf : mj_St G _ 11 (F) := xf
    obtain ⟨n0, n1, n2, n3, n4, n5, n6⟩ := id xn
    obtain ⟨f0, f1, f2, f3, f4, f5, f6⟩ := id xf
    refine s_iload (n := 37) dX4_silentOnesThatFit_35 rfl rfl ?_
    refine s_aload_n (n := 38) (i := 0) dX4_silentOnesThatFit_37 rfl rfl rfl ?_
    refine gf_X4_25 (n := 41) rfl dX4_silentOnesThatFit_38 rfl (by assumption) (by rfl) ?_
    refine gf_X4_127 (n := 44) rfl dX4_silentOnesThatFit_41 rfl (by assumption) (by rfl) ?_
    refine s_icmp_ge (n := 47) (tgt := 117) dX4_silentOnesThatFit_44 rfl rfl (fun b44 => ?_) (fun b44 => ?_)
    · refine s_iload (n := 119) dX4_silentOnesThatFit_117 rfl rfl ?_
      refine s_ireturn dX4_silentOnesThatFit_119 rfl (rfl) (Nat.le_refl _) (Nat.le_refl _) ?_
      exact ⟨rfl, _, hX, hFx⟩
    · rw [hn] at b44
      exact absurd ((nI_leE (by omega) (by omega)).mpr (by omega)) b44
  | succ r ih =>
    intro v hv h F acc hX hFx
    obtain ⟨x0, x1, xt, xn, xf, xa, x188, x189, xr, xi⟩ := id hX
    replace x0 : _ = XO G (σ 42) := x0
    replace xn : mj_St G _ 4 (σ 0) := xn
    replace xf : mj_St G _ 11 (F) := xf
    obtain ⟨n0, n1, n2, n3, n4, n5, n6⟩ := id xn
    obtain ⟨f0, f1, f2, f3, f4, f5, f6⟩ := id xf
    refine s_iload (n := 37) dX4_silentOnesThatFit_35 rfl rfl ?_
    refine s_aload_n (n := 38) (i := 0) dX4_silentOnesThatFit_37 rfl rfl rfl ?_
    refine gf_X4_25 (n := 41) rfl dX4_silentOnesThatFit_38 rfl (by assumption) (by rfl) ?_
    refine gf_X4_127 (n := 44) rfl dX4_silentOnesThatFit_41 rfl (by assumption) (by rfl) ?_
    refine s_icmp_ge (n := 47) (tgt := 117) dX4_silentOnesThatFit_44 rfl rfl (fun b44 => ?_) (fun b44 => ?_)
    · rw [hn] at b44
      exact absurd ((nI_leE (by omega) (by omega)).mp b44) (by omega)
    · refine s_aload_n (n := 48) (i := 0) dX4_silentOnesThatFit_47 rfl rfl rfl ?_
      refine gf_X4_25 (n := 51) rfl dX4_silentOnesThatFit_48 rfl (by assumption) (by rfl) ?_
      refine s_iload (n := 53) dX4_silentOnesThatFit_51 rfl rfl ?_
      refine s_v1 (M' := MX2_isHushed) (n := 56) (ci := 2) dX4_silentOnesThatFit_53 rfl wd_X4_158 okX2_isHushed rfl rfl (by omega) ⟨Nat.le_refl _, Nat.le_refl _⟩ (by assumption) (c_isHushed (d := d - 1) xn) ?_
      rintro v53 hh53 ⟨rfl, rfl⟩
      refine s_if_ne (n := 59) (tgt := 111) dX4_silentOnesThatFit_56 rfl rfl (fun b56 => ?_) (fun b56 => ?_)
      · have e : siF n j (σ (34 + a)) i k (σ 0) (r + 1) v acc = siF n j (σ (34 + a)) i k (σ 0) r (v + 1) acc := if_pos (if1 b56)
        refine s_iinc (n := 114) (v := _ + 1) (ls' := [_, _, _, _, _, _, _]) dX4_silentOnesThatFit_111 rfl rfl rfl rfl rfl ?_
        refine s_goto (tgt := 35) dX4_silentOnesThatFit_114 rfl ?_
        rw [nI_1, e]
        exact ih (v + 1) (by omega) _ _ _ hX hFx
      · refine s_aload_n (n := 60) (i := 0) dX4_silentOnesThatFit_59 rfl rfl rfl ?_
        refine gf_X4_29 (n := 63) rfl dX4_silentOnesThatFit_60 rfl (by assumption) (by rfl) ?_
        refine s_aload_n (n := 64) (i := 0) dX4_silentOnesThatFit_63 rfl rfl rfl ?_
        refine gf_X4_25 (n := 67) rfl dX4_silentOnesThatFit_64 rfl (by assumption) (by rfl) ?_
        refine s_v1 (M' := MX2_takeFrom) (n := 70) (ci := 2) dX4_silentOnesThatFit_67 rfl wd_X4_120 okX2_takeFrom rfl rfl (by omega) ⟨Nat.le_refl _, Nat.le_refl _⟩ (by assumption) (c_takeFrom (d := d - 1) xf xn (by omega) (by omega)) ?_
        rintro v67 hh67 ⟨rfl, hS1, hF1⟩
        replace hX := XS_for2 hX hS1 hF1
        replace hFx := fr_tr hFx (fr_wid (p' := 0) (w' := 220) hF1 (by omega) (by omega))
        obtain ⟨x0, x1, xt, xn, xf, xa, x188, x189, xr, xi⟩ := id hX
        replace x0 : _ = XO G (σ 42) := x0
        replace xn : mj_St G _ 4 (σ 0) := xn
        replace xf : mj_St G _ 11 (σ 0) := xf
        obtain ⟨n0, n1, n2, n3, n4, n5, n6⟩ := id xn
        obtain ⟨f0, f1, f2, f3, f4, f5, f6⟩ := id xf
        refine s_aload_n (n := 71) (i := 0) dX4_silentOnesThatFit_70 rfl rfl rfl ?_
        refine gf_X4_29 (n := 74) rfl dX4_silentOnesThatFit_71 rfl (by assumption) (by rfl) ?_
        refine s_dup (n := 75) dX4_silentOnesThatFit_74 rfl rfl ?_
        refine gf_X4_161 (n := 78) rfl dX4_silentOnesThatFit_75 rfl (by assumption) (by rfl) ?_
        refine s_iconst (n := 79) (v := 1) dX4_silentOnesThatFit_78 rfl (by decide) ?_
        refine s_iload (n := 81) dX4_silentOnesThatFit_79 rfl rfl ?_
        refine s_ishl (n := 82) dX4_silentOnesThatFit_81 rfl ?_
        refine s_ior (n := 83) dX4_silentOnesThatFit_82 rfl ?_
        refine pf_X4_161 (n := 86) (fs' := [_, _, _, _, _, _, _, _, _, _, _, _]) rfl dX4_silentOnesThatFit_83 rfl (by assumption) (by rfl) (by rfl) ?_
        refine XF_hushed hX (fun h2 hX2 hF2 => ?_)
        replace hX := hX2
        replace hFx := fr_tr hFx hF2
        obtain ⟨x0, x1, xt, xn, xf, xa, x188, x189, xr, xi⟩ := id hX
        replace x0 : _ = XO G (σ 42) := x0
        replace xn : mj_St G _ 4 (σ 0) := xn
        replace xf : mj_St G _ 11 (upd (σ 0) 4 (σ 0 4 ||| (1 <<< (nI v &&& 31)))) := xf
        obtain ⟨n0, n1, n2, n3, n4, n5, n6⟩ := id xn
        obtain ⟨f0, f1, f2, f3, f4, f5, f6⟩ := id xf
        refine s_iload (n := 88) dX4_silentOnesThatFit_86 rfl rfl ?_
        refine s_aload_n (n := 89) (i := 0) dX4_silentOnesThatFit_88 rfl rfl rfl ?_
        refine s_iload_n (n := 90) (i := 1) dX4_silentOnesThatFit_89 rfl rfl rfl ?_
        refine s_aload_n (n := 91) (i := 2) dX4_silentOnesThatFit_90 rfl rfl rfl ?_
        refine s_iload_n (n := 92) (i := 3) dX4_silentOnesThatFit_91 rfl rfl rfl ?_
        refine s_iload (n := 94) dX4_silentOnesThatFit_92 rfl rfl ?_
        refine s_v4 (M' := MX4_isAsTold) (n := 97) (ci := 4) dX4_silentOnesThatFit_94 rfl wd_X4_282 okX4_isAsTold rfl rfl (by omega) ⟨Nat.le_refl _, Nat.le_refl _⟩ (by assumption) (c_isAsTold (d := d - 1) hX (by omega) ha hik (okK_up hok (by omega) (by omega)) (by omega)) ?_
        rintro v94 hh94 ⟨rfl, F2, hX2, hF3⟩
        replace hX := hX2
        replace hFx := fr_tr hFx hF3
        obtain ⟨x0, x1, xt, xn, xf, xa, x188, x189, xr, xi⟩ := id hX
        replace x0 : _ = XO G (σ 42) := x0
        replace xn : mj_St G _ 4 (σ 0) := xn
        replace xf : mj_St G _ 11 (F2) := xf
        obtain ⟨n0, n1, n2, n3, n4, n5, n6⟩ := id xn
        obtain ⟨f0, f1, f2, f3, f4, f5, f6⟩ := id xf
        refine s_if_eq (n := 100) (tgt := 107) dX4_silentOnesThatFit_97 rfl rfl (fun b97 => ?_) (fun b97 => ?_)
        · have e : siF n j (σ (34 + a)) i k (σ 0) (r + 1) v acc = siF n j (σ (34 + a)) i k (σ 0) r (v + 1) (acc ||| 0) := by
            refine (if_neg (if0 b56)).trans ?_
            rw [if_pos b97]
          refine s_iconst (n := 108) (v := 0) dX4_silentOnesThatFit_107 rfl (by decide) ?_
          refine s_ior (n := 109) dX4_silentOnesThatFit_108 rfl ?_
          refine s_istore (n := 111) (i := 5) (ls' := [_, _, _, _, _, _, _]) dX4_silentOnesThatFit_109 rfl rfl rfl rfl ?_
          refine s_iinc (n := 114) (v := _ + 1) (ls' := [_, _, _, _, _, _, _]) dX4_silentOnesThatFit_111 rfl rfl rfl rfl rfl ?_
          refine s_goto (tgt := 35) dX4_silentOnesThatFit_114 rfl ?_
          rw [nI_1, e]
          exact ih (v + 1) (by omega) _ _ _ hX hFx
        · have e : siF n j (σ (34 + a)) i k (σ 0) (r + 1) v acc = siF n j (σ (34 + a)) i k (σ 0) r (v + 1) (acc ||| (1 <<< (nI v &&& 31))) := by
            refine (if_neg (if0 b56)).trans ?_
            rw [if_neg b97]
          refine s_iconst (n := 101) (v := 1) dX4_silentOnesThatFit_100 rfl (by decide) ?_
          refine s_iload (n := 103) dX4_silentOnesThatFit_101 rfl rfl ?_
          refine s_ishl (n := 104) dX4_silentOnesThatFit_103 rfl ?_
          refine s_goto (tgt := 108) dX4_silentOnesThatFit_104 rfl ?_
          refine s_ior (n := 109) dX4_silentOnesThatFit_108 rfl ?_
          refine s_istore (n := 111) (i := 5) (ls' := [_, _, _, _, _, _, _]) dX4_silentOnesThatFit_109 rfl rfl rfl rfl ?_
          refine s_iinc (n := 114) (v := _ + 1) (ls' := [_, _, _, _, _, _, _]) dX4_silentOnesThatFit_111 rfl rfl rfl rfl rfl ?_
          refine s_goto (tgt := 35) dX4_silentOnesThatFit_114 rfl ?_
          rw [nI_1, e]
          exact ih (v + 1) (by omega) _ _ _ hX hFx
set_option maxRecDepth 100000 in
set_option maxHeartbeats 4000000 in
theorem c_silentOnes {G : mj_G} {h : mj_H} {d : Nat} {σ : Nat → Nat → Int32} {F : Nat → Int32} (hX : XS G h (u2 σ 1 F)) {n j a i k : Nat} (hj : j < n) (ha : a < 8) (hik : i + k ≤ 40) (hok : okK n (σ 0)) (hd : 5 ≤ d) : mj_con G MX4_silentOnesThatFit d 0 0 [.ref (G.1 + 0), .int (nI j), .ref (G.1 + (190 + 2 * a)), .int (nI i), .int (nI k)] h (rF G σ (siF n j (σ (34 + a)) i k (σ 0) n 0 (if asF n j (σ (34 + a)) i k 0 (σ 0) = 0 then 0 else 128)) h) := by
  refine mj_conV okX4_silentOnesThatFit (ls := [some (.ref (G.1 + 0)), some (.int (nI j)), some (.ref (G.1 + (190 + 2 * a))), some (.int (nI i)), some (.int (nI k)), none, none]) rfl rfl ?_
  have h7 := hok.2.1
  obtain ⟨x0, x1, xt, xn, xf, xa, x188, x189, xr, xi⟩ := id hX
  replace x0 : _ = XO G (σ 42) := x0
  replace xn : mj_St G _ 4 (σ 0) := xn
  replace xf : mj_St G _ 11 (F) := xf
  obtain ⟨n0, n1, n2, n3, n4, n5, n6⟩ := id xn
  obtain ⟨f0, f1, f2, f3, f4, f5, f6⟩ := id xf
  refine s_aload_n (n := 1) (i := 0) dX4_silentOnesThatFit_0 rfl rfl rfl ?_
  refine gf_X4_29 (n := 4) rfl dX4_silentOnesThatFit_1 rfl (by assumption) (by rfl) ?_
  refine s_aload_n (n := 5) (i := 0) dX4_silentOnesThatFit_4 rfl rfl rfl ?_
  refine gf_X4_25 (n := 8) rfl dX4_silentOnesThatFit_5 rfl (by assumption) (by rfl) ?_
  refine s_v1 (M' := MX2_takeFrom) (n := 11) (ci := 2) dX4_silentOnesThatFit_8 rfl wd_X4_120 okX2_takeFrom rfl rfl (by omega) ⟨Nat.le_refl _, Nat.le_refl _⟩ (by assumption) (c_takeFrom (d := d - 1) xf xn (by omega) (by omega)) ?_
  rintro v8 hh8 ⟨rfl, hS1, hF1⟩
  replace hX := XS_for2 hX hS1 hF1
  have hFx := fr_wid (p' := 0) (w' := 220) hF1 (by omega) (by omega)
  obtain ⟨x0, x1, xt, xn, xf, xa, x188, x189, xr, xi⟩ := id hX
  replace x0 : _ = XO G (σ 42) := x0
  replace xn : mj_St G _ 4 (σ 0) := xn
  replace xf : mj_St G _ 11 (σ 0) := xf
  obtain ⟨n0, n1, n2, n3, n4, n5, n6⟩ := id xn
  obtain ⟨f0, f1, f2, f3, f4, f5, f6⟩ := id xf
  refine s_aload_n (n := 12) (i := 0) dX4_silentOnesThatFit_11 rfl rfl rfl ?_
  refine s_iload_n (n := 13) (i := 1) dX4_silentOnesThatFit_12 rfl rfl rfl ?_
  refine s_aload_n (n := 14) (i := 2) dX4_silentOnesThatFit_13 rfl rfl rfl ?_
  refine s_iload_n (n := 15) (i := 3) dX4_silentOnesThatFit_14 rfl rfl rfl ?_
  refine s_iload (n := 17) dX4_silentOnesThatFit_15 rfl rfl ?_
  refine s_v4 (M' := MX4_isAsTold) (n := 20) (ci := 4) dX4_silentOnesThatFit_17 rfl wd_X4_282 okX4_isAsTold rfl rfl (by omega) ⟨Nat.le_refl _, Nat.le_refl _⟩ (by assumption) (c_isAsTold (d := d - 1) hX (by omega) ha hik (hok) (by omega)) ?_
  rintro v17 hh17 ⟨rfl, F2, hX2, hF3⟩
  replace hX := hX2
  replace hFx := fr_tr hFx hF3
  obtain ⟨x0, x1, xt, xn, xf, xa, x188, x189, xr, xi⟩ := id hX
  replace x0 : _ = XO G (σ 42) := x0
  replace xn : mj_St G _ 4 (σ 0) := xn
  replace xf : mj_St G _ 11 (F2) := xf
  obtain ⟨n0, n1, n2, n3, n4, n5, n6⟩ := id xn
  obtain ⟨f0, f1, f2, f3, f4, f5, f6⟩ := id xf
  refine s_if_eq (n := 23) (tgt := 29) dX4_silentOnesThatFit_20 rfl rfl (fun b20 => ?_) (fun b20 => ?_)
  · rw [if_pos b20]
    refine s_iconst (n := 30) (v := 0) dX4_silentOnesThatFit_29 rfl (by decide) ?_
    refine s_istore (n := 32) (i := 5) (ls' := [_, _, _, _, _, _, _]) dX4_silentOnesThatFit_30 rfl rfl rfl rfl ?_
    refine s_iconst (n := 33) (v := 0) dX4_silentOnesThatFit_32 rfl (by decide) ?_
    refine s_istore (n := 35) (i := 6) (ls' := [_, _, _, _, _, _, _]) dX4_silentOnesThatFit_33 rfl rfl rfl rfl ?_
    exact l_silent hj ha hik hok (by omega) n 0 (by omega) _ _ _ hX hFx
  · rw [if_neg b20]
    refine s_sipush (n := 26) (v := 128) dX4_silentOnesThatFit_23 rfl (by decide) ?_
    refine s_goto (tgt := 30) dX4_silentOnesThatFit_26 rfl ?_
    refine s_istore (n := 32) (i := 5) (ls' := [_, _, _, _, _, _, _]) dX4_silentOnesThatFit_30 rfl rfl rfl rfl ?_
    refine s_iconst (n := 33) (v := 0) dX4_silentOnesThatFit_32 rfl (by decide) ?_
    refine s_istore (n := 35) (i := 6) (ls' := [_, _, _, _, _, _, _]) dX4_silentOnesThatFit_33 rfl rfl rfl rfl ?_
    exact l_silent hj ha hik hok (by omega) n 0 (by omega) _ _ _ hX hFx
set_option maxRecDepth 100000 in
set_option maxHeartbeats 4000000 in
theorem k_silent_bad {G : mj_G} {h : mj_H} {d : Nat} {σ : Nat → Nat → Int32} (hX : XS G h σ) {n : Nat} (hn : σ 0 2 = nI n) (h7 : n ≤ 7) {x1 x2 x3 x4 : Int32} (hb : ¬ (Hs n x1 ∧ Wi x2 0 7 ∧ Wi x4 1 12)) (hd : 2 ≤ d) : mj_con G MX4_silent d 0 0 [.ref (G.1 + 0), .int x1, .int x2, .int x3, .int x4] h (rI (-1000001) h) := by
  refine mj_conV okX4_silent (ls := [some (.ref (G.1 + 0)), some (.int x1), some (.int x2), some (.int x3), some (.int x4), none]) rfl rfl ?_
  obtain ⟨x0, x1, xt, xn, xf, xa, x188, x189, xr, xi⟩ := id hX
  obtain ⟨n0, n1, n2, n3, n4, n5, n6⟩ := id xn
  have a18 := xa.1
  have t2 := xt.1
  have t3 := xt.2
  refine s_aload_n (n := 1) (i := 0) dX4_silent_0 rfl rfl rfl ?_
  refine s_iload_n (n := 2) (i := 1) dX4_silent_1 rfl rfl rfl ?_
  refine s_v1 (M' := MX4_isHouse) (n := 5) (ci := 4) dX4_silent_2 rfl wd_X4_152 okX4_isHouse rfl rfl (by omega) ⟨Nat.le_refl _, Nat.le_refl _⟩ (by assumption) (c_isHouse (d := d - 1) hX hn h7 (by omega)) ?_
  rintro v2 hh2 ⟨rfl, rfl⟩
  refine s_if_eq (n := 8) (tgt := 26) dX4_silent_5 rfl rfl (fun b5 => ?_) (fun b5 => ?_)
  · refine s_ldc (n := 28) dX4_silent_26 rfl wd_X4_56 ?_
    refine s_ireturn dX4_silent_28 rfl (rfl) (Nat.le_refl _) (Nat.le_refl _) ?_
    exact ⟨rfl, rfl⟩
  · refine s_iload_n (n := 9) (i := 2) dX4_silent_8 rfl rfl rfl ?_
    refine s_s1 (M' := MX4_isRow) (n := 12) dX4_silent_9 rfl wd_X4_48 okX4_isRow rfl (by omega) ⟨Nat.le_refl _, Nat.le_refl _⟩ (c_isRow' (d := d - 1) (by omega)) ?_
    rintro v9 hh9 ⟨rfl, rfl⟩
    refine s_if_eq (n := 15) (tgt := 26) dX4_silent_12 rfl rfl (fun b12 => ?_) (fun b12 => ?_)
    · refine s_ldc (n := 28) dX4_silent_26 rfl wd_X4_56 ?_
      refine s_ireturn dX4_silent_28 rfl (rfl) (Nat.le_refl _) (Nat.le_refl _) ?_
      exact ⟨rfl, rfl⟩
    · refine s_iload (n := 17) dX4_silent_15 rfl rfl ?_
      refine s_iconst (n := 18) (v := 1) dX4_silent_17 rfl (by decide) ?_
      refine s_bipush (n := 20) (v := 12) dX4_silent_18 rfl (by decide) ?_
      refine s_s3 (M' := MX4_isWithin) (n := 23) dX4_silent_20 rfl wd_X4_52 okX4_isWithin rfl (by omega) ⟨Nat.le_refl _, Nat.le_refl _⟩ (c_within (d := d - 1) (A := 1) (B := 12) (by decide) (by decide)) ?_
      rintro v20 hh20 ⟨rfl, rfl⟩
      refine s_if_ne (n := 26) (tgt := 29) dX4_silent_23 rfl rfl (fun b23 => ?_) (fun b23 => ?_)
      · exact absurd (⟨if1 b5, if1 b12, if1 b23⟩) hb
      · refine s_ldc (n := 28) dX4_silent_26 rfl wd_X4_56 ?_
        refine s_ireturn dX4_silent_28 rfl (rfl) (Nat.le_refl _) (Nat.le_refl _) ?_
        exact ⟨rfl, rfl⟩
set_option maxRecDepth 100000 in
set_option maxHeartbeats 4000000 in
theorem k_silent_f {G : mj_G} {h : mj_H} {d : Nat} {σ : Nat → Nat → Int32} (hX : XS G h σ) {n : Nat} (hn : σ 0 2 = nI n) (h7 : n ≤ 7) {x1 x3 x4 : Int32} {a : Nat} (ha : a < 8) (h1 : Hs n x1) (h4 : Wi x4 1 12) (hf : ¬ fndR (σ 29 a) (σ 30 a) x3 x4 = 0) (hd : 3 ≤ d) : mj_con G MX4_silent d 0 0 [.ref (G.1 + 0), .int x1, .int (nI a), .int x3, .int x4] h (fun v h' => v = some (.int (-1000010 - fndR (σ 29 a) (σ 30 a) x3 x4)) ∧ XS G h' (u2 (σ) 42 (upd (σ 42) 2 (fndR (σ 29 a) (σ 30 a) x3 x4))) ∧ mj_fr 0 220 h h') := by
  refine mj_conV okX4_silent (ls := [some (.ref (G.1 + 0)), some (.int x1), some (.int (nI a)), some (.int x3), some (.int x4), none]) rfl rfl ?_
  obtain ⟨x0, x1, xt, xn, xf, xa, x188, x189, xr, xi⟩ := id hX
  obtain ⟨n0, n1, n2, n3, n4, n5, n6⟩ := id xn
  have a18 := xa.1
  have t2 := xt.1
  have t3 := xt.2
  have r0 := (xr a ha).1
  refine s_aload_n (n := 1) (i := 0) dX4_silent_0 rfl rfl rfl ?_
  refine s_iload_n (n := 2) (i := 1) dX4_silent_1 rfl rfl rfl ?_
  refine s_v1 (M' := MX4_isHouse) (n := 5) (ci := 4) dX4_silent_2 rfl wd_X4_152 okX4_isHouse rfl rfl (by omega) ⟨Nat.le_refl _, Nat.le_refl _⟩ (by assumption) (c_isHouse (d := d - 1) hX hn h7 (by omega)) ?_
  rintro v2 hh2 ⟨rfl, rfl⟩
  refine s_if_eq (n := 8) (tgt := 26) dX4_silent_5 rfl rfl (fun b5 => ?_) (fun b5 => ?_)
  · exact absurd (h1) (if0 b5)
  · refine s_iload_n (n := 9) (i := 2) dX4_silent_8 rfl rfl rfl ?_
    refine s_s1 (M' := MX4_isRow) (n := 12) dX4_silent_9 rfl wd_X4_48 okX4_isRow rfl (by omega) ⟨Nat.le_refl _, Nat.le_refl _⟩ (c_isRow' (d := d - 1) (by omega)) ?_
    rintro v9 hh9 ⟨rfl, rfl⟩
    refine s_if_eq (n := 15) (tgt := 26) dX4_silent_12 rfl rfl (fun b12 => ?_) (fun b12 => ?_)
    · exact absurd (Wi_n (by omega) (by omega) (by omega)) (if0 b12)
    · refine s_iload (n := 17) dX4_silent_15 rfl rfl ?_
      refine s_iconst (n := 18) (v := 1) dX4_silent_17 rfl (by decide) ?_
      refine s_bipush (n := 20) (v := 12) dX4_silent_18 rfl (by decide) ?_
      refine s_s3 (M' := MX4_isWithin) (n := 23) dX4_silent_20 rfl wd_X4_52 okX4_isWithin rfl (by omega) ⟨Nat.le_refl _, Nat.le_refl _⟩ (c_within (d := d - 1) (A := 1) (B := 12) (by decide) (by decide)) ?_
      rintro v20 hh20 ⟨rfl, rfl⟩
      refine s_if_ne (n := 26) (tgt := 29) dX4_silent_23 rfl rfl (fun b23 => ?_) (fun b23 => ?_)
      · refine s_aload_n (n := 30) (i := 0) dX4_silent_29 rfl rfl rfl ?_
        refine gf_X4_11 (n := 33) rfl dX4_silent_30 rfl (by assumption) (by rfl) ?_
        refine s_iload_n (n := 34) (i := 2) dX4_silent_33 rfl rfl rfl ?_
        refine s_aald (n := 35) (t := 2) (C0 := RX1) dX4_silent_34 rfl rfl (by assumption) (mj_ixn (by omega)) (rowA_at (by omega)) ?_
        refine s_iload_n (n := 36) (i := 3) dX4_silent_35 rfl rfl rfl ?_
        refine s_iload (n := 38) dX4_silent_36 rfl rfl ?_
        refine s_v2 (M' := MX1_findingOf) (n := 41) (ci := 1) dX4_silent_38 rfl wd_X4_68 okX1_findingOf rfl rfl (by omega) ⟨Nat.le_refl _, Nat.le_refl _⟩ (by assumption) (c_findingOf (d := d - 1) (xr a ha) (by omega)) ?_
        rintro v38 hh38 ⟨rfl, rfl⟩
        refine s_istore (n := 43) (i := 5) (ls' := [_, _, _, _, _, _]) dX4_silent_41 rfl rfl rfl rfl ?_
        refine s_iload (n := 45) dX4_silent_43 rfl rfl ?_
        refine s_if_eq (n := 48) (tgt := 57) dX4_silent_45 rfl rfl (fun b45 => ?_) (fun b45 => ?_)
        · exact absurd b45 hf
        · refine s_aload_n (n := 49) (i := 0) dX4_silent_48 rfl rfl rfl ?_
          refine s_iload (n := 51) dX4_silent_49 rfl rfl ?_
          refine s_v1 (M' := MX4_found) (n := 54) (ci := 4) dX4_silent_51 rfl wd_X4_57 okX4_found rfl rfl (by omega) ⟨Nat.le_refl _, Nat.le_refl _⟩ (by assumption) (c_found (d := d - 1) hX) ?_
          rintro v51 hh51 ⟨rfl, hX1, hF1⟩
          refine s_goto (tgt := 75) dX4_silent_54 rfl ?_
          refine s_ireturn dX4_silent_75 rfl (rfl) (Nat.le_refl _) (Nat.le_refl _) ?_
          exact ⟨rfl, hX1, hF1⟩
      · exact absurd (h4) (if0 b23)
set_option maxRecDepth 100000 in
set_option maxHeartbeats 4000000 in
theorem k_silent {G : mj_G} {h : mj_H} {d : Nat} {σ : Nat → Nat → Int32} (hX : XS G h σ) {n : Nat} (hn : σ 0 2 = nI n) (h7 : n ≤ 7) (hok : okK n (σ 0)) {j a i k : Nat} (hj : j < n) (ha : a < 8) (hk1 : 1 ≤ k) (hk : k ≤ 12) (hik : i + k ≤ 40) (hf : fndR (σ 29 a) (σ 30 a) (nI i) (nI k) = 0) (hd : 6 ≤ d) : mj_con G MX4_silent d 0 0 [.ref (G.1 + 0), .int (nI j), .int (nI a), .int (nI i), .int (nI k)] h (rG G σ (siF n j (σ (34 + a)) i k (σ 0) n 0 (if asF n j (σ (34 + a)) i k 0 (σ 0) = 0 then 0 else 128)) h) := by
  refine mj_conV okX4_silent (ls := [some (.ref (G.1 + 0)), some (.int (nI j)), some (.int (nI a)), some (.int (nI i)), some (.int (nI k)), none]) rfl rfl ?_
  replace hX := XS_f hX
  obtain ⟨x0, x1, xt, xn, xf, xa, x188, x189, xr, xi⟩ := id hX
  replace x0 : _ = XO G (σ 42) := x0
  replace xn : mj_St G _ 4 (σ 0) := xn
  replace xf : mj_St G _ 11 (σ 1) := xf
  obtain ⟨n0, n1, n2, n3, n4, n5, n6⟩ := id xn
  obtain ⟨f0, f1, f2, f3, f4, f5, f6⟩ := id xf
  have r0 := (XS_rw hX ha).1
  refine s_aload_n (n := 1) (i := 0) dX4_silent_0 rfl rfl rfl ?_
  refine s_iload_n (n := 2) (i := 1) dX4_silent_1 rfl rfl rfl ?_
  refine s_v1 (M' := MX4_isHouse) (n := 5) (ci := 4) dX4_silent_2 rfl wd_X4_152 okX4_isHouse rfl rfl (by omega) ⟨Nat.le_refl _, Nat.le_refl _⟩ (by assumption) (c_isHouse2 (d := d - 1) hX hn h7 (by omega)) ?_
  rintro v2 hh2 ⟨rfl, rfl⟩
  refine s_if_eq (n := 8) (tgt := 26) dX4_silent_5 rfl rfl (fun b5 => ?_) (fun b5 => ?_)
  · exact absurd (Hs_n hj h7) (if0 b5)
  · refine s_iload_n (n := 9) (i := 2) dX4_silent_8 rfl rfl rfl ?_
    refine s_s1 (M' := MX4_isRow) (n := 12) dX4_silent_9 rfl wd_X4_48 okX4_isRow rfl (by omega) ⟨Nat.le_refl _, Nat.le_refl _⟩ (c_isRow' (d := d - 1) (by omega)) ?_
    rintro v9 hh9 ⟨rfl, rfl⟩
    refine s_if_eq (n := 15) (tgt := 26) dX4_silent_12 rfl rfl (fun b12 => ?_) (fun b12 => ?_)
    · exact absurd (Wi_n (by omega) (by omega) (by omega)) (if0 b12)
    · refine s_iload (n := 17) dX4_silent_15 rfl rfl ?_
      refine s_iconst (n := 18) (v := 1) dX4_silent_17 rfl (by decide) ?_
      refine s_bipush (n := 20) (v := 12) dX4_silent_18 rfl (by decide) ?_
      refine s_s3 (M' := MX4_isWithin) (n := 23) dX4_silent_20 rfl wd_X4_52 okX4_isWithin rfl (by omega) ⟨Nat.le_refl _, Nat.le_refl _⟩ (c_within (d := d - 1) (A := 1) (B := 12) (by decide) (by decide)) ?_
      rintro v20 hh20 ⟨rfl, rfl⟩
      refine s_if_ne (n := 26) (tgt := 29) dX4_silent_23 rfl rfl (fun b23 => ?_) (fun b23 => ?_)
      · refine s_aload_n (n := 30) (i := 0) dX4_silent_29 rfl rfl rfl ?_
        refine gf_X4_11 (n := 33) rfl dX4_silent_30 rfl (by assumption) (by rfl) ?_
        refine s_iload_n (n := 34) (i := 2) dX4_silent_33 rfl rfl rfl ?_
        refine s_aald (n := 35) (t := 2) (C0 := RX1) dX4_silent_34 rfl rfl (by assumption) (mj_ixn (by omega)) (rowA_at (by omega)) ?_
        refine s_iload_n (n := 36) (i := 3) dX4_silent_35 rfl rfl rfl ?_
        refine s_iload (n := 38) dX4_silent_36 rfl rfl ?_
        refine s_v2 (M' := MX1_findingOf) (n := 41) (ci := 1) dX4_silent_38 rfl wd_X4_68 okX1_findingOf rfl rfl (by omega) ⟨Nat.le_refl _, Nat.le_refl _⟩ (by assumption) (c_findingOf (d := d - 1) (XS_rw hX ha) (by omega)) ?_
        rintro v38 hh38 ⟨rfl, rfl⟩
        refine s_istore (n := 43) (i := 5) (ls' := [_, _, _, _, _, _]) dX4_silent_41 rfl rfl rfl rfl ?_
        refine s_iload (n := 45) dX4_silent_43 rfl rfl ?_
        refine s_if_eq (n := 48) (tgt := 57) dX4_silent_45 rfl rfl (fun b45 => ?_) (fun b45 => ?_)
        · refine s_aload_n (n := 58) (i := 0) dX4_silent_57 rfl rfl rfl ?_
          refine s_aload_n (n := 59) (i := 0) dX4_silent_58 rfl rfl rfl ?_
          refine s_iload_n (n := 60) (i := 1) dX4_silent_59 rfl rfl rfl ?_
          refine s_aload_n (n := 61) (i := 0) dX4_silent_60 rfl rfl rfl ?_
          refine gf_X4_11 (n := 64) rfl dX4_silent_61 rfl (by assumption) (by rfl) ?_
          refine s_iload_n (n := 65) (i := 2) dX4_silent_64 rfl rfl rfl ?_
          refine s_aald (n := 66) (t := 2) (C0 := RX1) dX4_silent_65 rfl rfl (by assumption) (mj_ixn (by omega)) (rowA_at (by omega)) ?_
          refine s_iload_n (n := 67) (i := 3) dX4_silent_66 rfl rfl rfl ?_
          refine s_iload (n := 69) dX4_silent_67 rfl rfl ?_
          refine s_v4 (M' := MX4_silentOnesThatFit) (n := 72) (ci := 4) dX4_silent_69 rfl wd_X4_219 okX4_silentOnesThatFit rfl rfl (by omega) ⟨Nat.le_refl _, Nat.le_refl _⟩ (by assumption) (c_silentOnes (d := d - 1) hX hj ha hik hok (by omega)) ?_
          rintro v69 hh69 ⟨rfl, F1, hX1, hF1⟩
          have x0 := hX1.1
          refine s_v1 (M' := MX4_unfound) (n := 75) (ci := 4) dX4_silent_72 rfl wd_X4_65 okX4_unfound rfl rfl (by omega) ⟨Nat.le_refl _, Nat.le_refl _⟩ (by assumption) (c_unfound2 (d := d - 1) hX1) ?_
          rintro v72 hh72 ⟨rfl, hX2, hF2⟩
          refine s_ireturn dX4_silent_75 rfl (rfl) (Nat.le_refl _) (Nat.le_refl _) ?_
          exact ⟨rfl, _, hX2, fr_tr hF1 hF2⟩
        · exact absurd hf b45
      · exact absurd (Wi_n (by omega) (by omega) (by omega)) (if0 b23)
def powL (b : Int64) : Nat → Int64
  | 0 => 1
  | m + 1 => powL b m * b
def gcF : Nat → Int64 → Int64 → Int64
  | 0, g, _ => g
  | t + 1, g, r => if r = 0 then g else gcF t r (g - g / r * r)
theorem lc0 {x y : Int64} : lg_cmp x y = 0 ↔ x = y := by
  unfold lg_cmp
  by_cases h : x > y
  · rw [if_pos h]
    constructor
    · intro q; exact absurd q (by decide)
    · intro q; rw [q] at h; exact absurd h (Int64.lt_irrefl)
  · rw [if_neg h]
    by_cases h2 : x = y
    · rw [if_pos h2]; exact ⟨fun _ => h2, fun _ => rfl⟩
    · rw [if_neg h2]
      constructor
      · intro q; exact absurd q (by decide)
      · intro q; exact absurd q h2
theorem lcp {x y : Int64} : 0 < lg_cmp x y ↔ y < x := by
  unfold lg_cmp
  by_cases h : x > y
  · rw [if_pos h]
    exact ⟨fun _ => h, fun _ => by decide⟩
  · rw [if_neg h]
    by_cases h2 : x = y
    · rw [if_pos h2]
      exact ⟨fun q => absurd q (by decide), fun q => absurd q h⟩
    · rw [if_neg h2]
      exact ⟨fun q => absurd q (by decide), fun q => absurd q h⟩
set_option maxRecDepth 100000 in
set_option maxHeartbeats 4000000 in
theorem l_power {G : mj_G} {h : mj_H} {d t : Nat} {b : Int64} {x : Int32} (hx : x.toNatClampNeg = t) (ht : t < 1000) : ∀ (r i : Nat), i + r = t → mj_wp G MX4_power d 0 0 5 [some (.long b), none, some (.int x), some (.long (powL b i)), none, some (.int (nI i))] [] h 0 0 (rL (powL b t) h) := by
  have key : ∀ i : Nat, i ≤ t → (x ≤ nI i ↔ t ≤ i) := by
    intro i hi
    have e : (nI i).toInt = (i : Int) := nI_toInt (by omega)
    rw [i_le, e]
    have : x.toNatClampNeg = x.toInt.toNat := rfl
    omega
  intro r
  induction r with
  | zero =>
    intro i hi
    have hit : i = t := by omega
    subst hit
    refine s_iload (n := 7) dX4_power_5 rfl rfl ?_
    refine s_iload_n (n := 8) (i := 2) dX4_power_7 rfl rfl rfl ?_
    refine s_icmp_ge (n := 11) (tgt := 21) dX4_power_8 rfl rfl (fun b8 => ?_) (fun b8 => ?_)
    · refine s_lload_n (n := 22) (i := 3) dX4_power_21 rfl rfl rfl ?_
      refine s_lreturn dX4_power_22 rfl (Nat.le_refl _) (Nat.le_refl _) ?_
      exact ⟨rfl, rfl⟩
    · exact absurd ((key i (by omega)).mpr (by omega)) b8
  | succ r ih =>
    intro i hi
    refine s_iload (n := 7) dX4_power_5 rfl rfl ?_
    refine s_iload_n (n := 8) (i := 2) dX4_power_7 rfl rfl rfl ?_
    refine s_icmp_ge (n := 11) (tgt := 21) dX4_power_8 rfl rfl (fun b8 => ?_) (fun b8 => ?_)
    · exact absurd ((key i (by omega)).mp b8) (by omega)
    · refine s_lload_n (n := 12) (i := 3) dX4_power_11 rfl rfl rfl ?_
      refine s_lload_n (n := 13) (i := 0) dX4_power_12 rfl rfl rfl ?_
      refine s_lmul (n := 14) dX4_power_13 rfl ?_
      refine s_lstore_n (n := 15) (i := 3) (ls' := [_, _, _, _, _, _]) dX4_power_14 rfl rfl rfl rfl rfl ?_
      refine s_iinc (n := 18) (v := _ + 1) (ls' := [_, _, _, _, _, _]) dX4_power_15 rfl rfl rfl rfl rfl ?_
      refine s_goto (tgt := 5) dX4_power_18 rfl ?_
      rw [nI_1]
      exact ih (i + 1) (by omega)
set_option maxRecDepth 100000 in
set_option maxHeartbeats 4000000 in
theorem c_power {G : mj_G} {h : mj_H} {d : Nat} {b : Int64} {x : Int32} {t : Nat} (hx : x.toNatClampNeg = t) (ht : t < 1000) : mj_con G MX4_power d 0 0 [.long b, .int x] h (rL (powL b t) h) := by
  refine mj_conS okX4_power (ls := [some (.long b), none, some (.int x), none, none, none]) rfl rfl ?_
  refine s_lconst (n := 1) (v := 1) dX4_power_0 rfl (by decide) ?_
  refine s_lstore_n (n := 2) (i := 3) (ls' := [_, _, _, _, _, _]) dX4_power_1 rfl rfl rfl rfl rfl ?_
  refine s_iconst (n := 3) (v := 0) dX4_power_2 rfl (by decide) ?_
  refine s_istore (n := 5) (i := 5) (ls' := [_, _, _, _, _, _]) dX4_power_3 rfl rfl rfl rfl ?_
  exact l_power hx ht t 0 (by omega)
set_option maxRecDepth 100000 in
set_option maxHeartbeats 4000000 in
theorem l_gcd {G : mj_G} {h : mj_H} {d : Nat} {a b : Int64} : ∀ (r i : Nat), i + r = 200 → ∀ (x y : Int64) (l9 : Option Value), mj_wp G MX4_commonDivisor d 0 0 9 [some (.long a), none, some (.long b), none, some (.long x), none, some (.long y), none, some (.int (nI i)), l9, none] [] h 0 0 (rL (gcF r x y) h) := by
  intro r
  induction r with
  | zero =>
    intro i hi x y l9
    refine s_iload (n := 11) dX4_commonDivisor_9 rfl rfl ?_
    refine s_sipush (n := 14) (v := 200) dX4_commonDivisor_11 rfl (by decide) ?_
    refine s_icmp_ge (n := 17) (tgt := 45) dX4_commonDivisor_14 rfl rfl (fun b14 => ?_) (fun b14 => ?_)
    · refine s_lload (n := 47) dX4_commonDivisor_45 rfl rfl ?_
      refine s_lreturn dX4_commonDivisor_47 rfl (Nat.le_refl _) (Nat.le_refl _) ?_
      exact ⟨rfl, rfl⟩
    · exact absurd ((nI_leE (a := 200) (by omega) (by omega)).mpr (by omega)) b14
  | succ r ih =>
    intro i hi x y l9
    refine s_iload (n := 11) dX4_commonDivisor_9 rfl rfl ?_
    refine s_sipush (n := 14) (v := 200) dX4_commonDivisor_11 rfl (by decide) ?_
    refine s_icmp_ge (n := 17) (tgt := 45) dX4_commonDivisor_14 rfl rfl (fun b14 => ?_) (fun b14 => ?_)
    · exact absurd ((nI_leE (a := 200) (by omega) (by omega)).mp b14) (by omega)
    · refine s_lload (n := 19) dX4_commonDivisor_17 rfl rfl ?_
      refine s_lconst (n := 20) (v := 0) dX4_commonDivisor_19 rfl (by decide) ?_
      refine s_lcmp (n := 21) dX4_commonDivisor_20 rfl ?_
      refine s_if_eq (n := 24) (tgt := 45) dX4_commonDivisor_21 rfl rfl (fun b21 => ?_) (fun b21 => ?_)
      · have q := lc0.mp b21
        refine s_lload (n := 47) dX4_commonDivisor_45 rfl rfl ?_
        refine s_lreturn dX4_commonDivisor_47 rfl (Nat.le_refl _) (Nat.le_refl _) ?_
        unfold gcF
        rw [if_pos q]
        exact ⟨rfl, rfl⟩
      · have q : ¬ y = 0 := fun z => b21 (lc0.mpr z)
        refine s_lload (n := 26) dX4_commonDivisor_24 rfl rfl ?_
        refine s_lload (n := 28) dX4_commonDivisor_26 rfl rfl ?_
        refine s_lrem (n := 29) dX4_commonDivisor_28 rfl (by first | assumption | decide) ?_
        refine s_lstore (n := 31) (i := 9) (ls' := [_, _, _, _, _, _, _, _, _, _, _]) dX4_commonDivisor_29 rfl rfl rfl rfl ?_
        refine s_lload (n := 33) dX4_commonDivisor_31 rfl rfl ?_
        refine s_lstore (n := 35) (i := 4) (ls' := [_, _, _, _, _, _, _, _, _, _, _]) dX4_commonDivisor_33 rfl rfl rfl rfl ?_
        refine s_lload (n := 37) dX4_commonDivisor_35 rfl rfl ?_
        refine s_lstore (n := 39) (i := 6) (ls' := [_, _, _, _, _, _, _, _, _, _, _]) dX4_commonDivisor_37 rfl rfl rfl rfl ?_
        refine s_iinc (n := 42) (v := _ + 1) (ls' := [_, _, _, _, _, _, _, _, _, _, _]) dX4_commonDivisor_39 rfl rfl rfl rfl rfl ?_
        refine s_goto (tgt := 9) dX4_commonDivisor_42 rfl ?_
        rw [nI_1]
        unfold gcF
        rw [if_neg q]
        exact ih (i + 1) (by omega) _ _ _
set_option maxRecDepth 100000 in
set_option maxHeartbeats 4000000 in
theorem c_gcd {G : mj_G} {h : mj_H} {d : Nat} {a b : Int64} : mj_con G MX4_commonDivisor d 0 0 [.long a, .long b] h (rL (gcF 200 a b) h) := by
  refine mj_conS okX4_commonDivisor (ls := [some (.long a), none, some (.long b), none, none, none, none, none, none, none, none]) rfl rfl ?_
  refine s_lload_n (n := 1) (i := 0) dX4_commonDivisor_0 rfl rfl rfl ?_
  refine s_lstore (n := 3) (i := 4) (ls' := [_, _, _, _, _, _, _, _, _, _, _]) dX4_commonDivisor_1 rfl rfl rfl rfl ?_
  refine s_lload_n (n := 4) (i := 2) dX4_commonDivisor_3 rfl rfl rfl ?_
  refine s_lstore (n := 6) (i := 6) (ls' := [_, _, _, _, _, _, _, _, _, _, _]) dX4_commonDivisor_4 rfl rfl rfl rfl ?_
  refine s_iconst (n := 7) (v := 0) dX4_commonDivisor_6 rfl (by decide) ?_
  refine s_istore (n := 9) (i := 8) (ls' := [_, _, _, _, _, _, _, _, _, _, _]) dX4_commonDivisor_7 rfl rfl rfl rfl ?_
  exact l_gcd 200 0 (by omega) _ _ _
abbrev rFL (G : mj_G) (σ : Nat → Nat → Int32) (A : Int64) (h : mj_H) : Option Value → mj_H → Prop := fun v h' => v = some (.long A) ∧ ∃ F, XS G h' (u2 σ 1 F) ∧ mj_fr 0 220 h h'
def csF (n k : Nat) (q : Int32) (T : Nat → Int32) : Nat → Nat → Int64 → Int64
  | 0, _, acc => acc
  | r + 1, s, acc => if nI s &&& T 4 = 0 ∧ mns n k (upd T 4 (T 4 ||| nI s)) 1 < mns n k (upd T 4 (T 4 ||| nI s)) 5 then csF n k q T r (s + 1) (acc + powL q.toInt64 (bc (nI s)).toNatClampNeg * powL (10 - q).toInt64 ((nI n - bc (T 4)) - bc (nI s)).toNatClampNeg) else csF n k q T r (s + 1) acc
set_option maxRecDepth 100000 in
set_option maxHeartbeats 4000000 in
theorem l_cases {G : mj_G} {h0 : mj_H} {d n k : Nat} {σ : Nat → Nat → Int32} {q : Int32} (hk : k ≤ 40) (hok : okK n (σ 0)) (hp1 : ∀ s, s < 2 ^ n → (bc (nI s)).toNatClampNeg < 1000) (hp2 : ∀ s, s < 2 ^ n → ((nI n - bc (σ 0 4)) - bc (nI s)).toNatClampNeg < 1000) (hd : 6 ≤ d) : ∀ (r s : Nat), s + r = 2 ^ n → ∀ (h : mj_H) (F : Nat → Int32) (acc : Int64) (l7 : Option Value), XS G h (u2 σ 1 F) → mj_fr 0 220 h0 h → mj_wp G MX4_casesOverPlank d 0 0 25 [some (.ref (G.1 + 0)), some (.int (nI k)), some (.int q), some (.int (nI n - bc (σ 0 4))), some (.long acc), none, some (.int (nI s)), l7] [] h 0 0 (rFL G σ (csF n k q (σ 0) r s acc) h0) := by
  have h7 := hok.2.1
  have hn := hok.1
  have hp := pow_le7 h7
  intro r
  induction r with
  | zero =>
    intro s hs h F acc l7 hX hFx
    obtain ⟨x0, x1, xt, xn, xf, xa, x188, x189, xr, xi⟩ := id hX
    replace x0 : _ = XO G (σ 42) := x0
    replace xn : mj_St G _ 4 (σ 0) := xn
    replace xf : mj_St G _ 11 (F) := xf
    obtain ⟨n0, n1, n2, n3, n4, n5, n6⟩ := id xn
    obtain ⟨f0, f1, f2, f3, f4, f5, f6⟩ := id xf
    refine s_iload (n := 27) dX4_casesOverPlank_25 rfl rfl ?_
    refine s_iconst (n := 28) (v := 1) dX4_casesOverPlank_27 rfl (by decide) ?_
    refine s_aload_n (n := 29) (i := 0) dX4_casesOverPlank_28 rfl rfl rfl ?_
    refine gf_X4_25 (n := 32) rfl dX4_casesOverPlank_29 rfl (by assumption) (by rfl) ?_
    refine gf_X4_127 (n := 35) rfl dX4_casesOverPlank_32 rfl (by assumption) (by rfl) ?_
    rw [hn]
    refine s_ishl (n := 36) dX4_casesOverPlank_35 rfl ?_
    rw [shl_n h7]
    refine s_icmp_ge (n := 39) (tgt := 107) dX4_casesOverPlank_36 rfl rfl (fun b36 => ?_) (fun b36 => ?_)
    · refine s_lload (n := 109) dX4_casesOverPlank_107 rfl rfl ?_
      refine s_lreturn dX4_casesOverPlank_109 rfl (Nat.le_refl _) (Nat.le_refl _) ?_
      exact ⟨rfl, _, hX, hFx⟩
    · exact absurd ((nI_leE (by omega) (by omega)).mpr (by omega)) b36
  | succ r ih =>
    intro s hs h F acc l7 hX hFx
    obtain ⟨x0, x1, xt, xn, xf, xa, x188, x189, xr, xi⟩ := id hX
    replace x0 : _ = XO G (σ 42) := x0
    replace xn : mj_St G _ 4 (σ 0) := xn
    replace xf : mj_St G _ 11 (F) := xf
    obtain ⟨n0, n1, n2, n3, n4, n5, n6⟩ := id xn
    obtain ⟨f0, f1, f2, f3, f4, f5, f6⟩ := id xf
    refine s_iload (n := 27) dX4_casesOverPlank_25 rfl rfl ?_
    refine s_iconst (n := 28) (v := 1) dX4_casesOverPlank_27 rfl (by decide) ?_
    refine s_aload_n (n := 29) (i := 0) dX4_casesOverPlank_28 rfl rfl rfl ?_
    refine gf_X4_25 (n := 32) rfl dX4_casesOverPlank_29 rfl (by assumption) (by rfl) ?_
    refine gf_X4_127 (n := 35) rfl dX4_casesOverPlank_32 rfl (by assumption) (by rfl) ?_
    rw [hn]
    refine s_ishl (n := 36) dX4_casesOverPlank_35 rfl ?_
    rw [shl_n h7]
    refine s_icmp_ge (n := 39) (tgt := 107) dX4_casesOverPlank_36 rfl rfl (fun b36 => ?_) (fun b36 => ?_)
    · exact absurd ((nI_leE (by omega) (by omega)).mp b36) (by omega)
    · refine s_iload (n := 41) dX4_casesOverPlank_39 rfl rfl ?_
      refine s_aload_n (n := 42) (i := 0) dX4_casesOverPlank_41 rfl rfl rfl ?_
      refine gf_X4_25 (n := 45) rfl dX4_casesOverPlank_42 rfl (by assumption) (by rfl) ?_
      refine gf_X4_161 (n := 48) rfl dX4_casesOverPlank_45 rfl (by assumption) (by rfl) ?_
      refine s_iand (n := 49) dX4_casesOverPlank_48 rfl ?_
      refine s_if_ne (n := 52) (tgt := 101) dX4_casesOverPlank_49 rfl rfl (fun b49 => ?_) (fun b49 => ?_)
      · have e : csF n k q (σ 0) (r + 1) s acc = csF n k q (σ 0) r (s + 1) acc := if_neg (fun z => b49 z.1)
        refine s_iinc (n := 104) (v := _ + 1) (ls' := [_, _, _, _, _, _, _, _]) dX4_casesOverPlank_101 rfl rfl rfl rfl rfl ?_
        refine s_goto (tgt := 25) dX4_casesOverPlank_104 rfl ?_
        rw [nI_1, e]
        exact ih (s + 1) (by omega) _ _ _ _ hX hFx
      · refine s_aload_n (n := 53) (i := 0) dX4_casesOverPlank_52 rfl rfl rfl ?_
        refine s_iload (n := 55) dX4_casesOverPlank_53 rfl rfl ?_
        refine s_iload_n (n := 56) (i := 1) dX4_casesOverPlank_55 rfl rfl rfl ?_
        refine s_v2 (M' := MX4_foreseeHushed) (n := 59) (ci := 4) dX4_casesOverPlank_56 rfl wd_X4_209 okX4_foreseeHushed rfl rfl (by omega) ⟨Nat.le_refl _, Nat.le_refl _⟩ (by assumption) (c_foresee (d := d - 1) hX hok (by omega) (by omega)) ?_
        rintro v56 hh56 ⟨rfl, hX1, hF1⟩
        replace hX := hX1
        replace hFx := fr_tr hFx hF1
        obtain ⟨x0, x1, xt, xn, xf, xa, x188, x189, xr, xi⟩ := id hX
        replace x0 : _ = XO G (σ 42) := x0
        replace xn : mj_St G _ 4 (σ 0) := xn
        replace xf : mj_St G _ 11 (mns n k (upd (σ 0) 4 (σ 0 4 ||| nI s))) := xf
        obtain ⟨n0, n1, n2, n3, n4, n5, n6⟩ := id xn
        obtain ⟨f0, f1, f2, f3, f4, f5, f6⟩ := id xf
        refine s_aload_n (n := 60) (i := 0) dX4_casesOverPlank_59 rfl rfl rfl ?_
        refine gf_X4_29 (n := 63) rfl dX4_casesOverPlank_60 rfl (by assumption) (by rfl) ?_
        refine s_v0 (M' := MX2_isOverPlank) (n := 66) (ci := 2) dX4_casesOverPlank_63 rfl wd_X4_186 okX2_isOverPlank rfl rfl (by omega) ⟨Nat.le_refl _, Nat.le_refl _⟩ (by assumption) (c_isOverPlank (d := d - 1) xf) ?_
        rintro v63 hh63 ⟨rfl, rfl⟩
        refine s_if_eq (n := 69) (tgt := 101) dX4_casesOverPlank_66 rfl rfl (fun b66 => ?_) (fun b66 => ?_)
        · have e : csF n k q (σ 0) (r + 1) s acc = csF n k q (σ 0) r (s + 1) acc := if_neg (fun z => if0 b66 z.2)
          refine s_iinc (n := 104) (v := _ + 1) (ls' := [_, _, _, _, _, _, _, _]) dX4_casesOverPlank_101 rfl rfl rfl rfl rfl ?_
          refine s_goto (tgt := 25) dX4_casesOverPlank_104 rfl ?_
          rw [nI_1, e]
          exact ih (s + 1) (by omega) _ _ _ _ hX hFx
        · have e : csF n k q (σ 0) (r + 1) s acc = csF n k q (σ 0) r (s + 1) (acc + powL q.toInt64 (bc (nI s)).toNatClampNeg * powL (10 - q).toInt64 ((nI n - bc (σ 0 4)) - bc (nI s)).toNatClampNeg) := if_pos ⟨b49, if1 b66⟩
          refine s_iload (n := 71) dX4_casesOverPlank_69 rfl rfl ?_
          refine s_s1 (M' := MJ6_bitCount_0f7a4) (n := 74) dX4_casesOverPlank_71 rfl wd_X4_233 okJ6_bitCount_0f7a4 rfl (by omega) ⟨Nat.le_refl _, Nat.le_refl _⟩ (c_bitCount (d := d - 1)) ?_
          rintro v71 hh71 ⟨rfl, rfl⟩
          refine s_istore (n := 76) (i := 7) (ls' := [_, _, _, _, _, _, _, _]) dX4_casesOverPlank_74 rfl rfl rfl rfl ?_
          refine s_lload (n := 78) dX4_casesOverPlank_76 rfl rfl ?_
          refine s_iload_n (n := 79) (i := 2) dX4_casesOverPlank_78 rfl rfl rfl ?_
          refine s_i2l (n := 80) dX4_casesOverPlank_79 rfl ?_
          refine s_iload (n := 82) dX4_casesOverPlank_80 rfl rfl ?_
          refine s_s2 (M' := MX4_power) (n := 85) dX4_casesOverPlank_82 rfl wd_X4_238 okX4_power rfl (by omega) ⟨Nat.le_refl _, Nat.le_refl _⟩ (c_power (d := d - 1) rfl (hp1 s (by omega))) ?_
          rintro v82 hh82 ⟨rfl, rfl⟩
          refine s_bipush (n := 87) (v := 10) dX4_casesOverPlank_85 rfl (by decide) ?_
          refine s_iload_n (n := 88) (i := 2) dX4_casesOverPlank_87 rfl rfl rfl ?_
          refine s_isub (n := 89) dX4_casesOverPlank_88 rfl ?_
          refine s_i2l (n := 90) dX4_casesOverPlank_89 rfl ?_
          refine s_iload_n (n := 91) (i := 3) dX4_casesOverPlank_90 rfl rfl rfl ?_
          refine s_iload (n := 93) dX4_casesOverPlank_91 rfl rfl ?_
          refine s_isub (n := 94) dX4_casesOverPlank_93 rfl ?_
          refine s_s2 (M' := MX4_power) (n := 97) dX4_casesOverPlank_94 rfl wd_X4_238 okX4_power rfl (by omega) ⟨Nat.le_refl _, Nat.le_refl _⟩ (c_power (d := d - 1) rfl (hp2 s (by omega))) ?_
          rintro v94 hh94 ⟨rfl, rfl⟩
          refine s_lmul (n := 98) dX4_casesOverPlank_97 rfl ?_
          refine s_ladd (n := 99) dX4_casesOverPlank_98 rfl ?_
          refine s_lstore (n := 101) (i := 4) (ls' := [_, _, _, _, _, _, _, _]) dX4_casesOverPlank_99 rfl rfl rfl rfl ?_
          refine s_iinc (n := 104) (v := _ + 1) (ls' := [_, _, _, _, _, _, _, _]) dX4_casesOverPlank_101 rfl rfl rfl rfl rfl ?_
          refine s_goto (tgt := 25) dX4_casesOverPlank_104 rfl ?_
          rw [nI_1, e]
          exact ih (s + 1) (by omega) _ _ _ _ hX hFx
set_option maxRecDepth 100000 in
set_option maxHeartbeats 4000000 in
theorem c_cases {G : mj_G} {h : mj_H} {d : Nat} {σ : Nat → Nat → Int32} {F : Nat → Int32} (hX : XS G h (u2 σ 1 F)) {n k : Nat} {q : Int32} (hk : k ≤ 40) (hok : okK n (σ 0)) (hp1 : ∀ s, s < 2 ^ n → (bc (nI s)).toNatClampNeg < 1000) (hp2 : ∀ s, s < 2 ^ n → ((nI n - bc (σ 0 4)) - bc (nI s)).toNatClampNeg < 1000) (hd : 6 ≤ d) : mj_con G MX4_casesOverPlank d 0 0 [.ref (G.1 + 0), .int (nI k), .int q] h (rFL G σ (csF n k q (σ 0) (2 ^ n) 0 0) h) := by
  refine mj_conV okX4_casesOverPlank (ls := [some (.ref (G.1 + 0)), some (.int (nI k)), some (.int q), none, none, none, none, none]) rfl rfl ?_
  obtain ⟨x0, x1, xt, xn, xf, xa, x188, x189, xr, xi⟩ := id hX
  replace x0 : _ = XO G (σ 42) := x0
  replace xn : mj_St G _ 4 (σ 0) := xn
  replace xf : mj_St G _ 11 (F) := xf
  obtain ⟨n0, n1, n2, n3, n4, n5, n6⟩ := id xn
  obtain ⟨f0, f1, f2, f3, f4, f5, f6⟩ := id xf
  refine s_aload_n (n := 1) (i := 0) dX4_casesOverPlank_0 rfl rfl rfl ?_
  refine gf_X4_25 (n := 4) rfl dX4_casesOverPlank_1 rfl (by assumption) (by rfl) ?_
  refine gf_X4_127 (n := 7) rfl dX4_casesOverPlank_4 rfl (by assumption) (by rfl) ?_
  rw [hok.1]
  refine s_aload_n (n := 8) (i := 0) dX4_casesOverPlank_7 rfl rfl rfl ?_
  refine gf_X4_25 (n := 11) rfl dX4_casesOverPlank_8 rfl (by assumption) (by rfl) ?_
  refine gf_X4_161 (n := 14) rfl dX4_casesOverPlank_11 rfl (by assumption) (by rfl) ?_
  refine s_s1 (M' := MJ6_bitCount_0f7a4) (n := 17) dX4_casesOverPlank_14 rfl wd_X4_233 okJ6_bitCount_0f7a4 rfl (by omega) ⟨Nat.le_refl _, Nat.le_refl _⟩ (c_bitCount (d := d - 1)) ?_
  rintro v14 hh14 ⟨rfl, rfl⟩
  refine s_isub (n := 18) dX4_casesOverPlank_17 rfl ?_
  refine s_istore_n (n := 19) (i := 3) (ls' := [_, _, _, _, _, _, _, _]) dX4_casesOverPlank_18 rfl rfl rfl rfl rfl ?_
  refine s_lconst (n := 20) (v := 0) dX4_casesOverPlank_19 rfl (by decide) ?_
  refine s_lstore (n := 22) (i := 4) (ls' := [_, _, _, _, _, _, _, _]) dX4_casesOverPlank_20 rfl rfl rfl rfl ?_
  refine s_iconst (n := 23) (v := 0) dX4_casesOverPlank_22 rfl (by decide) ?_
  refine s_istore (n := 25) (i := 6) (ls' := [_, _, _, _, _, _, _, _]) dX4_casesOverPlank_23 rfl rfl rfl rfl ?_
  exact l_cases hk hok hp1 hp2 (by omega) (2 ^ n) 0 (by omega) _ _ _ _ hX fr_rf
set_option maxRecDepth 100000 in
set_option maxHeartbeats 4000000 in
theorem k_hushed_st {G : mj_G} {h : mj_H} {d : Nat} {σ : Nat → Nat → Int32} (hX : XS G h σ) {x y z : Int32} (hb : ¬ 0 < σ 0 2) (hd : 2 ≤ d) : mj_con G MX4_hushed d 0 0 [.ref (G.1 + 0), .int x, .int y, .int z] h (rL (-1000002) h) := by
  refine mj_conV okX4_hushed (ls := [some (.ref (G.1 + 0)), some (.int x), some (.int y), some (.int z), none, none, none, none, none, none, none, none]) rfl rfl ?_
  obtain ⟨x0, x1, xt, xn, xf, xa, x188, x189, xr, xi⟩ := id hX
  obtain ⟨n0, n1, n2, n3, n4, n5, n6⟩ := id xn
  have a18 := xa.1
  have t2 := xt.1
  have t3 := xt.2
  refine s_aload_n (n := 1) (i := 0) dX4_hushed_0 rfl rfl rfl ?_
  refine gf_X4_25 (n := 4) rfl dX4_hushed_1 rfl (by assumption) (by rfl) ?_
  refine s_v0 (M' := MX2_stands) (n := 7) (ci := 2) dX4_hushed_4 rfl wd_X4_137 okX2_stands rfl rfl (by omega) ⟨Nat.le_refl _, Nat.le_refl _⟩ (by assumption) (c_stands (d := d - 1) xn) ?_
  rintro v4 hh4 ⟨rfl, rfl⟩
  refine s_if_ne (n := 10) (tgt := 14) dX4_hushed_7 rfl rfl (fun b7 => ?_) (fun b7 => ?_)
  · exact absurd (if1 b7) (hb)
  · refine s_ldc2 (n := 13) dX4_hushed_10 rfl wd_X4_223 ?_
    refine s_lreturn dX4_hushed_13 rfl (Nat.le_refl _) (Nat.le_refl _) ?_
    exact ⟨rfl, rfl⟩
set_option maxRecDepth 100000 in
set_option maxHeartbeats 4000000 in
theorem k_hushed_bad {G : mj_G} {h : mj_H} {d : Nat} {σ : Nat → Nat → Int32} (hX : XS G h σ) {x y z : Int32} (h0 : 0 < σ 0 2) (hb : ¬ (Wi x 0 40 ∧ Wi y 0 10 ∧ Wi z 0 1)) (hd : 2 ≤ d) : mj_con G MX4_hushed d 0 0 [.ref (G.1 + 0), .int x, .int y, .int z] h (rL (-1000001) h) := by
  refine mj_conV okX4_hushed (ls := [some (.ref (G.1 + 0)), some (.int x), some (.int y), some (.int z), none, none, none, none, none, none, none, none]) rfl rfl ?_
  obtain ⟨x0, x1, xt, xn, xf, xa, x188, x189, xr, xi⟩ := id hX
  obtain ⟨n0, n1, n2, n3, n4, n5, n6⟩ := id xn
  have a18 := xa.1
  have t2 := xt.1
  have t3 := xt.2
  refine s_aload_n (n := 1) (i := 0) dX4_hushed_0 rfl rfl rfl ?_
  refine gf_X4_25 (n := 4) rfl dX4_hushed_1 rfl (by assumption) (by rfl) ?_
  refine s_v0 (M' := MX2_stands) (n := 7) (ci := 2) dX4_hushed_4 rfl wd_X4_137 okX2_stands rfl rfl (by omega) ⟨Nat.le_refl _, Nat.le_refl _⟩ (by assumption) (c_stands (d := d - 1) xn) ?_
  rintro v4 hh4 ⟨rfl, rfl⟩
  refine s_if_ne (n := 10) (tgt := 14) dX4_hushed_7 rfl rfl (fun b7 => ?_) (fun b7 => ?_)
  · refine s_iload_n (n := 15) (i := 1) dX4_hushed_14 rfl rfl rfl ?_
    refine s_iconst (n := 16) (v := 0) dX4_hushed_15 rfl (by decide) ?_
    refine s_bipush (n := 18) (v := 40) dX4_hushed_16 rfl (by decide) ?_
    refine s_s3 (M' := MX4_isWithin) (n := 21) dX4_hushed_18 rfl wd_X4_52 okX4_isWithin rfl (by omega) ⟨Nat.le_refl _, Nat.le_refl _⟩ (c_within (d := d - 1) (A := 0) (B := 40) (by decide) (by decide)) ?_
    rintro v18 hh18 ⟨rfl, rfl⟩
    refine s_if_eq (n := 24) (tgt := 43) dX4_hushed_21 rfl rfl (fun b21 => ?_) (fun b21 => ?_)
    · refine s_ldc2 (n := 46) dX4_hushed_43 rfl wd_X4_225 ?_
      refine s_lreturn dX4_hushed_46 rfl (Nat.le_refl _) (Nat.le_refl _) ?_
      exact ⟨rfl, rfl⟩
    · refine s_iload_n (n := 25) (i := 2) dX4_hushed_24 rfl rfl rfl ?_
      refine s_iconst (n := 26) (v := 0) dX4_hushed_25 rfl (by decide) ?_
      refine s_bipush (n := 28) (v := 10) dX4_hushed_26 rfl (by decide) ?_
      refine s_s3 (M' := MX4_isWithin) (n := 31) dX4_hushed_28 rfl wd_X4_52 okX4_isWithin rfl (by omega) ⟨Nat.le_refl _, Nat.le_refl _⟩ (c_within (d := d - 1) (A := 0) (B := 10) (by decide) (by decide)) ?_
      rintro v28 hh28 ⟨rfl, rfl⟩
      refine s_if_eq (n := 34) (tgt := 43) dX4_hushed_31 rfl rfl (fun b31 => ?_) (fun b31 => ?_)
      · refine s_ldc2 (n := 46) dX4_hushed_43 rfl wd_X4_225 ?_
        refine s_lreturn dX4_hushed_46 rfl (Nat.le_refl _) (Nat.le_refl _) ?_
        exact ⟨rfl, rfl⟩
      · refine s_iload_n (n := 35) (i := 3) dX4_hushed_34 rfl rfl rfl ?_
        refine s_iconst (n := 36) (v := 0) dX4_hushed_35 rfl (by decide) ?_
        refine s_iconst (n := 37) (v := 1) dX4_hushed_36 rfl (by decide) ?_
        refine s_s3 (M' := MX4_isWithin) (n := 40) dX4_hushed_37 rfl wd_X4_52 okX4_isWithin rfl (by omega) ⟨Nat.le_refl _, Nat.le_refl _⟩ (c_within (d := d - 1) (A := 0) (B := 1) (by decide) (by decide)) ?_
        rintro v37 hh37 ⟨rfl, rfl⟩
        refine s_if_ne (n := 43) (tgt := 47) dX4_hushed_40 rfl rfl (fun b40 => ?_) (fun b40 => ?_)
        · exact absurd (⟨if1 b21, if1 b31, if1 b40⟩) hb
        · refine s_ldc2 (n := 46) dX4_hushed_43 rfl wd_X4_225 ?_
          refine s_lreturn dX4_hushed_46 rfl (Nat.le_refl _) (Nat.le_refl _) ?_
          exact ⟨rfl, rfl⟩
  · exact absurd (h0) (if0 b7)
def huF (n k : Nat) (q : Int32) (T : Nat → Int32) (w : Int32) : Int64 :=
  let a := csF n k q T (2 ^ n) 0 0
  let b := powL 10 (nI n - bc (T 4)).toNatClampNeg
  let c := gcF 200 a b
  let t := if w = 0 then a else b
  if 0 < c then t / c else t
set_option maxRecDepth 100000 in
set_option maxHeartbeats 4000000 in
theorem k_hushed {G : mj_G} {h : mj_H} {d : Nat} {σ : Nat → Nat → Int32} (hX : XS G h σ) {n : Nat} (hn : σ 0 2 = nI n) (h7 : n ≤ 7) (hok : okK n (σ 0)) {k : Nat} (hk : k ≤ 40) {q : Int32} (hq : Wi q 0 10) (h0 : 0 < σ 0 2) (hp0 : (nI n - bc (σ 0 4)).toNatClampNeg < 1000) (hp1 : ∀ s, s < 2 ^ n → (bc (nI s)).toNatClampNeg < 1000) (hp2 : ∀ s, s < 2 ^ n → ((nI n - bc (σ 0 4)) - bc (nI s)).toNatClampNeg < 1000) {w : Int32} (hw : Wi w 0 1) (hd : 7 ≤ d) : mj_con G MX4_hushed d 0 0 [.ref (G.1 + 0), .int (nI k), .int q, .int w] h (rFL G σ (huF n k q (σ 0) w) h) := by
  refine mj_conV okX4_hushed (ls := [some (.ref (G.1 + 0)), some (.int (nI k)), some (.int q), some (.int w), none, none, none, none, none, none, none, none]) rfl rfl ?_
  replace hX := XS_f hX
  obtain ⟨x0, x1, xt, xn, xf, xa, x188, x189, xr, xi⟩ := id hX
  replace x0 : _ = XO G (σ 42) := x0
  replace xn : mj_St G _ 4 (σ 0) := xn
  replace xf : mj_St G _ 11 (σ 1) := xf
  obtain ⟨n0, n1, n2, n3, n4, n5, n6⟩ := id xn
  obtain ⟨f0, f1, f2, f3, f4, f5, f6⟩ := id xf
  refine s_aload_n (n := 1) (i := 0) dX4_hushed_0 rfl rfl rfl ?_
  refine gf_X4_25 (n := 4) rfl dX4_hushed_1 rfl (by assumption) (by rfl) ?_
  refine s_v0 (M' := MX2_stands) (n := 7) (ci := 2) dX4_hushed_4 rfl wd_X4_137 okX2_stands rfl rfl (by omega) ⟨Nat.le_refl _, Nat.le_refl _⟩ (by assumption) (c_stands (d := d - 1) xn) ?_
  rintro v4 hh4 ⟨rfl, rfl⟩
  refine s_if_ne (n := 10) (tgt := 14) dX4_hushed_7 rfl rfl (fun b7 => ?_) (fun b7 => ?_)
  · refine s_iload_n (n := 15) (i := 1) dX4_hushed_14 rfl rfl rfl ?_
    refine s_iconst (n := 16) (v := 0) dX4_hushed_15 rfl (by decide) ?_
    refine s_bipush (n := 18) (v := 40) dX4_hushed_16 rfl (by decide) ?_
    refine s_s3 (M' := MX4_isWithin) (n := 21) dX4_hushed_18 rfl wd_X4_52 okX4_isWithin rfl (by omega) ⟨Nat.le_refl _, Nat.le_refl _⟩ (c_within (d := d - 1) (A := 0) (B := 40) (by decide) (by decide)) ?_
    rintro v18 hh18 ⟨rfl, rfl⟩
    refine s_if_eq (n := 24) (tgt := 43) dX4_hushed_21 rfl rfl (fun b21 => ?_) (fun b21 => ?_)
    · exact absurd (Wi_n (by omega) (by omega) (by omega)) (if0 b21)
    · refine s_iload_n (n := 25) (i := 2) dX4_hushed_24 rfl rfl rfl ?_
      refine s_iconst (n := 26) (v := 0) dX4_hushed_25 rfl (by decide) ?_
      refine s_bipush (n := 28) (v := 10) dX4_hushed_26 rfl (by decide) ?_
      refine s_s3 (M' := MX4_isWithin) (n := 31) dX4_hushed_28 rfl wd_X4_52 okX4_isWithin rfl (by omega) ⟨Nat.le_refl _, Nat.le_refl _⟩ (c_within (d := d - 1) (A := 0) (B := 10) (by decide) (by decide)) ?_
      rintro v28 hh28 ⟨rfl, rfl⟩
      refine s_if_eq (n := 34) (tgt := 43) dX4_hushed_31 rfl rfl (fun b31 => ?_) (fun b31 => ?_)
      · exact absurd (hq) (if0 b31)
      · refine s_iload_n (n := 35) (i := 3) dX4_hushed_34 rfl rfl rfl ?_
        refine s_iconst (n := 36) (v := 0) dX4_hushed_35 rfl (by decide) ?_
        refine s_iconst (n := 37) (v := 1) dX4_hushed_36 rfl (by decide) ?_
        refine s_s3 (M' := MX4_isWithin) (n := 40) dX4_hushed_37 rfl wd_X4_52 okX4_isWithin rfl (by omega) ⟨Nat.le_refl _, Nat.le_refl _⟩ (c_within (d := d - 1) (A := 0) (B := 1) (by decide) (by decide)) ?_
        rintro v37 hh37 ⟨rfl, rfl⟩
        refine s_if_ne (n := 43) (tgt := 47) dX4_hushed_40 rfl rfl (fun b40 => ?_) (fun b40 => ?_)
        · refine s_aload_n (n := 48) (i := 0) dX4_hushed_47 rfl rfl rfl ?_
          refine s_iload_n (n := 49) (i := 1) dX4_hushed_48 rfl rfl rfl ?_
          refine s_iload_n (n := 50) (i := 2) dX4_hushed_49 rfl rfl rfl ?_
          refine s_v2 (M' := MX4_casesOverPlank) (n := 53) (ci := 4) dX4_hushed_50 rfl wd_X4_227 okX4_casesOverPlank rfl rfl (by omega) ⟨Nat.le_refl _, Nat.le_refl _⟩ (by assumption) (c_cases (d := d - 1) hX hk hok hp1 hp2 (by omega)) ?_
          rintro v50 hh50 ⟨rfl, F1, hX1, hF1⟩
          replace hX := hX1
          have hFx := hF1
          obtain ⟨x0, x1, xt, xn, xf, xa, x188, x189, xr, xi⟩ := id hX
          replace x0 : _ = XO G (σ 42) := x0
          replace xn : mj_St G _ 4 (σ 0) := xn
          replace xf : mj_St G _ 11 (F1) := xf
          obtain ⟨n0, n1, n2, n3, n4, n5, n6⟩ := id xn
          obtain ⟨f0, f1, f2, f3, f4, f5, f6⟩ := id xf
          refine s_lstore (n := 55) (i := 4) (ls' := [_, _, _, _, _, _, _, _, _, _, _, _]) dX4_hushed_53 rfl rfl rfl rfl ?_
          refine s_ldc2 (n := 58) dX4_hushed_55 rfl wd_X4_231 ?_
          refine s_aload_n (n := 59) (i := 0) dX4_hushed_58 rfl rfl rfl ?_
          refine gf_X4_25 (n := 62) rfl dX4_hushed_59 rfl (by assumption) (by rfl) ?_
          refine gf_X4_127 (n := 65) rfl dX4_hushed_62 rfl (by assumption) (by rfl) ?_
          rw [hn]
          refine s_aload_n (n := 66) (i := 0) dX4_hushed_65 rfl rfl rfl ?_
          refine gf_X4_25 (n := 69) rfl dX4_hushed_66 rfl (by assumption) (by rfl) ?_
          refine gf_X4_161 (n := 72) rfl dX4_hushed_69 rfl (by assumption) (by rfl) ?_
          refine s_s1 (M' := MJ6_bitCount_0f7a4) (n := 75) dX4_hushed_72 rfl wd_X4_233 okJ6_bitCount_0f7a4 rfl (by omega) ⟨Nat.le_refl _, Nat.le_refl _⟩ (c_bitCount (d := d - 1)) ?_
          rintro v72 hh72 ⟨rfl, rfl⟩
          refine s_isub (n := 76) dX4_hushed_75 rfl ?_
          refine s_s2 (M' := MX4_power) (n := 79) dX4_hushed_76 rfl wd_X4_238 okX4_power rfl (by omega) ⟨Nat.le_refl _, Nat.le_refl _⟩ (c_power (d := d - 1) rfl hp0) ?_
          rintro v76 hh76 ⟨rfl, rfl⟩
          refine s_lstore (n := 81) (i := 6) (ls' := [_, _, _, _, _, _, _, _, _, _, _, _]) dX4_hushed_79 rfl rfl rfl rfl ?_
          refine s_lload (n := 83) dX4_hushed_81 rfl rfl ?_
          refine s_lload (n := 85) dX4_hushed_83 rfl rfl ?_
          refine s_s2 (M' := MX4_commonDivisor) (n := 88) dX4_hushed_85 rfl wd_X4_242 okX4_commonDivisor rfl (by omega) ⟨Nat.le_refl _, Nat.le_refl _⟩ (c_gcd (d := d - 1)) ?_
          rintro v85 hh85 ⟨rfl, rfl⟩
          refine s_lstore (n := 90) (i := 8) (ls' := [_, _, _, _, _, _, _, _, _, _, _, _]) dX4_hushed_88 rfl rfl rfl rfl ?_
          refine s_iload_n (n := 91) (i := 3) dX4_hushed_90 rfl rfl rfl ?_
          refine s_if_ne (n := 94) (tgt := 99) dX4_hushed_91 rfl rfl (fun b91 => ?_) (fun b91 => ?_)
          · refine s_lload (n := 101) dX4_hushed_99 rfl rfl ?_
            refine s_lstore (n := 103) (i := 10) (ls' := [_, _, _, _, _, _, _, _, _, _, _, _]) dX4_hushed_101 rfl rfl rfl rfl ?_
            refine s_lload (n := 105) dX4_hushed_103 rfl rfl ?_
            refine s_lconst (n := 106) (v := 0) dX4_hushed_105 rfl (by decide) ?_
            refine s_lcmp (n := 107) dX4_hushed_106 rfl ?_
            refine s_if_le (n := 110) (tgt := 118) dX4_hushed_107 rfl rfl (fun b107 => ?_) (fun b107 => ?_)
            · refine s_lload (n := 120) dX4_hushed_118 rfl rfl ?_
              refine s_lreturn dX4_hushed_120 rfl (Nat.le_refl _) (Nat.le_refl _) ?_
              refine ⟨?_, _, hX, hFx⟩
              unfold huF
              simp only
              first | rw [if_neg b91] | rw [if_pos b91]
              first | (rw [if_pos (lcp.mp (Int32.not_le.mp b107))]) | (rw [if_neg (fun z => absurd (lcp.mpr z) (Int32.not_lt.mpr b107))])
            · refine s_lload (n := 112) dX4_hushed_110 rfl rfl ?_
              refine s_lload (n := 114) dX4_hushed_112 rfl rfl ?_
              refine s_ldiv (n := 115) dX4_hushed_114 rfl (fun z => by rw [z] at b107; exact b107 (by decide)) ?_
              refine s_goto (tgt := 120) dX4_hushed_115 rfl ?_
              refine s_lreturn dX4_hushed_120 rfl (Nat.le_refl _) (Nat.le_refl _) ?_
              refine ⟨?_, _, hX, hFx⟩
              unfold huF
              simp only
              first | rw [if_neg b91] | rw [if_pos b91]
              first | (rw [if_pos (lcp.mp (Int32.not_le.mp b107))]) | (rw [if_neg (fun z => absurd (lcp.mpr z) (Int32.not_lt.mpr b107))])
          · refine s_lload (n := 96) dX4_hushed_94 rfl rfl ?_
            refine s_goto (tgt := 101) dX4_hushed_96 rfl ?_
            refine s_lstore (n := 103) (i := 10) (ls' := [_, _, _, _, _, _, _, _, _, _, _, _]) dX4_hushed_101 rfl rfl rfl rfl ?_
            refine s_lload (n := 105) dX4_hushed_103 rfl rfl ?_
            refine s_lconst (n := 106) (v := 0) dX4_hushed_105 rfl (by decide) ?_
            refine s_lcmp (n := 107) dX4_hushed_106 rfl ?_
            refine s_if_le (n := 110) (tgt := 118) dX4_hushed_107 rfl rfl (fun b107 => ?_) (fun b107 => ?_)
            · refine s_lload (n := 120) dX4_hushed_118 rfl rfl ?_
              refine s_lreturn dX4_hushed_120 rfl (Nat.le_refl _) (Nat.le_refl _) ?_
              refine ⟨?_, _, hX, hFx⟩
              unfold huF
              simp only
              first | rw [if_neg b91] | rw [if_pos b91]
              first | (rw [if_pos (lcp.mp (Int32.not_le.mp b107))]) | (rw [if_neg (fun z => absurd (lcp.mpr z) (Int32.not_lt.mpr b107))])
            · refine s_lload (n := 112) dX4_hushed_110 rfl rfl ?_
              refine s_lload (n := 114) dX4_hushed_112 rfl rfl ?_
              refine s_ldiv (n := 115) dX4_hushed_114 rfl (fun z => by rw [z] at b107; exact b107 (by decide)) ?_
              refine s_goto (tgt := 120) dX4_hushed_115 rfl ?_
              refine s_lreturn dX4_hushed_120 rfl (Nat.le_refl _) (Nat.le_refl _) ?_
              refine ⟨?_, _, hX, hFx⟩
              unfold huF
              simp only
              first | rw [if_neg b91] | rw [if_pos b91]
              first | (rw [if_pos (lcp.mp (Int32.not_le.mp b107))]) | (rw [if_neg (fun z => absurd (lcp.mpr z) (Int32.not_lt.mpr b107))])
        · exact absurd (hw) (if0 b40)
  · exact absurd (h0) (if0 b7)
