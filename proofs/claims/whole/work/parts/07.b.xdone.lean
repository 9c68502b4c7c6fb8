theorem XS_ext {G : mj_G} {h : mj_H} {σ σ' : Nat → Nat → Int32} (hX : XS G h σ) (e : σ = σ') : XS G h σ' := e ▸ hX
theorem Hs_le {n : Nat} {x : Int32} (h : Hs n x) : True := trivial
set_option maxRecDepth 100000 in
set_option maxHeartbeats 4000000 in
theorem k_row_bad {G : mj_G} {h : mj_H} {d : Nat} {σ : Nat → Nat → Int32} (hX : XS G h σ) {x y z : Int32} (hb : ¬ (Wi x 0 7 ∧ Wi y 0 2 ∧ z ≤ 40)) (hd : 2 ≤ d) : mj_con G MX4_row d 0 0 [.ref (G.1 + 0), .int x, .int y, .int z] h (rI (-1000001) h) := by
  refine mj_conV okX4_row (ls := [some (.ref (G.1 + 0)), some (.int x), some (.int y), some (.int z)]) rfl rfl ?_
  obtain ⟨x0, x1, xt, xn, xf, xa, x188, x189, xr, xi⟩ := id hX
  obtain ⟨n0, n1, n2, n3, n4, n5, n6⟩ := id xn
  have a18 := xa.1
  have t2 := xt.1
  have t3 := xt.2
  refine s_iload_n (n := 1) (i := 1) dX4_row_0 rfl rfl rfl ?_
  refine s_s1 (M' := MX4_isRow) (n := 4) dX4_row_1 rfl wd_X4_48 okX4_isRow rfl (by omega) ⟨Nat.le_refl _, Nat.le_refl _⟩ (c_isRow' (d := d - 1) (by omega)) ?_
  rintro v1 hh1 ⟨rfl, rfl⟩
  refine s_if_eq (n := 7) (tgt := 22) dX4_row_4 rfl rfl (fun b4 => ?_) (fun b4 => ?_)
  · refine s_ldc (n := 24) dX4_row_22 rfl wd_X4_56 ?_
    refine s_ireturn dX4_row_24 rfl (rfl) (Nat.le_refl _) (Nat.le_refl _) ?_
    exact ⟨rfl, rfl⟩
  · refine s_iload_n (n := 8) (i := 2) dX4_row_7 rfl rfl rfl ?_
    refine s_iconst (n := 9) (v := 0) dX4_row_8 rfl (by decide) ?_
    refine s_iconst (n := 10) (v := 2) dX4_row_9 rfl (by decide) ?_
    refine s_s3 (M' := MX4_isWithin) (n := 13) dX4_row_10 rfl wd_X4_52 okX4_isWithin rfl (by omega) ⟨Nat.le_refl _, Nat.le_refl _⟩ (c_within (d := d - 1) (A := 0) (B := 2) (by decide) (by decide)) ?_
    rintro v10 hh10 ⟨rfl, rfl⟩
    refine s_if_eq (n := 16) (tgt := 22) dX4_row_13 rfl rfl (fun b13 => ?_) (fun b13 => ?_)
    · refine s_ldc (n := 24) dX4_row_22 rfl wd_X4_56 ?_
      refine s_ireturn dX4_row_24 rfl (rfl) (Nat.le_refl _) (Nat.le_refl _) ?_
      exact ⟨rfl, rfl⟩
    · refine s_iload_n (n := 17) (i := 3) dX4_row_16 rfl rfl rfl ?_
      refine s_bipush (n := 19) (v := 40) dX4_row_17 rfl (by decide) ?_
      refine s_icmp_le (n := 22) (tgt := 25) dX4_row_19 rfl rfl (fun b19 => ?_) (fun b19 => ?_)
      · exact absurd (⟨if1 b4, if1 b13, b19⟩) hb
      · refine s_ldc (n := 24) dX4_row_22 rfl wd_X4_56 ?_
        refine s_ireturn dX4_row_24 rfl (rfl) (Nat.le_refl _) (Nat.le_refl _) ?_
        exact ⟨rfl, rfl⟩
set_option maxRecDepth 100000 in
set_option maxHeartbeats 4000000 in
theorem k_row_size {G : mj_G} {h : mj_H} {d : Nat} {σ : Nat → Nat → Int32} (hX : XS G h σ) {x y z : Int32} (h1 : Wi x 0 7) (h2 : Wi y 0 2) (h3 : z < 0) (hd : 2 ≤ d) : mj_con G MX4_row d 0 0 [.ref (G.1 + 0), .int x, .int y, .int z] h (fun v h' => v = some (.int (-1000010 - 4)) ∧ XS G h' (u2 (σ) 42 (upd (σ 42) 2 4)) ∧ mj_fr 0 220 h h') := by
  refine mj_conV okX4_row (ls := [some (.ref (G.1 + 0)), some (.int x), some (.int y), some (.int z)]) rfl rfl ?_
  obtain ⟨x0, x1, xt, xn, xf, xa, x188, x189, xr, xi⟩ := id hX
  obtain ⟨n0, n1, n2, n3, n4, n5, n6⟩ := id xn
  have a18 := xa.1
  have t2 := xt.1
  have t3 := xt.2
  refine s_iload_n (n := 1) (i := 1) dX4_row_0 rfl rfl rfl ?_
  refine s_s1 (M' := MX4_isRow) (n := 4) dX4_row_1 rfl wd_X4_48 okX4_isRow rfl (by omega) ⟨Nat.le_refl _, Nat.le_refl _⟩ (c_isRow' (d := d - 1) (by omega)) ?_
  rintro v1 hh1 ⟨rfl, rfl⟩
  refine s_if_eq (n := 7) (tgt := 22) dX4_row_4 rfl rfl (fun b4 => ?_) (fun b4 => ?_)
  · exact absurd (h1) (if0 b4)
  · refine s_iload_n (n := 8) (i := 2) dX4_row_7 rfl rfl rfl ?_
    refine s_iconst (n := 9) (v := 0) dX4_row_8 rfl (by decide) ?_
    refine s_iconst (n := 10) (v := 2) dX4_row_9 rfl (by decide) ?_
    refine s_s3 (M' := MX4_isWithin) (n := 13) dX4_row_10 rfl wd_X4_52 okX4_isWithin rfl (by omega) ⟨Nat.le_refl _, Nat.le_refl _⟩ (c_within (d := d - 1) (A := 0) (B := 2) (by decide) (by decide)) ?_
    rintro v10 hh10 ⟨rfl, rfl⟩
    refine s_if_eq (n := 16) (tgt := 22) dX4_row_13 rfl rfl (fun b13 => ?_) (fun b13 => ?_)
    · exact absurd (h2) (if0 b13)
    · refine s_iload_n (n := 17) (i := 3) dX4_row_16 rfl rfl rfl ?_
      refine s_bipush (n := 19) (v := 40) dX4_row_17 rfl (by decide) ?_
      refine s_icmp_le (n := 22) (tgt := 25) dX4_row_19 rfl rfl (fun b19 => ?_) (fun b19 => ?_)
      · refine s_iload_n (n := 26) (i := 3) dX4_row_25 rfl rfl rfl ?_
        refine s_if_ge (n := 29) (tgt := 35) dX4_row_26 rfl rfl (fun b26 => ?_) (fun b26 => ?_)
        · exact absurd h3 (Int32.not_lt.mpr b26)
        · refine s_aload_n (n := 30) (i := 0) dX4_row_29 rfl rfl rfl ?_
          refine s_iconst (n := 31) (v := 4) dX4_row_30 rfl (by decide) ?_
          refine s_v1 (M' := MX4_found) (n := 34) (ci := 4) dX4_row_31 rfl wd_X4_57 okX4_found rfl rfl (by omega) ⟨Nat.le_refl _, Nat.le_refl _⟩ (by assumption) (c_found (d := d - 1) hX) ?_
          rintro v31 hh31 ⟨rfl, hX1, hF1⟩
          refine s_ireturn dX4_row_34 rfl (rfl) (Nat.le_refl _) (Nat.le_refl _) ?_
          exact ⟨rfl, hX1, hF1⟩
      · exfalso
        simp only [i_le, i_lt] at *
        have q0 : (0 : Int32).toInt = 0 := by decide
        have q1 : (40 : Int32).toInt = 40 := by decide
        omega
set_option maxRecDepth 100000 in
set_option maxHeartbeats 4000000 in
theorem k_row {G : mj_G} {h : mj_H} {d : Nat} {σ : Nat → Nat → Int32} (hX : XS G h σ) {a : Nat} (ha : a < 8) {y z : Int32} (h2 : Wi y 0 2) (h3 : z ≤ 40) (h4 : ¬ z < 0) (hd : 2 ≤ d) : mj_con G MX4_row d 0 0 [.ref (G.1 + 0), .int (nI a), .int y, .int z] h (fun v h' => v = some (.int (z)) ∧ XS G h' (u2 (uR σ a y z (fillF (σ (34 + a)) 40 0)) 42 (upd (σ 42) 2 0)) ∧ mj_fr 0 220 h h') := by
  refine mj_conV okX4_row (ls := [some (.ref (G.1 + 0)), some (.int (nI a)), some (.int y), some (.int z)]) rfl rfl ?_
  obtain ⟨x0, x1, xt, xn, xf, xa, x188, x189, xr, xi⟩ := id hX
  obtain ⟨n0, n1, n2, n3, n4, n5, n6⟩ := id xn
  have a18 := xa.1
  have t2 := xt.1
  have t3 := xt.2
  have r0 := (xr a ha).1
  have r1 := (xr a ha).2
  refine s_iload_n (n := 1) (i := 1) dX4_row_0 rfl rfl rfl ?_
  refine s_s1 (M' := MX4_isRow) (n := 4) dX4_row_1 rfl wd_X4_48 okX4_isRow rfl (by omega) ⟨Nat.le_refl _, Nat.le_refl _⟩ (c_isRow' (d := d - 1) (by omega)) ?_
  rintro v1 hh1 ⟨rfl, rfl⟩
  refine s_if_eq (n := 7) (tgt := 22) dX4_row_4 rfl rfl (fun b4 => ?_) (fun b4 => ?_)
  · exact absurd (Wi_n (by omega) (by omega) (by omega)) (if0 b4)
  · refine s_iload_n (n := 8) (i := 2) dX4_row_7 rfl rfl rfl ?_
    refine s_iconst (n := 9) (v := 0) dX4_row_8 rfl (by decide) ?_
    refine s_iconst (n := 10) (v := 2) dX4_row_9 rfl (by decide) ?_
    refine s_s3 (M' := MX4_isWithin) (n := 13) dX4_row_10 rfl wd_X4_52 okX4_isWithin rfl (by omega) ⟨Nat.le_refl _, Nat.le_refl _⟩ (c_within (d := d - 1) (A := 0) (B := 2) (by decide) (by decide)) ?_
    rintro v10 hh10 ⟨rfl, rfl⟩
    refine s_if_eq (n := 16) (tgt := 22) dX4_row_13 rfl rfl (fun b13 => ?_) (fun b13 => ?_)
    · exact absurd (h2) (if0 b13)
    · refine s_iload_n (n := 17) (i := 3) dX4_row_16 rfl rfl rfl ?_
      refine s_bipush (n := 19) (v := 40) dX4_row_17 rfl (by decide) ?_
      refine s_icmp_le (n := 22) (tgt := 25) dX4_row_19 rfl rfl (fun b19 => ?_) (fun b19 => ?_)
      · refine s_iload_n (n := 26) (i := 3) dX4_row_25 rfl rfl rfl ?_
        refine s_if_ge (n := 29) (tgt := 35) dX4_row_26 rfl rfl (fun b26 => ?_) (fun b26 => ?_)
        · refine s_aload_n (n := 36) (i := 0) dX4_row_35 rfl rfl rfl ?_
          refine gf_X4_11 (n := 39) rfl dX4_row_36 rfl (by assumption) (by rfl) ?_
          refine s_iload_n (n := 40) (i := 1) dX4_row_39 rfl rfl rfl ?_
          refine s_aald (n := 41) (t := 2) (C0 := RX1) dX4_row_40 rfl rfl (by assumption) (mj_ixn (by omega)) (rowA_at (by omega)) ?_
          refine s_iload_n (n := 42) (i := 2) dX4_row_41 rfl rfl rfl ?_
          refine s_iload_n (n := 43) (i := 3) dX4_row_42 rfl rfl rfl ?_
          refine s_v2 (M' := MX1_begin) (n := 46) (ci := 1) dX4_row_43 rfl wd_X4_61 okX1_begin rfl rfl (by omega) ⟨Nat.le_refl _, Nat.le_refl _⟩ (by assumption) (c_rowBegin (d := d - 1) (xr a ha) (by omega)) ?_
          rintro v43 hh43 ⟨rfl, q1, q2⟩
          have hX1 := XS_row ha hX q1 q2
          have x0 := hX1.1
          refine s_aload_n (n := 47) (i := 0) dX4_row_46 rfl rfl rfl ?_
          refine s_iload_n (n := 48) (i := 3) dX4_row_47 rfl rfl rfl ?_
          refine s_v1 (M' := MX4_unfound) (n := 51) (ci := 4) dX4_row_48 rfl wd_X4_65 okX4_unfound rfl rfl (by omega) ⟨Nat.le_refl _, Nat.le_refl _⟩ (by assumption) (c_unfound (d := d - 1) hX1) ?_
          rintro v48 hh48 ⟨rfl, hX2, hF2⟩
          refine s_ireturn dX4_row_51 rfl (rfl) (Nat.le_refl _) (Nat.le_refl _) ?_
          refine ⟨rfl, XS_ext hX2 ?_, fr_tr (fr_wid q2 (by omega) (by omega)) hF2⟩
          rw [uR_o (by omega) (by omega) (by omega)]
        · exact absurd (Int32.not_le.mp b26) h4
      · exact absurd h3 b19
set_option maxRecDepth 100000 in
set_option maxHeartbeats 4000000 in
theorem k_set_bad {G : mj_G} {h : mj_H} {d : Nat} {σ : Nat → Nat → Int32} (hX : XS G h σ) {x y z : Int32} (hb : ¬ Wi x 0 7) (hd : 2 ≤ d) : mj_con G MX4_set d 0 0 [.ref (G.1 + 0), .int x, .int y, .int z] h (rI (-1000001) h) := by
  refine mj_conV okX4_set (ls := [some (.ref (G.1 + 0)), some (.int x), some (.int y), some (.int z), none]) rfl rfl ?_
  obtain ⟨x0, x1, xt, xn, xf, xa, x188, x189, xr, xi⟩ := id hX
  obtain ⟨n0, n1, n2, n3, n4, n5, n6⟩ := id xn
  have a18 := xa.1
  have t2 := xt.1
  have t3 := xt.2
  refine s_iload_n (n := 1) (i := 1) dX4_set_0 rfl rfl rfl ?_
  refine s_s1 (M' := MX4_isRow) (n := 4) dX4_set_1 rfl wd_X4_48 okX4_isRow rfl (by omega) ⟨Nat.le_refl _, Nat.le_refl _⟩ (c_isRow' (d := d - 1) (by omega)) ?_
  rintro v1 hh1 ⟨rfl, rfl⟩
  refine s_if_ne (n := 7) (tgt := 10) dX4_set_4 rfl rfl (fun b4 => ?_) (fun b4 => ?_)
  · exact absurd (if1 b4) hb
  · refine s_ldc (n := 9) dX4_set_7 rfl wd_X4_56 ?_
    refine s_ireturn dX4_set_9 rfl (rfl) (Nat.le_refl _) (Nat.le_refl _) ?_
    exact ⟨rfl, rfl⟩
set_option maxRecDepth 100000 in
set_option maxHeartbeats 4000000 in
theorem k_set_f {G : mj_G} {h : mj_H} {d : Nat} {σ : Nat → Nat → Int32} (hX : XS G h σ) {a : Nat} (ha : a < 8) {y z : Int32} (hf : ¬ fndR (σ 29 a) (σ 30 a) y 1 = 0) (hd : 2 ≤ d) : mj_con G MX4_set d 0 0 [.ref (G.1 + 0), .int (nI a), .int y, .int z] h (fun v h' => v = some (.int (-1000010 - fndR (σ 29 a) (σ 30 a) y 1)) ∧ XS G h' (u2 (σ) 42 (upd (σ 42) 2 (fndR (σ 29 a) (σ 30 a) y 1))) ∧ mj_fr 0 220 h h') := by
  refine mj_conV okX4_set (ls := [some (.ref (G.1 + 0)), some (.int (nI a)), some (.int y), some (.int z), none]) rfl rfl ?_
  obtain ⟨x0, x1, xt, xn, xf, xa, x188, x189, xr, xi⟩ := id hX
  obtain ⟨n0, n1, n2, n3, n4, n5, n6⟩ := id xn
  have a18 := xa.1
  have t2 := xt.1
  have t3 := xt.2
  have r0 := (xr a ha).1
  have r1 := (xr a ha).2
  refine s_iload_n (n := 1) (i := 1) dX4_set_0 rfl rfl rfl ?_
  refine s_s1 (M' := MX4_isRow) (n := 4) dX4_set_1 rfl wd_X4_48 okX4_isRow rfl (by omega) ⟨Nat.le_refl _, Nat.le_refl _⟩ (c_isRow' (d := d - 1) (by omega)) ?_
  rintro v1 hh1 ⟨rfl, rfl⟩
  refine s_if_ne (n := 7) (tgt := 10) dX4_set_4 rfl rfl (fun b4 => ?_) (fun b4 => ?_)
  · refine s_aload_n (n := 11) (i := 0) dX4_set_10 rfl rfl rfl ?_
    refine gf_X4_11 (n := 14) rfl dX4_set_11 rfl (by assumption) (by rfl) ?_
    refine s_iload_n (n := 15) (i := 1) dX4_set_14 rfl rfl rfl ?_
    refine s_aald (n := 16) (t := 2) (C0 := RX1) dX4_set_15 rfl rfl (by assumption) (mj_ixn (by omega)) (rowA_at (by omega)) ?_
    refine s_iload_n (n := 17) (i := 2) dX4_set_16 rfl rfl rfl ?_
    refine s_iconst (n := 18) (v := 1) dX4_set_17 rfl (by decide) ?_
    refine s_v2 (M' := MX1_findingOf) (n := 21) (ci := 1) dX4_set_18 rfl wd_X4_68 okX1_findingOf rfl rfl (by omega) ⟨Nat.le_refl _, Nat.le_refl _⟩ (by assumption) (c_findingOf (d := d - 1) (xr a ha) (by omega)) ?_
    rintro v18 hh18 ⟨rfl, rfl⟩
    refine s_istore (n := 23) (i := 4) (ls' := [_, _, _, _, _]) dX4_set_21 rfl rfl rfl rfl ?_
    refine s_iload (n := 25) dX4_set_23 rfl rfl ?_
    refine s_if_eq (n := 28) (tgt := 37) dX4_set_25 rfl rfl (fun b25 => ?_) (fun b25 => ?_)
    · exact absurd b25 hf
    · refine s_aload_n (n := 29) (i := 0) dX4_set_28 rfl rfl rfl ?_
      refine s_iload (n := 31) dX4_set_29 rfl rfl ?_
      refine s_v1 (M' := MX4_found) (n := 34) (ci := 4) dX4_set_31 rfl wd_X4_57 okX4_found rfl rfl (by omega) ⟨Nat.le_refl _, Nat.le_refl _⟩ (by assumption) (c_found (d := d - 1) hX) ?_
      rintro v31 hh31 ⟨rfl, hX1, hF1⟩
      refine s_goto (tgt := 52) dX4_set_34 rfl ?_
      refine s_ireturn dX4_set_52 rfl (rfl) (Nat.le_refl _) (Nat.le_refl _) ?_
      exact ⟨rfl, hX1, hF1⟩
  · exact absurd (Wi_n (by omega) (by omega) (by omega)) (if0 b4)
set_option maxRecDepth 100000 in
set_option maxHeartbeats 4000000 in
theorem k_set {G : mj_G} {h : mj_H} {d : Nat} {σ : Nat → Nat → Int32} (hX : XS G h σ) {a j : Nat} (ha : a < 8) (hj : j < 40) {z : Int32} (hf : fndR (σ 29 a) (σ 30 a) (nI j) 1 = 0) (hd : 2 ≤ d) : mj_con G MX4_set d 0 0 [.ref (G.1 + 0), .int (nI a), .int (nI j), .int z] h (fun v h' => v = some (.int (lnV (σ 29 a) z)) ∧ XS G h' (u2 (uR σ a (σ 29 a) (σ 30 a) (upd (σ (34 + a)) j (lnV (σ 29 a) z))) 42 (upd (σ 42) 2 0)) ∧ mj_fr 0 220 h h') := by
  refine mj_conV okX4_set (ls := [some (.ref (G.1 + 0)), some (.int (nI a)), some (.int (nI j)), some (.int z), none]) rfl rfl ?_
  obtain ⟨x0, x1, xt, xn, xf, xa, x188, x189, xr, xi⟩ := id hX
  obtain ⟨n0, n1, n2, n3, n4, n5, n6⟩ := id xn
  have a18 := xa.1
  have t2 := xt.1
  have t3 := xt.2
  have r0 := (xr a ha).1
  have r1 := (xr a ha).2
  refine s_iload_n (n := 1) (i := 1) dX4_set_0 rfl rfl rfl ?_
  refine s_s1 (M' := MX4_isRow) (n := 4) dX4_set_1 rfl wd_X4_48 okX4_isRow rfl (by omega) ⟨Nat.le_refl _, Nat.le_refl _⟩ (c_isRow' (d := d - 1) (by omega)) ?_
  rintro v1 hh1 ⟨rfl, rfl⟩
  refine s_if_ne (n := 7) (tgt := 10) dX4_set_4 rfl rfl (fun b4 => ?_) (fun b4 => ?_)
  · refine s_aload_n (n := 11) (i := 0) dX4_set_10 rfl rfl rfl ?_
    refine gf_X4_11 (n := 14) rfl dX4_set_11 rfl (by assumption) (by rfl) ?_
    refine s_iload_n (n := 15) (i := 1) dX4_set_14 rfl rfl rfl ?_
    refine s_aald (n := 16) (t := 2) (C0 := RX1) dX4_set_15 rfl rfl (by assumption) (mj_ixn (by omega)) (rowA_at (by omega)) ?_
    refine s_iload_n (n := 17) (i := 2) dX4_set_16 rfl rfl rfl ?_
    refine s_iconst (n := 18) (v := 1) dX4_set_17 rfl (by decide) ?_
    refine s_v2 (M' := MX1_findingOf) (n := 21) (ci := 1) dX4_set_18 rfl wd_X4_68 okX1_findingOf rfl rfl (by omega) ⟨Nat.le_refl _, Nat.le_refl _⟩ (by assumption) (c_findingOf (d := d - 1) (xr a ha) (by omega)) ?_
    rintro v18 hh18 ⟨rfl, rfl⟩
    refine s_istore (n := 23) (i := 4) (ls' := [_, _, _, _, _]) dX4_set_21 rfl rfl rfl rfl ?_
    refine s_iload (n := 25) dX4_set_23 rfl rfl ?_
    refine s_if_eq (n := 28) (tgt := 37) dX4_set_25 rfl rfl (fun b25 => ?_) (fun b25 => ?_)
    · refine s_aload_n (n := 38) (i := 0) dX4_set_37 rfl rfl rfl ?_
      refine s_aload_n (n := 39) (i := 0) dX4_set_38 rfl rfl rfl ?_
      refine gf_X4_11 (n := 42) rfl dX4_set_39 rfl (by assumption) (by rfl) ?_
      refine s_iload_n (n := 43) (i := 1) dX4_set_42 rfl rfl rfl ?_
      refine s_aald (n := 44) (t := 2) (C0 := RX1) dX4_set_43 rfl rfl (by assumption) (mj_ixn (by omega)) (rowA_at (by omega)) ?_
      refine s_iload_n (n := 45) (i := 2) dX4_set_44 rfl rfl rfl ?_
      refine s_iload_n (n := 46) (i := 3) dX4_set_45 rfl rfl rfl ?_
      refine s_v2 (M' := MX1_put) (n := 49) (ci := 1) dX4_set_46 rfl wd_X4_72 okX1_put rfl rfl (by omega) ⟨Nat.le_refl _, Nat.le_refl _⟩ (by assumption) (c_put (d := d - 1) (xr a ha) hj) ?_
      rintro v46 hh46 ⟨rfl, q1, q2⟩
      have hX1 := XS_row ha hX q1 q2
      have x0 := hX1.1
      refine s_v1 (M' := MX4_unfound) (n := 52) (ci := 4) dX4_set_49 rfl wd_X4_65 okX4_unfound rfl rfl (by omega) ⟨Nat.le_refl _, Nat.le_refl _⟩ (by assumption) (c_unfound (d := d - 1) hX1) ?_
      rintro v49 hh49 ⟨rfl, hX2, hF2⟩
      refine s_ireturn dX4_set_52 rfl (rfl) (Nat.le_refl _) (Nat.le_refl _) ?_
      refine ⟨rfl, XS_ext hX2 ?_, fr_tr (fr_wid q2 (by omega) (by omega)) hF2⟩
      rw [uR_o (by omega) (by omega) (by omega)]
    · exact absurd hf b25
  · exact absurd (Wi_n (by omega) (by omega) (by omega)) (if0 b4)
set_option maxRecDepth 100000 in
set_option maxHeartbeats 4000000 in
theorem k_drop_bad {G : mj_G} {h : mj_H} {d : Nat} {σ : Nat → Nat → Int32} (hX : XS G h σ) {x : Int32} (hb : ¬ Wi x 0 7) (hd : 2 ≤ d) : mj_con G MX4_drop d 0 0 [.ref (G.1 + 0), .int x] h (rI (-1000001) h) := by
  refine mj_conV okX4_drop (ls := [some (.ref (G.1 + 0)), some (.int x)]) rfl rfl ?_
  obtain ⟨x0, x1, xt, xn, xf, xa, x188, x189, xr, xi⟩ := id hX
  obtain ⟨n0, n1, n2, n3, n4, n5, n6⟩ := id xn
  have a18 := xa.1
  have t2 := xt.1
  have t3 := xt.2
  refine s_iload_n (n := 1) (i := 1) dX4_drop_0 rfl rfl rfl ?_
  refine s_s1 (M' := MX4_isRow) (n := 4) dX4_drop_1 rfl wd_X4_48 okX4_isRow rfl (by omega) ⟨Nat.le_refl _, Nat.le_refl _⟩ (c_isRow' (d := d - 1) (by omega)) ?_
  rintro v1 hh1 ⟨rfl, rfl⟩
  refine s_if_ne (n := 7) (tgt := 10) dX4_drop_4 rfl rfl (fun b4 => ?_) (fun b4 => ?_)
  · exact absurd (if1 b4) hb
  · refine s_ldc (n := 9) dX4_drop_7 rfl wd_X4_56 ?_
    refine s_ireturn dX4_drop_9 rfl (rfl) (Nat.le_refl _) (Nat.le_refl _) ?_
    exact ⟨rfl, rfl⟩
set_option maxRecDepth 100000 in
set_option maxHeartbeats 4000000 in
theorem k_drop_f {G : mj_G} {h : mj_H} {d : Nat} {σ : Nat → Nat → Int32} (hX : XS G h σ) {a : Nat} (ha : a < 8) (hf : σ 29 a = -1) (hd : 2 ≤ d) : mj_con G MX4_drop d 0 0 [.ref (G.1 + 0), .int (nI a)] h (fun v h' => v = some (.int (-1000010 - 1)) ∧ XS G h' (u2 (σ) 42 (upd (σ 42) 2 1)) ∧ mj_fr 0 220 h h') := by
  refine mj_conV okX4_drop (ls := [some (.ref (G.1 + 0)), some (.int (nI a))]) rfl rfl ?_
  obtain ⟨x0, x1, xt, xn, xf, xa, x188, x189, xr, xi⟩ := id hX
  obtain ⟨n0, n1, n2, n3, n4, n5, n6⟩ := id xn
  have a18 := xa.1
  have t2 := xt.1
  have t3 := xt.2
  have r0 := (xr a ha).1
  have r1 := (xr a ha).2
  refine s_iload_n (n := 1) (i := 1) dX4_drop_0 rfl rfl rfl ?_
  refine s_s1 (M' := MX4_isRow) (n := 4) dX4_drop_1 rfl wd_X4_48 okX4_isRow rfl (by omega) ⟨Nat.le_refl _, Nat.le_refl _⟩ (c_isRow' (d := d - 1) (by omega)) ?_
  rintro v1 hh1 ⟨rfl, rfl⟩
  refine s_if_ne (n := 7) (tgt := 10) dX4_drop_4 rfl rfl (fun b4 => ?_) (fun b4 => ?_)
  · refine s_aload_n (n := 11) (i := 0) dX4_drop_10 rfl rfl rfl ?_
    refine gf_X4_11 (n := 14) rfl dX4_drop_11 rfl (by assumption) (by rfl) ?_
    refine s_iload_n (n := 15) (i := 1) dX4_drop_14 rfl rfl rfl ?_
    refine s_aald (n := 16) (t := 2) (C0 := RX1) dX4_drop_15 rfl rfl (by assumption) (mj_ixn (by omega)) (rowA_at (by omega)) ?_
    refine s_v0 (M' := MX1_isMissing) (n := 19) (ci := 1) dX4_drop_16 rfl wd_X4_75 okX1_isMissing rfl rfl (by omega) ⟨Nat.le_refl _, Nat.le_refl _⟩ (by assumption) (c_isMissing (d := d - 1) (xr a ha)) ?_
    rintro v16 hh16 ⟨rfl, rfl⟩
    refine s_if_eq (n := 22) (tgt := 28) dX4_drop_19 rfl rfl (fun b19 => ?_) (fun b19 => ?_)
    · exact absurd (hf) (if0 b19)
    · refine s_aload_n (n := 23) (i := 0) dX4_drop_22 rfl rfl rfl ?_
      refine s_iconst (n := 24) (v := 1) dX4_drop_23 rfl (by decide) ?_
      refine s_v1 (M' := MX4_found) (n := 27) (ci := 4) dX4_drop_24 rfl wd_X4_57 okX4_found rfl rfl (by omega) ⟨Nat.le_refl _, Nat.le_refl _⟩ (by assumption) (c_found (d := d - 1) hX) ?_
      rintro v24 hh24 ⟨rfl, hX1, hF1⟩
      refine s_ireturn dX4_drop_27 rfl (rfl) (Nat.le_refl _) (Nat.le_refl _) ?_
      exact ⟨rfl, hX1, hF1⟩
  · exact absurd (Wi_n (by omega) (by omega) (by omega)) (if0 b4)
set_option maxRecDepth 100000 in
set_option maxHeartbeats 4000000 in
theorem k_drop {G : mj_G} {h : mj_H} {d : Nat} {σ : Nat → Nat → Int32} (hX : XS G h σ) {a : Nat} (ha : a < 8) (hf : ¬ σ 29 a = -1) (hd : 2 ≤ d) : mj_con G MX4_drop d 0 0 [.ref (G.1 + 0), .int (nI a)] h (fun v h' => v = some (.int (σ 30 a)) ∧ XS G h' (u2 (uR σ a (-1) (σ 30 a) (σ (34 + a))) 42 (upd (σ 42) 2 0)) ∧ mj_fr 0 220 h h') := by
  refine mj_conV okX4_drop (ls := [some (.ref (G.1 + 0)), some (.int (nI a))]) rfl rfl ?_
  obtain ⟨x0, x1, xt, xn, xf, xa, x188, x189, xr, xi⟩ := id hX
  obtain ⟨n0, n1, n2, n3, n4, n5, n6⟩ := id xn
  have a18 := xa.1
  have t2 := xt.1
  have t3 := xt.2
  have r0 := (xr a ha).1
  have r1 := (xr a ha).2
  refine s_iload_n (n := 1) (i := 1) dX4_drop_0 rfl rfl rfl ?_
  refine s_s1 (M' := MX4_isRow) (n := 4) dX4_drop_1 rfl wd_X4_48 okX4_isRow rfl (by omega) ⟨Nat.le_refl _, Nat.le_refl _⟩ (c_isRow' (d := d - 1) (by omega)) ?_
  rintro v1 hh1 ⟨rfl, rfl⟩
  refine s_if_ne (n := 7) (tgt := 10) dX4_drop_4 rfl rfl (fun b4 => ?_) (fun b4 => ?_)
  · refine s_aload_n (n := 11) (i := 0) dX4_drop_10 rfl rfl rfl ?_
    refine gf_X4_11 (n := 14) rfl dX4_drop_11 rfl (by assumption) (by rfl) ?_
    refine s_iload_n (n := 15) (i := 1) dX4_drop_14 rfl rfl rfl ?_
    refine s_aald (n := 16) (t := 2) (C0 := RX1) dX4_drop_15 rfl rfl (by assumption) (mj_ixn (by omega)) (rowA_at (by omega)) ?_
    refine s_v0 (M' := MX1_isMissing) (n := 19) (ci := 1) dX4_drop_16 rfl wd_X4_75 okX1_isMissing rfl rfl (by omega) ⟨Nat.le_refl _, Nat.le_refl _⟩ (by assumption) (c_isMissing (d := d - 1) (xr a ha)) ?_
    rintro v16 hh16 ⟨rfl, rfl⟩
    refine s_if_eq (n := 22) (tgt := 28) dX4_drop_19 rfl rfl (fun b19 => ?_) (fun b19 => ?_)
    · refine s_aload_n (n := 29) (i := 0) dX4_drop_28 rfl rfl rfl ?_
      refine gf_X4_11 (n := 32) rfl dX4_drop_29 rfl (by assumption) (by rfl) ?_
      refine s_iload_n (n := 33) (i := 1) dX4_drop_32 rfl rfl rfl ?_
      refine s_aald (n := 34) (t := 2) (C0 := RX1) dX4_drop_33 rfl rfl (by assumption) (mj_ixn (by omega)) (rowA_at (by omega)) ?_
      refine s_iconst (n := 35) (v := (-1)) dX4_drop_34 rfl (by decide) ?_
      refine pf_X4_79 (n := 38) (fs' := [_, _, _]) rfl dX4_drop_35 rfl (by assumption) (by rfl) (by rfl) ?_
      obtain ⟨q1, q2⟩ := Rw_put0 (l' := -1) (s' := σ 30 a) (xr a ha)
      generalize mj_up _ (190 + 2 * a) _ = h1 at q1 q2 ⊢
      have hX1 := XS_row ha hX q1 q2
      obtain ⟨x0, x1, xt, xn, xf, xa, x188, x189, xr1, xi⟩ := id hX1
      have r0 := q1.1
      refine s_aload_n (n := 39) (i := 0) dX4_drop_38 rfl rfl rfl ?_
      refine s_aload_n (n := 40) (i := 0) dX4_drop_39 rfl rfl rfl ?_
      refine gf_X4_11 (n := 43) rfl dX4_drop_40 rfl (by assumption) (by rfl) ?_
      refine s_iload_n (n := 44) (i := 1) dX4_drop_43 rfl rfl rfl ?_
      refine s_aald (n := 45) (t := 2) (C0 := RX1) dX4_drop_44 rfl rfl (by assumption) (mj_ixn (by omega)) (rowA_at (by omega)) ?_
      refine gf_X4_96 (n := 48) rfl dX4_drop_45 rfl (by assumption) (by rfl) ?_
      refine s_v1 (M' := MX4_unfound) (n := 51) (ci := 4) dX4_drop_48 rfl wd_X4_65 okX4_unfound rfl rfl (by omega) ⟨Nat.le_refl _, Nat.le_refl _⟩ (by assumption) (c_unfound (d := d - 1) hX1) ?_
      rintro v48 hh48 ⟨rfl, hX2, hF2⟩
      refine s_ireturn dX4_drop_51 rfl (rfl) (Nat.le_refl _) (Nat.le_refl _) ?_
      refine ⟨rfl, XS_ext hX2 ?_, fr_tr (fr_wid q2 (by omega) (by omega)) hF2⟩
      rw [uR_o (by omega) (by omega) (by omega)]
    · exact absurd (if1 b19) (hf)
  · exact absurd (Wi_n (by omega) (by omega) (by omega)) (if0 b4)
/-- an act is kept: the street now goes to the ring -/
def kpS (σ : Nat → Nat → Int32) (a k : Nat) : Nat → Nat → Int32 := uA σ (u2 (fun i => σ (2 + i)) a (σ 0)) (upd (upd (σ 28) 0 (nI ((a + 1) % 24))) 1 (nI (kpN k)))
theorem kpS_o {σ : Nat → Nat → Int32} {a k j : Nat} (h : j ≠ 28) (h2 : j < 2 ∨ 26 ≤ j) : kpS σ a k j = σ j := uA_o h h2
set_option maxRecDepth 100000 in
set_option maxHeartbeats 4000000 in
theorem k_talk_bad {G : mj_G} {h : mj_H} {d : Nat} {σ : Nat → Nat → Int32} (hX : XS G h σ) {n : Nat} (hn : σ 0 2 = nI n) (h7 : n ≤ 7) {x y : Int32} (hb : ¬ (Hs n x ∧ Wi y 0 20)) (hd : 2 ≤ d) : mj_con G MX4_talk d 0 0 [.ref (G.1 + 0), .int x, .int y] h (rI (-1000001) h) := by
  refine mj_conV okX4_talk (ls := [some (.ref (G.1 + 0)), some (.int x), some (.int y), none]) rfl rfl ?_
  obtain ⟨x0, x1, xt, xn, xf, xa, x188, x189, xr, xi⟩ := id hX
  obtain ⟨n0, n1, n2, n3, n4, n5, n6⟩ := id xn
  have a18 := xa.1
  have t2 := xt.1
  have t3 := xt.2
  refine s_aload_n (n := 1) (i := 0) dX4_talk_0 rfl rfl rfl ?_
  refine s_iload_n (n := 2) (i := 1) dX4_talk_1 rfl rfl rfl ?_
  refine s_v1 (M' := MX4_isHouse) (n := 5) (ci := 4) dX4_talk_2 rfl wd_X4_152 okX4_isHouse rfl rfl (by omega) ⟨Nat.le_refl _, Nat.le_refl _⟩ (by assumption) (c_isHouse (d := d - 1) hX hn h7 (by omega)) ?_
  rintro v2 hh2 ⟨rfl, rfl⟩
  refine s_if_eq (n := 8) (tgt := 18) dX4_talk_5 rfl rfl (fun b5 => ?_) (fun b5 => ?_)
  · refine s_ldc (n := 20) dX4_talk_18 rfl wd_X4_56 ?_
    refine s_ireturn dX4_talk_20 rfl (rfl) (Nat.le_refl _) (Nat.le_refl _) ?_
    exact ⟨rfl, rfl⟩
  · refine s_iload_n (n := 9) (i := 2) dX4_talk_8 rfl rfl rfl ?_
    refine s_iconst (n := 10) (v := 0) dX4_talk_9 rfl (by decide) ?_
    refine s_bipush (n := 12) (v := 20) dX4_talk_10 rfl (by decide) ?_
    refine s_s3 (M' := MX4_isWithin) (n := 15) dX4_talk_12 rfl wd_X4_52 okX4_isWithin rfl (by omega) ⟨Nat.le_refl _, Nat.le_refl _⟩ (c_within (d := d - 1) (A := 0) (B := 20) (by decide) (by decide)) ?_
    rintro v12 hh12 ⟨rfl, rfl⟩
    refine s_if_ne (n := 18) (tgt := 21) dX4_talk_15 rfl rfl (fun b15 => ?_) (fun b15 => ?_)
    · exact absurd (⟨if1 b5, if1 b15⟩) hb
    · refine s_ldc (n := 20) dX4_talk_18 rfl wd_X4_56 ?_
      refine s_ireturn dX4_talk_20 rfl (rfl) (Nat.le_refl _) (Nat.le_refl _) ?_
      exact ⟨rfl, rfl⟩
set_option maxRecDepth 100000 in
set_option maxHeartbeats 4000000 in
theorem k_talk {G : mj_G} {h : mj_H} {d : Nat} {σ : Nat → Nat → Int32} (hX : XS G h σ) {n : Nat} (hn : σ 0 2 = nI n) (h7 : n ≤ 7) {a k j : Nat} (ha0 : σ 28 0 = nI a) (ha : a < 24) (hk0 : σ 28 1 = nI k) (hk : k ≤ 24) (hj : j < n) {y : Int32} (hy : Wi y 0 20) (hd : 4 ≤ d) : mj_con G MX4_talk d 0 0 [.ref (G.1 + 0), .int (nI j), .int y] h (fun v h' => v = some (.int (σ 0 (13 + j))) ∧ XS G h' (u2 (kpS σ a k) 0 (upd (σ 0) (13 + j) y)) ∧ mj_fr 0 220 h h') := by
  refine mj_conV okX4_talk (ls := [some (.ref (G.1 + 0)), some (.int (nI j)), some (.int y), none]) rfl rfl ?_
  obtain ⟨x0, x1, xt, xn, xf, xa, x188, x189, xr, xi⟩ := id hX
  obtain ⟨n0, n1, n2, n3, n4, n5, n6⟩ := id xn
  have a18 := xa.1
  have t2 := xt.1
  have t3 := xt.2
  refine s_aload_n (n := 1) (i := 0) dX4_talk_0 rfl rfl rfl ?_
  refine s_iload_n (n := 2) (i := 1) dX4_talk_1 rfl rfl rfl ?_
  refine s_v1 (M' := MX4_isHouse) (n := 5) (ci := 4) dX4_talk_2 rfl wd_X4_152 okX4_isHouse rfl rfl (by omega) ⟨Nat.le_refl _, Nat.le_refl _⟩ (by assumption) (c_isHouse (d := d - 1) hX hn h7 (by omega)) ?_
  rintro v2 hh2 ⟨rfl, rfl⟩
  refine s_if_eq (n := 8) (tgt := 18) dX4_talk_5 rfl rfl (fun b5 => ?_) (fun b5 => ?_)
  · exact absurd (Hs_n hj h7) (if0 b5)
  · refine s_iload_n (n := 9) (i := 2) dX4_talk_8 rfl rfl rfl ?_
    refine s_iconst (n := 10) (v := 0) dX4_talk_9 rfl (by decide) ?_
    refine s_bipush (n := 12) (v := 20) dX4_talk_10 rfl (by decide) ?_
    refine s_s3 (M' := MX4_isWithin) (n := 15) dX4_talk_12 rfl wd_X4_52 okX4_isWithin rfl (by omega) ⟨Nat.le_refl _, Nat.le_refl _⟩ (c_within (d := d - 1) (A := 0) (B := 20) (by decide) (by decide)) ?_
    rintro v12 hh12 ⟨rfl, rfl⟩
    refine s_if_ne (n := 18) (tgt := 21) dX4_talk_15 rfl rfl (fun b15 => ?_) (fun b15 => ?_)
    · refine s_aload_n (n := 22) (i := 0) dX4_talk_21 rfl rfl rfl ?_
      refine gf_X4_25 (n := 25) rfl dX4_talk_22 rfl (by assumption) (by rfl) ?_
      refine gf_X4_155 (n := 28) rfl dX4_talk_25 rfl (by assumption) (by rfl) ?_
      refine s_iload_n (n := 29) (i := 1) dX4_talk_28 rfl rfl rfl ?_
      first | refine s_ials (n := 30) dX4_talk_29 rfl (by assumption) (mj_ixn (by omega)) ?_ | refine s_iald (n := 30) dX4_talk_29 rfl (by assumption) (mj_ixn (by omega)) ?_
      refine s_istore_n (n := 31) (i := 3) (ls' := [_, _, _, _]) dX4_talk_30 rfl rfl rfl rfl rfl ?_
      refine s_aload_n (n := 32) (i := 0) dX4_talk_31 rfl rfl rfl ?_
      refine gf_X4_35 (n := 35) rfl dX4_talk_32 rfl (by assumption) (by rfl) ?_
      refine s_aload_n (n := 36) (i := 0) dX4_talk_35 rfl rfl rfl ?_
      refine gf_X4_25 (n := 39) rfl dX4_talk_36 rfl (by assumption) (by rfl) ?_
      refine s_v1 (M' := MX0_keep) (n := 42) (ci := 0) dX4_talk_39 rfl wd_X4_143 okX0_keep rfl rfl (by omega) ⟨Nat.le_refl _, Nat.le_refl _⟩ (by assumption) (c_keep (d := d - 1) xa xn (by omega) ha0 ha hk0 hk (by omega)) ?_
      rintro v39 hh39 ⟨rfl, hA1, hF1⟩
      have hX1 := XS_acts hX hA1 hF1
      replace hF1 := fr_wid (p' := 0) (w' := 220) hF1 (by omega) (by omega)
      obtain ⟨x0, x1, xt, xn, xf, xa, x188, x189, xr, xi⟩ := id hX1
      obtain ⟨n0, n1, n2, n3, n4, n5, n6⟩ := id xn
      refine s_aload_n (n := 43) (i := 0) dX4_talk_42 rfl rfl rfl ?_
      refine gf_X4_25 (n := 46) rfl dX4_talk_43 rfl (by assumption) (by rfl) ?_
      refine gf_X4_155 (n := 49) rfl dX4_talk_46 rfl (by assumption) (by rfl) ?_
      refine s_iload_n (n := 50) (i := 1) dX4_talk_49 rfl rfl rfl ?_
      refine s_iload_n (n := 51) (i := 2) dX4_talk_50 rfl rfl rfl ?_
      refine s_iast (n := 52) dX4_talk_51 rfl (by assumption) (mj_ixn (by omega)) ?_
      refine St_put_talk (by omega) xn (fun h2 hS2 hF2 => ?_)
      have hX2 := XS_now hX1 hS2 hF2
      obtain ⟨x0, x1, xt, xn, xf, xa, x188, x189, xr, xi⟩ := id hX2
      obtain ⟨n0, n1, n2, n3, n4, n5, n6⟩ := id xn
      refine s_iload_n (n := 53) (i := 3) dX4_talk_52 rfl rfl rfl ?_
      refine s_ireturn dX4_talk_53 rfl (rfl) (Nat.le_refl _) (Nat.le_refl _) ?_
      exact ⟨rfl, hX2, fr_tr hF1 (fr_wid hF2 (by omega) (by omega))⟩
    · exact absurd (hy) (if0 b15)
set_option maxRecDepth 100000 in
set_option maxHeartbeats 4000000 in
theorem k_bars_bad {G : mj_G} {h : mj_H} {d : Nat} {σ : Nat → Nat → Int32} (hX : XS G h σ) {n : Nat} (hn : σ 0 2 = nI n) (h7 : n ≤ 7) {x y : Int32} (hb : ¬ (Hs n x ∧ Wi y 0 9)) (hd : 2 ≤ d) : mj_con G MX4_bars d 0 0 [.ref (G.1 + 0), .int x, .int y] h (rI (-1000001) h) := by
  refine mj_conV okX4_bars (ls := [some (.ref (G.1 + 0)), some (.int x), some (.int y), none]) rfl rfl ?_
  obtain ⟨x0, x1, xt, xn, xf, xa, x188, x189, xr, xi⟩ := id hX
  obtain ⟨n0, n1, n2, n3, n4, n5, n6⟩ := id xn
  have a18 := xa.1
  have t2 := xt.1
  have t3 := xt.2
  refine s_aload_n (n := 1) (i := 0) dX4_bars_0 rfl rfl rfl ?_
  refine s_iload_n (n := 2) (i := 1) dX4_bars_1 rfl rfl rfl ?_
  refine s_v1 (M' := MX4_isHouse) (n := 5) (ci := 4) dX4_bars_2 rfl wd_X4_152 okX4_isHouse rfl rfl (by omega) ⟨Nat.le_refl _, Nat.le_refl _⟩ (by assumption) (c_isHouse (d := d - 1) hX hn h7 (by omega)) ?_
  rintro v2 hh2 ⟨rfl, rfl⟩
  refine s_if_eq (n := 8) (tgt := 18) dX4_bars_5 rfl rfl (fun b5 => ?_) (fun b5 => ?_)
  · refine s_ldc (n := 20) dX4_bars_18 rfl wd_X4_56 ?_
    refine s_ireturn dX4_bars_20 rfl (rfl) (Nat.le_refl _) (Nat.le_refl _) ?_
    exact ⟨rfl, rfl⟩
  · refine s_iload_n (n := 9) (i := 2) dX4_bars_8 rfl rfl rfl ?_
    refine s_iconst (n := 10) (v := 0) dX4_bars_9 rfl (by decide) ?_
    refine s_bipush (n := 12) (v := 9) dX4_bars_10 rfl (by decide) ?_
    refine s_s3 (M' := MX4_isWithin) (n := 15) dX4_bars_12 rfl wd_X4_52 okX4_isWithin rfl (by omega) ⟨Nat.le_refl _, Nat.le_refl _⟩ (c_within (d := d - 1) (A := 0) (B := 9) (by decide) (by decide)) ?_
    rintro v12 hh12 ⟨rfl, rfl⟩
    refine s_if_ne (n := 18) (tgt := 21) dX4_bars_15 rfl rfl (fun b15 => ?_) (fun b15 => ?_)
    · exact absurd (⟨if1 b5, if1 b15⟩) hb
    · refine s_ldc (n := 20) dX4_bars_18 rfl wd_X4_56 ?_
      refine s_ireturn dX4_bars_20 rfl (rfl) (Nat.le_refl _) (Nat.le_refl _) ?_
      exact ⟨rfl, rfl⟩
set_option maxRecDepth 100000 in
set_option maxHeartbeats 4000000 in
theorem k_bars {G : mj_G} {h : mj_H} {d : Nat} {σ : Nat → Nat → Int32} (hX : XS G h σ) {n : Nat} (hn : σ 0 2 = nI n) (h7 : n ≤ 7) {a k j : Nat} (ha0 : σ 28 0 = nI a) (ha : a < 24) (hk0 : σ 28 1 = nI k) (hk : k ≤ 24) (hj : j < n) {y : Int32} (hy : Wi y 0 9) (hd : 4 ≤ d) : mj_con G MX4_bars d 0 0 [.ref (G.1 + 0), .int (nI j), .int y] h (fun v h' => v = some (.int (σ 0 (41 + j))) ∧ XS G h' (u2 (kpS σ a k) 0 (upd (upd (σ 0) (27 + j) y) (41 + j) 0)) ∧ mj_fr 0 220 h h') := by
  refine mj_conV okX4_bars (ls := [some (.ref (G.1 + 0)), some (.int (nI j)), some (.int y), none]) rfl rfl ?_
  obtain ⟨x0, x1, xt, xn, xf, xa, x188, x189, xr, xi⟩ := id hX
  obtain ⟨n0, n1, n2, n3, n4, n5, n6⟩ := id xn
  have a18 := xa.1
  have t2 := xt.1
  have t3 := xt.2
  refine s_aload_n (n := 1) (i := 0) dX4_bars_0 rfl rfl rfl ?_
  refine s_iload_n (n := 2) (i := 1) dX4_bars_1 rfl rfl rfl ?_
  refine s_v1 (M' := MX4_isHouse) (n := 5) (ci := 4) dX4_bars_2 rfl wd_X4_152 okX4_isHouse rfl rfl (by omega) ⟨Nat.le_refl _, Nat.le_refl _⟩ (by assumption) (c_isHouse (d := d - 1) hX hn h7 (by omega)) ?_
  rintro v2 hh2 ⟨rfl, rfl⟩
  refine s_if_eq (n := 8) (tgt := 18) dX4_bars_5 rfl rfl (fun b5 => ?_) (fun b5 => ?_)
  · exact absurd (Hs_n hj h7) (if0 b5)
  · refine s_iload_n (n := 9) (i := 2) dX4_bars_8 rfl rfl rfl ?_
    refine s_iconst (n := 10) (v := 0) dX4_bars_9 rfl (by decide) ?_
    refine s_bipush (n := 12) (v := 9) dX4_bars_10 rfl (by decide) ?_
    refine s_s3 (M' := MX4_isWithin) (n := 15) dX4_bars_12 rfl wd_X4_52 okX4_isWithin rfl (by omega) ⟨Nat.le_refl _, Nat.le_refl _⟩ (c_within (d := d - 1) (A := 0) (B := 9) (by decide) (by decide)) ?_
    rintro v12 hh12 ⟨rfl, rfl⟩
    refine s_if_ne (n := 18) (tgt := 21) dX4_bars_15 rfl rfl (fun b15 => ?_) (fun b15 => ?_)
    · refine s_aload_n (n := 22) (i := 0) dX4_bars_21 rfl rfl rfl ?_
      refine gf_X4_25 (n := 25) rfl dX4_bars_22 rfl (by assumption) (by rfl) ?_
      refine gf_X4_164 (n := 28) rfl dX4_bars_25 rfl (by assumption) (by rfl) ?_
      refine s_iload_n (n := 29) (i := 1) dX4_bars_28 rfl rfl rfl ?_
      first | refine s_ials (n := 30) dX4_bars_29 rfl (by assumption) (mj_ixn (by omega)) ?_ | refine s_iald (n := 30) dX4_bars_29 rfl (by assumption) (mj_ixn (by omega)) ?_
      refine s_istore_n (n := 31) (i := 3) (ls' := [_, _, _, _]) dX4_bars_30 rfl rfl rfl rfl rfl ?_
      refine s_aload_n (n := 32) (i := 0) dX4_bars_31 rfl rfl rfl ?_
      refine gf_X4_35 (n := 35) rfl dX4_bars_32 rfl (by assumption) (by rfl) ?_
      refine s_aload_n (n := 36) (i := 0) dX4_bars_35 rfl rfl rfl ?_
      refine gf_X4_25 (n := 39) rfl dX4_bars_36 rfl (by assumption) (by rfl) ?_
      refine s_v1 (M' := MX0_keep) (n := 42) (ci := 0) dX4_bars_39 rfl wd_X4_143 okX0_keep rfl rfl (by omega) ⟨Nat.le_refl _, Nat.le_refl _⟩ (by assumption) (c_keep (d := d - 1) xa xn (by omega) ha0 ha hk0 hk (by omega)) ?_
      rintro v39 hh39 ⟨rfl, hA1, hF1⟩
      have hX1 := XS_acts hX hA1 hF1
      replace hF1 := fr_wid (p' := 0) (w' := 220) hF1 (by omega) (by omega)
      obtain ⟨x0, x1, xt, xn, xf, xa, x188, x189, xr, xi⟩ := id hX1
      obtain ⟨n0, n1, n2, n3, n4, n5, n6⟩ := id xn
      refine s_aload_n (n := 43) (i := 0) dX4_bars_42 rfl rfl rfl ?_
      refine gf_X4_25 (n := 46) rfl dX4_bars_43 rfl (by assumption) (by rfl) ?_
      refine s_iload_n (n := 47) (i := 1) dX4_bars_46 rfl rfl rfl ?_
      refine s_iload_n (n := 48) (i := 2) dX4_bars_47 rfl rfl rfl ?_
      refine s_v2 (M' := MX2_putBars) (n := 51) (ci := 2) dX4_bars_48 rfl wd_X4_167 okX2_putBars rfl rfl (by omega) ⟨Nat.le_refl _, Nat.le_refl _⟩ (by assumption) (c_putBars (d := d - 1) xn (by omega)) ?_
      rintro v48 hh48 ⟨rfl, hS2, hF2⟩
      refine s_iload_n (n := 52) (i := 3) dX4_bars_51 rfl rfl rfl ?_
      refine s_ireturn dX4_bars_52 rfl (rfl) (Nat.le_refl _) (Nat.le_refl _) ?_
      exact ⟨rfl, XS_now hX1 hS2 hF2, fr_tr hF1 (fr_wid hF2 (by omega) (by omega))⟩
    · exact absurd (hy) (if0 b15)
set_option maxRecDepth 100000 in
set_option maxHeartbeats 4000000 in
theorem k_letDown_st {G : mj_G} {h : mj_H} {d : Nat} {σ : Nat → Nat → Int32} (hX : XS G h σ) {x : Int32} (hb : ¬ 0 < σ 0 2) (hd : 2 ≤ d) : mj_con G MX4_letDown d 0 0 [.ref (G.1 + 0), .int x] h (rI (-1000002) h) := by
  refine mj_conV okX4_letDown (ls := [some (.ref (G.1 + 0)), some (.int x)]) rfl rfl ?_
  obtain ⟨x0, x1, xt, xn, xf, xa, x188, x189, xr, xi⟩ := id hX
  obtain ⟨n0, n1, n2, n3, n4, n5, n6⟩ := id xn
  have a18 := xa.1
  have t2 := xt.1
  have t3 := xt.2
  refine s_aload_n (n := 1) (i := 0) dX4_letDown_0 rfl rfl rfl ?_
  refine gf_X4_25 (n := 4) rfl dX4_letDown_1 rfl (by assumption) (by rfl) ?_
  refine s_v0 (M' := MX2_stands) (n := 7) (ci := 2) dX4_letDown_4 rfl wd_X4_137 okX2_stands rfl rfl (by omega) ⟨Nat.le_refl _, Nat.le_refl _⟩ (by assumption) (c_stands (d := d - 1) xn) ?_
  rintro v4 hh4 ⟨rfl, rfl⟩
  refine s_if_ne (n := 10) (tgt := 13) dX4_letDown_7 rfl rfl (fun b7 => ?_) (fun b7 => ?_)
  · exact absurd (if1 b7) (hb)
  · refine s_ldc (n := 12) dX4_letDown_10 rfl wd_X4_136 ?_
    refine s_ireturn dX4_letDown_12 rfl (rfl) (Nat.le_refl _) (Nat.le_refl _) ?_
    exact ⟨rfl, rfl⟩
set_option maxRecDepth 100000 in
set_option maxHeartbeats 4000000 in
theorem k_letDown_bad {G : mj_G} {h : mj_H} {d : Nat} {σ : Nat → Nat → Int32} (hX : XS G h σ) {x : Int32} (h0 : 0 < σ 0 2) (hb : ¬ Wi x 1 99) (hd : 2 ≤ d) : mj_con G MX4_letDown d 0 0 [.ref (G.1 + 0), .int x] h (rI (-1000001) h) := by
  refine mj_conV okX4_letDown (ls := [some (.ref (G.1 + 0)), some (.int x)]) rfl rfl ?_
  obtain ⟨x0, x1, xt, xn, xf, xa, x188, x189, xr, xi⟩ := id hX
  obtain ⟨n0, n1, n2, n3, n4, n5, n6⟩ := id xn
  have a18 := xa.1
  have t2 := xt.1
  have t3 := xt.2
  refine s_aload_n (n := 1) (i := 0) dX4_letDown_0 rfl rfl rfl ?_
  refine gf_X4_25 (n := 4) rfl dX4_letDown_1 rfl (by assumption) (by rfl) ?_
  refine s_v0 (M' := MX2_stands) (n := 7) (ci := 2) dX4_letDown_4 rfl wd_X4_137 okX2_stands rfl rfl (by omega) ⟨Nat.le_refl _, Nat.le_refl _⟩ (by assumption) (c_stands (d := d - 1) xn) ?_
  rintro v4 hh4 ⟨rfl, rfl⟩
  refine s_if_ne (n := 10) (tgt := 13) dX4_letDown_7 rfl rfl (fun b7 => ?_) (fun b7 => ?_)
  · refine s_iload_n (n := 14) (i := 1) dX4_letDown_13 rfl rfl rfl ?_
    refine s_iconst (n := 15) (v := 1) dX4_letDown_14 rfl (by decide) ?_
    refine s_bipush (n := 17) (v := 99) dX4_letDown_15 rfl (by decide) ?_
    refine s_s3 (M' := MX4_isWithin) (n := 20) dX4_letDown_17 rfl wd_X4_52 okX4_isWithin rfl (by omega) ⟨Nat.le_refl _, Nat.le_refl _⟩ (c_within (d := d - 1) (A := 1) (B := 99) (by decide) (by decide)) ?_
    rintro v17 hh17 ⟨rfl, rfl⟩
    refine s_if_ne (n := 23) (tgt := 26) dX4_letDown_20 rfl rfl (fun b20 => ?_) (fun b20 => ?_)
    · exact absurd (if1 b20) hb
    · refine s_ldc (n := 25) dX4_letDown_23 rfl wd_X4_56 ?_
      refine s_ireturn dX4_letDown_25 rfl (rfl) (Nat.le_refl _) (Nat.le_refl _) ?_
      exact ⟨rfl, rfl⟩
  · exact absurd (h0) (if0 b7)
set_option maxRecDepth 100000 in
set_option maxHeartbeats 4000000 in
theorem k_letDown {G : mj_G} {h : mj_H} {d : Nat} {σ : Nat → Nat → Int32} (hX : XS G h σ) {a k : Nat} (ha0 : σ 28 0 = nI a) (ha : a < 24) (hk0 : σ 28 1 = nI k) (hk : k ≤ 24) {x : Int32} (h0 : 0 < σ 0 2) (hx : Wi x 1 99) (hd : 4 ≤ d) : mj_con G MX4_letDown d 0 0 [.ref (G.1 + 0), .int x] h (fun v h' => v = some (.int (lowP (σ 0) x 5)) ∧ XS G h' (u2 (kpS σ a k) 0 (lowP (σ 0) x)) ∧ mj_fr 0 220 h h') := by
  refine mj_conV okX4_letDown (ls := [some (.ref (G.1 + 0)), some (.int x)]) rfl rfl ?_
  obtain ⟨x0, x1, xt, xn, xf, xa, x188, x189, xr, xi⟩ := id hX
  obtain ⟨n0, n1, n2, n3, n4, n5, n6⟩ := id xn
  have a18 := xa.1
  have t2 := xt.1
  have t3 := xt.2
  refine s_aload_n (n := 1) (i := 0) dX4_letDown_0 rfl rfl rfl ?_
  refine gf_X4_25 (n := 4) rfl dX4_letDown_1 rfl (by assumption) (by rfl) ?_
  refine s_v0 (M' := MX2_stands) (n := 7) (ci := 2) dX4_letDown_4 rfl wd_X4_137 okX2_stands rfl rfl (by omega) ⟨Nat.le_refl _, Nat.le_refl _⟩ (by assumption) (c_stands (d := d - 1) xn) ?_
  rintro v4 hh4 ⟨rfl, rfl⟩
  refine s_if_ne (n := 10) (tgt := 13) dX4_letDown_7 rfl rfl (fun b7 => ?_) (fun b7 => ?_)
  · refine s_iload_n (n := 14) (i := 1) dX4_letDown_13 rfl rfl rfl ?_
    refine s_iconst (n := 15) (v := 1) dX4_letDown_14 rfl (by decide) ?_
    refine s_bipush (n := 17) (v := 99) dX4_letDown_15 rfl (by decide) ?_
    refine s_s3 (M' := MX4_isWithin) (n := 20) dX4_letDown_17 rfl wd_X4_52 okX4_isWithin rfl (by omega) ⟨Nat.le_refl _, Nat.le_refl _⟩ (c_within (d := d - 1) (A := 1) (B := 99) (by decide) (by decide)) ?_
    rintro v17 hh17 ⟨rfl, rfl⟩
    refine s_if_ne (n := 23) (tgt := 26) dX4_letDown_20 rfl rfl (fun b20 => ?_) (fun b20 => ?_)
    · refine s_aload_n (n := 27) (i := 0) dX4_letDown_26 rfl rfl rfl ?_
      refine gf_X4_35 (n := 30) rfl dX4_letDown_27 rfl (by assumption) (by rfl) ?_
      refine s_aload_n (n := 31) (i := 0) dX4_letDown_30 rfl rfl rfl ?_
      refine gf_X4_25 (n := 34) rfl dX4_letDown_31 rfl (by assumption) (by rfl) ?_
      refine s_v1 (M' := MX0_keep) (n := 37) (ci := 0) dX4_letDown_34 rfl wd_X4_143 okX0_keep rfl rfl (by omega) ⟨Nat.le_refl _, Nat.le_refl _⟩ (by assumption) (c_keep (d := d - 1) xa xn (by omega) ha0 ha hk0 hk (by omega)) ?_
      rintro v34 hh34 ⟨rfl, hA1, hF1⟩
      have hX1 := XS_acts hX hA1 hF1
      replace hF1 := fr_wid (p' := 0) (w' := 220) hF1 (by omega) (by omega)
      obtain ⟨x0, x1, xt, xn, xf, xa, x188, x189, xr, xi⟩ := id hX1
      obtain ⟨n0, n1, n2, n3, n4, n5, n6⟩ := id xn
      refine s_aload_n (n := 38) (i := 0) dX4_letDown_37 rfl rfl rfl ?_
      refine gf_X4_25 (n := 41) rfl dX4_letDown_38 rfl (by assumption) (by rfl) ?_
      refine s_iload_n (n := 42) (i := 1) dX4_letDown_41 rfl rfl rfl ?_
      refine s_v1 (M' := MX2_lowerPond) (n := 45) (ci := 2) dX4_letDown_42 rfl wd_X4_170 okX2_lowerPond rfl rfl (by omega) ⟨Nat.le_refl _, Nat.le_refl _⟩ (by assumption) (c_lowerPond (d := d - 1) xn (by omega)) ?_
      rintro v42 hh42 ⟨rfl, hS2, hF2⟩
      have hX2 := XS_now hX1 hS2 hF2
      obtain ⟨x0, x1, xt, xn, xf, xa, x188, x189, xr, xi⟩ := id hX2
      obtain ⟨n0, n1, n2, n3, n4, n5, n6⟩ := id xn
      refine s_aload_n (n := 46) (i := 0) dX4_letDown_45 rfl rfl rfl ?_
      refine gf_X4_25 (n := 49) rfl dX4_letDown_46 rfl (by assumption) (by rfl) ?_
      refine gf_X4_149 (n := 52) rfl dX4_letDown_49 rfl (by assumption) (by rfl) ?_
      refine s_ireturn dX4_letDown_52 rfl (rfl) (Nat.le_refl _) (Nat.le_refl _) ?_
      exact ⟨rfl, hX2, fr_tr hF1 (fr_wid hF2 (by omega) (by omega))⟩
    · exact absurd (hx) (if0 b20)
  · exact absurd (h0) (if0 b7)
set_option maxRecDepth 100000 in
set_option maxHeartbeats 4000000 in
theorem k_hush_bad {G : mj_G} {h : mj_H} {d : Nat} {σ : Nat → Nat → Int32} (hX : XS G h σ) {n : Nat} (hn : σ 0 2 = nI n) (h7 : n ≤ 7) {x y : Int32} (hb : ¬ (Hs n x ∧ Wi y 0 1)) (hd : 2 ≤ d) : mj_con G MX4_hush d 0 0 [.ref (G.1 + 0), .int x, .int y] h (rI (-1000001) h) := by
  refine mj_conV okX4_hush (ls := [some (.ref (G.1 + 0)), some (.int x), some (.int y)]) rfl rfl ?_
  obtain ⟨x0, x1, xt, xn, xf, xa, x188, x189, xr, xi⟩ := id hX
  obtain ⟨n0, n1, n2, n3, n4, n5, n6⟩ := id xn
  have a18 := xa.1
  have t2 := xt.1
  have t3 := xt.2
  refine s_aload_n (n := 1) (i := 0) dX4_hush_0 rfl rfl rfl ?_
  refine s_iload_n (n := 2) (i := 1) dX4_hush_1 rfl rfl rfl ?_
  refine s_v1 (M' := MX4_isHouse) (n := 5) (ci := 4) dX4_hush_2 rfl wd_X4_152 okX4_isHouse rfl rfl (by omega) ⟨Nat.le_refl _, Nat.le_refl _⟩ (by assumption) (c_isHouse (d := d - 1) hX hn h7 (by omega)) ?_
  rintro v2 hh2 ⟨rfl, rfl⟩
  refine s_if_eq (n := 8) (tgt := 17) dX4_hush_5 rfl rfl (fun b5 => ?_) (fun b5 => ?_)
  · refine s_ldc (n := 19) dX4_hush_17 rfl wd_X4_56 ?_
    refine s_ireturn dX4_hush_19 rfl (rfl) (Nat.le_refl _) (Nat.le_refl _) ?_
    exact ⟨rfl, rfl⟩
  · refine s_iload_n (n := 9) (i := 2) dX4_hush_8 rfl rfl rfl ?_
    refine s_iconst (n := 10) (v := 0) dX4_hush_9 rfl (by decide) ?_
    refine s_iconst (n := 11) (v := 1) dX4_hush_10 rfl (by decide) ?_
    refine s_s3 (M' := MX4_isWithin) (n := 14) dX4_hush_11 rfl wd_X4_52 okX4_isWithin rfl (by omega) ⟨Nat.le_refl _, Nat.le_refl _⟩ (c_within (d := d - 1) (A := 0) (B := 1) (by decide) (by decide)) ?_
    rintro v11 hh11 ⟨rfl, rfl⟩
    refine s_if_ne (n := 17) (tgt := 20) dX4_hush_14 rfl rfl (fun b14 => ?_) (fun b14 => ?_)
    · exact absurd (⟨if1 b5, if1 b14⟩) hb
    · refine s_ldc (n := 19) dX4_hush_17 rfl wd_X4_56 ?_
      refine s_ireturn dX4_hush_19 rfl (rfl) (Nat.le_refl _) (Nat.le_refl _) ?_
      exact ⟨rfl, rfl⟩
set_option maxRecDepth 100000 in
set_option maxHeartbeats 4000000 in
theorem k_hush_st {G : mj_G} {h : mj_H} {d : Nat} {σ : Nat → Nat → Int32} (hX : XS G h σ) {n : Nat} (hn : σ 0 2 = nI n) (h7 : n ≤ 7) {j : Nat} (hj : j < n) {y : Int32} (hy : Wi y 0 1) (hq : (if hs (σ 0) (nI j) then (1 : Int32) else 0) = if y = 1 then 1 else 0) (hd : 2 ≤ d) : mj_con G MX4_hush d 0 0 [.ref (G.1 + 0), .int (nI j), .int y] h (rI (-1000002) h) := by
  refine mj_conV okX4_hush (ls := [some (.ref (G.1 + 0)), some (.int (nI j)), some (.int y)]) rfl rfl ?_
  obtain ⟨x0, x1, xt, xn, xf, xa, x188, x189, xr, xi⟩ := id hX
  obtain ⟨n0, n1, n2, n3, n4, n5, n6⟩ := id xn
  have a18 := xa.1
  have t2 := xt.1
  have t3 := xt.2
  refine s_aload_n (n := 1) (i := 0) dX4_hush_0 rfl rfl rfl ?_
  refine s_iload_n (n := 2) (i := 1) dX4_hush_1 rfl rfl rfl ?_
  refine s_v1 (M' := MX4_isHouse) (n := 5) (ci := 4) dX4_hush_2 rfl wd_X4_152 okX4_isHouse rfl rfl (by omega) ⟨Nat.le_refl _, Nat.le_refl _⟩ (by assumption) (c_isHouse (d := d - 1) hX hn h7 (by omega)) ?_
  rintro v2 hh2 ⟨rfl, rfl⟩
  refine s_if_eq (n := 8) (tgt := 17) dX4_hush_5 rfl rfl (fun b5 => ?_) (fun b5 => ?_)
  · exact absurd (Hs_n hj h7) (if0 b5)
  · refine s_iload_n (n := 9) (i := 2) dX4_hush_8 rfl rfl rfl ?_
    refine s_iconst (n := 10) (v := 0) dX4_hush_9 rfl (by decide) ?_
    refine s_iconst (n := 11) (v := 1) dX4_hush_10 rfl (by decide) ?_
    refine s_s3 (M' := MX4_isWithin) (n := 14) dX4_hush_11 rfl wd_X4_52 okX4_isWithin rfl (by omega) ⟨Nat.le_refl _, Nat.le_refl _⟩ (c_within (d := d - 1) (A := 0) (B := 1) (by decide) (by decide)) ?_
    rintro v11 hh11 ⟨rfl, rfl⟩
    refine s_if_ne (n := 17) (tgt := 20) dX4_hush_14 rfl rfl (fun b14 => ?_) (fun b14 => ?_)
    · refine s_aload_n (n := 21) (i := 0) dX4_hush_20 rfl rfl rfl ?_
      refine gf_X4_25 (n := 24) rfl dX4_hush_21 rfl (by assumption) (by rfl) ?_
      refine s_iload_n (n := 25) (i := 1) dX4_hush_24 rfl rfl rfl ?_
      refine s_v1 (M' := MX2_isHushed) (n := 28) (ci := 2) dX4_hush_25 rfl wd_X4_158 okX2_isHushed rfl rfl (by omega) ⟨Nat.le_refl _, Nat.le_refl _⟩ (by assumption) (c_isHushed (d := d - 1) xn) ?_
      rintro v25 hh25 ⟨rfl, rfl⟩
      refine s_iload_n (n := 29) (i := 2) dX4_hush_28 rfl rfl rfl ?_
      refine s_iconst (n := 30) (v := 1) dX4_hush_29 rfl (by decide) ?_
      refine s_icmp_ne (n := 33) (tgt := 37) dX4_hush_30 rfl rfl (fun b30 => ?_) (fun b30 => ?_)
      · rw [if_neg b30] at hq
        refine s_iconst (n := 38) (v := 0) dX4_hush_37 rfl (by decide) ?_
        refine s_icmp_ne (n := 41) (tgt := 44) dX4_hush_38 rfl rfl (fun b38 => ?_) (fun b38 => ?_)
        · exact absurd hq b38
        · refine s_ldc (n := 43) dX4_hush_41 rfl wd_X4_136 ?_
          refine s_ireturn dX4_hush_43 rfl (rfl) (Nat.le_refl _) (Nat.le_refl _) ?_
          exact ⟨rfl, rfl⟩
      · rw [if_pos b30] at hq
        refine s_iconst (n := 34) (v := 1) dX4_hush_33 rfl (by decide) ?_
        refine s_goto (tgt := 38) dX4_hush_34 rfl ?_
        refine s_icmp_ne (n := 41) (tgt := 44) dX4_hush_38 rfl rfl (fun b38 => ?_) (fun b38 => ?_)
        · exact absurd hq b38
        · refine s_ldc (n := 43) dX4_hush_41 rfl wd_X4_136 ?_
          refine s_ireturn dX4_hush_43 rfl (rfl) (Nat.le_refl _) (Nat.le_refl _) ?_
          exact ⟨rfl, rfl⟩
    · exact absurd (hy) (if0 b14)
set_option maxRecDepth 100000 in
set_option maxHeartbeats 4000000 in
theorem k_hush {G : mj_G} {h : mj_H} {d : Nat} {σ : Nat → Nat → Int32} (hX : XS G h σ) {n : Nat} (hn : σ 0 2 = nI n) (h7 : n ≤ 7) {a k j : Nat} (ha0 : σ 28 0 = nI a) (ha : a < 24) (hk0 : σ 28 1 = nI k) (hk : k ≤ 24) (hj : j < n) {y : Int32} (hy : Wi y 0 1) (hq : ¬ (if hs (σ 0) (nI j) then (1 : Int32) else 0) = if y = 1 then 1 else 0) (hd : 4 ≤ d) : mj_con G MX4_hush d 0 0 [.ref (G.1 + 0), .int (nI j), .int y] h (fun v h' => v = some (.int (σ 0 4 ^^^ (1 <<< (nI j &&& 31)))) ∧ XS G h' (u2 (kpS σ a k) 0 (upd (σ 0) 4 (σ 0 4 ^^^ (1 <<< (nI j &&& 31))))) ∧ mj_fr 0 220 h h') := by
  refine mj_conV okX4_hush (ls := [some (.ref (G.1 + 0)), some (.int (nI j)), some (.int y)]) rfl rfl ?_
  obtain ⟨x0, x1, xt, xn, xf, xa, x188, x189, xr, xi⟩ := id hX
  obtain ⟨n0, n1, n2, n3, n4, n5, n6⟩ := id xn
  have a18 := xa.1
  have t2 := xt.1
  have t3 := xt.2
  refine s_aload_n (n := 1) (i := 0) dX4_hush_0 rfl rfl rfl ?_
  refine s_iload_n (n := 2) (i := 1) dX4_hush_1 rfl rfl rfl ?_
  refine s_v1 (M' := MX4_isHouse) (n := 5) (ci := 4) dX4_hush_2 rfl wd_X4_152 okX4_isHouse rfl rfl (by omega) ⟨Nat.le_refl _, Nat.le_refl _⟩ (by assumption) (c_isHouse (d := d - 1) hX hn h7 (by omega)) ?_
  rintro v2 hh2 ⟨rfl, rfl⟩
  refine s_if_eq (n := 8) (tgt := 17) dX4_hush_5 rfl rfl (fun b5 => ?_) (fun b5 => ?_)
  · exact absurd (Hs_n hj h7) (if0 b5)
  · refine s_iload_n (n := 9) (i := 2) dX4_hush_8 rfl rfl rfl ?_
    refine s_iconst (n := 10) (v := 0) dX4_hush_9 rfl (by decide) ?_
    refine s_iconst (n := 11) (v := 1) dX4_hush_10 rfl (by decide) ?_
    refine s_s3 (M' := MX4_isWithin) (n := 14) dX4_hush_11 rfl wd_X4_52 okX4_isWithin rfl (by omega) ⟨Nat.le_refl _, Nat.le_refl _⟩ (c_within (d := d - 1) (A := 0) (B := 1) (by decide) (by decide)) ?_
    rintro v11 hh11 ⟨rfl, rfl⟩
    refine s_if_ne (n := 17) (tgt := 20) dX4_hush_14 rfl rfl (fun b14 => ?_) (fun b14 => ?_)
    · refine s_aload_n (n := 21) (i := 0) dX4_hush_20 rfl rfl rfl ?_
      refine gf_X4_25 (n := 24) rfl dX4_hush_21 rfl (by assumption) (by rfl) ?_
      refine s_iload_n (n := 25) (i := 1) dX4_hush_24 rfl rfl rfl ?_
      refine s_v1 (M' := MX2_isHushed) (n := 28) (ci := 2) dX4_hush_25 rfl wd_X4_158 okX2_isHushed rfl rfl (by omega) ⟨Nat.le_refl _, Nat.le_refl _⟩ (by assumption) (c_isHushed (d := d - 1) xn) ?_
      rintro v25 hh25 ⟨rfl, rfl⟩
      refine s_iload_n (n := 29) (i := 2) dX4_hush_28 rfl rfl rfl ?_
      refine s_iconst (n := 30) (v := 1) dX4_hush_29 rfl (by decide) ?_
      refine s_icmp_ne (n := 33) (tgt := 37) dX4_hush_30 rfl rfl (fun b30 => ?_) (fun b30 => ?_)
      · rw [if_neg b30] at hq
        refine s_iconst (n := 38) (v := 0) dX4_hush_37 rfl (by decide) ?_
        refine s_icmp_ne (n := 41) (tgt := 44) dX4_hush_38 rfl rfl (fun b38 => ?_) (fun b38 => ?_)
        · refine s_aload_n (n := 45) (i := 0) dX4_hush_44 rfl rfl rfl ?_
          refine gf_X4_35 (n := 48) rfl dX4_hush_45 rfl (by assumption) (by rfl) ?_
          refine s_aload_n (n := 49) (i := 0) dX4_hush_48 rfl rfl rfl ?_
          refine gf_X4_25 (n := 52) rfl dX4_hush_49 rfl (by assumption) (by rfl) ?_
          refine s_v1 (M' := MX0_keep) (n := 55) (ci := 0) dX4_hush_52 rfl wd_X4_143 okX0_keep rfl rfl (by omega) ⟨Nat.le_refl _, Nat.le_refl _⟩ (by assumption) (c_keep (d := d - 1) xa xn (by omega) ha0 ha hk0 hk (by omega)) ?_
          rintro v52 hh52 ⟨rfl, hA1, hF1⟩
          have hX1 := XS_acts hX hA1 hF1
          replace hF1 := fr_wid (p' := 0) (w' := 220) hF1 (by omega) (by omega)
          obtain ⟨x0, x1, xt, xn, xf, xa, x188, x189, xr, xi⟩ := id hX1
          obtain ⟨n0, n1, n2, n3, n4, n5, n6⟩ := id xn
          refine s_aload_n (n := 56) (i := 0) dX4_hush_55 rfl rfl rfl ?_
          refine gf_X4_25 (n := 59) rfl dX4_hush_56 rfl (by assumption) (by rfl) ?_
          refine s_dup (n := 60) dX4_hush_59 rfl rfl ?_
          refine gf_X4_161 (n := 63) rfl dX4_hush_60 rfl (by assumption) (by rfl) ?_
          refine s_iconst (n := 64) (v := 1) dX4_hush_63 rfl (by decide) ?_
          refine s_iload_n (n := 65) (i := 1) dX4_hush_64 rfl rfl rfl ?_
          refine s_ishl (n := 66) dX4_hush_65 rfl ?_
          refine s_ixor (n := 67) dX4_hush_66 rfl ?_
          refine pf_X4_161 (n := 70) (fs' := [_, _, _, _, _, _, _, _, _, _, _, _]) rfl dX4_hush_67 rfl (by assumption) (by rfl) (by rfl) ?_
          refine St_put_hushed xn (fun h2 hS2 hF2 => ?_)
          have hX2 := XS_now hX1 hS2 hF2
          obtain ⟨x0, x1, xt, xn, xf, xa, x188, x189, xr, xi⟩ := id hX2
          obtain ⟨n0, n1, n2, n3, n4, n5, n6⟩ := id xn
          refine s_aload_n (n := 71) (i := 0) dX4_hush_70 rfl rfl rfl ?_
          refine gf_X4_25 (n := 74) rfl dX4_hush_71 rfl (by assumption) (by rfl) ?_
          refine gf_X4_161 (n := 77) rfl dX4_hush_74 rfl (by assumption) (by rfl) ?_
          refine s_ireturn dX4_hush_77 rfl (rfl) (Nat.le_refl _) (Nat.le_refl _) ?_
          exact ⟨rfl, hX2, fr_tr hF1 (fr_wid hF2 (by omega) (by omega))⟩
        · exact absurd b38 hq
      · rw [if_pos b30] at hq
        refine s_iconst (n := 34) (v := 1) dX4_hush_33 rfl (by decide) ?_
        refine s_goto (tgt := 38) dX4_hush_34 rfl ?_
        refine s_icmp_ne (n := 41) (tgt := 44) dX4_hush_38 rfl rfl (fun b38 => ?_) (fun b38 => ?_)
        · refine s_aload_n (n := 45) (i := 0) dX4_hush_44 rfl rfl rfl ?_
          refine gf_X4_35 (n := 48) rfl dX4_hush_45 rfl (by assumption) (by rfl) ?_
          refine s_aload_n (n := 49) (i := 0) dX4_hush_48 rfl rfl rfl ?_
          refine gf_X4_25 (n := 52) rfl dX4_hush_49 rfl (by assumption) (by rfl) ?_
          refine s_v1 (M' := MX0_keep) (n := 55) (ci := 0) dX4_hush_52 rfl wd_X4_143 okX0_keep rfl rfl (by omega) ⟨Nat.le_refl _, Nat.le_refl _⟩ (by assumption) (c_keep (d := d - 1) xa xn (by omega) ha0 ha hk0 hk (by omega)) ?_
          rintro v52 hh52 ⟨rfl, hA1, hF1⟩
          have hX1 := XS_acts hX hA1 hF1
          replace hF1 := fr_wid (p' := 0) (w' := 220) hF1 (by omega) (by omega)
          obtain ⟨x0, x1, xt, xn, xf, xa, x188, x189, xr, xi⟩ := id hX1
          obtain ⟨n0, n1, n2, n3, n4, n5, n6⟩ := id xn
          refine s_aload_n (n := 56) (i := 0) dX4_hush_55 rfl rfl rfl ?_
          refine gf_X4_25 (n := 59) rfl dX4_hush_56 rfl (by assumption) (by rfl) ?_
          refine s_dup (n := 60) dX4_hush_59 rfl rfl ?_
          refine gf_X4_161 (n := 63) rfl dX4_hush_60 rfl (by assumption) (by rfl) ?_
          refine s_iconst (n := 64) (v := 1) dX4_hush_63 rfl (by decide) ?_
          refine s_iload_n (n := 65) (i := 1) dX4_hush_64 rfl rfl rfl ?_
          refine s_ishl (n := 66) dX4_hush_65 rfl ?_
          refine s_ixor (n := 67) dX4_hush_66 rfl ?_
          refine pf_X4_161 (n := 70) (fs' := [_, _, _, _, _, _, _, _, _, _, _, _]) rfl dX4_hush_67 rfl (by assumption) (by rfl) (by rfl) ?_
          refine St_put_hushed xn (fun h2 hS2 hF2 => ?_)
          have hX2 := XS_now hX1 hS2 hF2
          obtain ⟨x0, x1, xt, xn, xf, xa, x188, x189, xr, xi⟩ := id hX2
          obtain ⟨n0, n1, n2, n3, n4, n5, n6⟩ := id xn
          refine s_aload_n (n := 71) (i := 0) dX4_hush_70 rfl rfl rfl ?_
          refine gf_X4_25 (n := 74) rfl dX4_hush_71 rfl (by assumption) (by rfl) ?_
          refine gf_X4_161 (n := 77) rfl dX4_hush_74 rfl (by assumption) (by rfl) ?_
          refine s_ireturn dX4_hush_77 rfl (rfl) (Nat.le_refl _) (Nat.le_refl _) ?_
          exact ⟨rfl, hX2, fr_tr hF1 (fr_wid hF2 (by omega) (by omega))⟩
        · exact absurd b38 hq
    · exact absurd (hy) (if0 b14)
set_option maxRecDepth 100000 in
set_option maxHeartbeats 4000000 in
theorem k_undo_st {G : mj_G} {h : mj_H} {d : Nat} {σ : Nat → Nat → Int32} (hX : XS G h σ) (hb : σ 28 1 = 0) (hd : 4 ≤ d) : mj_con G MX4_undo d 0 0 [.ref (G.1 + 0)] h (rI (-1000002) h) := by
  refine mj_conV okX4_undo (ls := [some (.ref (G.1 + 0))]) rfl rfl ?_
  obtain ⟨x0, x1, xt, xn, xf, xa, x188, x189, xr, xi⟩ := id hX
  obtain ⟨n0, n1, n2, n3, n4, n5, n6⟩ := id xn
  have a18 := xa.1
  have t2 := xt.1
  have t3 := xt.2
  refine s_aload_n (n := 1) (i := 0) dX4_undo_0 rfl rfl rfl ?_
  refine gf_X4_35 (n := 4) rfl dX4_undo_1 rfl (by assumption) (by rfl) ?_
  refine s_aload_n (n := 5) (i := 0) dX4_undo_4 rfl rfl rfl ?_
  refine gf_X4_25 (n := 8) rfl dX4_undo_5 rfl (by assumption) (by rfl) ?_
  refine s_v1 (M' := MX0_undoLatest) (n := 11) (ci := 0) dX4_undo_8 rfl wd_X4_130 okX0_undoLatest rfl rfl (by omega) ⟨Nat.le_refl _, Nat.le_refl _⟩ (by assumption) (c_undo0 (d := d - 1) xa hb) ?_
  rintro v8 hh8 ⟨rfl, rfl⟩
  refine s_if_eq (n := 14) (tgt := 24) dX4_undo_11 rfl rfl (fun b11 => ?_) (fun b11 => ?_)
  · refine s_ldc (n := 26) dX4_undo_24 rfl wd_X4_136 ?_
    refine s_ireturn dX4_undo_26 rfl (rfl) (Nat.le_refl _) (Nat.le_refl _) ?_
    exact ⟨rfl, rfl⟩
  · exact absurd rfl b11
def udS (σ : Nat → Nat → Int32) (a k : Nat) : Nat → Nat → Int32 := u2 (uA σ (fun i => σ (2 + i)) (upd (upd (σ 28) 0 (nI ((a + 23) % 24))) 1 (nI k))) 0 (σ (2 + (a + 23) % 24))
set_option maxRecDepth 100000 in
set_option maxHeartbeats 4000000 in
theorem k_undo {G : mj_G} {h : mj_H} {d : Nat} {σ : Nat → Nat → Int32} (hX : XS G h σ) {a k : Nat} (ha0 : σ 28 0 = nI a) (ha : a < 24) (hk0 : σ 28 1 = nI (k + 1)) (hk : k < 24) (hd : 4 ≤ d) : mj_con G MX4_undo d 0 0 [.ref (G.1 + 0)] h (fun v h' => v = some (.int (nI k)) ∧ XS G h' (udS σ a k) ∧ mj_fr 0 220 h h') := by
  refine mj_conV okX4_undo (ls := [some (.ref (G.1 + 0))]) rfl rfl ?_
  obtain ⟨x0, x1, xt, xn, xf, xa, x188, x189, xr, xi⟩ := id hX
  obtain ⟨n0, n1, n2, n3, n4, n5, n6⟩ := id xn
  have a18 := xa.1
  have t2 := xt.1
  have t3 := xt.2
  refine s_aload_n (n := 1) (i := 0) dX4_undo_0 rfl rfl rfl ?_
  refine gf_X4_35 (n := 4) rfl dX4_undo_1 rfl (by assumption) (by rfl) ?_
  refine s_aload_n (n := 5) (i := 0) dX4_undo_4 rfl rfl rfl ?_
  refine gf_X4_25 (n := 8) rfl dX4_undo_5 rfl (by assumption) (by rfl) ?_
  refine s_v1 (M' := MX0_undoLatest) (n := 11) (ci := 0) dX4_undo_8 rfl wd_X4_130 okX0_undoLatest rfl rfl (by omega) ⟨Nat.le_refl _, Nat.le_refl _⟩ (by assumption) (c_undo (d := d - 1) xa xn (by omega) ha0 ha hk0 hk (by omega)) ?_
  rintro v8 hh8 ⟨rfl, h1, hA1, hF1, hS2, hF2⟩
  have hX1 := XS_acts hX hA1 hF1
  have hX2 := XS_now hX1 hS2 hF2
  obtain ⟨x0, x1, xt, xn, xf, xa, x188, x189, xr, xi⟩ := id hX2
  have a18 := xa.1
  refine s_if_eq (n := 14) (tgt := 24) dX4_undo_11 rfl rfl (fun b11 => ?_) (fun b11 => ?_)
  · exact absurd b11 (by decide)
  · refine s_aload_n (n := 15) (i := 0) dX4_undo_14 rfl rfl rfl ?_
    refine gf_X4_35 (n := 18) rfl dX4_undo_15 rfl (by assumption) (by rfl) ?_
    refine gf_X4_133 (n := 21) rfl dX4_undo_18 rfl (by assumption) (by rfl) ?_
    refine s_goto (tgt := 26) dX4_undo_21 rfl ?_
    refine s_ireturn dX4_undo_26 rfl (rfl) (Nat.le_refl _) (Nat.le_refl _) ?_
    exact ⟨rfl, hX2, fr_tr (fr_wid hF1 (by omega) (by omega)) (fr_wid hF2 (by omega) (by omega))⟩
set_option maxRecDepth 100000 in
set_option maxHeartbeats 4000000 in
theorem k_image_bad {G : mj_G} {h : mj_H} {d : Nat} {σ : Nat → Nat → Int32} (hX : XS G h σ) {x : Int32} (hb : ¬ Wi x 0 1) (hd : 2 ≤ d) : mj_con G MX4_image d 0 0 [.ref (G.1 + 0), .int x] h (rI (-1000001) h) := by
  refine mj_conV okX4_image (ls := [some (.ref (G.1 + 0)), some (.int x)]) rfl rfl ?_
  obtain ⟨x0, x1, xt, xn, xf, xa, x188, x189, xr, xi⟩ := id hX
  obtain ⟨n0, n1, n2, n3, n4, n5, n6⟩ := id xn
  have a18 := xa.1
  have t2 := xt.1
  have t3 := xt.2
  refine s_iload_n (n := 1) (i := 1) dX4_image_0 rfl rfl rfl ?_
  refine s_iconst (n := 2) (v := 0) dX4_image_1 rfl (by decide) ?_
  refine s_iconst (n := 3) (v := 1) dX4_image_2 rfl (by decide) ?_
  refine s_s3 (M' := MX4_isWithin) (n := 6) dX4_image_3 rfl wd_X4_52 okX4_isWithin rfl (by omega) ⟨Nat.le_refl _, Nat.le_refl _⟩ (c_within (d := d - 1) (A := 0) (B := 1) (by decide) (by decide)) ?_
  rintro v3 hh3 ⟨rfl, rfl⟩
  refine s_if_ne (n := 9) (tgt := 12) dX4_image_6 rfl rfl (fun b6 => ?_) (fun b6 => ?_)
  · exact absurd (if1 b6) hb
  · refine s_ldc (n := 11) dX4_image_9 rfl wd_X4_56 ?_
    refine s_ireturn dX4_image_11 rfl (rfl) (Nat.le_refl _) (Nat.le_refl _) ?_
    exact ⟨rfl, rfl⟩
set_option maxRecDepth 100000 in
set_option maxHeartbeats 4000000 in
theorem k_image_st {G : mj_G} {h : mj_H} {d : Nat} {σ : Nat → Nat → Int32} (hX : XS G h σ) {x : Int32} (hx : Wi x 0 1) (hb : ¬ 0 < σ 0 2) (hd : 2 ≤ d) : mj_con G MX4_image d 0 0 [.ref (G.1 + 0), .int x] h (rI (-1000002) h) := by
  refine mj_conV okX4_image (ls := [some (.ref (G.1 + 0)), some (.int x)]) rfl rfl ?_
  obtain ⟨x0, x1, xt, xn, xf, xa, x188, x189, xr, xi⟩ := id hX
  obtain ⟨n0, n1, n2, n3, n4, n5, n6⟩ := id xn
  have a18 := xa.1
  have t2 := xt.1
  have t3 := xt.2
  refine s_iload_n (n := 1) (i := 1) dX4_image_0 rfl rfl rfl ?_
  refine s_iconst (n := 2) (v := 0) dX4_image_1 rfl (by decide) ?_
  refine s_iconst (n := 3) (v := 1) dX4_image_2 rfl (by decide) ?_
  refine s_s3 (M' := MX4_isWithin) (n := 6) dX4_image_3 rfl wd_X4_52 okX4_isWithin rfl (by omega) ⟨Nat.le_refl _, Nat.le_refl _⟩ (c_within (d := d - 1) (A := 0) (B := 1) (by decide) (by decide)) ?_
  rintro v3 hh3 ⟨rfl, rfl⟩
  refine s_if_ne (n := 9) (tgt := 12) dX4_image_6 rfl rfl (fun b6 => ?_) (fun b6 => ?_)
  · refine s_aload_n (n := 13) (i := 0) dX4_image_12 rfl rfl rfl ?_
    refine gf_X4_25 (n := 16) rfl dX4_image_13 rfl (by assumption) (by rfl) ?_
    refine s_v0 (M' := MX2_stands) (n := 19) (ci := 2) dX4_image_16 rfl wd_X4_137 okX2_stands rfl rfl (by omega) ⟨Nat.le_refl _, Nat.le_refl _⟩ (by assumption) (c_stands (d := d - 1) xn) ?_
    rintro v16 hh16 ⟨rfl, rfl⟩
    refine s_if_ne (n := 22) (tgt := 25) dX4_image_19 rfl rfl (fun b19 => ?_) (fun b19 => ?_)
    · exact absurd (if1 b19) (hb)
    · refine s_ldc (n := 24) dX4_image_22 rfl wd_X4_136 ?_
      refine s_ireturn dX4_image_24 rfl (rfl) (Nat.le_refl _) (Nat.le_refl _) ?_
      exact ⟨rfl, rfl⟩
  · exact absurd (hx) (if0 b6)
set_option maxRecDepth 100000 in
set_option maxHeartbeats 4000000 in
theorem k_image {G : mj_G} {h : mj_H} {d : Nat} {σ : Nat → Nat → Int32} (hX : XS G h σ) {a : Nat} (ha : a < 2) (h0 : 0 < σ 0 2) (hd : 3 ≤ d) : mj_con G MX4_image d 0 0 [.ref (G.1 + 0), .int (nI a)] h (fun v h' => v = some (.int (1)) ∧ XS G h' (u2 σ (26 + a) (σ 0)) ∧ mj_fr 0 220 h h') := by
  refine mj_conV okX4_image (ls := [some (.ref (G.1 + 0)), some (.int (nI a))]) rfl rfl ?_
  obtain ⟨x0, x1, xt, xn, xf, xa, x188, x189, xr, xi⟩ := id hX
  obtain ⟨n0, n1, n2, n3, n4, n5, n6⟩ := id xn
  have a18 := xa.1
  have t2 := xt.1
  have t3 := xt.2
  have i0 := (xi a ha).1
  refine s_iload_n (n := 1) (i := 1) dX4_image_0 rfl rfl rfl ?_
  refine s_iconst (n := 2) (v := 0) dX4_image_1 rfl (by decide) ?_
  refine s_iconst (n := 3) (v := 1) dX4_image_2 rfl (by decide) ?_
  refine s_s3 (M' := MX4_isWithin) (n := 6) dX4_image_3 rfl wd_X4_52 okX4_isWithin rfl (by omega) ⟨Nat.le_refl _, Nat.le_refl _⟩ (c_within (d := d - 1) (A := 0) (B := 1) (by decide) (by decide)) ?_
  rintro v3 hh3 ⟨rfl, rfl⟩
  refine s_if_ne (n := 9) (tgt := 12) dX4_image_6 rfl rfl (fun b6 => ?_) (fun b6 => ?_)
  · refine s_aload_n (n := 13) (i := 0) dX4_image_12 rfl rfl rfl ?_
    refine gf_X4_25 (n := 16) rfl dX4_image_13 rfl (by assumption) (by rfl) ?_
    refine s_v0 (M' := MX2_stands) (n := 19) (ci := 2) dX4_image_16 rfl wd_X4_137 okX2_stands rfl rfl (by omega) ⟨Nat.le_refl _, Nat.le_refl _⟩ (by assumption) (c_stands (d := d - 1) xn) ?_
    rintro v16 hh16 ⟨rfl, rfl⟩
    refine s_if_ne (n := 22) (tgt := 25) dX4_image_19 rfl rfl (fun b19 => ?_) (fun b19 => ?_)
    · refine s_aload_n (n := 26) (i := 0) dX4_image_25 rfl rfl rfl ?_
      refine gf_X4_39 (n := 29) rfl dX4_image_26 rfl (by assumption) (by rfl) ?_
      refine s_iload_n (n := 30) (i := 1) dX4_image_29 rfl rfl rfl ?_
      refine s_aald (n := 31) (t := 3) (C0 := RX2) dX4_image_30 rfl rfl (by assumption) (mj_ixn (by omega)) (imgA_at (by omega)) ?_
      refine s_aload_n (n := 32) (i := 0) dX4_image_31 rfl rfl rfl ?_
      refine gf_X4_25 (n := 35) rfl dX4_image_32 rfl (by assumption) (by rfl) ?_
      refine s_v1 (M' := MX2_takeFrom) (n := 38) (ci := 2) dX4_image_35 rfl wd_X4_120 okX2_takeFrom rfl rfl (by omega) ⟨Nat.le_refl _, Nat.le_refl _⟩ (by assumption) (c_takeFrom (d := d - 1) (xi a ha) xn (by omega) (by omega)) ?_
      rintro v35 hh35 ⟨rfl, hS1, hF1⟩
      refine s_iconst (n := 39) (v := 1) dX4_image_38 rfl (by decide) ?_
      refine s_ireturn dX4_image_39 rfl (rfl) (Nat.le_refl _) (Nat.le_refl _) ?_
      exact ⟨rfl, XS_img ha hX hS1 hF1, fr_wid hF1 (by omega) (by omega)⟩
    · exact absurd (h0) (if0 b19)
  · exact absurd (Wi_n (by omega) (by omega) (by omega)) (if0 b6)
set_option maxRecDepth 100000 in
set_option maxHeartbeats 4000000 in
theorem k_restore_bad {G : mj_G} {h : mj_H} {d : Nat} {σ : Nat → Nat → Int32} (hX : XS G h σ) {x : Int32} (hb : ¬ Wi x 0 1) (hd : 2 ≤ d) : mj_con G MX4_restore d 0 0 [.ref (G.1 + 0), .int x] h (rI (-1000001) h) := by
  refine mj_conV okX4_restore (ls := [some (.ref (G.1 + 0)), some (.int x)]) rfl rfl ?_
  obtain ⟨x0, x1, xt, xn, xf, xa, x188, x189, xr, xi⟩ := id hX
  obtain ⟨n0, n1, n2, n3, n4, n5, n6⟩ := id xn
  have a18 := xa.1
  have t2 := xt.1
  have t3 := xt.2
  refine s_iload_n (n := 1) (i := 1) dX4_restore_0 rfl rfl rfl ?_
  refine s_iconst (n := 2) (v := 0) dX4_restore_1 rfl (by decide) ?_
  refine s_iconst (n := 3) (v := 1) dX4_restore_2 rfl (by decide) ?_
  refine s_s3 (M' := MX4_isWithin) (n := 6) dX4_restore_3 rfl wd_X4_52 okX4_isWithin rfl (by omega) ⟨Nat.le_refl _, Nat.le_refl _⟩ (c_within (d := d - 1) (A := 0) (B := 1) (by decide) (by decide)) ?_
  rintro v3 hh3 ⟨rfl, rfl⟩
  refine s_if_ne (n := 9) (tgt := 12) dX4_restore_6 rfl rfl (fun b6 => ?_) (fun b6 => ?_)
  · exact absurd (if1 b6) hb
  · refine s_ldc (n := 11) dX4_restore_9 rfl wd_X4_56 ?_
    refine s_ireturn dX4_restore_11 rfl (rfl) (Nat.le_refl _) (Nat.le_refl _) ?_
    exact ⟨rfl, rfl⟩
set_option maxRecDepth 100000 in
set_option maxHeartbeats 4000000 in
theorem k_restore_st {G : mj_G} {h : mj_H} {d : Nat} {σ : Nat → Nat → Int32} (hX : XS G h σ) {a : Nat} (ha : a < 2) (hb : ¬ 0 < σ (26 + a) 2) (hd : 2 ≤ d) : mj_con G MX4_restore d 0 0 [.ref (G.1 + 0), .int (nI a)] h (rI (-1000002) h) := by
  refine mj_conV okX4_restore (ls := [some (.ref (G.1 + 0)), some (.int (nI a))]) rfl rfl ?_
  obtain ⟨x0, x1, xt, xn, xf, xa, x188, x189, xr, xi⟩ := id hX
  obtain ⟨n0, n1, n2, n3, n4, n5, n6⟩ := id xn
  have a18 := xa.1
  have t2 := xt.1
  have t3 := xt.2
  have i0 := (xi a ha).1
  refine s_iload_n (n := 1) (i := 1) dX4_restore_0 rfl rfl rfl ?_
  refine s_iconst (n := 2) (v := 0) dX4_restore_1 rfl (by decide) ?_
  refine s_iconst (n := 3) (v := 1) dX4_restore_2 rfl (by decide) ?_
  refine s_s3 (M' := MX4_isWithin) (n := 6) dX4_restore_3 rfl wd_X4_52 okX4_isWithin rfl (by omega) ⟨Nat.le_refl _, Nat.le_refl _⟩ (c_within (d := d - 1) (A := 0) (B := 1) (by decide) (by decide)) ?_
  rintro v3 hh3 ⟨rfl, rfl⟩
  refine s_if_ne (n := 9) (tgt := 12) dX4_restore_6 rfl rfl (fun b6 => ?_) (fun b6 => ?_)
  · refine s_aload_n (n := 13) (i := 0) dX4_restore_12 rfl rfl rfl ?_
    refine gf_X4_39 (n := 16) rfl dX4_restore_13 rfl (by assumption) (by rfl) ?_
    refine s_iload_n (n := 17) (i := 1) dX4_restore_16 rfl rfl rfl ?_
    refine s_aald (n := 18) (t := 3) (C0 := RX2) dX4_restore_17 rfl rfl (by assumption) (mj_ixn (by omega)) (imgA_at (by omega)) ?_
    refine s_v0 (M' := MX2_stands) (n := 21) (ci := 2) dX4_restore_18 rfl wd_X4_137 okX2_stands rfl rfl (by omega) ⟨Nat.le_refl _, Nat.le_refl _⟩ (by assumption) (c_stands (d := d - 1) (xi a ha)) ?_
    rintro v18 hh18 ⟨rfl, rfl⟩
    refine s_if_ne (n := 24) (tgt := 27) dX4_restore_21 rfl rfl (fun b21 => ?_) (fun b21 => ?_)
    · exact absurd (if1 b21) (hb)
    · refine s_ldc (n := 26) dX4_restore_24 rfl wd_X4_136 ?_
      refine s_ireturn dX4_restore_26 rfl (rfl) (Nat.le_refl _) (Nat.le_refl _) ?_
      exact ⟨rfl, rfl⟩
  · exact absurd (Wi_n (by omega) (by omega) (by omega)) (if0 b6)
set_option maxRecDepth 100000 in
set_option maxHeartbeats 4000000 in
theorem k_restore {G : mj_G} {h : mj_H} {d : Nat} {σ : Nat → Nat → Int32} (hX : XS G h σ) {a : Nat} (ha : a < 2) (h0 : 0 < σ (26 + a) 2) (hd : 3 ≤ d) : mj_con G MX4_restore d 0 0 [.ref (G.1 + 0), .int (nI a)] h (fun v h' => v = some (.int (1)) ∧ XS G h' (uA (u2 σ 0 (σ (26 + a))) (fun i => u2 σ 0 (σ (26 + a)) (2 + i)) (upd (upd (σ 28) 0 (σ 28 0)) 1 0)) ∧ mj_fr 0 220 h h') := by
  refine mj_conV okX4_restore (ls := [some (.ref (G.1 + 0)), some (.int (nI a))]) rfl rfl ?_
  obtain ⟨x0, x1, xt, xn, xf, xa, x188, x189, xr, xi⟩ := id hX
  obtain ⟨n0, n1, n2, n3, n4, n5, n6⟩ := id xn
  have a18 := xa.1
  have t2 := xt.1
  have t3 := xt.2
  have i0 := (xi a ha).1
  refine s_iload_n (n := 1) (i := 1) dX4_restore_0 rfl rfl rfl ?_
  refine s_iconst (n := 2) (v := 0) dX4_restore_1 rfl (by decide) ?_
  refine s_iconst (n := 3) (v := 1) dX4_restore_2 rfl (by decide) ?_
  refine s_s3 (M' := MX4_isWithin) (n := 6) dX4_restore_3 rfl wd_X4_52 okX4_isWithin rfl (by omega) ⟨Nat.le_refl _, Nat.le_refl _⟩ (c_within (d := d - 1) (A := 0) (B := 1) (by decide) (by decide)) ?_
  rintro v3 hh3 ⟨rfl, rfl⟩
  refine s_if_ne (n := 9) (tgt := 12) dX4_restore_6 rfl rfl (fun b6 => ?_) (fun b6 => ?_)
  · refine s_aload_n (n := 13) (i := 0) dX4_restore_12 rfl rfl rfl ?_
    refine gf_X4_39 (n := 16) rfl dX4_restore_13 rfl (by assumption) (by rfl) ?_
    refine s_iload_n (n := 17) (i := 1) dX4_restore_16 rfl rfl rfl ?_
    refine s_aald (n := 18) (t := 3) (C0 := RX2) dX4_restore_17 rfl rfl (by assumption) (mj_ixn (by omega)) (imgA_at (by omega)) ?_
    refine s_v0 (M' := MX2_stands) (n := 21) (ci := 2) dX4_restore_18 rfl wd_X4_137 okX2_stands rfl rfl (by omega) ⟨Nat.le_refl _, Nat.le_refl _⟩ (by assumption) (c_stands (d := d - 1) (xi a ha)) ?_
    rintro v18 hh18 ⟨rfl, rfl⟩
    refine s_if_ne (n := 24) (tgt := 27) dX4_restore_21 rfl rfl (fun b21 => ?_) (fun b21 => ?_)
    · refine s_aload_n (n := 28) (i := 0) dX4_restore_27 rfl rfl rfl ?_
      refine gf_X4_25 (n := 31) rfl dX4_restore_28 rfl (by assumption) (by rfl) ?_
      refine s_aload_n (n := 32) (i := 0) dX4_restore_31 rfl rfl rfl ?_
      refine gf_X4_39 (n := 35) rfl dX4_restore_32 rfl (by assumption) (by rfl) ?_
      refine s_iload_n (n := 36) (i := 1) dX4_restore_35 rfl rfl rfl ?_
      refine s_aald (n := 37) (t := 3) (C0 := RX2) dX4_restore_36 rfl rfl (by assumption) (mj_ixn (by omega)) (imgA_at (by omega)) ?_
      refine s_v1 (M' := MX2_takeFrom) (n := 40) (ci := 2) dX4_restore_37 rfl wd_X4_120 okX2_takeFrom rfl rfl (by omega) ⟨Nat.le_refl _, Nat.le_refl _⟩ (by assumption) (c_takeFrom (d := d - 1) xn (xi a ha) (by omega) (by omega)) ?_
      rintro v37 hh37 ⟨rfl, hS1, hF1⟩
      have hX1 := XS_now hX hS1 hF1
      obtain ⟨x0, x1, xt, xn, xf, xa, x188, x189, xr, xi⟩ := id hX1
      have a18 := xa.1
      refine s_aload_n (n := 41) (i := 0) dX4_restore_40 rfl rfl rfl ?_
      refine gf_X4_35 (n := 44) rfl dX4_restore_41 rfl (by assumption) (by rfl) ?_
      refine s_v0 (M' := MX0_forgetAll) (n := 47) (ci := 0) dX4_restore_44 rfl wd_X4_124 okX0_forgetAll rfl rfl (by omega) ⟨Nat.le_refl _, Nat.le_refl _⟩ (by assumption) (c_forgetAll (d := d - 1) xa) ?_
      rintro v44 hh44 ⟨rfl, hA2, hF2⟩
      refine s_iconst (n := 48) (v := 1) dX4_restore_47 rfl (by decide) ?_
      refine s_ireturn dX4_restore_48 rfl (rfl) (Nat.le_refl _) (Nat.le_refl _) ?_
      exact ⟨rfl, XS_acts hX1 hA2 hF2, fr_tr (fr_wid hF1 (by omega) (by omega)) (fr_wid hF2 (by omega) (by omega))⟩
    · exact absurd (h0) (if0 b21)
  · exact absurd (Wi_n (by omega) (by omega) (by omega)) (if0 b6)
