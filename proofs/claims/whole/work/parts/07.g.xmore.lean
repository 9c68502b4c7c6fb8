def rth (l : Nat → Int32) : Nat → Int32
  | 0 => 0
  | m + 1 => if l m = -1 then rth l m else rth l m + 1
set_option maxRecDepth 100000 in
set_option maxHeartbeats 4000000 in
theorem l_rowsThere {G : mj_G} {h : mj_H} {d : Nat} {σ : Nat → Nat → Int32} (hX : XS G h σ) (hd : 1 ≤ d) : ∀ (r i : Nat), i + r = 8 → ∀ x : Int32, x = rth (σ 29) i → mj_wp G MX4_rowsThere d 0 0 4 [some (.ref (G.1 + 0)), some (.int x), some (.int (nI i))] [] h 0 0 (rI (rth (σ 29) 8) h) := by
  obtain ⟨x0, x1, xt, xn, xf, xa, x188, x189, xr, xi⟩ := id hX
  obtain ⟨n0, n1, n2, n3, n4, n5, n6⟩ := id xn
  have a18 := xa.1
  have t2 := xt.1
  have t3 := xt.2
  intro r
  induction r with
  | zero =>
    intro i hi x hx
    have hi8 : i = 8 := by omega
    subst hi8
    refine s_iload_n (n := 5) (i := 2) dX4_rowsThere_4 rfl rfl rfl ?_
    refine s_bipush (n := 7) (v := 8) dX4_rowsThere_5 rfl (by decide) ?_
    refine s_icmp_ge (n := 10) (tgt := 31) dX4_rowsThere_7 rfl rfl (fun b7 => ?_) (fun b7 => ?_)
    · refine s_iload_n (n := 32) (i := 1) dX4_rowsThere_31 rfl rfl rfl ?_
      refine s_ireturn dX4_rowsThere_32 rfl (rfl) (Nat.le_refl _) (Nat.le_refl _) ?_
      exact rI_ok hx
    · exact absurd (Int32.le_refl _) b7
  | succ r ih =>
    intro i hi x hx
    have ha : i < 8 := by omega
    have r0 := (xr i ha).1
    refine s_iload_n (n := 5) (i := 2) dX4_rowsThere_4 rfl rfl rfl ?_
    refine s_bipush (n := 7) (v := 8) dX4_rowsThere_5 rfl (by decide) ?_
    refine s_icmp_ge (n := 10) (tgt := 31) dX4_rowsThere_7 rfl rfl (fun b7 => ?_) (fun b7 => ?_)
    · exact absurd ((nI_leE (a := 8) (by omega) (by omega)).mp b7) (by omega)
    · refine s_aload_n (n := 11) (i := 0) dX4_rowsThere_10 rfl rfl rfl ?_
      refine gf_X4_11 (n := 14) rfl dX4_rowsThere_11 rfl (by assumption) (by rfl) ?_
      refine s_iload_n (n := 15) (i := 2) dX4_rowsThere_14 rfl rfl rfl ?_
      refine s_aald (n := 16) (t := 2) (C0 := RX1) dX4_rowsThere_15 rfl rfl (by assumption) (mj_ixn (by omega)) (rowA_at (by omega)) ?_
      refine s_v0 (M' := MX1_isMissing) (n := 19) (ci := 1) dX4_rowsThere_16 rfl wd_X4_75 okX1_isMissing rfl rfl (by omega) ⟨Nat.le_refl _, Nat.le_refl _⟩ (by assumption) (c_isMissing (d := d - 1) (xr i ha)) ?_
      rintro v16 hh16 ⟨rfl, rfl⟩
      refine s_if_ne (n := 22) (tgt := 25) dX4_rowsThere_19 rfl rfl (fun b19 => ?_) (fun b19 => ?_)
      · have e : x = rth (σ 29) (i + 1) := by
          refine hx.trans ?_
          show _ = if σ 29 i = -1 then _ else _
          rw [if_pos (if1 b19)]
        refine s_iinc (n := 28) (v := _ + 1) (ls' := [_, _, _]) dX4_rowsThere_25 rfl rfl rfl rfl rfl ?_
        refine s_goto (tgt := 4) dX4_rowsThere_28 rfl ?_
        rw [nI_1]
        exact ih (i + 1) (by omega) _ e
      · have e : x + 1 = rth (σ 29) (i + 1) := by
          rw [hx]
          show _ = if σ 29 i = -1 then _ else _
          rw [if_neg (if0 b19)]
        refine s_iinc (n := 25) (v := _ + 1) (ls' := [_, _, _]) dX4_rowsThere_22 rfl rfl rfl rfl rfl ?_
        refine s_iinc (n := 28) (v := _ + 1) (ls' := [_, _, _]) dX4_rowsThere_25 rfl rfl rfl rfl rfl ?_
        refine s_goto (tgt := 4) dX4_rowsThere_28 rfl ?_
        rw [nI_1]
        exact ih (i + 1) (by omega) _ e
set_option maxRecDepth 100000 in
set_option maxHeartbeats 4000000 in
theorem c_rowsThere {G : mj_G} {h : mj_H} {d : Nat} {σ : Nat → Nat → Int32} (hX : XS G h σ) (hd : 1 ≤ d) : mj_con G MX4_rowsThere d 0 0 [.ref (G.1 + 0)] h (rI (rth (σ 29) 8) h) := by
  refine mj_conV okX4_rowsThere (ls := [some (.ref (G.1 + 0)), none, none]) rfl rfl ?_
  obtain ⟨x0, x1, xt, xn, xf, xa, x188, x189, xr, xi⟩ := id hX
  obtain ⟨n0, n1, n2, n3, n4, n5, n6⟩ := id xn
  have a18 := xa.1
  have t2 := xt.1
  have t3 := xt.2
  refine s_iconst (n := 1) (v := 0) dX4_rowsThere_0 rfl (by decide) ?_
  refine s_istore_n (n := 2) (i := 1) (ls' := [_, _, _]) dX4_rowsThere_1 rfl rfl rfl rfl rfl ?_
  refine s_iconst (n := 3) (v := 0) dX4_rowsThere_2 rfl (by decide) ?_
  refine s_istore_n (n := 4) (i := 2) (ls' := [_, _, _]) dX4_rowsThere_3 rfl rfl rfl rfl rfl ?_
  exact l_rowsThere hX hd 8 0 (by omega) _ rfl
def cntF (n : Nat) (σ : Nat → Nat → Int32) (w : Nat) : Int32 := match w with
  | 0 => rth (σ 29) 8
  | 1 => σ 0 2
  | 2 => σ 0 3
  | 3 => σ 0 5
  | 4 => sumF (σ 0) 41 n
  | 5 => σ 0 4
  | 6 => σ 28 1
  | _ => σ 32 0
set_option maxRecDepth 100000 in
set_option maxHeartbeats 4000000 in
theorem k_count_bad {G : mj_G} {h : mj_H} {d : Nat} {σ : Nat → Nat → Int32} (hX : XS G h σ) {x : Int32} (hb : ¬ Wi x 0 7) (hd : 2 ≤ d) : mj_con G MX4_count d 0 0 [.ref (G.1 + 0), .int x] h (rI (-1000001) h) := by
  refine mj_conV okX4_count (ls := [some (.ref (G.1 + 0)), some (.int x)]) rfl rfl ?_
  obtain ⟨x0, x1, xt, xn, xf, xa, x188, x189, xr, xi⟩ := id hX
  obtain ⟨n0, n1, n2, n3, n4, n5, n6⟩ := id xn
  have a18 := xa.1
  have t2 := xt.1
  have t3 := xt.2
  refine s_iload_n (n := 1) (i := 1) dX4_count_0 rfl rfl rfl ?_
  refine t_X4_count_1 dX4_count_1 (fun e0 => ?_) (fun e1 => ?_) (fun e2 => ?_) (fun e3 => ?_) (fun e4 => ?_) (fun e5 => ?_) (fun e6 => ?_) (fun e7 => ?_) (fun e0 e1 e2 e3 e4 e5 e6 e7 => ?_)
  · subst e0
    exact absurd (by decide) hb
  · subst e1
    exact absurd (by decide) hb
  · subst e2
    exact absurd (by decide) hb
  · subst e3
    exact absurd (by decide) hb
  · subst e4
    exact absurd (by decide) hb
  · subst e5
    exact absurd (by decide) hb
  · subst e6
    exact absurd (by decide) hb
  · subst e7
    exact absurd (by decide) hb
  · refine s_ldc (n := 111) dX4_count_109 rfl wd_X4_56 ?_
    refine s_ireturn dX4_count_111 rfl (rfl) (Nat.le_refl _) (Nat.le_refl _) ?_
    exact ⟨rfl, rfl⟩
set_option maxRecDepth 100000 in
set_option maxHeartbeats 4000000 in
theorem k_count0 {G : mj_G} {h : mj_H} {d : Nat} {σ : Nat → Nat → Int32} (hX : XS G h σ) {n : Nat} (hn : σ 0 2 = nI n) (h7 : n ≤ 7) (hd : 2 ≤ d) : mj_con G MX4_count d 0 0 [.ref (G.1 + 0), .int 0] h (rI (cntF n σ 0) h) := by
  refine mj_conV okX4_count (ls := [some (.ref (G.1 + 0)), some (.int 0)]) rfl rfl ?_
  obtain ⟨x0, x1, xt, xn, xf, xa, x188, x189, xr, xi⟩ := id hX
  obtain ⟨n0, n1, n2, n3, n4, n5, n6⟩ := id xn
  have a18 := xa.1
  have t2 := xt.1
  have t3 := xt.2
  refine s_iload_n (n := 1) (i := 1) dX4_count_0 rfl rfl rfl ?_
  refine t_X4_count_1 dX4_count_1 (fun e0 => ?_) (fun e1 => ?_) (fun e2 => ?_) (fun e3 => ?_) (fun e4 => ?_) (fun e5 => ?_) (fun e6 => ?_) (fun e7 => ?_) (fun e0 e1 e2 e3 e4 e5 e6 e7 => ?_)
  · refine s_aload_n (n := 49) (i := 0) dX4_count_48 rfl rfl rfl ?_
    refine s_v0 (M' := MX4_rowsThere) (n := 52) (ci := 4) dX4_count_49 rfl wd_X4_272 okX4_rowsThere rfl rfl (by omega) ⟨Nat.le_refl _, Nat.le_refl _⟩ (by assumption) (c_rowsThere (d := d - 1) hX (by omega)) ?_
    rintro v49 hh49 ⟨rfl, rfl⟩
    refine s_ireturn dX4_count_52 rfl (rfl) (Nat.le_refl _) (Nat.le_refl _) ?_
    exact ⟨rfl, rfl⟩
  · exact absurd e1 (by decide)
  · exact absurd e2 (by decide)
  · exact absurd e3 (by decide)
  · exact absurd e4 (by decide)
  · exact absurd e5 (by decide)
  · exact absurd e6 (by decide)
  · exact absurd e7 (by decide)
  · exact absurd rfl e0
set_option maxRecDepth 100000 in
set_option maxHeartbeats 4000000 in
theorem k_count1 {G : mj_G} {h : mj_H} {d : Nat} {σ : Nat → Nat → Int32} (hX : XS G h σ) {n : Nat} (hn : σ 0 2 = nI n) (h7 : n ≤ 7) (hd : 2 ≤ d) : mj_con G MX4_count d 0 0 [.ref (G.1 + 0), .int 1] h (rI (cntF n σ 1) h) := by
  refine mj_conV okX4_count (ls := [some (.ref (G.1 + 0)), some (.int 1)]) rfl rfl ?_
  obtain ⟨x0, x1, xt, xn, xf, xa, x188, x189, xr, xi⟩ := id hX
  obtain ⟨n0, n1, n2, n3, n4, n5, n6⟩ := id xn
  have a18 := xa.1
  have t2 := xt.1
  have t3 := xt.2
  refine s_iload_n (n := 1) (i := 1) dX4_count_0 rfl rfl rfl ?_
  refine t_X4_count_1 dX4_count_1 (fun e0 => ?_) (fun e1 => ?_) (fun e2 => ?_) (fun e3 => ?_) (fun e4 => ?_) (fun e5 => ?_) (fun e6 => ?_) (fun e7 => ?_) (fun e0 e1 e2 e3 e4 e5 e6 e7 => ?_)
  · exact absurd e0 (by decide)
  · refine s_aload_n (n := 54) (i := 0) dX4_count_53 rfl rfl rfl ?_
    refine gf_X4_25 (n := 57) rfl dX4_count_54 rfl (by assumption) (by rfl) ?_
    refine gf_X4_127 (n := 60) rfl dX4_count_57 rfl (by assumption) (by rfl) ?_
    refine s_ireturn dX4_count_60 rfl (rfl) (Nat.le_refl _) (Nat.le_refl _) ?_
    exact ⟨rfl, rfl⟩
  · exact absurd e2 (by decide)
  · exact absurd e3 (by decide)
  · exact absurd e4 (by decide)
  · exact absurd e5 (by decide)
  · exact absurd e6 (by decide)
  · exact absurd e7 (by decide)
  · exact absurd rfl e1
set_option maxRecDepth 100000 in
set_option maxHeartbeats 4000000 in
theorem k_count2 {G : mj_G} {h : mj_H} {d : Nat} {σ : Nat → Nat → Int32} (hX : XS G h σ) {n : Nat} (hn : σ 0 2 = nI n) (h7 : n ≤ 7) (hd : 2 ≤ d) : mj_con G MX4_count d 0 0 [.ref (G.1 + 0), .int 2] h (rI (cntF n σ 2) h) := by
  refine mj_conV okX4_count (ls := [some (.ref (G.1 + 0)), some (.int 2)]) rfl rfl ?_
  obtain ⟨x0, x1, xt, xn, xf, xa, x188, x189, xr, xi⟩ := id hX
  obtain ⟨n0, n1, n2, n3, n4, n5, n6⟩ := id xn
  have a18 := xa.1
  have t2 := xt.1
  have t3 := xt.2
  refine s_iload_n (n := 1) (i := 1) dX4_count_0 rfl rfl rfl ?_
  refine t_X4_count_1 dX4_count_1 (fun e0 => ?_) (fun e1 => ?_) (fun e2 => ?_) (fun e3 => ?_) (fun e4 => ?_) (fun e5 => ?_) (fun e6 => ?_) (fun e7 => ?_) (fun e0 e1 e2 e3 e4 e5 e6 e7 => ?_)
  · exact absurd e0 (by decide)
  · exact absurd e1 (by decide)
  · refine s_aload_n (n := 62) (i := 0) dX4_count_61 rfl rfl rfl ?_
    refine gf_X4_25 (n := 65) rfl dX4_count_62 rfl (by assumption) (by rfl) ?_
    refine gf_X4_140 (n := 68) rfl dX4_count_65 rfl (by assumption) (by rfl) ?_
    refine s_ireturn dX4_count_68 rfl (rfl) (Nat.le_refl _) (Nat.le_refl _) ?_
    exact ⟨rfl, rfl⟩
  · exact absurd e3 (by decide)
  · exact absurd e4 (by decide)
  · exact absurd e5 (by decide)
  · exact absurd e6 (by decide)
  · exact absurd e7 (by decide)
  · exact absurd rfl e2
set_option maxRecDepth 100000 in
set_option maxHeartbeats 4000000 in
theorem k_count3 {G : mj_G} {h : mj_H} {d : Nat} {σ : Nat → Nat → Int32} (hX : XS G h σ) {n : Nat} (hn : σ 0 2 = nI n) (h7 : n ≤ 7) (hd : 2 ≤ d) : mj_con G MX4_count d 0 0 [.ref (G.1 + 0), .int 3] h (rI (cntF n σ 3) h) := by
  refine mj_conV okX4_count (ls := [some (.ref (G.1 + 0)), some (.int 3)]) rfl rfl ?_
  obtain ⟨x0, x1, xt, xn, xf, xa, x188, x189, xr, xi⟩ := id hX
  obtain ⟨n0, n1, n2, n3, n4, n5, n6⟩ := id xn
  have a18 := xa.1
  have t2 := xt.1
  have t3 := xt.2
  refine s_iload_n (n := 1) (i := 1) dX4_count_0 rfl rfl rfl ?_
  refine t_X4_count_1 dX4_count_1 (fun e0 => ?_) (fun e1 => ?_) (fun e2 => ?_) (fun e3 => ?_) (fun e4 => ?_) (fun e5 => ?_) (fun e6 => ?_) (fun e7 => ?_) (fun e0 e1 e2 e3 e4 e5 e6 e7 => ?_)
  · exact absurd e0 (by decide)
  · exact absurd e1 (by decide)
  · exact absurd e2 (by decide)
  · refine s_aload_n (n := 70) (i := 0) dX4_count_69 rfl rfl rfl ?_
    refine gf_X4_25 (n := 73) rfl dX4_count_70 rfl (by assumption) (by rfl) ?_
    refine gf_X4_149 (n := 76) rfl dX4_count_73 rfl (by assumption) (by rfl) ?_
    refine s_ireturn dX4_count_76 rfl (rfl) (Nat.le_refl _) (Nat.le_refl _) ?_
    exact ⟨rfl, rfl⟩
  · exact absurd e4 (by decide)
  · exact absurd e5 (by decide)
  · exact absurd e6 (by decide)
  · exact absurd e7 (by decide)
  · exact absurd rfl e3
set_option maxRecDepth 100000 in
set_option maxHeartbeats 4000000 in
theorem k_count4 {G : mj_G} {h : mj_H} {d : Nat} {σ : Nat → Nat → Int32} (hX : XS G h σ) {n : Nat} (hn : σ 0 2 = nI n) (h7 : n ≤ 7) (hd : 2 ≤ d) : mj_con G MX4_count d 0 0 [.ref (G.1 + 0), .int 4] h (rI (cntF n σ 4) h) := by
  refine mj_conV okX4_count (ls := [some (.ref (G.1 + 0)), some (.int 4)]) rfl rfl ?_
  obtain ⟨x0, x1, xt, xn, xf, xa, x188, x189, xr, xi⟩ := id hX
  obtain ⟨n0, n1, n2, n3, n4, n5, n6⟩ := id xn
  have a18 := xa.1
  have t2 := xt.1
  have t3 := xt.2
  refine s_iload_n (n := 1) (i := 1) dX4_count_0 rfl rfl rfl ?_
  refine t_X4_count_1 dX4_count_1 (fun e0 => ?_) (fun e1 => ?_) (fun e2 => ?_) (fun e3 => ?_) (fun e4 => ?_) (fun e5 => ?_) (fun e6 => ?_) (fun e7 => ?_) (fun e0 e1 e2 e3 e4 e5 e6 e7 => ?_)
  · exact absurd e0 (by decide)
  · exact absurd e1 (by decide)
  · exact absurd e2 (by decide)
  · exact absurd e3 (by decide)
  · refine s_aload_n (n := 78) (i := 0) dX4_count_77 rfl rfl rfl ?_
    refine gf_X4_25 (n := 81) rfl dX4_count_78 rfl (by assumption) (by rfl) ?_
    refine s_v0 (M' := MX2_caughtInAll) (n := 84) (ci := 2) dX4_count_81 rfl wd_X4_189 okX2_caughtInAll rfl rfl (by omega) ⟨Nat.le_refl _, Nat.le_refl _⟩ (by assumption) (c_caughtInAll (d := d - 1) xn hn h7) ?_
    rintro v81 hh81 ⟨rfl, rfl⟩
    refine s_ireturn dX4_count_84 rfl (rfl) (Nat.le_refl _) (Nat.le_refl _) ?_
    exact ⟨rfl, rfl⟩
  · exact absurd e5 (by decide)
  · exact absurd e6 (by decide)
  · exact absurd e7 (by decide)
  · exact absurd rfl e4
set_option maxRecDepth 100000 in
set_option maxHeartbeats 4000000 in
theorem k_count5 {G : mj_G} {h : mj_H} {d : Nat} {σ : Nat → Nat → Int32} (hX : XS G h σ) {n : Nat} (hn : σ 0 2 = nI n) (h7 : n ≤ 7) (hd : 2 ≤ d) : mj_con G MX4_count d 0 0 [.ref (G.1 + 0), .int 5] h (rI (cntF n σ 5) h) := by
  refine mj_conV okX4_count (ls := [some (.ref (G.1 + 0)), some (.int 5)]) rfl rfl ?_
  obtain ⟨x0, x1, xt, xn, xf, xa, x188, x189, xr, xi⟩ := id hX
  obtain ⟨n0, n1, n2, n3, n4, n5, n6⟩ := id xn
  have a18 := xa.1
  have t2 := xt.1
  have t3 := xt.2
  refine s_iload_n (n := 1) (i := 1) dX4_count_0 rfl rfl rfl ?_
  refine t_X4_count_1 dX4_count_1 (fun e0 => ?_) (fun e1 => ?_) (fun e2 => ?_) (fun e3 => ?_) (fun e4 => ?_) (fun e5 => ?_) (fun e6 => ?_) (fun e7 => ?_) (fun e0 e1 e2 e3 e4 e5 e6 e7 => ?_)
  · exact absurd e0 (by decide)
  · exact absurd e1 (by decide)
  · exact absurd e2 (by decide)
  · exact absurd e3 (by decide)
  · exact absurd e4 (by decide)
  · refine s_aload_n (n := 86) (i := 0) dX4_count_85 rfl rfl rfl ?_
    refine gf_X4_25 (n := 89) rfl dX4_count_86 rfl (by assumption) (by rfl) ?_
    refine gf_X4_161 (n := 92) rfl dX4_count_89 rfl (by assumption) (by rfl) ?_
    refine s_ireturn dX4_count_92 rfl (rfl) (Nat.le_refl _) (Nat.le_refl _) ?_
    exact ⟨rfl, rfl⟩
  · exact absurd e6 (by decide)
  · exact absurd e7 (by decide)
  · exact absurd rfl e5
set_option maxRecDepth 100000 in
set_option maxHeartbeats 4000000 in
theorem k_count6 {G : mj_G} {h : mj_H} {d : Nat} {σ : Nat → Nat → Int32} (hX : XS G h σ) {n : Nat} (hn : σ 0 2 = nI n) (h7 : n ≤ 7) (hd : 2 ≤ d) : mj_con G MX4_count d 0 0 [.ref (G.1 + 0), .int 6] h (rI (cntF n σ 6) h) := by
  refine mj_conV okX4_count (ls := [some (.ref (G.1 + 0)), some (.int 6)]) rfl rfl ?_
  obtain ⟨x0, x1, xt, xn, xf, xa, x188, x189, xr, xi⟩ := id hX
  obtain ⟨n0, n1, n2, n3, n4, n5, n6⟩ := id xn
  have a18 := xa.1
  have t2 := xt.1
  have t3 := xt.2
  refine s_iload_n (n := 1) (i := 1) dX4_count_0 rfl rfl rfl ?_
  refine t_X4_count_1 dX4_count_1 (fun e0 => ?_) (fun e1 => ?_) (fun e2 => ?_) (fun e3 => ?_) (fun e4 => ?_) (fun e5 => ?_) (fun e6 => ?_) (fun e7 => ?_) (fun e0 e1 e2 e3 e4 e5 e6 e7 => ?_)
  · exact absurd e0 (by decide)
  · exact absurd e1 (by decide)
  · exact absurd e2 (by decide)
  · exact absurd e3 (by decide)
  · exact absurd e4 (by decide)
  · exact absurd e5 (by decide)
  · refine s_aload_n (n := 94) (i := 0) dX4_count_93 rfl rfl rfl ?_
    refine gf_X4_35 (n := 97) rfl dX4_count_94 rfl (by assumption) (by rfl) ?_
    refine gf_X4_133 (n := 100) rfl dX4_count_97 rfl (by assumption) (by rfl) ?_
    refine s_ireturn dX4_count_100 rfl (rfl) (Nat.le_refl _) (Nat.le_refl _) ?_
    exact ⟨rfl, rfl⟩
  · exact absurd e7 (by decide)
  · exact absurd rfl e6
set_option maxRecDepth 100000 in
set_option maxHeartbeats 4000000 in
theorem k_count7 {G : mj_G} {h : mj_H} {d : Nat} {σ : Nat → Nat → Int32} (hX : XS G h σ) {n : Nat} (hn : σ 0 2 = nI n) (h7 : n ≤ 7) (hd : 2 ≤ d) : mj_con G MX4_count d 0 0 [.ref (G.1 + 0), .int 7] h (rI (cntF n σ 7) h) := by
  refine mj_conV okX4_count (ls := [some (.ref (G.1 + 0)), some (.int 7)]) rfl rfl ?_
  obtain ⟨x0, x1, xt, xn, xf, xa, x188, x189, xr, xi⟩ := id hX
  obtain ⟨n0, n1, n2, n3, n4, n5, n6⟩ := id xn
  have a18 := xa.1
  have t2 := xt.1
  have t3 := xt.2
  refine s_iload_n (n := 1) (i := 1) dX4_count_0 rfl rfl rfl ?_
  refine t_X4_count_1 dX4_count_1 (fun e0 => ?_) (fun e1 => ?_) (fun e2 => ?_) (fun e3 => ?_) (fun e4 => ?_) (fun e5 => ?_) (fun e6 => ?_) (fun e7 => ?_) (fun e0 e1 e2 e3 e4 e5 e6 e7 => ?_)
  · exact absurd e0 (by decide)
  · exact absurd e1 (by decide)
  · exact absurd e2 (by decide)
  · exact absurd e3 (by decide)
  · exact absurd e4 (by decide)
  · exact absurd e5 (by decide)
  · exact absurd e6 (by decide)
  · refine s_aload_n (n := 102) (i := 0) dX4_count_101 rfl rfl rfl ?_
    refine gf_X4_18 (n := 105) rfl dX4_count_102 rfl (by assumption) (by rfl) ?_
    refine gf_X4_102 (n := 108) rfl dX4_count_105 rfl (by assumption) (by rfl) ?_
    refine s_ireturn dX4_count_108 rfl (rfl) (Nat.le_refl _) (Nat.le_refl _) ?_
    exact ⟨rfl, rfl⟩
  · exact absurd rfl e7
/-- m minutes, an act each -/
def minS (n : Nat) : Nat → (Nat → Nat → Int32) → Nat → Nat → Nat → Nat → Int32
  | 0, σ, _, _ => σ
  | m + 1, σ, a, k => minS n m (u2 (kpS σ a k) 0 (mn n (σ 0))) ((a + 1) % 24) (kpN k)
theorem kpN_le {k : Nat} (h : k ≤ 24) : kpN k ≤ 24 := by
  unfold kpN
  split <;> omega
set_option maxRecDepth 100000 in
set_option maxHeartbeats 4000000 in
theorem k_minutes_st {G : mj_G} {h : mj_H} {d : Nat} {σ : Nat → Nat → Int32} (hX : XS G h σ) {x : Int32} (hb : ¬ 0 < σ 0 2) (hd : 2 ≤ d) : mj_con G MX4_minutes d 0 0 [.ref (G.1 + 0), .int x] h (rI (-1000002) h) := by
  refine mj_conV okX4_minutes (ls := [some (.ref (G.1 + 0)), some (.int x), none]) rfl rfl ?_
  obtain ⟨x0, x1, xt, xn, xf, xa, x188, x189, xr, xi⟩ := id hX
  obtain ⟨n0, n1, n2, n3, n4, n5, n6⟩ := id xn
  have a18 := xa.1
  have t2 := xt.1
  have t3 := xt.2
  refine s_aload_n (n := 1) (i := 0) dX4_minutes_0 rfl rfl rfl ?_
  refine gf_X4_25 (n := 4) rfl dX4_minutes_1 rfl (by assumption) (by rfl) ?_
  refine s_v0 (M' := MX2_stands) (n := 7) (ci := 2) dX4_minutes_4 rfl wd_X4_137 okX2_stands rfl rfl (by omega) ⟨Nat.le_refl _, Nat.le_refl _⟩ (by assumption) (c_stands (d := d - 1) xn) ?_
  rintro v4 hh4 ⟨rfl, rfl⟩
  refine s_if_ne (n := 10) (tgt := 13) dX4_minutes_7 rfl rfl (fun b7 => ?_) (fun b7 => ?_)
  · exact absurd (if1 b7) (hb)
  · refine s_ldc (n := 12) dX4_minutes_10 rfl wd_X4_136 ?_
    refine s_ireturn dX4_minutes_12 rfl (rfl) (Nat.le_refl _) (Nat.le_refl _) ?_
    exact ⟨rfl, rfl⟩
set_option maxRecDepth 100000 in
set_option maxHeartbeats 4000000 in
theorem k_minutes_bad {G : mj_G} {h : mj_H} {d : Nat} {σ : Nat → Nat → Int32} (hX : XS G h σ) {x : Int32} (h0 : 0 < σ 0 2) (hb : ¬ Wi x 1 24) (hd : 2 ≤ d) : mj_con G MX4_minutes d 0 0 [.ref (G.1 + 0), .int x] h (rI (-1000001) h) := by
  refine mj_conV okX4_minutes (ls := [some (.ref (G.1 + 0)), some (.int x), none]) rfl rfl ?_
  obtain ⟨x0, x1, xt, xn, xf, xa, x188, x189, xr, xi⟩ := id hX
  obtain ⟨n0, n1, n2, n3, n4, n5, n6⟩ := id xn
  have a18 := xa.1
  have t2 := xt.1
  have t3 := xt.2
  refine s_aload_n (n := 1) (i := 0) dX4_minutes_0 rfl rfl rfl ?_
  refine gf_X4_25 (n := 4) rfl dX4_minutes_1 rfl (by assumption) (by rfl) ?_
  refine s_v0 (M' := MX2_stands) (n := 7) (ci := 2) dX4_minutes_4 rfl wd_X4_137 okX2_stands rfl rfl (by omega) ⟨Nat.le_refl _, Nat.le_refl _⟩ (by assumption) (c_stands (d := d - 1) xn) ?_
  rintro v4 hh4 ⟨rfl, rfl⟩
  refine s_if_ne (n := 10) (tgt := 13) dX4_minutes_7 rfl rfl (fun b7 => ?_) (fun b7 => ?_)
  · refine s_iload_n (n := 14) (i := 1) dX4_minutes_13 rfl rfl rfl ?_
    refine s_iconst (n := 15) (v := 1) dX4_minutes_14 rfl (by decide) ?_
    refine s_bipush (n := 17) (v := 24) dX4_minutes_15 rfl (by decide) ?_
    refine s_s3 (M' := MX4_isWithin) (n := 20) dX4_minutes_17 rfl wd_X4_52 okX4_isWithin rfl (by omega) ⟨Nat.le_refl _, Nat.le_refl _⟩ (c_within (d := d - 1) (A := 1) (B := 24) (by decide) (by decide)) ?_
    rintro v17 hh17 ⟨rfl, rfl⟩
    refine s_if_ne (n := 23) (tgt := 26) dX4_minutes_20 rfl rfl (fun b20 => ?_) (fun b20 => ?_)
    · exact absurd (if1 b20) hb
    · refine s_ldc (n := 25) dX4_minutes_23 rfl wd_X4_56 ?_
      refine s_ireturn dX4_minutes_25 rfl (rfl) (Nat.le_refl _) (Nat.le_refl _) ?_
      exact ⟨rfl, rfl⟩
  · exact absurd (h0) (if0 b7)
set_option maxRecDepth 100000 in
set_option maxHeartbeats 4000000 in
theorem k_minutes_full {G : mj_G} {h : mj_H} {d : Nat} {σ : Nat → Nat → Int32} (hX : XS G h σ) {x : Int32} (h0 : 0 < σ 0 2) (hx : Wi x 1 24) (hf : ¬ σ 0 3 + x ≤ 999) (hd : 2 ≤ d) : mj_con G MX4_minutes d 0 0 [.ref (G.1 + 0), .int x] h (rI (-1000003) h) := by
  refine mj_conV okX4_minutes (ls := [some (.ref (G.1 + 0)), some (.int x), none]) rfl rfl ?_
  obtain ⟨x0, x1, xt, xn, xf, xa, x188, x189, xr, xi⟩ := id hX
  obtain ⟨n0, n1, n2, n3, n4, n5, n6⟩ := id xn
  have a18 := xa.1
  have t2 := xt.1
  have t3 := xt.2
  refine s_aload_n (n := 1) (i := 0) dX4_minutes_0 rfl rfl rfl ?_
  refine gf_X4_25 (n := 4) rfl dX4_minutes_1 rfl (by assumption) (by rfl) ?_
  refine s_v0 (M' := MX2_stands) (n := 7) (ci := 2) dX4_minutes_4 rfl wd_X4_137 okX2_stands rfl rfl (by omega) ⟨Nat.le_refl _, Nat.le_refl _⟩ (by assumption) (c_stands (d := d - 1) xn) ?_
  rintro v4 hh4 ⟨rfl, rfl⟩
  refine s_if_ne (n := 10) (tgt := 13) dX4_minutes_7 rfl rfl (fun b7 => ?_) (fun b7 => ?_)
  · refine s_iload_n (n := 14) (i := 1) dX4_minutes_13 rfl rfl rfl ?_
    refine s_iconst (n := 15) (v := 1) dX4_minutes_14 rfl (by decide) ?_
    refine s_bipush (n := 17) (v := 24) dX4_minutes_15 rfl (by decide) ?_
    refine s_s3 (M' := MX4_isWithin) (n := 20) dX4_minutes_17 rfl wd_X4_52 okX4_isWithin rfl (by omega) ⟨Nat.le_refl _, Nat.le_refl _⟩ (c_within (d := d - 1) (A := 1) (B := 24) (by decide) (by decide)) ?_
    rintro v17 hh17 ⟨rfl, rfl⟩
    refine s_if_ne (n := 23) (tgt := 26) dX4_minutes_20 rfl rfl (fun b20 => ?_) (fun b20 => ?_)
    · refine s_aload_n (n := 27) (i := 0) dX4_minutes_26 rfl rfl rfl ?_
      refine gf_X4_25 (n := 30) rfl dX4_minutes_27 rfl (by assumption) (by rfl) ?_
      refine gf_X4_140 (n := 33) rfl dX4_minutes_30 rfl (by assumption) (by rfl) ?_
      refine s_iload_n (n := 34) (i := 1) dX4_minutes_33 rfl rfl rfl ?_
      refine s_iadd (n := 35) dX4_minutes_34 rfl ?_
      refine s_sipush (n := 38) (v := 999) dX4_minutes_35 rfl (by decide) ?_
      refine s_icmp_le (n := 41) (tgt := 44) dX4_minutes_38 rfl rfl (fun b38 => ?_) (fun b38 => ?_)
      · exact absurd b38 hf
      · refine s_ldc (n := 43) dX4_minutes_41 rfl wd_X4_105 ?_
        refine s_ireturn dX4_minutes_43 rfl (rfl) (Nat.le_refl _) (Nat.le_refl _) ?_
        exact ⟨rfl, rfl⟩
    · exact absurd (hx) (if0 b20)
  · exact absurd (h0) (if0 b7)
set_option maxRecDepth 100000 in
set_option maxHeartbeats 4000000 in
theorem l_minutes {G : mj_G} {h0 : mj_H} {d n m : Nat} (hm : m ≤ 24) (hd : 5 ≤ d) : ∀ (r i : Nat), i + r = m → ∀ (h : mj_H) (σ : Nat → Nat → Int32) (a k : Nat), XS G h σ → okK n (σ 0) → σ 28 0 = nI a → a < 24 → σ 28 1 = nI k → k ≤ 24 → mj_fr 0 220 h0 h → mj_wp G MX4_minutes d 0 0 46 [some (.ref (G.1 + 0)), some (.int (nI m)), some (.int (nI i))] [] h 0 0 (fun v h' => v = some (.int (minS n r σ a k 0 5)) ∧ XS G h' (minS n r σ a k) ∧ mj_fr 0 220 h0 h') := by
  intro r
  induction r with
  | zero =>
    intro i hi h σ a k hX hok ha0 ha hk0 hk hFx
    obtain ⟨x0, x1, xt, xn, xf, xa, x188, x189, xr, xi⟩ := id hX
    obtain ⟨n0, n1, n2, n3, n4, n5, n6⟩ := id xn
    have a18 := xa.1
    have t2 := xt.1
    have t3 := xt.2
    refine s_iload_n (n := 47) (i := 2) dX4_minutes_46 rfl rfl rfl ?_
    refine s_iload_n (n := 48) (i := 1) dX4_minutes_47 rfl rfl rfl ?_
    refine s_icmp_ge (n := 51) (tgt := 75) dX4_minutes_48 rfl rfl (fun b48 => ?_) (fun b48 => ?_)
    · refine s_aload_n (n := 76) (i := 0) dX4_minutes_75 rfl rfl rfl ?_
      refine gf_X4_25 (n := 79) rfl dX4_minutes_76 rfl (by assumption) (by rfl) ?_
      refine gf_X4_149 (n := 82) rfl dX4_minutes_79 rfl (by assumption) (by rfl) ?_
      refine s_ireturn dX4_minutes_82 rfl (rfl) (Nat.le_refl _) (Nat.le_refl _) ?_
      exact ⟨rfl, hX, hFx⟩
    · exact absurd ((nI_leE (by omega) (by omega)).mpr (by omega)) b48
  | succ r ih =>
    intro i hi h σ a k hX hok ha0 ha hk0 hk hFx
    obtain ⟨x0, x1, xt, xn, xf, xa, x188, x189, xr, xi⟩ := id hX
    obtain ⟨n0, n1, n2, n3, n4, n5, n6⟩ := id xn
    have a18 := xa.1
    have t2 := xt.1
    have t3 := xt.2
    refine s_iload_n (n := 47) (i := 2) dX4_minutes_46 rfl rfl rfl ?_
    refine s_iload_n (n := 48) (i := 1) dX4_minutes_47 rfl rfl rfl ?_
    refine s_icmp_ge (n := 51) (tgt := 75) dX4_minutes_48 rfl rfl (fun b48 => ?_) (fun b48 => ?_)
    · exact absurd ((nI_leE (by omega) (by omega)).mp b48) (by omega)
    · refine s_aload_n (n := 52) (i := 0) dX4_minutes_51 rfl rfl rfl ?_
      refine gf_X4_35 (n := 55) rfl dX4_minutes_52 rfl (by assumption) (by rfl) ?_
      refine s_aload_n (n := 56) (i := 0) dX4_minutes_55 rfl rfl rfl ?_
      refine gf_X4_25 (n := 59) rfl dX4_minutes_56 rfl (by assumption) (by rfl) ?_
      refine s_v1 (M' := MX0_keep) (n := 62) (ci := 0) dX4_minutes_59 rfl wd_X4_143 okX0_keep rfl rfl (by omega) ⟨Nat.le_refl _, Nat.le_refl _⟩ (by assumption) (c_keep (d := d - 1) xa xn (by omega) ha0 ha hk0 hk (by omega)) ?_
      rintro v59 hh59 ⟨rfl, hA1, hF1⟩
      have hX1 := XS_acts hX hA1 hF1
      replace hFx := fr_tr hFx (fr_wid (p' := 0) (w' := 220) hF1 (by omega) (by omega))
      obtain ⟨x0, x1, xt, xn, xf, xa, x188, x189, xr, xi⟩ := id hX1
      obtain ⟨n0, n1, n2, n3, n4, n5, n6⟩ := id xn
      refine s_aload_n (n := 63) (i := 0) dX4_minutes_62 rfl rfl rfl ?_
      refine gf_X4_25 (n := 66) rfl dX4_minutes_63 rfl (by assumption) (by rfl) ?_
      refine s_v0 (M' := MX2_passMinute) (n := 69) (ci := 2) dX4_minutes_66 rfl wd_X4_146 okX2_passMinute rfl rfl (by omega) ⟨Nat.le_refl _, Nat.le_refl _⟩ (by assumption) (c_passMinute (d := d - 1) (n := n) xn hok (by omega)) ?_
      rintro v66 hh66 ⟨rfl, hS2, hF2⟩
      have hX2 := XS_now hX1 hS2 hF2
      replace hFx := fr_tr hFx (fr_wid (p' := 0) (w' := 220) hF2 (by omega) (by omega))
      refine s_iinc (n := 72) (v := _ + 1) (ls' := [_, _, _]) dX4_minutes_69 rfl rfl rfl rfl rfl ?_
      refine s_goto (tgt := 46) dX4_minutes_72 rfl ?_
      rw [nI_1]
      exact ih (i + 1) (by omega) _ _ _ _ hX2 (okK_mn hok) rfl (by omega) rfl (kpN_le hk) hFx
set_option maxRecDepth 100000 in
set_option maxHeartbeats 4000000 in
theorem k_minutes {G : mj_G} {h : mj_H} {d : Nat} {σ : Nat → Nat → Int32} (hX : XS G h σ) {n : Nat} (hn : σ 0 2 = nI n) (h7 : n ≤ 7) (hok : okK n (σ 0)) {a k m : Nat} (ha0 : σ 28 0 = nI a) (ha : a < 24) (hk0 : σ 28 1 = nI k) (hk : k ≤ 24) (hm1 : 1 ≤ m) (hm : m ≤ 24) (h0 : 0 < σ 0 2) (hf : σ 0 3 + nI m ≤ 999) (hd : 5 ≤ d) : mj_con G MX4_minutes d 0 0 [.ref (G.1 + 0), .int (nI m)] h (fun v h' => v = some (.int (minS n m σ a k 0 5)) ∧ XS G h' (minS n m σ a k) ∧ mj_fr 0 220 h h') := by
  refine mj_conV okX4_minutes (ls := [some (.ref (G.1 + 0)), some (.int (nI m)), none]) rfl rfl ?_
  obtain ⟨x0, x1, xt, xn, xf, xa, x188, x189, xr, xi⟩ := id hX
  obtain ⟨n0, n1, n2, n3, n4, n5, n6⟩ := id xn
  have a18 := xa.1
  have t2 := xt.1
  have t3 := xt.2
  refine s_aload_n (n := 1) (i := 0) dX4_minutes_0 rfl rfl rfl ?_
  refine gf_X4_25 (n := 4) rfl dX4_minutes_1 rfl (by assumption) (by rfl) ?_
  refine s_v0 (M' := MX2_stands) (n := 7) (ci := 2) dX4_minutes_4 rfl wd_X4_137 okX2_stands rfl rfl (by omega) ⟨Nat.le_refl _, Nat.le_refl _⟩ (by assumption) (c_stands (d := d - 1) xn) ?_
  rintro v4 hh4 ⟨rfl, rfl⟩
  refine s_if_ne (n := 10) (tgt := 13) dX4_minutes_7 rfl rfl (fun b7 => ?_) (fun b7 => ?_)
  · refine s_iload_n (n := 14) (i := 1) dX4_minutes_13 rfl rfl rfl ?_
    refine s_iconst (n := 15) (v := 1) dX4_minutes_14 rfl (by decide) ?_
    refine s_bipush (n := 17) (v := 24) dX4_minutes_15 rfl (by decide) ?_
    refine s_s3 (M' := MX4_isWithin) (n := 20) dX4_minutes_17 rfl wd_X4_52 okX4_isWithin rfl (by omega) ⟨Nat.le_refl _, Nat.le_refl _⟩ (c_within (d := d - 1) (A := 1) (B := 24) (by decide) (by decide)) ?_
    rintro v17 hh17 ⟨rfl, rfl⟩
    refine s_if_ne (n := 23) (tgt := 26) dX4_minutes_20 rfl rfl (fun b20 => ?_) (fun b20 => ?_)
    · refine s_aload_n (n := 27) (i := 0) dX4_minutes_26 rfl rfl rfl ?_
      refine gf_X4_25 (n := 30) rfl dX4_minutes_27 rfl (by assumption) (by rfl) ?_
      refine gf_X4_140 (n := 33) rfl dX4_minutes_30 rfl (by assumption) (by rfl) ?_
      refine s_iload_n (n := 34) (i := 1) dX4_minutes_33 rfl rfl rfl ?_
      refine s_iadd (n := 35) dX4_minutes_34 rfl ?_
      refine s_sipush (n := 38) (v := 999) dX4_minutes_35 rfl (by decide) ?_
      refine s_icmp_le (n := 41) (tgt := 44) dX4_minutes_38 rfl rfl (fun b38 => ?_) (fun b38 => ?_)
      · refine s_iconst (n := 45) (v := 0) dX4_minutes_44 rfl (by decide) ?_
        refine s_istore_n (n := 46) (i := 2) (ls' := [_, _, _]) dX4_minutes_45 rfl rfl rfl rfl rfl ?_
        exact l_minutes hm (by omega) m 0 (by omega) _ _ _ _ hX hok ha0 ha hk0 hk fr_rf
      · exact absurd hf b38
    · exact absurd (Wi_n (by omega) (by omega) (by omega)) (if0 b20)
  · exact absurd (h0) (if0 b7)
set_option maxRecDepth 100000 in
set_option maxHeartbeats 4000000 in
theorem k_copy_bad {G : mj_G} {h : mj_H} {d : Nat} {σ : Nat → Nat → Int32} (hX : XS G h σ) {x1 x2 x3 x4 x5 : Int32} (hb : ¬ (Wi x1 0 7 ∧ Wi x3 0 7)) (hd : 2 ≤ d) : mj_con G MX4_copy d 0 0 [.ref (G.1 + 0), .int x1, .int x2, .int x3, .int x4, .int x5] h (rI (-1000001) h) := by
  refine mj_conV okX4_copy (ls := [some (.ref (G.1 + 0)), some (.int x1), some (.int x2), some (.int x3), some (.int x4), some (.int x5), none, none]) rfl rfl ?_
  obtain ⟨x0, x1, xt, xn, xf, xa, x188, x189, xr, xi⟩ := id hX
  obtain ⟨n0, n1, n2, n3, n4, n5, n6⟩ := id xn
  have a18 := xa.1
  have t2 := xt.1
  have t3 := xt.2
  refine s_iload_n (n := 1) (i := 1) dX4_copy_0 rfl rfl rfl ?_
  refine s_s1 (M' := MX4_isRow) (n := 4) dX4_copy_1 rfl wd_X4_48 okX4_isRow rfl (by omega) ⟨Nat.le_refl _, Nat.le_refl _⟩ (c_isRow' (d := d - 1) (by omega)) ?_
  rintro v1 hh1 ⟨rfl, rfl⟩
  refine s_if_eq (n := 7) (tgt := 14) dX4_copy_4 rfl rfl (fun b4 => ?_) (fun b4 => ?_)
  · refine s_ldc (n := 16) dX4_copy_14 rfl wd_X4_56 ?_
    refine s_ireturn dX4_copy_16 rfl (rfl) (Nat.le_refl _) (Nat.le_refl _) ?_
    exact ⟨rfl, rfl⟩
  · refine s_iload_n (n := 8) (i := 3) dX4_copy_7 rfl rfl rfl ?_
    refine s_s1 (M' := MX4_isRow) (n := 11) dX4_copy_8 rfl wd_X4_48 okX4_isRow rfl (by omega) ⟨Nat.le_refl _, Nat.le_refl _⟩ (c_isRow' (d := d - 1) (by omega)) ?_
    rintro v8 hh8 ⟨rfl, rfl⟩
    refine s_if_ne (n := 14) (tgt := 17) dX4_copy_11 rfl rfl (fun b11 => ?_) (fun b11 => ?_)
    · exact absurd (⟨if1 b4, if1 b11⟩) hb
    · refine s_ldc (n := 16) dX4_copy_14 rfl wd_X4_56 ?_
      refine s_ireturn dX4_copy_16 rfl (rfl) (Nat.le_refl _) (Nat.le_refl _) ?_
      exact ⟨rfl, rfl⟩
set_option maxRecDepth 100000 in
set_option maxHeartbeats 4000000 in
theorem k_copy_null {G : mj_G} {h : mj_H} {d : Nat} {σ : Nat → Nat → Int32} (hX : XS G h σ) {a b : Nat} (ha : a < 8) (hb : b < 8) {x2 x4 x5 : Int32} (hf : σ 29 a = -1 ∨ σ 29 b = -1) (hd : 2 ≤ d) : mj_con G MX4_copy d 0 0 [.ref (G.1 + 0), .int (nI a), .int x2, .int (nI b), .int x4, .int x5] h (fun v h' => v = some (.int (-1000010 - 1)) ∧ XS G h' (u2 (σ) 42 (upd (σ 42) 2 1)) ∧ mj_fr 0 220 h h') := by
  refine mj_conV okX4_copy (ls := [some (.ref (G.1 + 0)), some (.int (nI a)), some (.int x2), some (.int (nI b)), some (.int x4), some (.int x5), none, none]) rfl rfl ?_
  obtain ⟨x0, x1, xt, xn, xf, xa, x188, x189, xr, xi⟩ := id hX
  obtain ⟨n0, n1, n2, n3, n4, n5, n6⟩ := id xn
  have a18 := xa.1
  have t2 := xt.1
  have t3 := xt.2
  have r0 := (xr a ha).1
  have r1 := (xr a ha).2
  have s0 := (xr b hb).1
  have s1 := (xr b hb).2
  refine s_iload_n (n := 1) (i := 1) dX4_copy_0 rfl rfl rfl ?_
  refine s_s1 (M' := MX4_isRow) (n := 4) dX4_copy_1 rfl wd_X4_48 okX4_isRow rfl (by omega) ⟨Nat.le_refl _, Nat.le_refl _⟩ (c_isRow' (d := d - 1) (by omega)) ?_
  rintro v1 hh1 ⟨rfl, rfl⟩
  refine s_if_eq (n := 7) (tgt := 14) dX4_copy_4 rfl rfl (fun b4 => ?_) (fun b4 => ?_)
  · exact absurd (Wi_n (by omega) (by omega) (by omega)) (if0 b4)
  · refine s_iload_n (n := 8) (i := 3) dX4_copy_7 rfl rfl rfl ?_
    refine s_s1 (M' := MX4_isRow) (n := 11) dX4_copy_8 rfl wd_X4_48 okX4_isRow rfl (by omega) ⟨Nat.le_refl _, Nat.le_refl _⟩ (c_isRow' (d := d - 1) (by omega)) ?_
    rintro v8 hh8 ⟨rfl, rfl⟩
    refine s_if_ne (n := 14) (tgt := 17) dX4_copy_11 rfl rfl (fun b11 => ?_) (fun b11 => ?_)
    · refine s_aload_n (n := 18) (i := 0) dX4_copy_17 rfl rfl rfl ?_
      refine gf_X4_11 (n := 21) rfl dX4_copy_18 rfl (by assumption) (by rfl) ?_
      refine s_iload_n (n := 22) (i := 1) dX4_copy_21 rfl rfl rfl ?_
      refine s_aald (n := 23) (t := 2) (C0 := RX1) dX4_copy_22 rfl rfl (by assumption) (mj_ixn (by omega)) (rowA_at (by omega)) ?_
      refine s_astore (n := 25) (i := 6) (ls' := [_, _, _, _, _, _, _, _]) dX4_copy_23 rfl rfl rfl rfl ?_
      refine s_aload_n (n := 26) (i := 0) dX4_copy_25 rfl rfl rfl ?_
      refine gf_X4_11 (n := 29) rfl dX4_copy_26 rfl (by assumption) (by rfl) ?_
      refine s_iload_n (n := 30) (i := 3) dX4_copy_29 rfl rfl rfl ?_
      refine s_aald (n := 31) (t := 2) (C0 := RX1) dX4_copy_30 rfl rfl (by assumption) (mj_ixn (by omega)) (rowA_at (by omega)) ?_
      refine s_astore (n := 33) (i := 7) (ls' := [_, _, _, _, _, _, _, _]) dX4_copy_31 rfl rfl rfl rfl ?_
      refine s_aload (n := 35) dX4_copy_33 rfl rfl ?_
      refine s_v0 (M' := MX1_isMissing) (n := 38) (ci := 1) dX4_copy_35 rfl wd_X4_75 okX1_isMissing rfl rfl (by omega) ⟨Nat.le_refl _, Nat.le_refl _⟩ (by assumption) (c_isMissing (d := d - 1) (xr a ha)) ?_
      rintro v35 hh35 ⟨rfl, rfl⟩
      refine s_if_ne (n := 41) (tgt := 49) dX4_copy_38 rfl rfl (fun b38 => ?_) (fun b38 => ?_)
      · refine s_aload_n (n := 50) (i := 0) dX4_copy_49 rfl rfl rfl ?_
        refine s_iconst (n := 51) (v := 1) dX4_copy_50 rfl (by decide) ?_
        refine s_v1 (M' := MX4_found) (n := 54) (ci := 4) dX4_copy_51 rfl wd_X4_57 okX4_found rfl rfl (by omega) ⟨Nat.le_refl _, Nat.le_refl _⟩ (by assumption) (c_found (d := d - 1) hX) ?_
        rintro v51 hh51 ⟨rfl, hX1, hF1⟩
        refine s_ireturn dX4_copy_54 rfl (rfl) (Nat.le_refl _) (Nat.le_refl _) ?_
        exact ⟨rfl, hX1, hF1⟩
      · refine s_aload (n := 43) dX4_copy_41 rfl rfl ?_
        refine s_v0 (M' := MX1_isMissing) (n := 46) (ci := 1) dX4_copy_43 rfl wd_X4_75 okX1_isMissing rfl rfl (by omega) ⟨Nat.le_refl _, Nat.le_refl _⟩ (by assumption) (c_isMissing (d := d - 1) (xr b hb)) ?_
        rintro v43 hh43 ⟨rfl, rfl⟩
        refine s_if_eq (n := 49) (tgt := 55) dX4_copy_46 rfl rfl (fun b46 => ?_) (fun b46 => ?_)
        · exact absurd hf (fun q => q.elim (if0 b38) (if0 b46))
        · refine s_aload_n (n := 50) (i := 0) dX4_copy_49 rfl rfl rfl ?_
          refine s_iconst (n := 51) (v := 1) dX4_copy_50 rfl (by decide) ?_
          refine s_v1 (M' := MX4_found) (n := 54) (ci := 4) dX4_copy_51 rfl wd_X4_57 okX4_found rfl rfl (by omega) ⟨Nat.le_refl _, Nat.le_refl _⟩ (by assumption) (c_found (d := d - 1) hX) ?_
          rintro v51 hh51 ⟨rfl, hX1, hF1⟩
          refine s_ireturn dX4_copy_54 rfl (rfl) (Nat.le_refl _) (Nat.le_refl _) ?_
          exact ⟨rfl, hX1, hF1⟩
    · exact absurd (Wi_n (by omega) (by omega) (by omega)) (if0 b11)
set_option maxRecDepth 100000 in
set_option maxHeartbeats 4000000 in
theorem k_copy_store {G : mj_G} {h : mj_H} {d : Nat} {σ : Nat → Nat → Int32} (hX : XS G h σ) {a b : Nat} (ha : a < 8) (hb : b < 8) {x2 x4 x5 : Int32} (hna : ¬ σ 29 a = -1) (hnb : ¬ σ 29 b = -1) (hf : ¬ σ 29 a = σ 29 b) (hd : 2 ≤ d) : mj_con G MX4_copy d 0 0 [.ref (G.1 + 0), .int (nI a), .int x2, .int (nI b), .int x4, .int x5] h (fun v h' => v = some (.int (-1000010 - 5)) ∧ XS G h' (u2 (σ) 42 (upd (σ 42) 2 5)) ∧ mj_fr 0 220 h h') := by
  refine mj_conV okX4_copy (ls := [some (.ref (G.1 + 0)), some (.int (nI a)), some (.int x2), some (.int (nI b)), some (.int x4), some (.int x5), none, none]) rfl rfl ?_
  obtain ⟨x0, x1, xt, xn, xf, xa, x188, x189, xr, xi⟩ := id hX
  obtain ⟨n0, n1, n2, n3, n4, n5, n6⟩ := id xn
  have a18 := xa.1
  have t2 := xt.1
  have t3 := xt.2
  have r0 := (xr a ha).1
  have r1 := (xr a ha).2
  have s0 := (xr b hb).1
  have s1 := (xr b hb).2
  refine s_iload_n (n := 1) (i := 1) dX4_copy_0 rfl rfl rfl ?_
  refine s_s1 (M' := MX4_isRow) (n := 4) dX4_copy_1 rfl wd_X4_48 okX4_isRow rfl (by omega) ⟨Nat.le_refl _, Nat.le_refl _⟩ (c_isRow' (d := d - 1) (by omega)) ?_
  rintro v1 hh1 ⟨rfl, rfl⟩
  refine s_if_eq (n := 7) (tgt := 14) dX4_copy_4 rfl rfl (fun b4 => ?_) (fun b4 => ?_)
  · exact absurd (Wi_n (by omega) (by omega) (by omega)) (if0 b4)
  · refine s_iload_n (n := 8) (i := 3) dX4_copy_7 rfl rfl rfl ?_
    refine s_s1 (M' := MX4_isRow) (n := 11) dX4_copy_8 rfl wd_X4_48 okX4_isRow rfl (by omega) ⟨Nat.le_refl _, Nat.le_refl _⟩ (c_isRow' (d := d - 1) (by omega)) ?_
    rintro v8 hh8 ⟨rfl, rfl⟩
    refine s_if_ne (n := 14) (tgt := 17) dX4_copy_11 rfl rfl (fun b11 => ?_) (fun b11 => ?_)
    · refine s_aload_n (n := 18) (i := 0) dX4_copy_17 rfl rfl rfl ?_
      refine gf_X4_11 (n := 21) rfl dX4_copy_18 rfl (by assumption) (by rfl) ?_
      refine s_iload_n (n := 22) (i := 1) dX4_copy_21 rfl rfl rfl ?_
      refine s_aald (n := 23) (t := 2) (C0 := RX1) dX4_copy_22 rfl rfl (by assumption) (mj_ixn (by omega)) (rowA_at (by omega)) ?_
      refine s_astore (n := 25) (i := 6) (ls' := [_, _, _, _, _, _, _, _]) dX4_copy_23 rfl rfl rfl rfl ?_
      refine s_aload_n (n := 26) (i := 0) dX4_copy_25 rfl rfl rfl ?_
      refine gf_X4_11 (n := 29) rfl dX4_copy_26 rfl (by assumption) (by rfl) ?_
      refine s_iload_n (n := 30) (i := 3) dX4_copy_29 rfl rfl rfl ?_
      refine s_aald (n := 31) (t := 2) (C0 := RX1) dX4_copy_30 rfl rfl (by assumption) (mj_ixn (by omega)) (rowA_at (by omega)) ?_
      refine s_astore (n := 33) (i := 7) (ls' := [_, _, _, _, _, _, _, _]) dX4_copy_31 rfl rfl rfl rfl ?_
      refine s_aload (n := 35) dX4_copy_33 rfl rfl ?_
      refine s_v0 (M' := MX1_isMissing) (n := 38) (ci := 1) dX4_copy_35 rfl wd_X4_75 okX1_isMissing rfl rfl (by omega) ⟨Nat.le_refl _, Nat.le_refl _⟩ (by assumption) (c_isMissing (d := d - 1) (xr a ha)) ?_
      rintro v35 hh35 ⟨rfl, rfl⟩
      refine s_if_ne (n := 41) (tgt := 49) dX4_copy_38 rfl rfl (fun b38 => ?_) (fun b38 => ?_)
      · exact absurd (if1 b38) hna
      · refine s_aload (n := 43) dX4_copy_41 rfl rfl ?_
        refine s_v0 (M' := MX1_isMissing) (n := 46) (ci := 1) dX4_copy_43 rfl wd_X4_75 okX1_isMissing rfl rfl (by omega) ⟨Nat.le_refl _, Nat.le_refl _⟩ (by assumption) (c_isMissing (d := d - 1) (xr b hb)) ?_
        rintro v43 hh43 ⟨rfl, rfl⟩
        refine s_if_eq (n := 49) (tgt := 55) dX4_copy_46 rfl rfl (fun b46 => ?_) (fun b46 => ?_)
        · refine s_aload (n := 57) dX4_copy_55 rfl rfl ?_
          refine gf_X4_79 (n := 60) rfl dX4_copy_57 rfl (by assumption) (by rfl) ?_
          refine s_aload (n := 62) dX4_copy_60 rfl rfl ?_
          refine gf_X4_79 (n := 65) rfl dX4_copy_62 rfl (by assumption) (by rfl) ?_
          refine s_icmp_eq (n := 68) (tgt := 74) dX4_copy_65 rfl rfl (fun b65 => ?_) (fun b65 => ?_)
          · exact absurd b65 hf
          · refine s_aload_n (n := 69) (i := 0) dX4_copy_68 rfl rfl rfl ?_
            refine s_iconst (n := 70) (v := 5) dX4_copy_69 rfl (by decide) ?_
            refine s_v1 (M' := MX4_found) (n := 73) (ci := 4) dX4_copy_70 rfl wd_X4_57 okX4_found rfl rfl (by omega) ⟨Nat.le_refl _, Nat.le_refl _⟩ (by assumption) (c_found (d := d - 1) hX) ?_
            rintro v70 hh70 ⟨rfl, hX1, hF1⟩
            refine s_ireturn dX4_copy_73 rfl (rfl) (Nat.le_refl _) (Nat.le_refl _) ?_
            exact ⟨rfl, hX1, hF1⟩
        · exact absurd (if1 b46) hnb
    · exact absurd (Wi_n (by omega) (by omega) (by omega)) (if0 b11)
set_option maxRecDepth 100000 in
set_option maxHeartbeats 4000000 in
theorem k_copy_place {G : mj_G} {h : mj_H} {d : Nat} {σ : Nat → Nat → Int32} (hX : XS G h σ) {a b : Nat} (ha : a < 8) (hb : b < 8) {x2 x4 x5 : Int32} (hna : ¬ σ 29 a = -1) (hnb : ¬ σ 29 b = -1) (he : σ 29 a = σ 29 b) (hf : ¬ ((0 ≤ x2 ∧ 0 ≤ x5 ∧ x2 ≤ σ 30 a - x5) ∧ (0 ≤ x4 ∧ 0 ≤ x5 ∧ x4 ≤ σ 30 b - x5))) (hd : 2 ≤ d) : mj_con G MX4_copy d 0 0 [.ref (G.1 + 0), .int (nI a), .int x2, .int (nI b), .int x4, .int x5] h (fun v h' => v = some (.int (-1000010 - 2)) ∧ XS G h' (u2 (σ) 42 (upd (σ 42) 2 2)) ∧ mj_fr 0 220 h h') := by
  refine mj_conV okX4_copy (ls := [some (.ref (G.1 + 0)), some (.int (nI a)), some (.int x2), some (.int (nI b)), some (.int x4), some (.int x5), none, none]) rfl rfl ?_
  obtain ⟨x0, x1, xt, xn, xf, xa, x188, x189, xr, xi⟩ := id hX
  obtain ⟨n0, n1, n2, n3, n4, n5, n6⟩ := id xn
  have a18 := xa.1
  have t2 := xt.1
  have t3 := xt.2
  have r0 := (xr a ha).1
  have r1 := (xr a ha).2
  have s0 := (xr b hb).1
  have s1 := (xr b hb).2
  refine s_iload_n (n := 1) (i := 1) dX4_copy_0 rfl rfl rfl ?_
  refine s_s1 (M' := MX4_isRow) (n := 4) dX4_copy_1 rfl wd_X4_48 okX4_isRow rfl (by omega) ⟨Nat.le_refl _, Nat.le_refl _⟩ (c_isRow' (d := d - 1) (by omega)) ?_
  rintro v1 hh1 ⟨rfl, rfl⟩
  refine s_if_eq (n := 7) (tgt := 14) dX4_copy_4 rfl rfl (fun b4 => ?_) (fun b4 => ?_)
  · exact absurd (Wi_n (by omega) (by omega) (by omega)) (if0 b4)
  · refine s_iload_n (n := 8) (i := 3) dX4_copy_7 rfl rfl rfl ?_
    refine s_s1 (M' := MX4_isRow) (n := 11) dX4_copy_8 rfl wd_X4_48 okX4_isRow rfl (by omega) ⟨Nat.le_refl _, Nat.le_refl _⟩ (c_isRow' (d := d - 1) (by omega)) ?_
    rintro v8 hh8 ⟨rfl, rfl⟩
    refine s_if_ne (n := 14) (tgt := 17) dX4_copy_11 rfl rfl (fun b11 => ?_) (fun b11 => ?_)
    · refine s_aload_n (n := 18) (i := 0) dX4_copy_17 rfl rfl rfl ?_
      refine gf_X4_11 (n := 21) rfl dX4_copy_18 rfl (by assumption) (by rfl) ?_
      refine s_iload_n (n := 22) (i := 1) dX4_copy_21 rfl rfl rfl ?_
      refine s_aald (n := 23) (t := 2) (C0 := RX1) dX4_copy_22 rfl rfl (by assumption) (mj_ixn (by omega)) (rowA_at (by omega)) ?_
      refine s_astore (n := 25) (i := 6) (ls' := [_, _, _, _, _, _, _, _]) dX4_copy_23 rfl rfl rfl rfl ?_
      refine s_aload_n (n := 26) (i := 0) dX4_copy_25 rfl rfl rfl ?_
      refine gf_X4_11 (n := 29) rfl dX4_copy_26 rfl (by assumption) (by rfl) ?_
      refine s_iload_n (n := 30) (i := 3) dX4_copy_29 rfl rfl rfl ?_
      refine s_aald (n := 31) (t := 2) (C0 := RX1) dX4_copy_30 rfl rfl (by assumption) (mj_ixn (by omega)) (rowA_at (by omega)) ?_
      refine s_astore (n := 33) (i := 7) (ls' := [_, _, _, _, _, _, _, _]) dX4_copy_31 rfl rfl rfl rfl ?_
      refine s_aload (n := 35) dX4_copy_33 rfl rfl ?_
      refine s_v0 (M' := MX1_isMissing) (n := 38) (ci := 1) dX4_copy_35 rfl wd_X4_75 okX1_isMissing rfl rfl (by omega) ⟨Nat.le_refl _, Nat.le_refl _⟩ (by assumption) (c_isMissing (d := d - 1) (xr a ha)) ?_
      rintro v35 hh35 ⟨rfl, rfl⟩
      refine s_if_ne (n := 41) (tgt := 49) dX4_copy_38 rfl rfl (fun b38 => ?_) (fun b38 => ?_)
      · exact absurd (if1 b38) hna
      · refine s_aload (n := 43) dX4_copy_41 rfl rfl ?_
        refine s_v0 (M' := MX1_isMissing) (n := 46) (ci := 1) dX4_copy_43 rfl wd_X4_75 okX1_isMissing rfl rfl (by omega) ⟨Nat.le_refl _, Nat.le_refl _⟩ (by assumption) (c_isMissing (d := d - 1) (xr b hb)) ?_
        rintro v43 hh43 ⟨rfl, rfl⟩
        refine s_if_eq (n := 49) (tgt := 55) dX4_copy_46 rfl rfl (fun b46 => ?_) (fun b46 => ?_)
        · refine s_aload (n := 57) dX4_copy_55 rfl rfl ?_
          refine gf_X4_79 (n := 60) rfl dX4_copy_57 rfl (by assumption) (by rfl) ?_
          refine s_aload (n := 62) dX4_copy_60 rfl rfl ?_
          refine gf_X4_79 (n := 65) rfl dX4_copy_62 rfl (by assumption) (by rfl) ?_
          refine s_icmp_eq (n := 68) (tgt := 74) dX4_copy_65 rfl rfl (fun b65 => ?_) (fun b65 => ?_)
          · refine s_aload (n := 76) dX4_copy_74 rfl rfl ?_
            refine s_iload_n (n := 77) (i := 2) dX4_copy_76 rfl rfl rfl ?_
            refine s_iload (n := 79) dX4_copy_77 rfl rfl ?_
            refine s_v2 (M' := MX1_has) (n := 82) (ci := 1) dX4_copy_79 rfl wd_X4_83 okX1_has rfl rfl (by omega) ⟨Nat.le_refl _, Nat.le_refl _⟩ (by assumption) (c_has (d := d - 1) (xr a ha)) ?_
            rintro v79 hh79 ⟨rfl, rfl⟩
            refine s_if_eq (n := 85) (tgt := 97) dX4_copy_82 rfl rfl (fun b82 => ?_) (fun b82 => ?_)
            · refine s_aload_n (n := 98) (i := 0) dX4_copy_97 rfl rfl rfl ?_
              refine s_iconst (n := 99) (v := 2) dX4_copy_98 rfl (by decide) ?_
              refine s_v1 (M' := MX4_found) (n := 102) (ci := 4) dX4_copy_99 rfl wd_X4_57 okX4_found rfl rfl (by omega) ⟨Nat.le_refl _, Nat.le_refl _⟩ (by assumption) (c_found (d := d - 1) hX) ?_
              rintro v99 hh99 ⟨rfl, hX1, hF1⟩
              refine s_ireturn dX4_copy_102 rfl (rfl) (Nat.le_refl _) (Nat.le_refl _) ?_
              exact ⟨rfl, hX1, hF1⟩
            · refine s_aload (n := 87) dX4_copy_85 rfl rfl ?_
              refine s_iload (n := 89) dX4_copy_87 rfl rfl ?_
              refine s_iload (n := 91) dX4_copy_89 rfl rfl ?_
              refine s_v2 (M' := MX1_has) (n := 94) (ci := 1) dX4_copy_91 rfl wd_X4_83 okX1_has rfl rfl (by omega) ⟨Nat.le_refl _, Nat.le_refl _⟩ (by assumption) (c_has (d := d - 1) (xr b hb)) ?_
              rintro v91 hh91 ⟨rfl, rfl⟩
              refine s_if_ne (n := 97) (tgt := 103) dX4_copy_94 rfl rfl (fun b94 => ?_) (fun b94 => ?_)
              · exact absurd ⟨if1 b82, if1 b94⟩ hf
              · refine s_aload_n (n := 98) (i := 0) dX4_copy_97 rfl rfl rfl ?_
                refine s_iconst (n := 99) (v := 2) dX4_copy_98 rfl (by decide) ?_
                refine s_v1 (M' := MX4_found) (n := 102) (ci := 4) dX4_copy_99 rfl wd_X4_57 okX4_found rfl rfl (by omega) ⟨Nat.le_refl _, Nat.le_refl _⟩ (by assumption) (c_found (d := d - 1) hX) ?_
                rintro v99 hh99 ⟨rfl, hX1, hF1⟩
                refine s_ireturn dX4_copy_102 rfl (rfl) (Nat.le_refl _) (Nat.le_refl _) ?_
                exact ⟨rfl, hX1, hF1⟩
          · exact absurd he b65
        · exact absurd (if1 b46) hnb
    · exact absurd (Wi_n (by omega) (by omega) (by omega)) (if0 b11)
set_option maxRecDepth 100000 in
set_option maxHeartbeats 4000000 in
theorem k_copy {G : mj_G} {h : mj_H} {d : Nat} {σ : Nat → Nat → Int32} (hX : XS G h σ) {a b : Nat} (ha : a < 8) (hb : b < 8) {i j m : Nat} (hna : ¬ σ 29 a = -1) (hnb : ¬ σ 29 b = -1) (he : σ 29 a = σ 29 b) (hpa : 0 ≤ nI i ∧ 0 ≤ nI m ∧ nI i ≤ σ 30 a - nI m) (hpb : 0 ≤ nI j ∧ 0 ≤ nI m ∧ nI j ≤ σ 30 b - nI m) (him : i + m ≤ 40) (hjm : j + m ≤ 40) (hd : 2 ≤ d) : mj_con G MX4_copy d 0 0 [.ref (G.1 + 0), .int (nI a), .int (nI i), .int (nI b), .int (nI j), .int (nI m)] h (fun v h' => v = some (.int (nI m)) ∧ XS G h' (u2 (uR σ b (σ 29 b) (σ 30 b) (va_cpy (σ (34 + a)) (σ (34 + b)) i j m)) 42 (upd (σ 42) 2 0)) ∧ mj_fr 0 220 h h') := by
  refine mj_conV okX4_copy (ls := [some (.ref (G.1 + 0)), some (.int (nI a)), some (.int (nI i)), some (.int (nI b)), some (.int (nI j)), some (.int (nI m)), none, none]) rfl rfl ?_
  obtain ⟨x0, x1, xt, xn, xf, xa, x188, x189, xr, xi⟩ := id hX
  obtain ⟨n0, n1, n2, n3, n4, n5, n6⟩ := id xn
  have a18 := xa.1
  have t2 := xt.1
  have t3 := xt.2
  have r0 := (xr a ha).1
  have r1 := (xr a ha).2
  have s0 := (xr b hb).1
  have s1 := (xr b hb).2
  refine s_iload_n (n := 1) (i := 1) dX4_copy_0 rfl rfl rfl ?_
  refine s_s1 (M' := MX4_isRow) (n := 4) dX4_copy_1 rfl wd_X4_48 okX4_isRow rfl (by omega) ⟨Nat.le_refl _, Nat.le_refl _⟩ (c_isRow' (d := d - 1) (by omega)) ?_
  rintro v1 hh1 ⟨rfl, rfl⟩
  refine s_if_eq (n := 7) (tgt := 14) dX4_copy_4 rfl rfl (fun b4 => ?_) (fun b4 => ?_)
  · exact absurd (Wi_n (by omega) (by omega) (by omega)) (if0 b4)
  · refine s_iload_n (n := 8) (i := 3) dX4_copy_7 rfl rfl rfl ?_
    refine s_s1 (M' := MX4_isRow) (n := 11) dX4_copy_8 rfl wd_X4_48 okX4_isRow rfl (by omega) ⟨Nat.le_refl _, Nat.le_refl _⟩ (c_isRow' (d := d - 1) (by omega)) ?_
    rintro v8 hh8 ⟨rfl, rfl⟩
    refine s_if_ne (n := 14) (tgt := 17) dX4_copy_11 rfl rfl (fun b11 => ?_) (fun b11 => ?_)
    · refine s_aload_n (n := 18) (i := 0) dX4_copy_17 rfl rfl rfl ?_
      refine gf_X4_11 (n := 21) rfl dX4_copy_18 rfl (by assumption) (by rfl) ?_
      refine s_iload_n (n := 22) (i := 1) dX4_copy_21 rfl rfl rfl ?_
      refine s_aald (n := 23) (t := 2) (C0 := RX1) dX4_copy_22 rfl rfl (by assumption) (mj_ixn (by omega)) (rowA_at (by omega)) ?_
      refine s_astore (n := 25) (i := 6) (ls' := [_, _, _, _, _, _, _, _]) dX4_copy_23 rfl rfl rfl rfl ?_
      refine s_aload_n (n := 26) (i := 0) dX4_copy_25 rfl rfl rfl ?_
      refine gf_X4_11 (n := 29) rfl dX4_copy_26 rfl (by assumption) (by rfl) ?_
      refine s_iload_n (n := 30) (i := 3) dX4_copy_29 rfl rfl rfl ?_
      refine s_aald (n := 31) (t := 2) (C0 := RX1) dX4_copy_30 rfl rfl (by assumption) (mj_ixn (by omega)) (rowA_at (by omega)) ?_
      refine s_astore (n := 33) (i := 7) (ls' := [_, _, _, _, _, _, _, _]) dX4_copy_31 rfl rfl rfl rfl ?_
      refine s_aload (n := 35) dX4_copy_33 rfl rfl ?_
      refine s_v0 (M' := MX1_isMissing) (n := 38) (ci := 1) dX4_copy_35 rfl wd_X4_75 okX1_isMissing rfl rfl (by omega) ⟨Nat.le_refl _, Nat.le_refl _⟩ (by assumption) (c_isMissing (d := d - 1) (xr a ha)) ?_
      rintro v35 hh35 ⟨rfl, rfl⟩
      refine s_if_ne (n := 41) (tgt := 49) dX4_copy_38 rfl rfl (fun b38 => ?_) (fun b38 => ?_)
      · exact absurd (if1 b38) hna
      · refine s_aload (n := 43) dX4_copy_41 rfl rfl ?_
        refine s_v0 (M' := MX1_isMissing) (n := 46) (ci := 1) dX4_copy_43 rfl wd_X4_75 okX1_isMissing rfl rfl (by omega) ⟨Nat.le_refl _, Nat.le_refl _⟩ (by assumption) (c_isMissing (d := d - 1) (xr b hb)) ?_
        rintro v43 hh43 ⟨rfl, rfl⟩
        refine s_if_eq (n := 49) (tgt := 55) dX4_copy_46 rfl rfl (fun b46 => ?_) (fun b46 => ?_)
        · refine s_aload (n := 57) dX4_copy_55 rfl rfl ?_
          refine gf_X4_79 (n := 60) rfl dX4_copy_57 rfl (by assumption) (by rfl) ?_
          refine s_aload (n := 62) dX4_copy_60 rfl rfl ?_
          refine gf_X4_79 (n := 65) rfl dX4_copy_62 rfl (by assumption) (by rfl) ?_
          refine s_icmp_eq (n := 68) (tgt := 74) dX4_copy_65 rfl rfl (fun b65 => ?_) (fun b65 => ?_)
          · refine s_aload (n := 76) dX4_copy_74 rfl rfl ?_
            refine s_iload_n (n := 77) (i := 2) dX4_copy_76 rfl rfl rfl ?_
            refine s_iload (n := 79) dX4_copy_77 rfl rfl ?_
            refine s_v2 (M' := MX1_has) (n := 82) (ci := 1) dX4_copy_79 rfl wd_X4_83 okX1_has rfl rfl (by omega) ⟨Nat.le_refl _, Nat.le_refl _⟩ (by assumption) (c_has (d := d - 1) (xr a ha)) ?_
            rintro v79 hh79 ⟨rfl, rfl⟩
            refine s_if_eq (n := 85) (tgt := 97) dX4_copy_82 rfl rfl (fun b82 => ?_) (fun b82 => ?_)
            · exact absurd hpa (if0 b82)
            · refine s_aload (n := 87) dX4_copy_85 rfl rfl ?_
              refine s_iload (n := 89) dX4_copy_87 rfl rfl ?_
              refine s_iload (n := 91) dX4_copy_89 rfl rfl ?_
              refine s_v2 (M' := MX1_has) (n := 94) (ci := 1) dX4_copy_91 rfl wd_X4_83 okX1_has rfl rfl (by omega) ⟨Nat.le_refl _, Nat.le_refl _⟩ (by assumption) (c_has (d := d - 1) (xr b hb)) ?_
              rintro v91 hh91 ⟨rfl, rfl⟩
              refine s_if_ne (n := 97) (tgt := 103) dX4_copy_94 rfl rfl (fun b94 => ?_) (fun b94 => ?_)
              · refine s_aload (n := 105) dX4_copy_103 rfl rfl ?_
                refine gf_X4_87 (n := 108) rfl dX4_copy_105 rfl (by assumption) (by rfl) ?_
                refine s_iload_n (n := 109) (i := 2) dX4_copy_108 rfl rfl rfl ?_
                refine s_aload (n := 111) dX4_copy_109 rfl rfl ?_
                refine gf_X4_87 (n := 114) rfl dX4_copy_111 rfl (by assumption) (by rfl) ?_
                refine s_iload (n := 116) dX4_copy_114 rfl rfl ?_
                refine s_iload (n := 118) dX4_copy_116 rfl rfl ?_
                refine s_cpy (n := 121) (ja := i) (jb := j) (jn := m) dX4_copy_118 rfl wd_X4_90 (by omega) (by simp [Value.category]) (by assumption) (by assumption) (nI_pos (by omega)) (nI_pos (by omega)) (nI_pos (by omega)) (nI_clamp (by omega)) (nI_clamp (by omega)) (nI_clamp (by omega)) (by omega) (by omega) ?_
                obtain ⟨q1, q2⟩ := Rw_put (f' := va_cpy (σ (34 + a)) (σ (34 + b)) i j m) (xr b hb)
                generalize mj_up _ (190 + 2 * b + 1) _ = h1 at q1 q2 ⊢
                have hX1 := XS_row hb hX q1 q2
                have x0 := hX1.1
                refine s_aload_n (n := 122) (i := 0) dX4_copy_121 rfl rfl rfl ?_
                refine s_iload (n := 124) dX4_copy_122 rfl rfl ?_
                refine s_v1 (M' := MX4_unfound) (n := 127) (ci := 4) dX4_copy_124 rfl wd_X4_65 okX4_unfound rfl rfl (by omega) ⟨Nat.le_refl _, Nat.le_refl _⟩ (by assumption) (c_unfound (d := d - 1) hX1) ?_
                rintro v124 hh124 ⟨rfl, hX2, hF2⟩
                refine s_ireturn dX4_copy_127 rfl (rfl) (Nat.le_refl _) (Nat.le_refl _) ?_
                refine ⟨rfl, XS_ext hX2 ?_, fr_tr (fr_wid q2 (by omega) (by omega)) hF2⟩
                rw [uR_o (by omega) (by omega) (by omega)]
              · exact absurd hpb (if0 b94)
          · exact absurd he b65
        · exact absurd (if1 b46) hnb
    · exact absurd (Wi_n (by omega) (by omega) (by omega)) (if0 b11)
theorem TpS_o {G : mj_G} {h : mj_H} {f g g' : Nat → Int32} (hS : TpS G h f g) : TpS G (mj_up h 2 (mj_ob 3 [.ref (G.1 + 3), .int (g' 0), .int (g' 1), .int (g' 2), .int (g' 3), .int (g' 4), .int (g' 5), .int (g' 6)])) f g' := ⟨mj_ue, mj_un (by omega) hS.2⟩
section TPW
variable {G : mj_G} {M : mj_M} {d kc ks pc : Nat} {ls : List (Option Value)} {st : List Value} {h : mj_H} {uc us : Nat} {Q : Option Value → mj_H → Prop}
theorem TP_0 {f g : Nat → Int32} {y : Int32} (hS : TpS G h f g) (k : ∀ h', TpS G h' f (upd g 0 y) → mj_fr 2 2 h h' → mj_wp G M d kc ks pc ls st h' uc us Q) : mj_wp G M d kc ks pc ls st (mj_up h 2 (mj_ob 3 [.ref (G.1 + 3), .int y, .int (g 1), .int (g 2), .int (g 3), .int (g 4), .int (g 5), .int (g 6)])) uc us Q := k _ (TpS_o (g' := upd g 0 y) hS) (fr_up (by omega) (by omega))
theorem TP_1 {f g : Nat → Int32} {y : Int32} (hS : TpS G h f g) (k : ∀ h', TpS G h' f (upd g 1 y) → mj_fr 2 2 h h' → mj_wp G M d kc ks pc ls st h' uc us Q) : mj_wp G M d kc ks pc ls st (mj_up h 2 (mj_ob 3 [.ref (G.1 + 3), .int (g 0), .int y, .int (g 2), .int (g 3), .int (g 4), .int (g 5), .int (g 6)])) uc us Q := k _ (TpS_o (g' := upd g 1 y) hS) (fr_up (by omega) (by omega))
theorem TP_2 {f g : Nat → Int32} {y : Int32} (hS : TpS G h f g) (k : ∀ h', TpS G h' f (upd g 2 y) → mj_fr 2 2 h h' → mj_wp G M d kc ks pc ls st h' uc us Q) : mj_wp G M d kc ks pc ls st (mj_up h 2 (mj_ob 3 [.ref (G.1 + 3), .int (g 0), .int (g 1), .int y, .int (g 3), .int (g 4), .int (g 5), .int (g 6)])) uc us Q := k _ (TpS_o (g' := upd g 2 y) hS) (fr_up (by omega) (by omega))
theorem TP_3 {f g : Nat → Int32} {y : Int32} (hS : TpS G h f g) (k : ∀ h', TpS G h' f (upd g 3 y) → mj_fr 2 2 h h' → mj_wp G M d kc ks pc ls st h' uc us Q) : mj_wp G M d kc ks pc ls st (mj_up h 2 (mj_ob 3 [.ref (G.1 + 3), .int (g 0), .int (g 1), .int (g 2), .int y, .int (g 4), .int (g 5), .int (g 6)])) uc us Q := k _ (TpS_o (g' := upd g 3 y) hS) (fr_up (by omega) (by omega))
theorem TP_4 {f g : Nat → Int32} {y : Int32} (hS : TpS G h f g) (k : ∀ h', TpS G h' f (upd g 4 y) → mj_fr 2 2 h h' → mj_wp G M d kc ks pc ls st h' uc us Q) : mj_wp G M d kc ks pc ls st (mj_up h 2 (mj_ob 3 [.ref (G.1 + 3), .int (g 0), .int (g 1), .int (g 2), .int (g 3), .int y, .int (g 5), .int (g 6)])) uc us Q := k _ (TpS_o (g' := upd g 4 y) hS) (fr_up (by omega) (by omega))
theorem TP_5 {f g : Nat → Int32} {y : Int32} (hS : TpS G h f g) (k : ∀ h', TpS G h' f (upd g 5 y) → mj_fr 2 2 h h' → mj_wp G M d kc ks pc ls st h' uc us Q) : mj_wp G M d kc ks pc ls st (mj_up h 2 (mj_ob 3 [.ref (G.1 + 3), .int (g 0), .int (g 1), .int (g 2), .int (g 3), .int (g 4), .int y, .int (g 6)])) uc us Q := k _ (TpS_o (g' := upd g 5 y) hS) (fr_up (by omega) (by omega))
theorem TP_6 {f g : Nat → Int32} {y : Int32} (hS : TpS G h f g) (k : ∀ h', TpS G h' f (upd g 6 y) → mj_fr 2 2 h h' → mj_wp G M d kc ks pc ls st h' uc us Q) : mj_wp G M d kc ks pc ls st (mj_up h 2 (mj_ob 3 [.ref (G.1 + 3), .int (g 0), .int (g 1), .int (g 2), .int (g 3), .int (g 4), .int (g 5), .int y])) uc us Q := k _ (TpS_o (g' := upd g 6 y) hS) (fr_up (by omega) (by omega))
theorem TP_a {f g : Nat → Int32} {y : Int32} {j : Nat} (hS : TpS G h f g) (k : ∀ h', TpS G h' (upd f j y) g → mj_fr 2 2 h h' → mj_wp G M d kc ks pc ls st h' uc us Q) : mj_wp G M d kc ks pc ls st (mj_up h 3 (mj_ar 0 120 (upd f j y))) uc us Q := k _ ⟨mj_un (by omega) hS.1, mj_ue⟩ (fr_up (by omega) (by omega))
end TPW
set_option maxRecDepth 100000 in
set_option maxHeartbeats 4000000 in
theorem c_add_full {G : mj_G} {h : mj_H} {d : Nat} {f g : Nat → Int32} (hS : TpS G h f g) {x : Int32} (hl : ¬ g 0 < 120) : mj_con G MX3_add d 0 0 [.ref (G.1 + 2), .int x] h (rI 0 h) := by
  refine mj_conV okX3_add (ls := [some (.ref (G.1 + 2)), some (.int x)]) rfl rfl ?_
  obtain ⟨t2, t3⟩ := id hS
  refine s_aload_n (n := 1) (i := 0) dX3_add_0 rfl rfl rfl ?_
  refine gf_X3_15 (n := 4) rfl dX3_add_1 rfl (by assumption) (by rfl) ?_
  refine s_bipush (n := 6) (v := 120) dX3_add_4 rfl (by decide) ?_
  refine s_icmp_lt (n := 9) (tgt := 11) dX3_add_6 rfl rfl (fun b6 => ?_) (fun b6 => ?_)
  · exact absurd b6 hl
  · refine s_iconst (n := 10) (v := 0) dX3_add_9 rfl (by decide) ?_
    refine s_ireturn dX3_add_10 rfl (rfl) (Nat.le_refl _) (Nat.le_refl _) ?_
    exact ⟨rfl, rfl⟩
set_option maxRecDepth 100000 in
set_option maxHeartbeats 4000000 in
theorem c_add {G : mj_G} {h : mj_H} {d : Nat} {f g : Nat → Int32} (hS : TpS G h f g) {x : Int32} {l : Nat} (hl : g 0 = nI l) (h1 : l < 120) : mj_con G MX3_add d 0 0 [.ref (G.1 + 2), .int x] h (fun v h' => v = some (.int 1) ∧ TpS G h' (upd f l x) (upd g 0 (nI (l + 1))) ∧ mj_fr 2 2 h h') := by
  refine mj_conV okX3_add (ls := [some (.ref (G.1 + 2)), some (.int x)]) rfl rfl ?_
  obtain ⟨t2, t3⟩ := id hS
  refine s_aload_n (n := 1) (i := 0) dX3_add_0 rfl rfl rfl ?_
  refine gf_X3_15 (n := 4) rfl dX3_add_1 rfl (by assumption) (by rfl) ?_
  rw [hl]
  refine s_bipush (n := 6) (v := 120) dX3_add_4 rfl (by decide) ?_
  refine s_icmp_lt (n := 9) (tgt := 11) dX3_add_6 rfl rfl (fun b6 => ?_) (fun b6 => ?_)
  · refine s_aload_n (n := 12) (i := 0) dX3_add_11 rfl rfl rfl ?_
    refine gf_X3_9 (n := 15) rfl dX3_add_12 rfl (by assumption) (by rfl) ?_
    refine s_aload_n (n := 16) (i := 0) dX3_add_15 rfl rfl rfl ?_
    refine gf_X3_15 (n := 19) rfl dX3_add_16 rfl (by assumption) (by rfl) ?_
    rw [hl]
    refine s_iload_n (n := 20) (i := 1) dX3_add_19 rfl rfl rfl ?_
    refine s_iast (n := 21) dX3_add_20 rfl (by assumption) (mj_ixn (by omega)) ?_
    refine TP_a hS (fun h2 hS2 hF2 => ?_)
    obtain ⟨t2, t3⟩ := id hS2
    refine s_aload_n (n := 22) (i := 0) dX3_add_21 rfl rfl rfl ?_
    refine s_dup (n := 23) dX3_add_22 rfl rfl ?_
    refine gf_X3_15 (n := 26) rfl dX3_add_23 rfl (by assumption) (by rfl) ?_
    rw [hl]
    refine s_iconst (n := 27) (v := 1) dX3_add_26 rfl (by decide) ?_
    refine s_iadd (n := 28) dX3_add_27 rfl ?_
    rw [nI_1]
    refine pf_X3_15 (n := 31) (fs' := [_, _, _, _, _, _, _, _]) rfl dX3_add_28 rfl (by assumption) (by rfl) (by rfl) ?_
    refine TP_0 hS2 (fun h3 hS3 hF3 => ?_)
    refine s_iconst (n := 32) (v := 1) dX3_add_31 rfl (by decide) ?_
    refine s_ireturn dX3_add_32 rfl (rfl) (Nat.le_refl _) (Nat.le_refl _) ?_
    exact ⟨rfl, hS3, fr_tr hF2 hF3⟩
  · exact absurd ((nI_ltE (b := 120) (by omega) (by omega)).mpr h1) b6
set_option maxRecDepth 100000 in
set_option maxHeartbeats 4000000 in
theorem k_feed_bad {G : mj_G} {h : mj_H} {d : Nat} {σ : Nat → Nat → Int32} (hX : XS G h σ) {x : Int32} (hb : ¬ Wi x 0 255) (hd : 2 ≤ d) : mj_con G MX4_feed d 0 0 [.ref (G.1 + 0), .int x] h (rI (-1000001) h) := by
  refine mj_conV okX4_feed (ls := [some (.ref (G.1 + 0)), some (.int x)]) rfl rfl ?_
  obtain ⟨x0, x1, xt, xn, xf, xa, x188, x189, xr, xi⟩ := id hX
  obtain ⟨n0, n1, n2, n3, n4, n5, n6⟩ := id xn
  have a18 := xa.1
  have t2 := xt.1
  have t3 := xt.2
  refine s_iload_n (n := 1) (i := 1) dX4_feed_0 rfl rfl rfl ?_
  refine s_iconst (n := 2) (v := 0) dX4_feed_1 rfl (by decide) ?_
  refine s_sipush (n := 5) (v := 255) dX4_feed_2 rfl (by decide) ?_
  refine s_s3 (M' := MX4_isWithin) (n := 8) dX4_feed_5 rfl wd_X4_52 okX4_isWithin rfl (by omega) ⟨Nat.le_refl _, Nat.le_refl _⟩ (c_within (d := d - 1) (A := 0) (B := 255) (by decide) (by decide)) ?_
  rintro v5 hh5 ⟨rfl, rfl⟩
  refine s_if_ne (n := 11) (tgt := 14) dX4_feed_8 rfl rfl (fun b8 => ?_) (fun b8 => ?_)
  · exact absurd (if1 b8) hb
  · refine s_ldc (n := 13) dX4_feed_11 rfl wd_X4_56 ?_
    refine s_ireturn dX4_feed_13 rfl (rfl) (Nat.le_refl _) (Nat.le_refl _) ?_
    exact ⟨rfl, rfl⟩
set_option maxRecDepth 100000 in
set_option maxHeartbeats 4000000 in
theorem k_feed_full {G : mj_G} {h : mj_H} {d : Nat} {σ : Nat → Nat → Int32} (hX : XS G h σ) {x : Int32} (hx : Wi x 0 255) (hl : ¬ σ 32 0 < 120) (hd : 2 ≤ d) : mj_con G MX4_feed d 0 0 [.ref (G.1 + 0), .int x] h (rI (-1000003) h) := by
  refine mj_conV okX4_feed (ls := [some (.ref (G.1 + 0)), some (.int x)]) rfl rfl ?_
  obtain ⟨x0, x1, xt, xn, xf, xa, x188, x189, xr, xi⟩ := id hX
  obtain ⟨n0, n1, n2, n3, n4, n5, n6⟩ := id xn
  have a18 := xa.1
  have t2 := xt.1
  have t3 := xt.2
  refine s_iload_n (n := 1) (i := 1) dX4_feed_0 rfl rfl rfl ?_
  refine s_iconst (n := 2) (v := 0) dX4_feed_1 rfl (by decide) ?_
  refine s_sipush (n := 5) (v := 255) dX4_feed_2 rfl (by decide) ?_
  refine s_s3 (M' := MX4_isWithin) (n := 8) dX4_feed_5 rfl wd_X4_52 okX4_isWithin rfl (by omega) ⟨Nat.le_refl _, Nat.le_refl _⟩ (c_within (d := d - 1) (A := 0) (B := 255) (by decide) (by decide)) ?_
  rintro v5 hh5 ⟨rfl, rfl⟩
  refine s_if_ne (n := 11) (tgt := 14) dX4_feed_8 rfl rfl (fun b8 => ?_) (fun b8 => ?_)
  · refine s_aload_n (n := 15) (i := 0) dX4_feed_14 rfl rfl rfl ?_
    refine gf_X4_18 (n := 18) rfl dX4_feed_15 rfl (by assumption) (by rfl) ?_
    refine s_iload_n (n := 19) (i := 1) dX4_feed_18 rfl rfl rfl ?_
    refine s_v1 (M' := MX3_add) (n := 22) (ci := 3) dX4_feed_19 rfl wd_X4_99 okX3_add rfl rfl (by omega) ⟨Nat.le_refl _, Nat.le_refl _⟩ (by assumption) (c_add_full (d := d - 1) xt hl) ?_
    rintro v19 hh19 ⟨rfl, rfl⟩
    refine s_if_eq (n := 25) (tgt := 35) dX4_feed_22 rfl rfl (fun b22 => ?_) (fun b22 => ?_)
    · refine s_ldc (n := 37) dX4_feed_35 rfl wd_X4_105 ?_
      refine s_ireturn dX4_feed_37 rfl (rfl) (Nat.le_refl _) (Nat.le_refl _) ?_
      exact ⟨rfl, rfl⟩
    · exact absurd rfl b22
  · exact absurd (hx) (if0 b8)
set_option maxRecDepth 100000 in
set_option maxHeartbeats 4000000 in
theorem k_feed {G : mj_G} {h : mj_H} {d : Nat} {σ : Nat → Nat → Int32} (hX : XS G h σ) {x : Int32} {l : Nat} (hx : Wi x 0 255) (hl : σ 32 0 = nI l) (h1 : l < 120) (hd : 2 ≤ d) : mj_con G MX4_feed d 0 0 [.ref (G.1 + 0), .int x] h (fun v h' => v = some (.int (nI (l + 1))) ∧ XS G h' (u2 (u2 σ 31 (upd (σ 31) l x)) 32 (upd (σ 32) 0 (nI (l + 1)))) ∧ mj_fr 0 220 h h') := by
  refine mj_conV okX4_feed (ls := [some (.ref (G.1 + 0)), some (.int x)]) rfl rfl ?_
  obtain ⟨x0, x1, xt, xn, xf, xa, x188, x189, xr, xi⟩ := id hX
  obtain ⟨n0, n1, n2, n3, n4, n5, n6⟩ := id xn
  have a18 := xa.1
  have t2 := xt.1
  have t3 := xt.2
  refine s_iload_n (n := 1) (i := 1) dX4_feed_0 rfl rfl rfl ?_
  refine s_iconst (n := 2) (v := 0) dX4_feed_1 rfl (by decide) ?_
  refine s_sipush (n := 5) (v := 255) dX4_feed_2 rfl (by decide) ?_
  refine s_s3 (M' := MX4_isWithin) (n := 8) dX4_feed_5 rfl wd_X4_52 okX4_isWithin rfl (by omega) ⟨Nat.le_refl _, Nat.le_refl _⟩ (c_within (d := d - 1) (A := 0) (B := 255) (by decide) (by decide)) ?_
  rintro v5 hh5 ⟨rfl, rfl⟩
  refine s_if_ne (n := 11) (tgt := 14) dX4_feed_8 rfl rfl (fun b8 => ?_) (fun b8 => ?_)
  · refine s_aload_n (n := 15) (i := 0) dX4_feed_14 rfl rfl rfl ?_
    refine gf_X4_18 (n := 18) rfl dX4_feed_15 rfl (by assumption) (by rfl) ?_
    refine s_iload_n (n := 19) (i := 1) dX4_feed_18 rfl rfl rfl ?_
    refine s_v1 (M' := MX3_add) (n := 22) (ci := 3) dX4_feed_19 rfl wd_X4_99 okX3_add rfl rfl (by omega) ⟨Nat.le_refl _, Nat.le_refl _⟩ (by assumption) (c_add (d := d - 1) xt hl h1) ?_
    rintro v19 hh19 ⟨rfl, hT1, hF1⟩
    have hX1 := XS_tape hX hT1 hF1
    have x0 := hX1.1
    have t2 := hT1.1
    refine s_if_eq (n := 25) (tgt := 35) dX4_feed_22 rfl rfl (fun b22 => ?_) (fun b22 => ?_)
    · exact absurd b22 (by decide)
    · refine s_aload_n (n := 26) (i := 0) dX4_feed_25 rfl rfl rfl ?_
      refine gf_X4_18 (n := 29) rfl dX4_feed_26 rfl (by assumption) (by rfl) ?_
      refine gf_X4_102 (n := 32) rfl dX4_feed_29 rfl (by assumption) (by rfl) ?_
      refine s_goto (tgt := 37) dX4_feed_32 rfl ?_
      refine s_ireturn dX4_feed_37 rfl (rfl) (Nat.le_refl _) (Nat.le_refl _) ?_
      exact ⟨rfl, hX1, fr_wid hF1 (by omega) (by omega)⟩
  · exact absurd (hx) (if0 b8)
