abbrev Wi (x : Int32) (a b : Int) : Prop := a ≤ x.toInt ∧ x.toInt ≤ b
abbrev Hs (n : Nat) (x : Int32) : Prop := 0 ≤ x.toInt ∧ x.toInt < (n : Int)
theorem if0 {P : Prop} [Decidable P] (h : (if P then (1 : Int32) else 0) = 0) : ¬ P := fun q => by
  rw [if_pos q] at h
  exact absurd h (by decide)
theorem if1 {P : Prop} [Decidable P] (h : ¬ (if P then (1 : Int32) else 0) = 0) : P := by
  by_cases q : P
  · exact q
  · rw [if_neg q] at h
    exact absurd rfl h
theorem Wi_n {j : Nat} {a b : Int} (h1 : a ≤ (j : Int)) (h2 : (j : Int) ≤ b) (h3 : j < 2147483648) : Wi (nI j) a b := by
  show a ≤ (nI j).toInt ∧ (nI j).toInt ≤ b
  rw [nI_toInt h3]
  exact ⟨h1, h2⟩
theorem Hs_n {j n : Nat} (hj : j < n) (h7 : n ≤ 7) : Hs n (nI j) := by
  show 0 ≤ (nI j).toInt ∧ (nI j).toInt < n
  rw [nI_toInt (by omega)]
  omega
theorem nI_of_toInt {x : Int32} {j : Nat} (h : x.toInt = (j : Int)) : x = nI j := by
  apply Int32.toInt_inj.mp
  have : j < 2 ^ 31 := by have := Int32.toInt_lt x; omega
  rw [nI_toInt this]
  exact h
theorem Wi_get {x : Int32} {b : Nat} (h : Wi x 0 b) : ∃ j, j ≤ b ∧ x = nI j := ⟨x.toInt.toNat, by have := h.1; have := h.2; omega, nI_of_toInt (by have := h.1; omega)⟩
theorem Wi_get1 {x : Int32} {b : Nat} (h : Wi x 1 b) : ∃ j, 1 ≤ j ∧ j ≤ b ∧ x = nI j := ⟨x.toInt.toNat, by have := h.1; have := h.2; omega, by have := h.1; have := h.2; omega, nI_of_toInt (by have := h.1; omega)⟩
theorem Hs_get {x : Int32} {n : Nat} (h : Hs n x) : ∃ j, j < n ∧ x = nI j := ⟨x.toInt.toNat, by have := h.1; have := h.2; omega, nI_of_toInt (by have := h.1; omega)⟩
theorem c_within {G : mj_G} {h : mj_H} {d : Nat} {x a b : Int32} {A B : Int} (ha : a.toInt = A) (hb : b.toInt = B) : mj_con G MX4_isWithin d 0 0 [.int x, .int a, .int b] h (rI (if Wi x A B then 1 else 0) h) := by
  have e : iw x a b = if Wi x A B then 1 else 0 := by
    unfold iw Wi
    simp only [i_le, ha, hb]
  rw [← e]
  exact c_isWithin x a b
theorem c_isRow' {G : mj_G} {h : mj_H} {d : Nat} {x : Int32} (hd : 1 ≤ d) : mj_con G MX4_isRow d 0 0 [.int x] h (rI (if Wi x 0 7 then 1 else 0) h) := by
  have e : iw x 0 7 = if Wi x 0 7 then 1 else 0 := by
    unfold iw Wi
    simp only [i_le, show (0 : Int32).toInt = 0 from by decide, show (7 : Int32).toInt = 7 from by decide]
  rw [← e]
  exact c_isRow x hd
theorem u2_self {σ : Nat → Nat → Int32} {i : Nat} : u2 σ i (σ i) = σ := by
  funext j
  unfold u2
  split
  · next h => rw [h]
  · rfl
theorem XS_x {G : mj_G} {h : mj_H} {σ : Nat → Nat → Int32} {x : Nat → Int32} (hX : XS G h σ) : XS G (mj_up h 0 (XO G x)) (u2 σ 42 x) := by
  have := XS_own (h' := mj_up h 0 (XO G x)) (x := x) (t := σ 33) hX mj_ue (mj_un (by omega) hX.2.2.2.2.2.2.2.1) (fun j h1 h2 => if_neg h1)
  rw [u2_self] at this
  exact this
section XPW
variable {G : mj_G} {M : mj_M} {d kc ks pc : Nat} {ls : List (Option Value)} {st : List Value} {h : mj_H} {uc us : Nat} {Q : Option Value → mj_H → Prop}
theorem XP_td {σ : Nat → Nat → Int32} {y : Int32} (hX : XS G h σ) (k : ∀ h', XS G h' (u2 σ 42 (upd (σ 42) 0 y)) → mj_fr 0 220 h h' → mj_wp G M d kc ks pc ls st h' uc us Q) : mj_wp G M d kc ks pc ls st (mj_up h 0 (mj_ob 4 [.ref (G.1 + 1), .ref (G.1 + 2), .ref (G.1 + 4), .ref (G.1 + 11), .ref (G.1 + 18), .ref (G.1 + 188), .ref (G.1 + 189), .int y, .int (σ 42 1), .int (σ 42 2)])) uc us Q := k _ (XS_x (x := upd (σ 42) 0 y) hX) (fr_up (by omega) (by omega))
theorem XP_lf {σ : Nat → Nat → Int32} {y : Int32} (hX : XS G h σ) (k : ∀ h', XS G h' (u2 σ 42 (upd (σ 42) 1 y)) → mj_fr 0 220 h h' → mj_wp G M d kc ks pc ls st h' uc us Q) : mj_wp G M d kc ks pc ls st (mj_up h 0 (mj_ob 4 [.ref (G.1 + 1), .ref (G.1 + 2), .ref (G.1 + 4), .ref (G.1 + 11), .ref (G.1 + 18), .ref (G.1 + 188), .ref (G.1 + 189), .int (σ 42 0), .int y, .int (σ 42 2)])) uc us Q := k _ (XS_x (x := upd (σ 42) 1 y) hX) (fr_up (by omega) (by omega))
theorem XP_lg {σ : Nat → Nat → Int32} {y : Int32} (hX : XS G h σ) (k : ∀ h', XS G h' (u2 σ 42 (upd (σ 42) 2 y)) → mj_fr 0 220 h h' → mj_wp G M d kc ks pc ls st h' uc us Q) : mj_wp G M d kc ks pc ls st (mj_up h 0 (mj_ob 4 [.ref (G.1 + 1), .ref (G.1 + 2), .ref (G.1 + 4), .ref (G.1 + 11), .ref (G.1 + 18), .ref (G.1 + 188), .ref (G.1 + 189), .int (σ 42 0), .int (σ 42 1), .int y])) uc us Q := k _ (XS_x (x := upd (σ 42) 2 y) hX) (fr_up (by omega) (by omega))
end XPW
theorem hs_eq {n : Nat} {x : Int32} (h7 : n ≤ 7) : (if Wi x 0 (nI n - 1).toInt then (1 : Int32) else 0) = if Hs n x then 1 else 0 := by
  have e : (nI n - 1).toInt = (n : Int) - 1 := by
    cases n with
    | zero => decide
    | succ m => rw [nI_pred, nI_toInt (by omega)]; omega
  have q : Wi x 0 (nI n - 1).toInt ↔ Hs n x := by
    rw [e]
    show (0 ≤ x.toInt ∧ x.toInt ≤ (n : Int) - 1) ↔ (0 ≤ x.toInt ∧ x.toInt < (n : Int))
    omega
  by_cases c : Hs n x
  · rw [if_pos c, if_pos (q.mpr c)]
  · rw [if_neg c, if_neg (fun z => c (q.mp z))]
theorem hs_eq2 {n : Nat} {x : Int32} (h7 : n ≤ 16) : (if Wi x 0 (nI n - 1).toInt then (1 : Int32) else 0) = if Hs n x then 1 else 0 := by
  have e : (nI n - 1).toInt = (n : Int) - 1 := by
    cases n with
    | zero => decide
    | succ m => rw [nI_pred, nI_toInt (by omega)]; omega
  have q : Wi x 0 (nI n - 1).toInt ↔ Hs n x := by
    rw [e]
    show (0 ≤ x.toInt ∧ x.toInt ≤ (n : Int) - 1) ↔ (0 ≤ x.toInt ∧ x.toInt < (n : Int))
    omega
  by_cases c : Hs n x
  · rw [if_pos c, if_pos (q.mpr c)]
  · rw [if_neg c, if_neg (fun z => c (q.mp z))]
theorem Hs_n2 {j n : Nat} (hj : j < n) (h7 : n ≤ 16) : Hs n (nI j) := by
  show 0 ≤ (nI j).toInt ∧ (nI j).toInt < n
  rw [nI_toInt (by omega)]
  omega
theorem nar_if {P : Prop} [Decidable P] : narrow .boolean (.int (if P then 1 else 0)) = .int (if P then 1 else 0) := by
  split <;> rfl
set_option maxRecDepth 100000 in
set_option maxHeartbeats 4000000 in
theorem c_isHouse {G : mj_G} {h : mj_H} {d : Nat} {σ : Nat → Nat → Int32} (hX : XS G h σ) {n : Nat} (hn : σ 0 2 = nI n) (h7 : n ≤ 7) {x : Int32} (hd : 1 ≤ d) : mj_con G MX4_isHouse d 0 0 [.ref (G.1 + 0), .int x] h (rI (if Hs n x then 1 else 0) h) := by
  refine mj_conV okX4_isHouse (ls := [some (.ref (G.1 + 0)), some (.int x)]) rfl rfl ?_
  obtain ⟨x0, x1, xt, xn, xf, xa, x188, x189, xr, xi⟩ := id hX
  obtain ⟨n0, n1, n2, n3, n4, n5, n6⟩ := id xn
  have a18 := xa.1
  have t2 := xt.1
  have t3 := xt.2
  refine s_iload_n (n := 1) (i := 1) dX4_isHouse_0 rfl rfl rfl ?_
  refine s_iconst (n := 2) (v := 0) dX4_isHouse_1 rfl (by decide) ?_
  refine s_aload_n (n := 3) (i := 0) dX4_isHouse_2 rfl rfl rfl ?_
  refine gf_X4_25 (n := 6) rfl dX4_isHouse_3 rfl (by assumption) (by rfl) ?_
  refine gf_X4_127 (n := 9) rfl dX4_isHouse_6 rfl (by assumption) (by rfl) ?_
  rw [hn]
  refine s_iconst (n := 10) (v := 1) dX4_isHouse_9 rfl (by decide) ?_
  refine s_isub (n := 11) dX4_isHouse_10 rfl ?_
  refine s_s3 (M' := MX4_isWithin) (n := 14) dX4_isHouse_11 rfl wd_X4_52 okX4_isWithin rfl (by omega) ⟨Nat.le_refl _, Nat.le_refl _⟩ (c_within (d := d - 1) (A := 0) (by decide) rfl) ?_
  rintro v11 hh11 ⟨rfl, rfl⟩
  refine s_ireturn dX4_isHouse_14 rfl (nar_if) (Nat.le_refl _) (Nat.le_refl _) ?_
  exact rI_ok (hs_eq h7)
set_option maxRecDepth 100000 in
set_option maxHeartbeats 4000000 in
theorem c_found {G : mj_G} {h : mj_H} {d : Nat} {σ : Nat → Nat → Int32} (hX : XS G h σ) {f : Int32} : mj_con G MX4_found d 0 0 [.ref (G.1 + 0), .int f] h (fun v h' => v = some (.int (-1000010 - f)) ∧ XS G h' (u2 (σ) 42 (upd (σ 42) 2 f)) ∧ mj_fr 0 220 h h') := by
  refine mj_conV okX4_found (ls := [some (.ref (G.1 + 0)), some (.int f)]) rfl rfl ?_
  obtain ⟨x0, x1, xt, xn, xf, xa, x188, x189, xr, xi⟩ := id hX
  obtain ⟨n0, n1, n2, n3, n4, n5, n6⟩ := id xn
  have a18 := xa.1
  have t2 := xt.1
  have t3 := xt.2
  refine s_aload_n (n := 1) (i := 0) dX4_found_0 rfl rfl rfl ?_
  refine s_iload_n (n := 2) (i := 1) dX4_found_1 rfl rfl rfl ?_
  refine pf_X4_275 (n := 5) (fs' := [_, _, _, _, _, _, _, _, _, _]) rfl dX4_found_2 rfl (by assumption) (by rfl) (by rfl) ?_
  refine XP_lg hX (fun h1 hX1 hF1 => ?_)
  refine s_ldcw (n := 8) dX4_found_5 rfl wd_X4_278 ?_
  refine s_iload_n (n := 9) (i := 1) dX4_found_8 rfl rfl rfl ?_
  refine s_isub (n := 10) dX4_found_9 rfl ?_
  refine s_ireturn dX4_found_10 rfl (rfl) (Nat.le_refl _) (Nat.le_refl _) ?_
  exact ⟨rfl, hX1, hF1⟩
set_option maxRecDepth 100000 in
set_option maxHeartbeats 4000000 in
theorem c_unfound {G : mj_G} {h : mj_H} {d : Nat} {σ : Nat → Nat → Int32} (hX : XS G h σ) {f : Int32} : mj_con G MX4_unfound d 0 0 [.ref (G.1 + 0), .int f] h (fun v h' => v = some (.int (f)) ∧ XS G h' (u2 (σ) 42 (upd (σ 42) 2 0)) ∧ mj_fr 0 220 h h') := by
  refine mj_conV okX4_unfound (ls := [some (.ref (G.1 + 0)), some (.int f)]) rfl rfl ?_
  obtain ⟨x0, x1, xt, xn, xf, xa, x188, x189, xr, xi⟩ := id hX
  obtain ⟨n0, n1, n2, n3, n4, n5, n6⟩ := id xn
  have a18 := xa.1
  have t2 := xt.1
  have t3 := xt.2
  refine s_aload_n (n := 1) (i := 0) dX4_unfound_0 rfl rfl rfl ?_
  refine s_iconst (n := 2) (v := 0) dX4_unfound_1 rfl (by decide) ?_
  refine pf_X4_275 (n := 5) (fs' := [_, _, _, _, _, _, _, _, _, _]) rfl dX4_unfound_2 rfl (by assumption) (by rfl) (by rfl) ?_
  refine XP_lg hX (fun h1 hX1 hF1 => ?_)
  refine s_iload_n (n := 6) (i := 1) dX4_unfound_5 rfl rfl rfl ?_
  refine s_ireturn dX4_unfound_6 rfl (rfl) (Nat.le_refl _) (Nat.le_refl _) ?_
  exact ⟨rfl, hX1, hF1⟩
set_option maxRecDepth 100000 in
set_option maxHeartbeats 4000000 in
theorem k_fault {G : mj_G} {h : mj_H} {d : Nat} {σ : Nat → Nat → Int32} (hX : XS G h σ) : mj_con G MX4_fault d 0 0 [.ref (G.1 + 0)] h (rI (σ 42 1) h) := by
  refine mj_conV okX4_fault (ls := [some (.ref (G.1 + 0))]) rfl rfl ?_
  obtain ⟨x0, x1, xt, xn, xf, xa, x188, x189, xr, xi⟩ := id hX
  obtain ⟨n0, n1, n2, n3, n4, n5, n6⟩ := id xn
  have a18 := xa.1
  have t2 := xt.1
  have t3 := xt.2
  refine s_aload_n (n := 1) (i := 0) dX4_fault_0 rfl rfl rfl ?_
  refine gf_X4_113 (n := 4) rfl dX4_fault_1 rfl (by assumption) (by rfl) ?_
  refine s_ireturn dX4_fault_4 rfl (rfl) (Nat.le_refl _) (Nat.le_refl _) ?_
  exact rI_ok rfl
set_option maxRecDepth 100000 in
set_option maxHeartbeats 4000000 in
theorem k_status {G : mj_G} {h : mj_H} {d : Nat} {σ : Nat → Nat → Int32} (hX : XS G h σ) : mj_con G MX4_status d 0 0 [.ref (G.1 + 0)] h (rI (σ 42 2) h) := by
  refine mj_conV okX4_status (ls := [some (.ref (G.1 + 0))]) rfl rfl ?_
  obtain ⟨x0, x1, xt, xn, xf, xa, x188, x189, xr, xi⟩ := id hX
  obtain ⟨n0, n1, n2, n3, n4, n5, n6⟩ := id xn
  have a18 := xa.1
  have t2 := xt.1
  have t3 := xt.2
  refine s_aload_n (n := 1) (i := 0) dX4_status_0 rfl rfl rfl ?_
  refine gf_X4_275 (n := 4) rfl dX4_status_1 rfl (by assumption) (by rfl) ?_
  refine s_ireturn dX4_status_4 rfl (rfl) (Nat.le_refl _) (Nat.le_refl _) ?_
  exact rI_ok rfl
set_option maxRecDepth 100000 in
set_option maxHeartbeats 4000000 in
theorem k_kind_bad {G : mj_G} {h : mj_H} {d : Nat} {σ : Nat → Nat → Int32} (hX : XS G h σ) {n : Nat} (hn : σ 0 2 = nI n) (h7 : n ≤ 7) {x : Int32} (hb : ¬ Hs n x) (hd : 2 ≤ d) : mj_con G MX4_kind d 0 0 [.ref (G.1 + 0), .int x] h (rI (-1000001) h) := by
  refine mj_conV okX4_kind (ls := [some (.ref (G.1 + 0)), some (.int x)]) rfl rfl ?_
  obtain ⟨x0, x1, xt, xn, xf, xa, x188, x189, xr, xi⟩ := id hX
  obtain ⟨n0, n1, n2, n3, n4, n5, n6⟩ := id xn
  have a18 := xa.1
  have t2 := xt.1
  have t3 := xt.2
  refine s_aload_n (n := 1) (i := 0) dX4_kind_0 rfl rfl rfl ?_
  refine s_iload_n (n := 2) (i := 1) dX4_kind_1 rfl rfl rfl ?_
  refine s_v1 (M' := MX4_isHouse) (n := 5) (ci := 4) dX4_kind_2 rfl wd_X4_152 okX4_isHouse rfl rfl (by omega) ⟨Nat.le_refl _, Nat.le_refl _⟩ (by assumption) (c_isHouse (d := d - 1) hX hn h7 (by omega)) ?_
  rintro v2 hh2 ⟨rfl, rfl⟩
  refine s_if_eq (n := 8) (tgt := 20) dX4_kind_5 rfl rfl (fun b5 => ?_) (fun b5 => ?_)
  · refine s_ldc (n := 22) dX4_kind_20 rfl wd_X4_56 ?_
    refine s_ireturn dX4_kind_22 rfl (rfl) (Nat.le_refl _) (Nat.le_refl _) ?_
    exact ⟨rfl, rfl⟩
  · exact absurd (if1 b5) hb
set_option maxRecDepth 100000 in
set_option maxHeartbeats 4000000 in
theorem k_kind {G : mj_G} {h : mj_H} {d : Nat} {σ : Nat → Nat → Int32} (hX : XS G h σ) {n : Nat} (hn : σ 0 2 = nI n) (h7 : n ≤ 7) {j : Nat} (hj : j < n) (hd : 2 ≤ d) : mj_con G MX4_kind d 0 0 [.ref (G.1 + 0), .int (nI j)] h (rI (σ 0 (6 + j)) h) := by
  refine mj_conV okX4_kind (ls := [some (.ref (G.1 + 0)), some (.int (nI j))]) rfl rfl ?_
  obtain ⟨x0, x1, xt, xn, xf, xa, x188, x189, xr, xi⟩ := id hX
  obtain ⟨n0, n1, n2, n3, n4, n5, n6⟩ := id xn
  have a18 := xa.1
  have t2 := xt.1
  have t3 := xt.2
  refine s_aload_n (n := 1) (i := 0) dX4_kind_0 rfl rfl rfl ?_
  refine s_iload_n (n := 2) (i := 1) dX4_kind_1 rfl rfl rfl ?_
  refine s_v1 (M' := MX4_isHouse) (n := 5) (ci := 4) dX4_kind_2 rfl wd_X4_152 okX4_isHouse rfl rfl (by omega) ⟨Nat.le_refl _, Nat.le_refl _⟩ (by assumption) (c_isHouse (d := d - 1) hX hn h7 (by omega)) ?_
  rintro v2 hh2 ⟨rfl, rfl⟩
  refine s_if_eq (n := 8) (tgt := 20) dX4_kind_5 rfl rfl (fun b5 => ?_) (fun b5 => ?_)
  · exact absurd (Hs_n hj h7) (if0 b5)
  · refine s_aload_n (n := 9) (i := 0) dX4_kind_8 rfl rfl rfl ?_
    refine gf_X4_25 (n := 12) rfl dX4_kind_9 rfl (by assumption) (by rfl) ?_
    refine gf_X4_259 (n := 15) rfl dX4_kind_12 rfl (by assumption) (by rfl) ?_
    refine s_iload_n (n := 16) (i := 1) dX4_kind_15 rfl rfl rfl ?_
    first | refine s_ials (n := 17) dX4_kind_16 rfl (by assumption) (mj_ixn (by omega)) ?_ | refine s_iald (n := 17) dX4_kind_16 rfl (by assumption) (mj_ixn (by omega)) ?_
    refine s_goto (tgt := 22) dX4_kind_17 rfl ?_
    refine s_ireturn dX4_kind_22 rfl (rfl) (Nat.le_refl _) (Nat.le_refl _) ?_
    exact ⟨rfl, rfl⟩
set_option maxRecDepth 100000 in
set_option maxHeartbeats 4000000 in
theorem k_lag_bad {G : mj_G} {h : mj_H} {d : Nat} {σ : Nat → Nat → Int32} (hX : XS G h σ) {n : Nat} (hn : σ 0 2 = nI n) (h7 : n ≤ 7) {x : Int32} (hb : ¬ Hs n x) (hd : 2 ≤ d) : mj_con G MX4_lag d 0 0 [.ref (G.1 + 0), .int x] h (rI (-1000001) h) := by
  refine mj_conV okX4_lag (ls := [some (.ref (G.1 + 0)), some (.int x)]) rfl rfl ?_
  obtain ⟨x0, x1, xt, xn, xf, xa, x188, x189, xr, xi⟩ := id hX
  obtain ⟨n0, n1, n2, n3, n4, n5, n6⟩ := id xn
  have a18 := xa.1
  have t2 := xt.1
  have t3 := xt.2
  refine s_aload_n (n := 1) (i := 0) dX4_lag_0 rfl rfl rfl ?_
  refine s_iload_n (n := 2) (i := 1) dX4_lag_1 rfl rfl rfl ?_
  refine s_v1 (M' := MX4_isHouse) (n := 5) (ci := 4) dX4_lag_2 rfl wd_X4_152 okX4_isHouse rfl rfl (by omega) ⟨Nat.le_refl _, Nat.le_refl _⟩ (by assumption) (c_isHouse (d := d - 1) hX hn h7 (by omega)) ?_
  rintro v2 hh2 ⟨rfl, rfl⟩
  refine s_if_ne (n := 8) (tgt := 11) dX4_lag_5 rfl rfl (fun b5 => ?_) (fun b5 => ?_)
  · exact absurd (if1 b5) hb
  · refine s_ldc (n := 10) dX4_lag_8 rfl wd_X4_56 ?_
    refine s_ireturn dX4_lag_10 rfl (rfl) (Nat.le_refl _) (Nat.le_refl _) ?_
    exact ⟨rfl, rfl⟩
set_option maxRecDepth 100000 in
set_option maxHeartbeats 4000000 in
theorem k_lag {G : mj_G} {h : mj_H} {d : Nat} {σ : Nat → Nat → Int32} (hX : XS G h σ) {n : Nat} (hn : σ 0 2 = nI n) (h7 : n ≤ 7) {j : Nat} (hj : j < n) (hd : 2 ≤ d) : mj_con G MX4_lag d 0 0 [.ref (G.1 + 0), .int (nI j)] h (rI (if 0 < σ 0 (34 + j) then nI (n - j) else -1000000) h) := by
  refine mj_conV okX4_lag (ls := [some (.ref (G.1 + 0)), some (.int (nI j))]) rfl rfl ?_
  obtain ⟨x0, x1, xt, xn, xf, xa, x188, x189, xr, xi⟩ := id hX
  obtain ⟨n0, n1, n2, n3, n4, n5, n6⟩ := id xn
  have a18 := xa.1
  have t2 := xt.1
  have t3 := xt.2
  refine s_aload_n (n := 1) (i := 0) dX4_lag_0 rfl rfl rfl ?_
  refine s_iload_n (n := 2) (i := 1) dX4_lag_1 rfl rfl rfl ?_
  refine s_v1 (M' := MX4_isHouse) (n := 5) (ci := 4) dX4_lag_2 rfl wd_X4_152 okX4_isHouse rfl rfl (by omega) ⟨Nat.le_refl _, Nat.le_refl _⟩ (by assumption) (c_isHouse (d := d - 1) hX hn h7 (by omega)) ?_
  rintro v2 hh2 ⟨rfl, rfl⟩
  refine s_if_ne (n := 8) (tgt := 11) dX4_lag_5 rfl rfl (fun b5 => ?_) (fun b5 => ?_)
  · refine s_aload_n (n := 12) (i := 0) dX4_lag_11 rfl rfl rfl ?_
    refine gf_X4_25 (n := 15) rfl dX4_lag_12 rfl (by assumption) (by rfl) ?_
    refine gf_X4_180 (n := 18) rfl dX4_lag_15 rfl (by assumption) (by rfl) ?_
    refine s_iload_n (n := 19) (i := 1) dX4_lag_18 rfl rfl rfl ?_
    first | refine s_ials (n := 20) dX4_lag_19 rfl (by assumption) (mj_ixn (by omega)) ?_ | refine s_iald (n := 20) dX4_lag_19 rfl (by assumption) (mj_ixn (by omega)) ?_
    refine s_if_le (n := 23) (tgt := 35) dX4_lag_20 rfl rfl (fun b20 => ?_) (fun b20 => ?_)
    · refine s_ldc (n := 37) dX4_lag_35 rfl wd_X4_199 ?_
      refine s_ireturn dX4_lag_37 rfl (rfl) (Nat.le_refl _) (Nat.le_refl _) ?_
      refine rI_ok ?_
      first | (rw [if_neg (Int32.not_lt.mpr b20)]) | (rw [if_pos (Int32.not_le.mp b20)]; exact pk_sub (by omega))
    · refine s_aload_n (n := 24) (i := 0) dX4_lag_23 rfl rfl rfl ?_
      refine gf_X4_25 (n := 27) rfl dX4_lag_24 rfl (by assumption) (by rfl) ?_
      refine gf_X4_127 (n := 30) rfl dX4_lag_27 rfl (by assumption) (by rfl) ?_
      rw [hn]
      refine s_iload_n (n := 31) (i := 1) dX4_lag_30 rfl rfl rfl ?_
      refine s_isub (n := 32) dX4_lag_31 rfl ?_
      refine s_goto (tgt := 37) dX4_lag_32 rfl ?_
      refine s_ireturn dX4_lag_37 rfl (rfl) (Nat.le_refl _) (Nat.le_refl _) ?_
      refine rI_ok ?_
      first | (rw [if_neg (Int32.not_lt.mpr b20)]) | (rw [if_pos (Int32.not_le.mp b20)]; exact pk_sub (by omega))
  · exact absurd (Hs_n hj h7) (if0 b5)
set_option maxRecDepth 100000 in
set_option maxHeartbeats 4000000 in
theorem k_dry_bad {G : mj_G} {h : mj_H} {d : Nat} {σ : Nat → Nat → Int32} (hX : XS G h σ) (hb : ¬ 0 < σ 0 2) (hd : 2 ≤ d) : mj_con G MX4_dry d 0 0 [.ref (G.1 + 0)] h (rI (-1000002) h) := by
  refine mj_conV okX4_dry (ls := [some (.ref (G.1 + 0))]) rfl rfl ?_
  obtain ⟨x0, x1, xt, xn, xf, xa, x188, x189, xr, xi⟩ := id hX
  obtain ⟨n0, n1, n2, n3, n4, n5, n6⟩ := id xn
  have a18 := xa.1
  have t2 := xt.1
  have t3 := xt.2
  refine s_aload_n (n := 1) (i := 0) dX4_dry_0 rfl rfl rfl ?_
  refine gf_X4_25 (n := 4) rfl dX4_dry_1 rfl (by assumption) (by rfl) ?_
  refine s_v0 (M' := MX2_stands) (n := 7) (ci := 2) dX4_dry_4 rfl wd_X4_137 okX2_stands rfl rfl (by omega) ⟨Nat.le_refl _, Nat.le_refl _⟩ (by assumption) (c_stands (d := d - 1) xn) ?_
  rintro v4 hh4 ⟨rfl, rfl⟩
  refine s_if_eq (n := 10) (tgt := 20) dX4_dry_7 rfl rfl (fun b7 => ?_) (fun b7 => ?_)
  · refine s_ldc (n := 22) dX4_dry_20 rfl wd_X4_136 ?_
    refine s_ireturn dX4_dry_22 rfl (rfl) (Nat.le_refl _) (Nat.le_refl _) ?_
    exact ⟨rfl, rfl⟩
  · exact absurd (if1 b7) (hb)
set_option maxRecDepth 100000 in
set_option maxHeartbeats 4000000 in
theorem k_dry {G : mj_G} {h : mj_H} {d : Nat} {σ : Nat → Nat → Int32} (hX : XS G h σ) {n : Nat} (hn : σ 0 2 = nI n) (h7 : n ≤ 7) (h0 : 0 < σ 0 2) (hd : 2 ≤ d) : mj_con G MX4_dry d 0 0 [.ref (G.1 + 0)] h (rI (dryF (σ 0) n) h) := by
  refine mj_conV okX4_dry (ls := [some (.ref (G.1 + 0))]) rfl rfl ?_
  obtain ⟨x0, x1, xt, xn, xf, xa, x188, x189, xr, xi⟩ := id hX
  obtain ⟨n0, n1, n2, n3, n4, n5, n6⟩ := id xn
  have a18 := xa.1
  have t2 := xt.1
  have t3 := xt.2
  refine s_aload_n (n := 1) (i := 0) dX4_dry_0 rfl rfl rfl ?_
  refine gf_X4_25 (n := 4) rfl dX4_dry_1 rfl (by assumption) (by rfl) ?_
  refine s_v0 (M' := MX2_stands) (n := 7) (ci := 2) dX4_dry_4 rfl wd_X4_137 okX2_stands rfl rfl (by omega) ⟨Nat.le_refl _, Nat.le_refl _⟩ (by assumption) (c_stands (d := d - 1) xn) ?_
  rintro v4 hh4 ⟨rfl, rfl⟩
  refine s_if_eq (n := 10) (tgt := 20) dX4_dry_7 rfl rfl (fun b7 => ?_) (fun b7 => ?_)
  · exact absurd (h0) (if0 b7)
  · refine s_aload_n (n := 11) (i := 0) dX4_dry_10 rfl rfl rfl ?_
    refine gf_X4_25 (n := 14) rfl dX4_dry_11 rfl (by assumption) (by rfl) ?_
    refine s_v0 (M' := MX2_dryGutters) (n := 17) (ci := 2) dX4_dry_14 rfl wd_X4_212 okX2_dryGutters rfl rfl (by omega) ⟨Nat.le_refl _, Nat.le_refl _⟩ (by assumption) (c_dryGutters (d := d - 1) xn hn h7) ?_
    rintro v14 hh14 ⟨rfl, rfl⟩
    refine s_goto (tgt := 22) dX4_dry_17 rfl ?_
    refine s_ireturn dX4_dry_22 rfl (rfl) (Nat.le_refl _) (Nat.le_refl _) ?_
    exact ⟨rfl, rfl⟩
set_option maxRecDepth 100000 in
set_option maxHeartbeats 4000000 in
theorem k_trace_bad {G : mj_G} {h : mj_H} {d : Nat} {σ : Nat → Nat → Int32} (hX : XS G h σ) {t : Nat} (ht : σ 42 0 = nI t) (h16 : t ≤ 16) {x : Int32} (hb : ¬ Hs t x) (hd : 1 ≤ d) : mj_con G MX4_trace d 0 0 [.ref (G.1 + 0), .int x] h (rI (-1000000) h) := by
  refine mj_conV okX4_trace (ls := [some (.ref (G.1 + 0)), some (.int x)]) rfl rfl ?_
  obtain ⟨x0, x1, xt, xn, xf, xa, x188, x189, xr, xi⟩ := id hX
  obtain ⟨n0, n1, n2, n3, n4, n5, n6⟩ := id xn
  have a18 := xa.1
  have t2 := xt.1
  have t3 := xt.2
  refine s_iload_n (n := 1) (i := 1) dX4_trace_0 rfl rfl rfl ?_
  refine s_iconst (n := 2) (v := 0) dX4_trace_1 rfl (by decide) ?_
  refine s_aload_n (n := 3) (i := 0) dX4_trace_2 rfl rfl rfl ?_
  refine gf_X4_265 (n := 6) rfl dX4_trace_3 rfl (by assumption) (by rfl) ?_
  rw [ht]
  refine s_iconst (n := 7) (v := 1) dX4_trace_6 rfl (by decide) ?_
  refine s_isub (n := 8) dX4_trace_7 rfl ?_
  refine s_s3 (M' := MX4_isWithin) (n := 11) dX4_trace_8 rfl wd_X4_52 okX4_isWithin rfl (by omega) ⟨Nat.le_refl _, Nat.le_refl _⟩ (c_within (d := d - 1) (A := 0) (by decide) rfl) ?_
  rintro v8 hh8 ⟨rfl, rfl⟩
  rw [hs_eq2 h16]
  refine s_if_eq (n := 14) (tgt := 23) dX4_trace_11 rfl rfl (fun b11 => ?_) (fun b11 => ?_)
  · refine s_ldc (n := 25) dX4_trace_23 rfl wd_X4_199 ?_
    refine s_ireturn dX4_trace_25 rfl (rfl) (Nat.le_refl _) (Nat.le_refl _) ?_
    exact ⟨rfl, rfl⟩
  · exact absurd (if1 b11) hb
set_option maxRecDepth 100000 in
set_option maxHeartbeats 4000000 in
theorem k_trace {G : mj_G} {h : mj_H} {d : Nat} {σ : Nat → Nat → Int32} (hX : XS G h σ) {t : Nat} (ht : σ 42 0 = nI t) (h16 : t ≤ 16) {j : Nat} (hj : j < t) (hd : 1 ≤ d) : mj_con G MX4_trace d 0 0 [.ref (G.1 + 0), .int (nI j)] h (rI (σ 33 j) h) := by
  refine mj_conV okX4_trace (ls := [some (.ref (G.1 + 0)), some (.int (nI j))]) rfl rfl ?_
  obtain ⟨x0, x1, xt, xn, xf, xa, x188, x189, xr, xi⟩ := id hX
  obtain ⟨n0, n1, n2, n3, n4, n5, n6⟩ := id xn
  have a18 := xa.1
  have t2 := xt.1
  have t3 := xt.2
  refine s_iload_n (n := 1) (i := 1) dX4_trace_0 rfl rfl rfl ?_
  refine s_iconst (n := 2) (v := 0) dX4_trace_1 rfl (by decide) ?_
  refine s_aload_n (n := 3) (i := 0) dX4_trace_2 rfl rfl rfl ?_
  refine gf_X4_265 (n := 6) rfl dX4_trace_3 rfl (by assumption) (by rfl) ?_
  rw [ht]
  refine s_iconst (n := 7) (v := 1) dX4_trace_6 rfl (by decide) ?_
  refine s_isub (n := 8) dX4_trace_7 rfl ?_
  refine s_s3 (M' := MX4_isWithin) (n := 11) dX4_trace_8 rfl wd_X4_52 okX4_isWithin rfl (by omega) ⟨Nat.le_refl _, Nat.le_refl _⟩ (c_within (d := d - 1) (A := 0) (by decide) rfl) ?_
  rintro v8 hh8 ⟨rfl, rfl⟩
  rw [hs_eq2 h16]
  refine s_if_eq (n := 14) (tgt := 23) dX4_trace_11 rfl rfl (fun b11 => ?_) (fun b11 => ?_)
  · exact absurd (Hs_n2 hj h16) (if0 b11)
  · refine s_aload_n (n := 15) (i := 0) dX4_trace_14 rfl rfl rfl ?_
    refine gf_X4_43 (n := 18) rfl dX4_trace_15 rfl (by assumption) (by rfl) ?_
    refine s_iload_n (n := 19) (i := 1) dX4_trace_18 rfl rfl rfl ?_
    first | refine s_ials (n := 20) dX4_trace_19 rfl (by assumption) (mj_ixn (by omega)) ?_ | refine s_iald (n := 20) dX4_trace_19 rfl (by assumption) (mj_ixn (by omega)) ?_
    refine s_goto (tgt := 25) dX4_trace_20 rfl ?_
    refine s_ireturn dX4_trace_25 rfl (rfl) (Nat.le_refl _) (Nat.le_refl _) ?_
    exact ⟨rfl, rfl⟩
set_option maxRecDepth 100000 in
set_option maxHeartbeats 4000000 in
theorem k_house_bad {G : mj_G} {h : mj_H} {d : Nat} {σ : Nat → Nat → Int32} (hX : XS G h σ) {n : Nat} (hn : σ 0 2 = nI n) (h7 : n ≤ 7) {x y : Int32} (hb : ¬ (Hs n x ∧ Wi y 0 6)) (hd : 3 ≤ d) : mj_con G MX4_house d 0 0 [.ref (G.1 + 0), .int x, .int y] h (rI (-1000001) h) := by
  refine mj_conV okX4_house (ls := [some (.ref (G.1 + 0)), some (.int x), some (.int y)]) rfl rfl ?_
  obtain ⟨x0, x1, xt, xn, xf, xa, x188, x189, xr, xi⟩ := id hX
  obtain ⟨n0, n1, n2, n3, n4, n5, n6⟩ := id xn
  have a18 := xa.1
  have t2 := xt.1
  have t3 := xt.2
  refine s_aload_n (n := 1) (i := 0) dX4_house_0 rfl rfl rfl ?_
  refine s_iload_n (n := 2) (i := 1) dX4_house_1 rfl rfl rfl ?_
  refine s_v1 (M' := MX4_isHouse) (n := 5) (ci := 4) dX4_house_2 rfl wd_X4_152 okX4_isHouse rfl rfl (by omega) ⟨Nat.le_refl _, Nat.le_refl _⟩ (by assumption) (c_isHouse (d := d - 1) hX hn h7 (by omega)) ?_
  rintro v2 hh2 ⟨rfl, rfl⟩
  refine s_if_ne (n := 8) (tgt := 11) dX4_house_5 rfl rfl (fun b5 => ?_) (fun b5 => ?_)
  · refine s_iload_n (n := 12) (i := 2) dX4_house_11 rfl rfl rfl ?_
    refine t_X4_house_12 dX4_house_12 (fun e0 => ?_) (fun e1 => ?_) (fun e2 => ?_) (fun e3 => ?_) (fun e4 => ?_) (fun e5 => ?_) (fun e6 => ?_) (fun e0 e1 e2 e3 e4 e5 e6 => ?_)
    · subst e0
      exact absurd ⟨if1 b5, by decide⟩ hb
    · subst e1
      exact absurd ⟨if1 b5, by decide⟩ hb
    · subst e2
      exact absurd ⟨if1 b5, by decide⟩ hb
    · subst e3
      exact absurd ⟨if1 b5, by decide⟩ hb
    · subst e4
      exact absurd ⟨if1 b5, by decide⟩ hb
    · subst e5
      exact absurd ⟨if1 b5, by decide⟩ hb
    · subst e6
      exact absurd ⟨if1 b5, by decide⟩ hb
    · refine s_ldc (n := 134) dX4_house_132 rfl wd_X4_56 ?_
      refine s_ireturn dX4_house_134 rfl (rfl) (Nat.le_refl _) (Nat.le_refl _) ?_
      exact ⟨rfl, rfl⟩
  · refine s_ldc (n := 10) dX4_house_8 rfl wd_X4_56 ?_
    refine s_ireturn dX4_house_10 rfl (rfl) (Nat.le_refl _) (Nat.le_refl _) ?_
    exact ⟨rfl, rfl⟩
def houF (T : Nat → Int32) (j w : Nat) : Int32 := match w with
  | 0 => T (13 + j)
  | 1 => T (20 + j)
  | 2 => T (27 + j)
  | 3 => T (34 + j)
  | 4 => T (41 + j)
  | 5 => shT T j
  | _ => if hs T (nI j) then 1 else 0
set_option maxRecDepth 100000 in
set_option maxHeartbeats 4000000 in
theorem k_house0 {G : mj_G} {h : mj_H} {d : Nat} {σ : Nat → Nat → Int32} (hX : XS G h σ) {n : Nat} (hn : σ 0 2 = nI n) (h7 : n ≤ 7) (hok : okK n (σ 0)) {j : Nat} (hj : j < n) (hd : 3 ≤ d) : mj_con G MX4_house d 0 0 [.ref (G.1 + 0), .int (nI j), .int 0] h (rI (houF (σ 0) j 0) h) := by
  refine mj_conV okX4_house (ls := [some (.ref (G.1 + 0)), some (.int (nI j)), some (.int 0)]) rfl rfl ?_
  obtain ⟨x0, x1, xt, xn, xf, xa, x188, x189, xr, xi⟩ := id hX
  obtain ⟨n0, n1, n2, n3, n4, n5, n6⟩ := id xn
  have a18 := xa.1
  have t2 := xt.1
  have t3 := xt.2
  refine s_aload_n (n := 1) (i := 0) dX4_house_0 rfl rfl rfl ?_
  refine s_iload_n (n := 2) (i := 1) dX4_house_1 rfl rfl rfl ?_
  refine s_v1 (M' := MX4_isHouse) (n := 5) (ci := 4) dX4_house_2 rfl wd_X4_152 okX4_isHouse rfl rfl (by omega) ⟨Nat.le_refl _, Nat.le_refl _⟩ (by assumption) (c_isHouse (d := d - 1) hX hn h7 (by omega)) ?_
  rintro v2 hh2 ⟨rfl, rfl⟩
  refine s_if_ne (n := 8) (tgt := 11) dX4_house_5 rfl rfl (fun b5 => ?_) (fun b5 => ?_)
  · refine s_iload_n (n := 12) (i := 2) dX4_house_11 rfl rfl rfl ?_
    refine t_X4_house_12 dX4_house_12 (fun e0 => ?_) (fun e1 => ?_) (fun e2 => ?_) (fun e3 => ?_) (fun e4 => ?_) (fun e5 => ?_) (fun e6 => ?_) (fun e0 e1 e2 e3 e4 e5 e6 => ?_)
    · refine s_aload_n (n := 57) (i := 0) dX4_house_56 rfl rfl rfl ?_
      refine gf_X4_25 (n := 60) rfl dX4_house_57 rfl (by assumption) (by rfl) ?_
      refine gf_X4_155 (n := 63) rfl dX4_house_60 rfl (by assumption) (by rfl) ?_
      refine s_iload_n (n := 64) (i := 1) dX4_house_63 rfl rfl rfl ?_
      first | refine s_ials (n := 65) dX4_house_64 rfl (by assumption) (mj_ixn (by omega)) ?_ | refine s_iald (n := 65) dX4_house_64 rfl (by assumption) (mj_ixn (by omega)) ?_
      refine s_ireturn dX4_house_65 rfl (rfl) (Nat.le_refl _) (Nat.le_refl _) ?_
      exact ⟨rfl, rfl⟩
    · exact absurd e1 (by decide)
    · exact absurd e2 (by decide)
    · exact absurd e3 (by decide)
    · exact absurd e4 (by decide)
    · exact absurd e5 (by decide)
    · exact absurd e6 (by decide)
    · exact absurd rfl e0
  · exact absurd (Hs_n hj h7) (if0 b5)
set_option maxRecDepth 100000 in
set_option maxHeartbeats 4000000 in
theorem k_house1 {G : mj_G} {h : mj_H} {d : Nat} {σ : Nat → Nat → Int32} (hX : XS G h σ) {n : Nat} (hn : σ 0 2 = nI n) (h7 : n ≤ 7) (hok : okK n (σ 0)) {j : Nat} (hj : j < n) (hd : 3 ≤ d) : mj_con G MX4_house d 0 0 [.ref (G.1 + 0), .int (nI j), .int 1] h (rI (houF (σ 0) j 1) h) := by
  refine mj_conV okX4_house (ls := [some (.ref (G.1 + 0)), some (.int (nI j)), some (.int 1)]) rfl rfl ?_
  obtain ⟨x0, x1, xt, xn, xf, xa, x188, x189, xr, xi⟩ := id hX
  obtain ⟨n0, n1, n2, n3, n4, n5, n6⟩ := id xn
  have a18 := xa.1
  have t2 := xt.1
  have t3 := xt.2
  refine s_aload_n (n := 1) (i := 0) dX4_house_0 rfl rfl rfl ?_
  refine s_iload_n (n := 2) (i := 1) dX4_house_1 rfl rfl rfl ?_
  refine s_v1 (M' := MX4_isHouse) (n := 5) (ci := 4) dX4_house_2 rfl wd_X4_152 okX4_isHouse rfl rfl (by omega) ⟨Nat.le_refl _, Nat.le_refl _⟩ (by assumption) (c_isHouse (d := d - 1) hX hn h7 (by omega)) ?_
  rintro v2 hh2 ⟨rfl, rfl⟩
  refine s_if_ne (n := 8) (tgt := 11) dX4_house_5 rfl rfl (fun b5 => ?_) (fun b5 => ?_)
  · refine s_iload_n (n := 12) (i := 2) dX4_house_11 rfl rfl rfl ?_
    refine t_X4_house_12 dX4_house_12 (fun e0 => ?_) (fun e1 => ?_) (fun e2 => ?_) (fun e3 => ?_) (fun e4 => ?_) (fun e5 => ?_) (fun e6 => ?_) (fun e0 e1 e2 e3 e4 e5 e6 => ?_)
    · exact absurd e0 (by decide)
    · refine s_aload_n (n := 67) (i := 0) dX4_house_66 rfl rfl rfl ?_
      refine gf_X4_25 (n := 70) rfl dX4_house_67 rfl (by assumption) (by rfl) ?_
      refine gf_X4_174 (n := 73) rfl dX4_house_70 rfl (by assumption) (by rfl) ?_
      refine s_iload_n (n := 74) (i := 1) dX4_house_73 rfl rfl rfl ?_
      first | refine s_ials (n := 75) dX4_house_74 rfl (by assumption) (mj_ixn (by omega)) ?_ | refine s_iald (n := 75) dX4_house_74 rfl (by assumption) (mj_ixn (by omega)) ?_
      refine s_ireturn dX4_house_75 rfl (rfl) (Nat.le_refl _) (Nat.le_refl _) ?_
      exact ⟨rfl, rfl⟩
    · exact absurd e2 (by decide)
    · exact absurd e3 (by decide)
    · exact absurd e4 (by decide)
    · exact absurd e5 (by decide)
    · exact absurd e6 (by decide)
    · exact absurd rfl e1
  · exact absurd (Hs_n hj h7) (if0 b5)
set_option maxRecDepth 100000 in
set_option maxHeartbeats 4000000 in
theorem k_house2 {G : mj_G} {h : mj_H} {d : Nat} {σ : Nat → Nat → Int32} (hX : XS G h σ) {n : Nat} (hn : σ 0 2 = nI n) (h7 : n ≤ 7) (hok : okK n (σ 0)) {j : Nat} (hj : j < n) (hd : 3 ≤ d) : mj_con G MX4_house d 0 0 [.ref (G.1 + 0), .int (nI j), .int 2] h (rI (houF (σ 0) j 2) h) := by
  refine mj_conV okX4_house (ls := [some (.ref (G.1 + 0)), some (.int (nI j)), some (.int 2)]) rfl rfl ?_
  obtain ⟨x0, x1, xt, xn, xf, xa, x188, x189, xr, xi⟩ := id hX
  obtain ⟨n0, n1, n2, n3, n4, n5, n6⟩ := id xn
  have a18 := xa.1
  have t2 := xt.1
  have t3 := xt.2
  refine s_aload_n (n := 1) (i := 0) dX4_house_0 rfl rfl rfl ?_
  refine s_iload_n (n := 2) (i := 1) dX4_house_1 rfl rfl rfl ?_
  refine s_v1 (M' := MX4_isHouse) (n := 5) (ci := 4) dX4_house_2 rfl wd_X4_152 okX4_isHouse rfl rfl (by omega) ⟨Nat.le_refl _, Nat.le_refl _⟩ (by assumption) (c_isHouse (d := d - 1) hX hn h7 (by omega)) ?_
  rintro v2 hh2 ⟨rfl, rfl⟩
  refine s_if_ne (n := 8) (tgt := 11) dX4_house_5 rfl rfl (fun b5 => ?_) (fun b5 => ?_)
  · refine s_iload_n (n := 12) (i := 2) dX4_house_11 rfl rfl rfl ?_
    refine t_X4_house_12 dX4_house_12 (fun e0 => ?_) (fun e1 => ?_) (fun e2 => ?_) (fun e3 => ?_) (fun e4 => ?_) (fun e5 => ?_) (fun e6 => ?_) (fun e0 e1 e2 e3 e4 e5 e6 => ?_)
    · exact absurd e0 (by decide)
    · exact absurd e1 (by decide)
    · refine s_aload_n (n := 77) (i := 0) dX4_house_76 rfl rfl rfl ?_
      refine gf_X4_25 (n := 80) rfl dX4_house_77 rfl (by assumption) (by rfl) ?_
      refine gf_X4_177 (n := 83) rfl dX4_house_80 rfl (by assumption) (by rfl) ?_
      refine s_iload_n (n := 84) (i := 1) dX4_house_83 rfl rfl rfl ?_
      first | refine s_ials (n := 85) dX4_house_84 rfl (by assumption) (mj_ixn (by omega)) ?_ | refine s_iald (n := 85) dX4_house_84 rfl (by assumption) (mj_ixn (by omega)) ?_
      refine s_ireturn dX4_house_85 rfl (rfl) (Nat.le_refl _) (Nat.le_refl _) ?_
      exact ⟨rfl, rfl⟩
    · exact absurd e3 (by decide)
    · exact absurd e4 (by decide)
    · exact absurd e5 (by decide)
    · exact absurd e6 (by decide)
    · exact absurd rfl e2
  · exact absurd (Hs_n hj h7) (if0 b5)
set_option maxRecDepth 100000 in
set_option maxHeartbeats 4000000 in
theorem k_house3 {G : mj_G} {h : mj_H} {d : Nat} {σ : Nat → Nat → Int32} (hX : XS G h σ) {n : Nat} (hn : σ 0 2 = nI n) (h7 : n ≤ 7) (hok : okK n (σ 0)) {j : Nat} (hj : j < n) (hd : 3 ≤ d) : mj_con G MX4_house d 0 0 [.ref (G.1 + 0), .int (nI j), .int 3] h (rI (houF (σ 0) j 3) h) := by
  refine mj_conV okX4_house (ls := [some (.ref (G.1 + 0)), some (.int (nI j)), some (.int 3)]) rfl rfl ?_
  obtain ⟨x0, x1, xt, xn, xf, xa, x188, x189, xr, xi⟩ := id hX
  obtain ⟨n0, n1, n2, n3, n4, n5, n6⟩ := id xn
  have a18 := xa.1
  have t2 := xt.1
  have t3 := xt.2
  refine s_aload_n (n := 1) (i := 0) dX4_house_0 rfl rfl rfl ?_
  refine s_iload_n (n := 2) (i := 1) dX4_house_1 rfl rfl rfl ?_
  refine s_v1 (M' := MX4_isHouse) (n := 5) (ci := 4) dX4_house_2 rfl wd_X4_152 okX4_isHouse rfl rfl (by omega) ⟨Nat.le_refl _, Nat.le_refl _⟩ (by assumption) (c_isHouse (d := d - 1) hX hn h7 (by omega)) ?_
  rintro v2 hh2 ⟨rfl, rfl⟩
  refine s_if_ne (n := 8) (tgt := 11) dX4_house_5 rfl rfl (fun b5 => ?_) (fun b5 => ?_)
  · refine s_iload_n (n := 12) (i := 2) dX4_house_11 rfl rfl rfl ?_
    refine t_X4_house_12 dX4_house_12 (fun e0 => ?_) (fun e1 => ?_) (fun e2 => ?_) (fun e3 => ?_) (fun e4 => ?_) (fun e5 => ?_) (fun e6 => ?_) (fun e0 e1 e2 e3 e4 e5 e6 => ?_)
    · exact absurd e0 (by decide)
    · exact absurd e1 (by decide)
    · exact absurd e2 (by decide)
    · refine s_aload_n (n := 87) (i := 0) dX4_house_86 rfl rfl rfl ?_
      refine gf_X4_25 (n := 90) rfl dX4_house_87 rfl (by assumption) (by rfl) ?_
      refine gf_X4_180 (n := 93) rfl dX4_house_90 rfl (by assumption) (by rfl) ?_
      refine s_iload_n (n := 94) (i := 1) dX4_house_93 rfl rfl rfl ?_
      first | refine s_ials (n := 95) dX4_house_94 rfl (by assumption) (mj_ixn (by omega)) ?_ | refine s_iald (n := 95) dX4_house_94 rfl (by assumption) (mj_ixn (by omega)) ?_
      refine s_ireturn dX4_house_95 rfl (rfl) (Nat.le_refl _) (Nat.le_refl _) ?_
      exact ⟨rfl, rfl⟩
    · exact absurd e4 (by decide)
    · exact absurd e5 (by decide)
    · exact absurd e6 (by decide)
    · exact absurd rfl e3
  · exact absurd (Hs_n hj h7) (if0 b5)
set_option maxRecDepth 100000 in
set_option maxHeartbeats 4000000 in
theorem k_house4 {G : mj_G} {h : mj_H} {d : Nat} {σ : Nat → Nat → Int32} (hX : XS G h σ) {n : Nat} (hn : σ 0 2 = nI n) (h7 : n ≤ 7) (hok : okK n (σ 0)) {j : Nat} (hj : j < n) (hd : 3 ≤ d) : mj_con G MX4_house d 0 0 [.ref (G.1 + 0), .int (nI j), .int 4] h (rI (houF (σ 0) j 4) h) := by
  refine mj_conV okX4_house (ls := [some (.ref (G.1 + 0)), some (.int (nI j)), some (.int 4)]) rfl rfl ?_
  obtain ⟨x0, x1, xt, xn, xf, xa, x188, x189, xr, xi⟩ := id hX
  obtain ⟨n0, n1, n2, n3, n4, n5, n6⟩ := id xn
  have a18 := xa.1
  have t2 := xt.1
  have t3 := xt.2
  refine s_aload_n (n := 1) (i := 0) dX4_house_0 rfl rfl rfl ?_
  refine s_iload_n (n := 2) (i := 1) dX4_house_1 rfl rfl rfl ?_
  refine s_v1 (M' := MX4_isHouse) (n := 5) (ci := 4) dX4_house_2 rfl wd_X4_152 okX4_isHouse rfl rfl (by omega) ⟨Nat.le_refl _, Nat.le_refl _⟩ (by assumption) (c_isHouse (d := d - 1) hX hn h7 (by omega)) ?_
  rintro v2 hh2 ⟨rfl, rfl⟩
  refine s_if_ne (n := 8) (tgt := 11) dX4_house_5 rfl rfl (fun b5 => ?_) (fun b5 => ?_)
  · refine s_iload_n (n := 12) (i := 2) dX4_house_11 rfl rfl rfl ?_
    refine t_X4_house_12 dX4_house_12 (fun e0 => ?_) (fun e1 => ?_) (fun e2 => ?_) (fun e3 => ?_) (fun e4 => ?_) (fun e5 => ?_) (fun e6 => ?_) (fun e0 e1 e2 e3 e4 e5 e6 => ?_)
    · exact absurd e0 (by decide)
    · exact absurd e1 (by decide)
    · exact absurd e2 (by decide)
    · exact absurd e3 (by decide)
    · refine s_aload_n (n := 97) (i := 0) dX4_house_96 rfl rfl rfl ?_
      refine gf_X4_25 (n := 100) rfl dX4_house_97 rfl (by assumption) (by rfl) ?_
      refine gf_X4_164 (n := 103) rfl dX4_house_100 rfl (by assumption) (by rfl) ?_
      refine s_iload_n (n := 104) (i := 1) dX4_house_103 rfl rfl rfl ?_
      first | refine s_ials (n := 105) dX4_house_104 rfl (by assumption) (mj_ixn (by omega)) ?_ | refine s_iald (n := 105) dX4_house_104 rfl (by assumption) (mj_ixn (by omega)) ?_
      refine s_ireturn dX4_house_105 rfl (rfl) (Nat.le_refl _) (Nat.le_refl _) ?_
      exact ⟨rfl, rfl⟩
    · exact absurd e5 (by decide)
    · exact absurd e6 (by decide)
    · exact absurd rfl e4
  · exact absurd (Hs_n hj h7) (if0 b5)
set_option maxRecDepth 100000 in
set_option maxHeartbeats 4000000 in
theorem k_house5 {G : mj_G} {h : mj_H} {d : Nat} {σ : Nat → Nat → Int32} (hX : XS G h σ) {n : Nat} (hn : σ 0 2 = nI n) (h7 : n ≤ 7) (hok : okK n (σ 0)) {j : Nat} (hj : j < n) (hd : 3 ≤ d) : mj_con G MX4_house d 0 0 [.ref (G.1 + 0), .int (nI j), .int 5] h (rI (houF (σ 0) j 5) h) := by
  refine mj_conV okX4_house (ls := [some (.ref (G.1 + 0)), some (.int (nI j)), some (.int 5)]) rfl rfl ?_
  obtain ⟨x0, x1, xt, xn, xf, xa, x188, x189, xr, xi⟩ := id hX
  obtain ⟨n0, n1, n2, n3, n4, n5, n6⟩ := id xn
  have a18 := xa.1
  have t2 := xt.1
  have t3 := xt.2
  refine s_aload_n (n := 1) (i := 0) dX4_house_0 rfl rfl rfl ?_
  refine s_iload_n (n := 2) (i := 1) dX4_house_1 rfl rfl rfl ?_
  refine s_v1 (M' := MX4_isHouse) (n := 5) (ci := 4) dX4_house_2 rfl wd_X4_152 okX4_isHouse rfl rfl (by omega) ⟨Nat.le_refl _, Nat.le_refl _⟩ (by assumption) (c_isHouse (d := d - 1) hX hn h7 (by omega)) ?_
  rintro v2 hh2 ⟨rfl, rfl⟩
  refine s_if_ne (n := 8) (tgt := 11) dX4_house_5 rfl rfl (fun b5 => ?_) (fun b5 => ?_)
  · refine s_iload_n (n := 12) (i := 2) dX4_house_11 rfl rfl rfl ?_
    refine t_X4_house_12 dX4_house_12 (fun e0 => ?_) (fun e1 => ?_) (fun e2 => ?_) (fun e3 => ?_) (fun e4 => ?_) (fun e5 => ?_) (fun e6 => ?_) (fun e0 e1 e2 e3 e4 e5 e6 => ?_)
    · exact absurd e0 (by decide)
    · exact absurd e1 (by decide)
    · exact absurd e2 (by decide)
    · exact absurd e3 (by decide)
    · exact absurd e4 (by decide)
    · refine s_aload_n (n := 107) (i := 0) dX4_house_106 rfl rfl rfl ?_
      refine gf_X4_25 (n := 110) rfl dX4_house_107 rfl (by assumption) (by rfl) ?_
      refine s_iload_n (n := 111) (i := 1) dX4_house_110 rfl rfl rfl ?_
      refine s_v1 (M' := MX2_shedsOf) (n := 114) (ci := 2) dX4_house_111 rfl wd_X4_183 okX2_shedsOf rfl rfl (by omega) ⟨Nat.le_refl _, Nat.le_refl _⟩ (by assumption) (c_shedsOf (d := d - 1) xn (by omega) (by omega) (hok.2.2 j hj).1 (hok.2.2 j hj).2) ?_
      rintro v111 hh111 ⟨rfl, rfl⟩
      refine s_ireturn dX4_house_114 rfl (rfl) (Nat.le_refl _) (Nat.le_refl _) ?_
      exact ⟨rfl, rfl⟩
    · exact absurd e6 (by decide)
    · exact absurd rfl e5
  · exact absurd (Hs_n hj h7) (if0 b5)
set_option maxRecDepth 100000 in
set_option maxHeartbeats 4000000 in
theorem k_house6 {G : mj_G} {h : mj_H} {d : Nat} {σ : Nat → Nat → Int32} (hX : XS G h σ) {n : Nat} (hn : σ 0 2 = nI n) (h7 : n ≤ 7) (hok : okK n (σ 0)) {j : Nat} (hj : j < n) (hd : 3 ≤ d) : mj_con G MX4_house d 0 0 [.ref (G.1 + 0), .int (nI j), .int 6] h (rI (houF (σ 0) j 6) h) := by
  refine mj_conV okX4_house (ls := [some (.ref (G.1 + 0)), some (.int (nI j)), some (.int 6)]) rfl rfl ?_
  obtain ⟨x0, x1, xt, xn, xf, xa, x188, x189, xr, xi⟩ := id hX
  obtain ⟨n0, n1, n2, n3, n4, n5, n6⟩ := id xn
  have a18 := xa.1
  have t2 := xt.1
  have t3 := xt.2
  refine s_aload_n (n := 1) (i := 0) dX4_house_0 rfl rfl rfl ?_
  refine s_iload_n (n := 2) (i := 1) dX4_house_1 rfl rfl rfl ?_
  refine s_v1 (M' := MX4_isHouse) (n := 5) (ci := 4) dX4_house_2 rfl wd_X4_152 okX4_isHouse rfl rfl (by omega) ⟨Nat.le_refl _, Nat.le_refl _⟩ (by assumption) (c_isHouse (d := d - 1) hX hn h7 (by omega)) ?_
  rintro v2 hh2 ⟨rfl, rfl⟩
  refine s_if_ne (n := 8) (tgt := 11) dX4_house_5 rfl rfl (fun b5 => ?_) (fun b5 => ?_)
  · refine s_iload_n (n := 12) (i := 2) dX4_house_11 rfl rfl rfl ?_
    refine t_X4_house_12 dX4_house_12 (fun e0 => ?_) (fun e1 => ?_) (fun e2 => ?_) (fun e3 => ?_) (fun e4 => ?_) (fun e5 => ?_) (fun e6 => ?_) (fun e0 e1 e2 e3 e4 e5 e6 => ?_)
    · exact absurd e0 (by decide)
    · exact absurd e1 (by decide)
    · exact absurd e2 (by decide)
    · exact absurd e3 (by decide)
    · exact absurd e4 (by decide)
    · exact absurd e5 (by decide)
    · refine s_aload_n (n := 116) (i := 0) dX4_house_115 rfl rfl rfl ?_
      refine gf_X4_25 (n := 119) rfl dX4_house_116 rfl (by assumption) (by rfl) ?_
      refine s_iload_n (n := 120) (i := 1) dX4_house_119 rfl rfl rfl ?_
      refine s_v1 (M' := MX2_isHushed) (n := 123) (ci := 2) dX4_house_120 rfl wd_X4_158 okX2_isHushed rfl rfl (by omega) ⟨Nat.le_refl _, Nat.le_refl _⟩ (by assumption) (c_isHushed (d := d - 1) xn) ?_
      rintro v120 hh120 ⟨rfl, rfl⟩
      refine s_if_eq (n := 126) (tgt := 130) dX4_house_123 rfl rfl (fun b123 => ?_) (fun b123 => ?_)
      · refine s_iconst (n := 131) (v := 0) dX4_house_130 rfl (by decide) ?_
        refine s_ireturn dX4_house_131 rfl (rfl) (Nat.le_refl _) (Nat.le_refl _) ?_
        refine rI_ok ?_
        show _ = (if hs (σ 0) (nI j) then 1 else 0)
        first | (rw [if_neg (if0 b123)]) | (rw [if_pos (if1 b123)])
      · refine s_iconst (n := 127) (v := 1) dX4_house_126 rfl (by decide) ?_
        refine s_goto (tgt := 131) dX4_house_127 rfl ?_
        refine s_ireturn dX4_house_131 rfl (rfl) (Nat.le_refl _) (Nat.le_refl _) ?_
        refine rI_ok ?_
        show _ = (if hs (σ 0) (nI j) then 1 else 0)
        first | (rw [if_neg (if0 b123)]) | (rw [if_pos (if1 b123)])
    · exact absurd rfl e6
  · exact absurd (Hs_n hj h7) (if0 b5)
set_option maxRecDepth 100000 in
set_option maxHeartbeats 4000000 in
theorem k_stand_st {G : mj_G} {h : mj_H} {d : Nat} {σ : Nat → Nat → Int32} (hX : XS G h σ) {x : Int32} (hb : ¬ 0 < σ 0 2) (hd : 2 ≤ d) : mj_con G MX4_stand d 0 0 [.ref (G.1 + 0), .int x] h (rI (-1000002) h) := by
  refine mj_conV okX4_stand (ls := [some (.ref (G.1 + 0)), some (.int x)]) rfl rfl ?_
  obtain ⟨x0, x1, xt, xn, xf, xa, x188, x189, xr, xi⟩ := id hX
  obtain ⟨n0, n1, n2, n3, n4, n5, n6⟩ := id xn
  have a18 := xa.1
  have t2 := xt.1
  have t3 := xt.2
  refine s_aload_n (n := 1) (i := 0) dX4_stand_0 rfl rfl rfl ?_
  refine gf_X4_25 (n := 4) rfl dX4_stand_1 rfl (by assumption) (by rfl) ?_
  refine s_v0 (M' := MX2_stands) (n := 7) (ci := 2) dX4_stand_4 rfl wd_X4_137 okX2_stands rfl rfl (by omega) ⟨Nat.le_refl _, Nat.le_refl _⟩ (by assumption) (c_stands (d := d - 1) xn) ?_
  rintro v4 hh4 ⟨rfl, rfl⟩
  refine s_if_ne (n := 10) (tgt := 13) dX4_stand_7 rfl rfl (fun b7 => ?_) (fun b7 => ?_)
  · exact absurd (if1 b7) (hb)
  · refine s_ldc (n := 12) dX4_stand_10 rfl wd_X4_136 ?_
    refine s_ireturn dX4_stand_12 rfl (rfl) (Nat.le_refl _) (Nat.le_refl _) ?_
    exact ⟨rfl, rfl⟩
set_option maxRecDepth 100000 in
set_option maxHeartbeats 4000000 in
theorem k_stand_bad {G : mj_G} {h : mj_H} {d : Nat} {σ : Nat → Nat → Int32} (hX : XS G h σ) {x : Int32} (h0 : 0 < σ 0 2) (hb : ¬ Wi x 0 4) (hd : 2 ≤ d) : mj_con G MX4_stand d 0 0 [.ref (G.1 + 0), .int x] h (rI (-1000001) h) := by
  refine mj_conV okX4_stand (ls := [some (.ref (G.1 + 0)), some (.int x)]) rfl rfl ?_
  obtain ⟨x0, x1, xt, xn, xf, xa, x188, x189, xr, xi⟩ := id hX
  obtain ⟨n0, n1, n2, n3, n4, n5, n6⟩ := id xn
  have a18 := xa.1
  have t2 := xt.1
  have t3 := xt.2
  refine s_aload_n (n := 1) (i := 0) dX4_stand_0 rfl rfl rfl ?_
  refine gf_X4_25 (n := 4) rfl dX4_stand_1 rfl (by assumption) (by rfl) ?_
  refine s_v0 (M' := MX2_stands) (n := 7) (ci := 2) dX4_stand_4 rfl wd_X4_137 okX2_stands rfl rfl (by omega) ⟨Nat.le_refl _, Nat.le_refl _⟩ (by assumption) (c_stands (d := d - 1) xn) ?_
  rintro v4 hh4 ⟨rfl, rfl⟩
  refine s_if_ne (n := 10) (tgt := 13) dX4_stand_7 rfl rfl (fun b7 => ?_) (fun b7 => ?_)
  · refine s_iload_n (n := 14) (i := 1) dX4_stand_13 rfl rfl rfl ?_
    refine t_X4_stand_14 dX4_stand_14 (fun e0 => ?_) (fun e1 => ?_) (fun e2 => ?_) (fun e3 => ?_) (fun e4 => ?_) (fun e0 e1 e2 e3 e4 => ?_)
    · subst e0
      exact absurd (by decide) hb
    · subst e1
      exact absurd (by decide) hb
    · subst e2
      exact absurd (by decide) hb
    · subst e3
      exact absurd (by decide) hb
    · subst e4
      exact absurd (by decide) hb
    · refine s_ldc (n := 98) dX4_stand_96 rfl wd_X4_56 ?_
      refine s_ireturn dX4_stand_98 rfl (rfl) (Nat.le_refl _) (Nat.le_refl _) ?_
      exact ⟨rfl, rfl⟩
  · exact absurd (h0) (if0 b7)
def staF (n : Nat) (T : Nat → Int32) (w : Nat) : Int32 := match w with
  | 0 => T 5
  | 1 => if T 1 < T 5 then 1 else 0
  | 2 => T 4
  | 3 => sumF T 41 n
  | _ => sumF T 34 n
set_option maxRecDepth 100000 in
set_option maxHeartbeats 4000000 in
theorem k_stand0 {G : mj_G} {h : mj_H} {d : Nat} {σ : Nat → Nat → Int32} (hX : XS G h σ) {n : Nat} (hn : σ 0 2 = nI n) (h7 : n ≤ 7) (h0 : 0 < σ 0 2) (hd : 2 ≤ d) : mj_con G MX4_stand d 0 0 [.ref (G.1 + 0), .int 0] h (rI (staF n (σ 0) 0) h) := by
  refine mj_conV okX4_stand (ls := [some (.ref (G.1 + 0)), some (.int 0)]) rfl rfl ?_
  obtain ⟨x0, x1, xt, xn, xf, xa, x188, x189, xr, xi⟩ := id hX
  obtain ⟨n0, n1, n2, n3, n4, n5, n6⟩ := id xn
  have a18 := xa.1
  have t2 := xt.1
  have t3 := xt.2
  refine s_aload_n (n := 1) (i := 0) dX4_stand_0 rfl rfl rfl ?_
  refine gf_X4_25 (n := 4) rfl dX4_stand_1 rfl (by assumption) (by rfl) ?_
  refine s_v0 (M' := MX2_stands) (n := 7) (ci := 2) dX4_stand_4 rfl wd_X4_137 okX2_stands rfl rfl (by omega) ⟨Nat.le_refl _, Nat.le_refl _⟩ (by assumption) (c_stands (d := d - 1) xn) ?_
  rintro v4 hh4 ⟨rfl, rfl⟩
  refine s_if_ne (n := 10) (tgt := 13) dX4_stand_7 rfl rfl (fun b7 => ?_) (fun b7 => ?_)
  · refine s_iload_n (n := 14) (i := 1) dX4_stand_13 rfl rfl rfl ?_
    refine t_X4_stand_14 dX4_stand_14 (fun e0 => ?_) (fun e1 => ?_) (fun e2 => ?_) (fun e3 => ?_) (fun e4 => ?_) (fun e0 e1 e2 e3 e4 => ?_)
    · refine s_aload_n (n := 49) (i := 0) dX4_stand_48 rfl rfl rfl ?_
      refine gf_X4_25 (n := 52) rfl dX4_stand_49 rfl (by assumption) (by rfl) ?_
      refine gf_X4_149 (n := 55) rfl dX4_stand_52 rfl (by assumption) (by rfl) ?_
      refine s_ireturn dX4_stand_55 rfl (rfl) (Nat.le_refl _) (Nat.le_refl _) ?_
      exact ⟨rfl, rfl⟩
    · exact absurd e1 (by decide)
    · exact absurd e2 (by decide)
    · exact absurd e3 (by decide)
    · exact absurd e4 (by decide)
    · exact absurd rfl e0
  · exact absurd (h0) (if0 b7)
set_option maxRecDepth 100000 in
set_option maxHeartbeats 4000000 in
theorem k_stand1 {G : mj_G} {h : mj_H} {d : Nat} {σ : Nat → Nat → Int32} (hX : XS G h σ) {n : Nat} (hn : σ 0 2 = nI n) (h7 : n ≤ 7) (h0 : 0 < σ 0 2) (hd : 2 ≤ d) : mj_con G MX4_stand d 0 0 [.ref (G.1 + 0), .int 1] h (rI (staF n (σ 0) 1) h) := by
  refine mj_conV okX4_stand (ls := [some (.ref (G.1 + 0)), some (.int 1)]) rfl rfl ?_
  obtain ⟨x0, x1, xt, xn, xf, xa, x188, x189, xr, xi⟩ := id hX
  obtain ⟨n0, n1, n2, n3, n4, n5, n6⟩ := id xn
  have a18 := xa.1
  have t2 := xt.1
  have t3 := xt.2
  refine s_aload_n (n := 1) (i := 0) dX4_stand_0 rfl rfl rfl ?_
  refine gf_X4_25 (n := 4) rfl dX4_stand_1 rfl (by assumption) (by rfl) ?_
  refine s_v0 (M' := MX2_stands) (n := 7) (ci := 2) dX4_stand_4 rfl wd_X4_137 okX2_stands rfl rfl (by omega) ⟨Nat.le_refl _, Nat.le_refl _⟩ (by assumption) (c_stands (d := d - 1) xn) ?_
  rintro v4 hh4 ⟨rfl, rfl⟩
  refine s_if_ne (n := 10) (tgt := 13) dX4_stand_7 rfl rfl (fun b7 => ?_) (fun b7 => ?_)
  · refine s_iload_n (n := 14) (i := 1) dX4_stand_13 rfl rfl rfl ?_
    refine t_X4_stand_14 dX4_stand_14 (fun e0 => ?_) (fun e1 => ?_) (fun e2 => ?_) (fun e3 => ?_) (fun e4 => ?_) (fun e0 e1 e2 e3 e4 => ?_)
    · exact absurd e0 (by decide)
    · refine s_aload_n (n := 57) (i := 0) dX4_stand_56 rfl rfl rfl ?_
      refine gf_X4_25 (n := 60) rfl dX4_stand_57 rfl (by assumption) (by rfl) ?_
      refine s_v0 (M' := MX2_isOverPlank) (n := 63) (ci := 2) dX4_stand_60 rfl wd_X4_186 okX2_isOverPlank rfl rfl (by omega) ⟨Nat.le_refl _, Nat.le_refl _⟩ (by assumption) (c_isOverPlank (d := d - 1) xn) ?_
      rintro v60 hh60 ⟨rfl, rfl⟩
      refine s_if_eq (n := 66) (tgt := 70) dX4_stand_63 rfl rfl (fun b63 => ?_) (fun b63 => ?_)
      · refine s_iconst (n := 71) (v := 0) dX4_stand_70 rfl (by decide) ?_
        refine s_ireturn dX4_stand_71 rfl (rfl) (Nat.le_refl _) (Nat.le_refl _) ?_
        refine rI_ok ?_
        show _ = (if σ 0 1 < σ 0 5 then 1 else 0)
        first | (rw [if_neg (if0 b63)]) | (rw [if_pos (if1 b63)])
      · refine s_iconst (n := 67) (v := 1) dX4_stand_66 rfl (by decide) ?_
        refine s_goto (tgt := 71) dX4_stand_67 rfl ?_
        refine s_ireturn dX4_stand_71 rfl (rfl) (Nat.le_refl _) (Nat.le_refl _) ?_
        refine rI_ok ?_
        show _ = (if σ 0 1 < σ 0 5 then 1 else 0)
        first | (rw [if_neg (if0 b63)]) | (rw [if_pos (if1 b63)])
    · exact absurd e2 (by decide)
    · exact absurd e3 (by decide)
    · exact absurd e4 (by decide)
    · exact absurd rfl e1
  · exact absurd (h0) (if0 b7)
set_option maxRecDepth 100000 in
set_option maxHeartbeats 4000000 in
theorem k_stand2 {G : mj_G} {h : mj_H} {d : Nat} {σ : Nat → Nat → Int32} (hX : XS G h σ) {n : Nat} (hn : σ 0 2 = nI n) (h7 : n ≤ 7) (h0 : 0 < σ 0 2) (hd : 2 ≤ d) : mj_con G MX4_stand d 0 0 [.ref (G.1 + 0), .int 2] h (rI (staF n (σ 0) 2) h) := by
  refine mj_conV okX4_stand (ls := [some (.ref (G.1 + 0)), some (.int 2)]) rfl rfl ?_
  obtain ⟨x0, x1, xt, xn, xf, xa, x188, x189, xr, xi⟩ := id hX
  obtain ⟨n0, n1, n2, n3, n4, n5, n6⟩ := id xn
  have a18 := xa.1
  have t2 := xt.1
  have t3 := xt.2
  refine s_aload_n (n := 1) (i := 0) dX4_stand_0 rfl rfl rfl ?_
  refine gf_X4_25 (n := 4) rfl dX4_stand_1 rfl (by assumption) (by rfl) ?_
  refine s_v0 (M' := MX2_stands) (n := 7) (ci := 2) dX4_stand_4 rfl wd_X4_137 okX2_stands rfl rfl (by omega) ⟨Nat.le_refl _, Nat.le_refl _⟩ (by assumption) (c_stands (d := d - 1) xn) ?_
  rintro v4 hh4 ⟨rfl, rfl⟩
  refine s_if_ne (n := 10) (tgt := 13) dX4_stand_7 rfl rfl (fun b7 => ?_) (fun b7 => ?_)
  · refine s_iload_n (n := 14) (i := 1) dX4_stand_13 rfl rfl rfl ?_
    refine t_X4_stand_14 dX4_stand_14 (fun e0 => ?_) (fun e1 => ?_) (fun e2 => ?_) (fun e3 => ?_) (fun e4 => ?_) (fun e0 e1 e2 e3 e4 => ?_)
    · exact absurd e0 (by decide)
    · exact absurd e1 (by decide)
    · refine s_aload_n (n := 73) (i := 0) dX4_stand_72 rfl rfl rfl ?_
      refine gf_X4_25 (n := 76) rfl dX4_stand_73 rfl (by assumption) (by rfl) ?_
      refine gf_X4_161 (n := 79) rfl dX4_stand_76 rfl (by assumption) (by rfl) ?_
      refine s_ireturn dX4_stand_79 rfl (rfl) (Nat.le_refl _) (Nat.le_refl _) ?_
      exact ⟨rfl, rfl⟩
    · exact absurd e3 (by decide)
    · exact absurd e4 (by decide)
    · exact absurd rfl e2
  · exact absurd (h0) (if0 b7)
set_option maxRecDepth 100000 in
set_option maxHeartbeats 4000000 in
theorem k_stand3 {G : mj_G} {h : mj_H} {d : Nat} {σ : Nat → Nat → Int32} (hX : XS G h σ) {n : Nat} (hn : σ 0 2 = nI n) (h7 : n ≤ 7) (h0 : 0 < σ 0 2) (hd : 2 ≤ d) : mj_con G MX4_stand d 0 0 [.ref (G.1 + 0), .int 3] h (rI (staF n (σ 0) 3) h) := by
  refine mj_conV okX4_stand (ls := [some (.ref (G.1 + 0)), some (.int 3)]) rfl rfl ?_
  obtain ⟨x0, x1, xt, xn, xf, xa, x188, x189, xr, xi⟩ := id hX
  obtain ⟨n0, n1, n2, n3, n4, n5, n6⟩ := id xn
  have a18 := xa.1
  have t2 := xt.1
  have t3 := xt.2
  refine s_aload_n (n := 1) (i := 0) dX4_stand_0 rfl rfl rfl ?_
  refine gf_X4_25 (n := 4) rfl dX4_stand_1 rfl (by assumption) (by rfl) ?_
  refine s_v0 (M' := MX2_stands) (n := 7) (ci := 2) dX4_stand_4 rfl wd_X4_137 okX2_stands rfl rfl (by omega) ⟨Nat.le_refl _, Nat.le_refl _⟩ (by assumption) (c_stands (d := d - 1) xn) ?_
  rintro v4 hh4 ⟨rfl, rfl⟩
  refine s_if_ne (n := 10) (tgt := 13) dX4_stand_7 rfl rfl (fun b7 => ?_) (fun b7 => ?_)
  · refine s_iload_n (n := 14) (i := 1) dX4_stand_13 rfl rfl rfl ?_
    refine t_X4_stand_14 dX4_stand_14 (fun e0 => ?_) (fun e1 => ?_) (fun e2 => ?_) (fun e3 => ?_) (fun e4 => ?_) (fun e0 e1 e2 e3 e4 => ?_)
    · exact absurd e0 (by decide)
    · exact absurd e1 (by decide)
    · exact absurd e2 (by decide)
    · refine s_aload_n (n := 81) (i := 0) dX4_stand_80 rfl rfl rfl ?_
      refine gf_X4_25 (n := 84) rfl dX4_stand_81 rfl (by assumption) (by rfl) ?_
      refine s_v0 (M' := MX2_caughtInAll) (n := 87) (ci := 2) dX4_stand_84 rfl wd_X4_189 okX2_caughtInAll rfl rfl (by omega) ⟨Nat.le_refl _, Nat.le_refl _⟩ (by assumption) (c_caughtInAll (d := d - 1) xn hn h7) ?_
      rintro v84 hh84 ⟨rfl, rfl⟩
      refine s_ireturn dX4_stand_87 rfl (rfl) (Nat.le_refl _) (Nat.le_refl _) ?_
      exact ⟨rfl, rfl⟩
    · exact absurd e4 (by decide)
    · exact absurd rfl e3
  · exact absurd (h0) (if0 b7)
set_option maxRecDepth 100000 in
set_option maxHeartbeats 4000000 in
theorem k_stand4 {G : mj_G} {h : mj_H} {d : Nat} {σ : Nat → Nat → Int32} (hX : XS G h σ) {n : Nat} (hn : σ 0 2 = nI n) (h7 : n ≤ 7) (h0 : 0 < σ 0 2) (hd : 2 ≤ d) : mj_con G MX4_stand d 0 0 [.ref (G.1 + 0), .int 4] h (rI (staF n (σ 0) 4) h) := by
  refine mj_conV okX4_stand (ls := [some (.ref (G.1 + 0)), some (.int 4)]) rfl rfl ?_
  obtain ⟨x0, x1, xt, xn, xf, xa, x188, x189, xr, xi⟩ := id hX
  obtain ⟨n0, n1, n2, n3, n4, n5, n6⟩ := id xn
  have a18 := xa.1
  have t2 := xt.1
  have t3 := xt.2
  refine s_aload_n (n := 1) (i := 0) dX4_stand_0 rfl rfl rfl ?_
  refine gf_X4_25 (n := 4) rfl dX4_stand_1 rfl (by assumption) (by rfl) ?_
  refine s_v0 (M' := MX2_stands) (n := 7) (ci := 2) dX4_stand_4 rfl wd_X4_137 okX2_stands rfl rfl (by omega) ⟨Nat.le_refl _, Nat.le_refl _⟩ (by assumption) (c_stands (d := d - 1) xn) ?_
  rintro v4 hh4 ⟨rfl, rfl⟩
  refine s_if_ne (n := 10) (tgt := 13) dX4_stand_7 rfl rfl (fun b7 => ?_) (fun b7 => ?_)
  · refine s_iload_n (n := 14) (i := 1) dX4_stand_13 rfl rfl rfl ?_
    refine t_X4_stand_14 dX4_stand_14 (fun e0 => ?_) (fun e1 => ?_) (fun e2 => ?_) (fun e3 => ?_) (fun e4 => ?_) (fun e0 e1 e2 e3 e4 => ?_)
    · exact absurd e0 (by decide)
    · exact absurd e1 (by decide)
    · exact absurd e2 (by decide)
    · exact absurd e3 (by decide)
    · refine s_aload_n (n := 89) (i := 0) dX4_stand_88 rfl rfl rfl ?_
      refine gf_X4_25 (n := 92) rfl dX4_stand_89 rfl (by assumption) (by rfl) ?_
      refine s_v0 (M' := MX2_inAllGutters) (n := 95) (ci := 2) dX4_stand_92 rfl wd_X4_193 okX2_inAllGutters rfl rfl (by omega) ⟨Nat.le_refl _, Nat.le_refl _⟩ (by assumption) (c_inAllGutters (d := d - 1) xn hn h7) ?_
      rintro v92 hh92 ⟨rfl, rfl⟩
      refine s_ireturn dX4_stand_95 rfl (rfl) (Nat.le_refl _) (Nat.le_refl _) ?_
      exact ⟨rfl, rfl⟩
    · exact absurd rfl e4
  · exact absurd (h0) (if0 b7)
