set_option maxRecDepth 100000 in
set_option maxHeartbeats 4000000 in
theorem c_fails {G : mj_G} {h : mj_H} {d : Nat} {f g : Nat → Int32} (hS : TpS G h f g) {x : Int32} : mj_con G MX3_fails d 0 0 [.ref (G.1 + 2), .int x] h (fun v h' => v = some (.int 0) ∧ TpS G h' f (upd g 2 x) ∧ mj_fr 2 2 h h') := by
  refine mj_conV okX3_fails (ls := [some (.ref (G.1 + 2)), some (.int x)]) rfl rfl ?_
  obtain ⟨t2, t3⟩ := id hS
  refine s_aload_n (n := 1) (i := 0) dX3_fails_0 rfl rfl rfl ?_
  refine s_iload_n (n := 2) (i := 1) dX3_fails_1 rfl rfl rfl ?_
  refine pf_X3_22 (n := 5) (fs' := [_, _, _, _, _, _, _, _]) rfl dX3_fails_2 rfl (by assumption) (by rfl) (by rfl) ?_
  refine TP_2 hS (fun h2 hS2 hF2 => ?_)
  refine s_iconst (n := 6) (v := 0) dX3_fails_5 rfl (by decide) ?_
  refine s_ireturn dX3_fails_6 rfl (rfl) (Nat.le_refl _) (Nat.le_refl _) ?_
  exact ⟨rfl, hS2, hF2⟩
/-- nothing but the tape and what is foreseen has changed -/
def mj_f2 (h h' : mj_H) : Prop := h'.1 = h.1 ∧ ∀ j, (j < 2 ∨ (4 ≤ j ∧ j < 11) ∨ 18 ≤ j) → h'.2 j = h.2 j
theorem f2_t {h h' : mj_H} (a : mj_fr 2 2 h h') : mj_f2 h h' := ⟨a.1, fun j q => a.2 j (by omega)⟩
theorem f2_f {h h' : mj_H} (a : mj_fr 11 7 h h') : mj_f2 h h' := ⟨a.1, fun j q => a.2 j (by omega)⟩
theorem f2_tr {h h1 h2 : mj_H} (a : mj_f2 h h1) (b : mj_f2 h1 h2) : mj_f2 h h2 := ⟨b.1.trans a.1, fun j q => (b.2 j q).trans (a.2 j q)⟩
theorem nar_i0 : narrow .boolean (.int 0) = .int 0 := rfl
set_option maxRecDepth 100000 in
set_option maxHeartbeats 4000000 in
theorem c_takesByte {G : mj_G} {h : mj_H} {d : Nat} {f g : Nat → Int32} (hS : TpS G h f g) {l i : Nat} (hT : tokS f l g i) (hl : l ≤ 120) (hb : bts f l) (hi : i ≤ l) {c : Int32} (hd : 3 ≤ d) : mj_con G MX3_takesByte d 0 0 [.ref (G.1 + 2), .int c] h (fun v h' => v = some (.int (if (tok f l i = c) then 1 else 0)) ∧ ∃ g', TpS G h' f g' ∧ mj_fr 2 2 h h' ∧ g' 0 = nI l ∧ ((tok f l i = c) → tokS f l g' (tkE f l i) ∧ g' 6 = g 6) ∧ (¬ (tok f l i = c) → g' 1 = nI i ∧ g' 2 = 1)) := by
  refine mj_conV okX3_takesByte (ls := [some (.ref (G.1 + 2)), some (.int c)]) rfl rfl ?_
  obtain ⟨t2, t3⟩ := id hS
  refine s_aload_n (n := 1) (i := 0) dX3_takesByte_0 rfl rfl rfl ?_
  refine gf_X3_35 (n := 4) rfl dX3_takesByte_1 rfl (by assumption) (by rfl) ?_
  rw [hT.2.2.2.1]
  refine s_iload_n (n := 5) (i := 1) dX3_takesByte_4 rfl rfl rfl ?_
  refine s_icmp_eq (n := 8) (tgt := 14) dX3_takesByte_5 rfl rfl (fun b5 => ?_) (fun b5 => ?_)
  · have q := b5
    refine s_aload_n (n := 15) (i := 0) dX3_takesByte_14 rfl rfl rfl ?_
    refine s_v0 (M' := MX3_advance) (n := 18) (ci := 3) dX3_takesByte_15 rfl wd_X3_25 okX3_advance rfl rfl (by omega) ⟨Nat.le_refl _, Nat.le_refl _⟩ (by assumption) (c_advance (d := d - 1) hS hT.1 rfl rfl hT.2.2.1 rfl rfl rfl hl hb (tkE_le hi).2 (by omega)) ?_
    rintro v15 hh15 ⟨rfl, g2, hS2, hF2, hT2, k2, k6⟩
    refine s_iconst (n := 19) (v := 1) dX3_takesByte_18 rfl (by decide) ?_
    refine s_ireturn dX3_takesByte_19 rfl (rfl) (Nat.le_refl _) (Nat.le_refl _) ?_
    refine ⟨?_, g2, hS2, hF2, hT2.1, fun _ => ⟨hT2, k6⟩, fun z => absurd q z⟩
    rw [if_pos q]
  · have q := b5
    refine s_aload_n (n := 9) (i := 0) dX3_takesByte_8 rfl rfl rfl ?_
    refine s_iconst (n := 10) (v := 1) dX3_takesByte_9 rfl (by decide) ?_
    refine s_v1 (M' := MX3_fails) (n := 13) (ci := 3) dX3_takesByte_10 rfl wd_X3_59 okX3_fails rfl rfl (by omega) ⟨Nat.le_refl _, Nat.le_refl _⟩ (by assumption) (c_fails (d := d - 1) hS) ?_
    rintro v10 hh10 ⟨rfl, hS3, hF3⟩
    refine s_ireturn dX3_takesByte_13 rfl (rfl) (Nat.le_refl _) (Nat.le_refl _) ?_
    refine ⟨?_, _, hS3, hF3, hT.1, fun z => absurd z q, fun _ => ⟨hT.2.1, rfl⟩⟩
    rw [if_neg q]
abbrev numP (f : Nat → Int32) (l i : Nat) (a b : Int) : Prop := tok f l i = 256 ∧ Wi (tkV f l i) a b
theorem Wi_if {x : Int32} {a b : Int32} {A B : Int} (ha : a.toInt = A) (hb : b.toInt = B) : (b.toInt = B) ∧ True := ⟨hb, trivial⟩
set_option maxRecDepth 100000 in
set_option maxHeartbeats 4000000 in
theorem c_takesNumber {G : mj_G} {h : mj_H} {d : Nat} {f g : Nat → Int32} (hS : TpS G h f g) {l i : Nat} (hT : tokS f l g i) (hl : l ≤ 120) (hb : bts f l) (hi : i ≤ l) {a b : Int32} {A B : Int} (hA : a.toInt = A) (hB : b.toInt = B) (hd : 3 ≤ d) : mj_con G MX3_takesNumber d 0 0 [.ref (G.1 + 2), .int a, .int b] h (fun v h' => v = some (.int (if (numP f l i A B) then 1 else 0)) ∧ ∃ g', TpS G h' f g' ∧ mj_fr 2 2 h h' ∧ g' 0 = nI l ∧ ((numP f l i A B) → tokS f l g' (tkE f l i) ∧ g' 6 = tkV f l i) ∧ (¬ (numP f l i A B) → g' 1 = nI i ∧ g' 2 = (if tok f l i = 256 then 2 else 1))) := by
  refine mj_conV okX3_takesNumber (ls := [some (.ref (G.1 + 2)), some (.int a), some (.int b)]) rfl rfl ?_
  obtain ⟨t2, t3⟩ := id hS
  refine s_aload_n (n := 1) (i := 0) dX3_takesNumber_0 rfl rfl rfl ?_
  refine gf_X3_35 (n := 4) rfl dX3_takesNumber_1 rfl (by assumption) (by rfl) ?_
  rw [hT.2.2.2.1]
  refine s_sipush (n := 7) (v := 256) dX3_takesNumber_4 rfl (by decide) ?_
  refine s_icmp_eq (n := 10) (tgt := 16) dX3_takesNumber_7 rfl rfl (fun b7 => ?_) (fun b7 => ?_)
  · refine s_aload_n (n := 17) (i := 0) dX3_takesNumber_16 rfl rfl rfl ?_
    refine gf_X3_70 (n := 20) rfl dX3_takesNumber_17 rfl (by assumption) (by rfl) ?_
    rw [hT.2.2.2.2 b7]
    refine s_iload_n (n := 21) (i := 1) dX3_takesNumber_20 rfl rfl rfl ?_
    refine s_iload_n (n := 22) (i := 2) dX3_takesNumber_21 rfl rfl rfl ?_
    refine s_n1 (M' := MX4_isWithin) (n := 25) rfl rfl dX3_takesNumber_22 rfl okX4_isWithin rfl (by omega) ⟨Nat.le_refl _, Nat.le_refl _⟩ (c_within (d := d - 1) (A := A) (B := B) hA hB) ?_
    rintro v22 hh22 ⟨rfl, rfl⟩
    refine s_if_ne (n := 28) (tgt := 34) dX3_takesNumber_25 rfl rfl (fun b25 => ?_) (fun b25 => ?_)
    · have w := if1 b25
      refine s_aload_n (n := 35) (i := 0) dX3_takesNumber_34 rfl rfl rfl ?_
      refine s_aload_n (n := 36) (i := 0) dX3_takesNumber_35 rfl rfl rfl ?_
      refine gf_X3_70 (n := 39) rfl dX3_takesNumber_36 rfl (by assumption) (by rfl) ?_
      rw [hT.2.2.2.2 b7]
      refine pf_X3_46 (n := 42) (fs' := [_, _, _, _, _, _, _, _]) rfl dX3_takesNumber_39 rfl (by assumption) (by rfl) (by rfl) ?_
      refine TP_6 hS (fun h4 hS4 hF4 => ?_)
      have t2 := hS4.1
      refine s_aload_n (n := 43) (i := 0) dX3_takesNumber_42 rfl rfl rfl ?_
      refine s_v0 (M' := MX3_advance) (n := 46) (ci := 3) dX3_takesNumber_43 rfl wd_X3_25 okX3_advance rfl rfl (by omega) ⟨Nat.le_refl _, Nat.le_refl _⟩ (by assumption) (c_advance (d := d - 1) hS4 (hT.1 : upd g 6 (tkV f l i) 0 = nI l) rfl rfl (hT.2.2.1 : upd g 6 (tkV f l i) 3 = nI (tkE f l i)) rfl rfl rfl hl hb (tkE_le hi).2 (by omega)) ?_
      rintro v43 hh43 ⟨rfl, g2, hS2, hF2, hT2, k2, k6⟩
      refine s_iconst (n := 47) (v := 1) dX3_takesNumber_46 rfl (by decide) ?_
      refine s_ireturn dX3_takesNumber_47 rfl (rfl) (Nat.le_refl _) (Nat.le_refl _) ?_
      refine ⟨?_, g2, hS2, fr_tr hF4 hF2, hT2.1, fun _ => ⟨hT2, k6⟩, fun z => absurd ⟨b7, w⟩ z⟩
      rw [if_pos ⟨b7, w⟩]
    · have w := if0 b25
      refine s_aload_n (n := 29) (i := 0) dX3_takesNumber_28 rfl rfl rfl ?_
      refine s_iconst (n := 30) (v := 2) dX3_takesNumber_29 rfl (by decide) ?_
      refine s_v1 (M' := MX3_fails) (n := 33) (ci := 3) dX3_takesNumber_30 rfl wd_X3_59 okX3_fails rfl rfl (by omega) ⟨Nat.le_refl _, Nat.le_refl _⟩ (by assumption) (c_fails (d := d - 1) hS) ?_
      rintro v30 hh30 ⟨rfl, hS3, hF3⟩
      refine s_ireturn dX3_takesNumber_33 rfl (rfl) (Nat.le_refl _) (Nat.le_refl _) ?_
      have q : ¬ numP f l i A B := fun z => w z.2
      refine ⟨?_, _, hS3, hF3, hT.1, fun z => absurd z q, fun _ => ⟨hT.2.1, ?_⟩⟩
      · rw [if_neg q]
      · rw [if_pos b7]; rfl
  · refine s_aload_n (n := 11) (i := 0) dX3_takesNumber_10 rfl rfl rfl ?_
    refine s_iconst (n := 12) (v := 1) dX3_takesNumber_11 rfl (by decide) ?_
    refine s_v1 (M' := MX3_fails) (n := 15) (ci := 3) dX3_takesNumber_12 rfl wd_X3_59 okX3_fails rfl rfl (by omega) ⟨Nat.le_refl _, Nat.le_refl _⟩ (by assumption) (c_fails (d := d - 1) hS) ?_
    rintro v12 hh12 ⟨rfl, hS3, hF3⟩
    refine s_ireturn dX3_takesNumber_15 rfl (rfl) (Nat.le_refl _) (Nat.le_refl _) ?_
    have q : ¬ numP f l i A B := fun z => b7 z.1
    refine ⟨?_, _, hS3, hF3, hT.1, fun z => absurd z q, fun _ => ⟨hT.2.1, ?_⟩⟩
    · rw [if_neg q]
    · rw [if_neg b7]; rfl
def kdF (c : Int32) : Int32 := if c = 104 then 2 else if c = 107 then 1 else if c = 109 then 3 else if c = 110 then 5 else if c = 115 then 4 else -1
set_option maxRecDepth 100000 in
set_option maxHeartbeats 4000000 in
theorem c_kindOfSort {G : mj_G} {h : mj_H} {d : Nat} {c : Int32} : mj_con G MX3_kindOfSort d 0 0 [.int c] h (rI (kdF c) h) := by
  refine mj_conS okX3_kindOfSort (ls := [some (.int c)]) rfl rfl ?_
  refine s_iload_n (n := 1) (i := 0) dX3_kindOfSort_0 rfl rfl rfl ?_
  refine t_X3_kindOfSort_1 dX3_kindOfSort_1 (fun e104 => ?_) (fun e107 => ?_) (fun e109 => ?_) (fun e110 => ?_) (fun e115 => ?_) (fun e104 e107 e109 e110 e115 => ?_)
  · subst e104
    refine s_iconst (n := 67) (v := 2) dX3_kindOfSort_66 rfl (by decide) ?_
    refine s_ireturn dX3_kindOfSort_67 rfl (rfl) (Nat.le_refl _) (Nat.le_refl _) ?_
    exact ⟨rfl, rfl⟩
  · subst e107
    refine s_iconst (n := 65) (v := 1) dX3_kindOfSort_64 rfl (by decide) ?_
    refine s_ireturn dX3_kindOfSort_65 rfl (rfl) (Nat.le_refl _) (Nat.le_refl _) ?_
    exact ⟨rfl, rfl⟩
  · subst e109
    refine s_iconst (n := 69) (v := 3) dX3_kindOfSort_68 rfl (by decide) ?_
    refine s_ireturn dX3_kindOfSort_69 rfl (rfl) (Nat.le_refl _) (Nat.le_refl _) ?_
    exact ⟨rfl, rfl⟩
  · subst e110
    refine s_iconst (n := 73) (v := 5) dX3_kindOfSort_72 rfl (by decide) ?_
    refine s_ireturn dX3_kindOfSort_73 rfl (rfl) (Nat.le_refl _) (Nat.le_refl _) ?_
    exact ⟨rfl, rfl⟩
  · subst e115
    refine s_iconst (n := 71) (v := 4) dX3_kindOfSort_70 rfl (by decide) ?_
    refine s_ireturn dX3_kindOfSort_71 rfl (rfl) (Nat.le_refl _) (Nat.le_refl _) ?_
    exact ⟨rfl, rfl⟩
  · refine s_iconst (n := 75) (v := (-1)) dX3_kindOfSort_74 rfl (by decide) ?_
    refine s_ireturn dX3_kindOfSort_75 rfl (rfl) (Nat.le_refl _) (Nat.le_refl _) ?_
    refine rI_ok ?_
    unfold kdF
    rw [if_neg e104, if_neg e107, if_neg e109, if_neg e110, if_neg e115]
def sq (r : Int32 × Nat) (k : Nat → Int32 × Nat) : Int32 × Nat := if r.1 = 0 then k r.2 else r
def pB (f : Nat → Int32) (l : Nat) (c : Int32) (i : Nat) : Int32 × Nat := if tok f l i = c then (0, tkE f l i) else (1, i)
def pN (f : Nat → Int32) (l : Nat) (a b : Int) (i : Nat) : Int32 × Nat := if numP f l i a b then (0, tkE f l i) else (if tok f l i = 256 then 2 else 1, i)
theorem sq_ok {i : Nat} {k : Nat → Int32 × Nat} : sq (0, i) k = k i := rfl
theorem sq_no {r : Int32 × Nat} {k : Nat → Int32 × Nat} (h : ¬ r.1 = 0) : sq r k = r := if_neg h
theorem pB_ok {f : Nat → Int32} {l i : Nat} {c : Int32} (h : tok f l i = c) : pB f l c i = (0, tkE f l i) := if_pos h
theorem pB_no {f : Nat → Int32} {l i : Nat} {c : Int32} (h : ¬ tok f l i = c) : pB f l c i = (1, i) := if_neg h
theorem pN_ok {f : Nat → Int32} {l i : Nat} {a b : Int} (h : numP f l i a b) : pN f l a b i = (0, tkE f l i) := if_pos h
theorem pN_no {f : Nat → Int32} {l i : Nat} {a b : Int} (h : ¬ numP f l i a b) : pN f l a b i = (if tok f l i = 256 then 2 else 1, i) := if_neg h
theorem one_ne : ¬ (1 : Int32) = 0 := by decide
theorem flt_ne {P : Prop} [Decidable P] : ¬ (if P then (2 : Int32) else 1) = 0 := by
  split <;> decide
/-- from the token at i on: numbers a, b, c with signs -/
def lawP (f : Nat → Int32) (l i : Nat) : Int32 × Nat := sq (pB f l 103 i) fun i1 => sq (pN f l 1 9 i1) fun i2 => sq (pB f l 44 i2) fun i3 => sq (pN f l 0 99 i3) fun i4 => pB f l 59 i4
def houP (f : Nat → Int32) (l i : Nat) : Int32 × Nat := sq (pN f l 0 20 i) fun i1 => sq (pB f l 44 i1) fun i2 => sq (pN f l 1 9 i2) fun i3 => sq (pB f l 44 i3) fun i4 => sq (pN f l 0 9 i4) fun i5 => pB f l 59 i5
/-- the k-th token behind i -/
def tkN (f : Nat → Int32) (l : Nat) : Nat → Nat → Nat
  | 0, i => i
  | k + 1, i => tkN f l k (tkE f l i)
def beg (T : Nat → Int32) (x y : Int32) : Nat → Int32 := upd (upd (upd (upd (upd (upd T 0 x) 1 y) 2 0) 3 0) 5 0) 4 0
theorem tkN_le {f : Nat → Int32} {l : Nat} : ∀ (k i : Nat), i ≤ l → tkN f l k i ≤ l
  | 0, _, h => h
  | k + 1, _, h => tkN_le k _ (tkE_le h).2
set_option maxRecDepth 100000 in
set_option maxHeartbeats 4000000 in
theorem c_readLaw {G : mj_G} {h : mj_H} {d : Nat} {f g : Nat → Int32} (hS : TpS G h f g) {l i : Nat} (hT : tokS f l g i) (hl : l ≤ 120) (hb : bts f l) (hi : i ≤ l) {T : Nat → Int32} (hU : mj_St G h 11 T) (hd : 4 ≤ d) : mj_con G MX3_readLaw d 0 0 [.ref (G.1 + 2), .ref (G.1 + 11)] h (fun v h' => v = some (.int (if (lawP f l i).1 = 0 then 1 else 0)) ∧ ∃ g', TpS G h' f g' ∧ g' 0 = nI l ∧ ((lawP f l i).1 = 0 → tokS f l g' (lawP f l i).2 ∧ mj_St G h' 11 (beg T (tkV f l (tkN f l 1 i)) (tkV f l (tkN f l 3 i))) ∧ (lawP f l i).2 ≤ l) ∧ (¬ (lawP f l i).1 = 0 → g' 1 = nI (lawP f l i).2 ∧ g' 2 = (lawP f l i).1 ∧ mj_St G h' 11 T) ∧ mj_f2 h h') := by
  refine mj_conV okX3_readLaw (ls := [some (.ref (G.1 + 2)), some (.ref (G.1 + 11)), none]) rfl rfl ?_
  obtain ⟨t2, t3⟩ := id hS
  refine s_aload_n (n := 1) (i := 0) dX3_readLaw_0 rfl rfl rfl ?_
  refine s_bipush (n := 3) (v := 103) dX3_readLaw_1 rfl (by decide) ?_
  refine s_v1 (M' := MX3_takesByte) (n := 6) (ci := 3) dX3_readLaw_3 rfl wd_X3_38 okX3_takesByte rfl rfl (by omega) ⟨Nat.le_refl _, Nat.le_refl _⟩ (by assumption) (c_takesByte (d := d - 1) hS hT hl hb hi (by omega)) ?_
  rintro v3 hh3 ⟨rfl, g1, hS1, hF1, z1, ok1, no1⟩
  have t2 := hS1.1
  refine s_if_eq (n := 9) (tgt := 19) dX3_readLaw_6 rfl rfl (fun b6 => ?_) (fun b6 => ?_)
  · refine s_iconst (n := 20) (v := 0) dX3_readLaw_19 rfl (by decide) ?_
    refine s_ireturn dX3_readLaw_20 rfl (rfl) (Nat.le_refl _) (Nat.le_refl _) ?_
    have e : lawP f l i = (1, i) := by
      unfold lawP
      rw [pB_no (if0 b6)]
      rw [sq_no (one_ne)]
    rw [e]
    have nz : ¬ ((1, i) : Int32 × Nat).1 = 0 := one_ne
    refine ⟨by rw [if_neg nz], g1, hS1, z1, fun z => absurd z nz, fun _ => ⟨(no1 (if0 b6)).1, (no1 (if0 b6)).2, St_fr hF1 (by omega) hU⟩, f2_t hF1⟩
  · refine s_aload_n (n := 10) (i := 0) dX3_readLaw_9 rfl rfl rfl ?_
    refine s_iconst (n := 11) (v := 1) dX3_readLaw_10 rfl (by decide) ?_
    refine s_bipush (n := 13) (v := 9) dX3_readLaw_11 rfl (by decide) ?_
    refine s_v2 (M' := MX3_takesNumber) (n := 16) (ci := 3) dX3_readLaw_13 rfl wd_X3_42 okX3_takesNumber rfl rfl (by omega) ⟨Nat.le_refl _, Nat.le_refl _⟩ (by assumption) (c_takesNumber (d := d - 1) hS1 (ok1 (if1 b6)).1 hl hb (tkE_le hi).2 (A := 1) (B := 9) (by decide) (by decide) (by omega)) ?_
    rintro v13 hh13 ⟨rfl, g2, hS2, hF2, z2, ok2, no2⟩
    have t2 := hS2.1
    refine s_if_ne (n := 19) (tgt := 21) dX3_readLaw_16 rfl rfl (fun b16 => ?_) (fun b16 => ?_)
    · refine s_aload_n (n := 22) (i := 0) dX3_readLaw_21 rfl rfl rfl ?_
      refine gf_X3_46 (n := 25) rfl dX3_readLaw_22 rfl (by assumption) (by rfl) ?_
      rw [(ok2 (if1 b16)).2]
      refine s_istore_n (n := 26) (i := 2) (ls' := [_, _, _]) dX3_readLaw_25 rfl rfl rfl rfl rfl ?_
      refine s_aload_n (n := 27) (i := 0) dX3_readLaw_26 rfl rfl rfl ?_
      refine s_bipush (n := 29) (v := 44) dX3_readLaw_27 rfl (by decide) ?_
      refine s_v1 (M' := MX3_takesByte) (n := 32) (ci := 3) dX3_readLaw_29 rfl wd_X3_38 okX3_takesByte rfl rfl (by omega) ⟨Nat.le_refl _, Nat.le_refl _⟩ (by assumption) (c_takesByte (d := d - 1) hS2 (ok2 (if1 b16)).1 hl hb (tkE_le (tkE_le hi).2).2 (by omega)) ?_
      rintro v29 hh29 ⟨rfl, g3, hS3, hF3, z3, ok3, no3⟩
      have t2 := hS3.1
      refine s_if_eq (n := 35) (tgt := 54) dX3_readLaw_32 rfl rfl (fun b32 => ?_) (fun b32 => ?_)
      · refine s_iconst (n := 55) (v := 0) dX3_readLaw_54 rfl (by decide) ?_
        refine s_ireturn dX3_readLaw_55 rfl (rfl) (Nat.le_refl _) (Nat.le_refl _) ?_
        have e : lawP f l i = (1, (tkE f l (tkE f l i))) := by
          unfold lawP
          rw [pB_ok (if1 b6)]
          rw [sq_ok]
          rw [pN_ok (if1 b16)]
          rw [sq_ok]
          rw [pB_no (if0 b32)]
          rw [sq_no (one_ne)]
        rw [e]
        have nz : ¬ ((1, (tkE f l (tkE f l i))) : Int32 × Nat).1 = 0 := one_ne
        refine ⟨by rw [if_neg nz], g3, hS3, z3, fun z => absurd z nz, fun _ => ⟨(no3 (if0 b32)).1, (no3 (if0 b32)).2, St_fr (fr_tr (fr_tr hF1 hF2) hF3) (by omega) hU⟩, f2_t (fr_tr (fr_tr hF1 hF2) hF3)⟩
      · refine s_aload_n (n := 36) (i := 0) dX3_readLaw_35 rfl rfl rfl ?_
        refine s_iconst (n := 37) (v := 0) dX3_readLaw_36 rfl (by decide) ?_
        refine s_bipush (n := 39) (v := 99) dX3_readLaw_37 rfl (by decide) ?_
        refine s_v2 (M' := MX3_takesNumber) (n := 42) (ci := 3) dX3_readLaw_39 rfl wd_X3_42 okX3_takesNumber rfl rfl (by omega) ⟨Nat.le_refl _, Nat.le_refl _⟩ (by assumption) (c_takesNumber (d := d - 1) hS3 (ok3 (if1 b32)).1 hl hb (tkE_le (tkE_le (tkE_le hi).2).2).2 (A := 0) (B := 99) (by decide) (by decide) (by omega)) ?_
        rintro v39 hh39 ⟨rfl, g4, hS4, hF4, z4, ok4, no4⟩
        have t2 := hS4.1
        refine s_if_eq (n := 45) (tgt := 54) dX3_readLaw_42 rfl rfl (fun b42 => ?_) (fun b42 => ?_)
        · refine s_iconst (n := 55) (v := 0) dX3_readLaw_54 rfl (by decide) ?_
          refine s_ireturn dX3_readLaw_55 rfl (rfl) (Nat.le_refl _) (Nat.le_refl _) ?_
          have e : lawP f l i = ((if tok f l (tkE f l (tkE f l (tkE f l i))) = 256 then 2 else 1), (tkE f l (tkE f l (tkE f l i)))) := by
            unfold lawP
            rw [pB_ok (if1 b6)]
            rw [sq_ok]
            rw [pN_ok (if1 b16)]
            rw [sq_ok]
            rw [pB_ok (if1 b32)]
            rw [sq_ok]
            rw [pN_no (if0 b42)]
            rw [sq_no (flt_ne)]
          rw [e]
          have nz : ¬ (((if tok f l (tkE f l (tkE f l (tkE f l i))) = 256 then 2 else 1), (tkE f l (tkE f l (tkE f l i)))) : Int32 × Nat).1 = 0 := flt_ne
          refine ⟨by rw [if_neg nz], g4, hS4, z4, fun z => absurd z nz, fun _ => ⟨(no4 (if0 b42)).1, (no4 (if0 b42)).2, St_fr (fr_tr (fr_tr (fr_tr hF1 hF2) hF3) hF4) (by omega) hU⟩, f2_t (fr_tr (fr_tr (fr_tr hF1 hF2) hF3) hF4)⟩
        · refine s_aload_n (n := 46) (i := 0) dX3_readLaw_45 rfl rfl rfl ?_
          refine s_bipush (n := 48) (v := 59) dX3_readLaw_46 rfl (by decide) ?_
          refine s_v1 (M' := MX3_takesByte) (n := 51) (ci := 3) dX3_readLaw_48 rfl wd_X3_38 okX3_takesByte rfl rfl (by omega) ⟨Nat.le_refl _, Nat.le_refl _⟩ (by assumption) (c_takesByte (d := d - 1) hS4 (ok4 (if1 b42)).1 hl hb (tkE_le (tkE_le (tkE_le (tkE_le hi).2).2).2).2 (by omega)) ?_
          rintro v48 hh48 ⟨rfl, g5, hS5, hF5, z5, ok5, no5⟩
          have t2 := hS5.1
          refine s_if_ne (n := 54) (tgt := 56) dX3_readLaw_51 rfl rfl (fun b51 => ?_) (fun b51 => ?_)
          · have hU5 := St_fr (fr_tr (fr_tr (fr_tr (fr_tr hF1 hF2) hF3) hF4) hF5) (by omega) hU
            have u0 := hU5.1
            refine s_aload_n (n := 57) (i := 1) dX3_readLaw_56 rfl rfl rfl ?_
            refine s_iload_n (n := 58) (i := 2) dX3_readLaw_57 rfl rfl rfl ?_
            refine s_aload_n (n := 59) (i := 0) dX3_readLaw_58 rfl rfl rfl ?_
            refine gf_X3_46 (n := 62) rfl dX3_readLaw_59 rfl (by assumption) (by rfl) ?_
            rw [(ok5 (if1 b51)).2, (ok4 (if1 b42)).2]
            refine s_v2 (M' := MX2_begin) (n := 65) (ci := 2) dX3_readLaw_62 rfl wd_X3_49 okX2_begin rfl rfl (by omega) ⟨Nat.le_refl _, Nat.le_refl _⟩ (by assumption) (c_begin (d := d - 1) hU5) ?_
            rintro v62 hh62 ⟨rfl, hS6, hF6⟩
            refine s_iconst (n := 66) (v := 1) dX3_readLaw_65 rfl (by decide) ?_
            refine s_ireturn dX3_readLaw_66 rfl (rfl) (Nat.le_refl _) (Nat.le_refl _) ?_
            have e : lawP f l i = (0, (tkE f l (tkE f l (tkE f l (tkE f l (tkE f l i)))))) := by
              unfold lawP
              rw [pB_ok (if1 b6)]
              rw [sq_ok]
              rw [pN_ok (if1 b16)]
              rw [sq_ok]
              rw [pB_ok (if1 b32)]
              rw [sq_ok]
              rw [pN_ok (if1 b42)]
              rw [sq_ok]
              rw [pB_ok (if1 b51)]
            rw [e]
            refine ⟨rfl, g5, ⟨fr_get hF6 (by omega) hS5.1, fr_get hF6 (by omega) hS5.2⟩, z5, fun _ => ⟨(ok5 (if1 b51)).1, hS6, (tkE_le (tkE_le (tkE_le (tkE_le (tkE_le hi).2).2).2).2).2⟩, fun z => absurd rfl z, f2_tr (f2_t (fr_tr (fr_tr (fr_tr (fr_tr hF1 hF2) hF3) hF4) hF5)) (f2_f hF6)⟩
          · refine s_iconst (n := 55) (v := 0) dX3_readLaw_54 rfl (by decide) ?_
            refine s_ireturn dX3_readLaw_55 rfl (rfl) (Nat.le_refl _) (Nat.le_refl _) ?_
            have e : lawP f l i = (1, (tkE f l (tkE f l (tkE f l (tkE f l i))))) := by
              unfold lawP
              rw [pB_ok (if1 b6)]
              rw [sq_ok]
              rw [pN_ok (if1 b16)]
              rw [sq_ok]
              rw [pB_ok (if1 b32)]
              rw [sq_ok]
              rw [pN_ok (if1 b42)]
              rw [sq_ok]
              rw [pB_no (if0 b51)]
            rw [e]
            have nz : ¬ ((1, (tkE f l (tkE f l (tkE f l (tkE f l i))))) : Int32 × Nat).1 = 0 := one_ne
            refine ⟨by rw [if_neg nz], g5, hS5, z5, fun z => absurd z nz, fun _ => ⟨(no5 (if0 b51)).1, (no5 (if0 b51)).2, St_fr (fr_tr (fr_tr (fr_tr (fr_tr hF1 hF2) hF3) hF4) hF5) (by omega) hU⟩, f2_t (fr_tr (fr_tr (fr_tr (fr_tr hF1 hF2) hF3) hF4) hF5)⟩
    · refine s_iconst (n := 20) (v := 0) dX3_readLaw_19 rfl (by decide) ?_
      refine s_ireturn dX3_readLaw_20 rfl (rfl) (Nat.le_refl _) (Nat.le_refl _) ?_
      have e : lawP f l i = ((if tok f l (tkE f l i) = 256 then 2 else 1), (tkE f l i)) := by
        unfold lawP
        rw [pB_ok (if1 b6)]
        rw [sq_ok]
        rw [pN_no (if0 b16)]
        rw [sq_no (flt_ne)]
      rw [e]
      have nz : ¬ (((if tok f l (tkE f l i) = 256 then 2 else 1), (tkE f l i)) : Int32 × Nat).1 = 0 := flt_ne
      refine ⟨by rw [if_neg nz], g2, hS2, z2, fun z => absurd z nz, fun _ => ⟨(no2 (if0 b16)).1, (no2 (if0 b16)).2, St_fr (fr_tr hF1 hF2) (by omega) hU⟩, f2_t (fr_tr hF1 hF2)⟩
def hsP (f : Nat → Int32) (l i n : Nat) : Int32 × Nat := if kdF (tok f l i) = -1 then (1, i) else if n < 7 then houP f l (tkE f l i) else (3, i)
def bldP (f : Nat → Int32) (l i n : Nat) (T : Nat → Int32) : Nat → Int32 := bld T n (kdF (tok f l i)) (tkV f l (tkN f l 1 i)) (tkV f l (tkN f l 3 i)) (tkV f l (tkN f l 5 i))
theorem hsP_1 {f : Nat → Int32} {l i n : Nat} (h : kdF (tok f l i) = -1) : hsP f l i n = (1, i) := if_pos h
theorem hsP_3 {f : Nat → Int32} {l i n : Nat} (h : ¬ kdF (tok f l i) = -1) (h2 : ¬ n < 7) : hsP f l i n = (3, i) := (if_neg h).trans (if_neg h2)
theorem hsP_h {f : Nat → Int32} {l i n : Nat} (h : ¬ kdF (tok f l i) = -1) (h2 : n < 7) : hsP f l i n = houP f l (tkE f l i) := (if_neg h).trans (if_pos h2)
theorem three_ne : ¬ (3 : Int32) = 0 := by decide
set_option maxRecDepth 100000 in
set_option maxHeartbeats 4000000 in
theorem c_readHouse {G : mj_G} {h : mj_H} {d : Nat} {f g : Nat → Int32} (hS : TpS G h f g) {l i n : Nat} (hT : tokS f l g i) (hl : l ≤ 120) (hb : bts f l) (hi : i ≤ l) {T : Nat → Int32} (hU : mj_St G h 11 T) (hn : T 2 = nI n) (h7 : n ≤ 7) (hd : 4 ≤ d) : mj_con G MX3_readHouse d 0 0 [.ref (G.1 + 2), .ref (G.1 + 11)] h (fun v h' => v = some (.int (if (hsP f l i n).1 = 0 then 1 else 0)) ∧ ∃ g', TpS G h' f g' ∧ g' 0 = nI l ∧ ((hsP f l i n).1 = 0 → tokS f l g' (hsP f l i n).2 ∧ mj_St G h' 11 (bldP f l i n T) ∧ (hsP f l i n).2 ≤ l ∧ n < 7) ∧ (¬ (hsP f l i n).1 = 0 → g' 1 = nI (hsP f l i n).2 ∧ g' 2 = (hsP f l i n).1 ∧ mj_St G h' 11 T) ∧ mj_f2 h h') := by
  refine mj_conV okX3_readHouse (ls := [some (.ref (G.1 + 2)), some (.ref (G.1 + 11)), none, none, none]) rfl rfl ?_
  obtain ⟨t2, t3⟩ := id hS
  have u0 := hU.1
  refine s_aload_n (n := 1) (i := 0) dX3_readHouse_0 rfl rfl rfl ?_
  refine gf_X3_35 (n := 4) rfl dX3_readHouse_1 rfl (by assumption) (by rfl) ?_
  rw [hT.2.2.2.1]
  refine s_s1 (M' := MX3_kindOfSort) (n := 7) dX3_readHouse_4 rfl wd_X3_55 okX3_kindOfSort rfl (by omega) ⟨Nat.le_refl _, Nat.le_refl _⟩ (c_kindOfSort (d := d - 1)) ?_
  rintro v4 hh4 ⟨rfl, rfl⟩
  refine s_istore_n (n := 8) (i := 2) (ls' := [_, _, _, _, _]) dX3_readHouse_7 rfl rfl rfl rfl rfl ?_
  refine s_iload_n (n := 9) (i := 2) dX3_readHouse_8 rfl rfl rfl ?_
  refine s_iconst (n := 10) (v := (-1)) dX3_readHouse_9 rfl (by decide) ?_
  refine s_icmp_ne (n := 13) (tgt := 19) dX3_readHouse_10 rfl rfl (fun b10 => ?_) (fun b10 => ?_)
  · refine s_aload_n (n := 20) (i := 1) dX3_readHouse_19 rfl rfl rfl ?_
    refine s_v0 (M' := MX2_hasRoom) (n := 23) (ci := 2) dX3_readHouse_20 rfl wd_X3_62 okX2_hasRoom rfl rfl (by omega) ⟨Nat.le_refl _, Nat.le_refl _⟩ (by assumption) (c_hasRoom (d := d - 1) hU) ?_
    rintro v20 hh20 ⟨rfl, rfl⟩
    refine s_if_ne (n := 26) (tgt := 32) dX3_readHouse_23 rfl rfl (fun b23 => ?_) (fun b23 => ?_)
    · have rr : n < 7 := by
        have := if1 b23
        rw [hn] at this
        exact (nI_ltE (b := 7) (by omega) (by omega)).mp this
      refine s_aload_n (n := 33) (i := 0) dX3_readHouse_32 rfl rfl rfl ?_
      refine s_v0 (M' := MX3_advance) (n := 36) (ci := 3) dX3_readHouse_33 rfl wd_X3_25 okX3_advance rfl rfl (by omega) ⟨Nat.le_refl _, Nat.le_refl _⟩ (by assumption) (c_advance (d := d - 1) hS hT.1 rfl rfl hT.2.2.1 rfl rfl rfl hl hb (tkE_le hi).2 (by omega)) ?_
      rintro v33 hh33 ⟨rfl, g0, hS0, hF0, hT0, k2, k6⟩
      have t2 := hS0.1
      refine s_aload_n (n := 37) (i := 0) dX3_readHouse_36 rfl rfl rfl ?_
      refine s_iconst (n := 38) (v := 0) dX3_readHouse_37 rfl (by decide) ?_
      refine s_bipush (n := 40) (v := 20) dX3_readHouse_38 rfl (by decide) ?_
      refine s_v2 (M' := MX3_takesNumber) (n := 43) (ci := 3) dX3_readHouse_40 rfl wd_X3_42 okX3_takesNumber rfl rfl (by omega) ⟨Nat.le_refl _, Nat.le_refl _⟩ (by assumption) (c_takesNumber (d := d - 1) hS0 hT0 hl hb (tkE_le hi).2 (A := 0) (B := 20) (by decide) (by decide) (by omega)) ?_
      rintro v40 hh40 ⟨rfl, g1, hS1, hF1, z1, ok1, no1⟩
      have t2 := hS1.1
      refine s_if_ne (n := 46) (tgt := 48) dX3_readHouse_43 rfl rfl (fun b43 => ?_) (fun b43 => ?_)
      · refine s_aload_n (n := 49) (i := 0) dX3_readHouse_48 rfl rfl rfl ?_
        refine gf_X3_46 (n := 52) rfl dX3_readHouse_49 rfl (by assumption) (by rfl) ?_
        rw [(ok1 (if1 b43)).2]
        refine s_istore_n (n := 53) (i := 3) (ls' := [_, _, _, _, _]) dX3_readHouse_52 rfl rfl rfl rfl rfl ?_
        refine s_aload_n (n := 54) (i := 0) dX3_readHouse_53 rfl rfl rfl ?_
        refine s_bipush (n := 56) (v := 44) dX3_readHouse_54 rfl (by decide) ?_
        refine s_v1 (M' := MX3_takesByte) (n := 59) (ci := 3) dX3_readHouse_56 rfl wd_X3_38 okX3_takesByte rfl rfl (by omega) ⟨Nat.le_refl _, Nat.le_refl _⟩ (by assumption) (c_takesByte (d := d - 1) hS1 (ok1 (if1 b43)).1 hl hb (tkE_le (tkE_le hi).2).2 (by omega)) ?_
        rintro v56 hh56 ⟨rfl, g2, hS2, hF2, z2, ok2, no2⟩
        have t2 := hS2.1
        refine s_if_eq (n := 62) (tgt := 72) dX3_readHouse_59 rfl rfl (fun b59 => ?_) (fun b59 => ?_)
        · refine s_iconst (n := 73) (v := 0) dX3_readHouse_72 rfl (by decide) ?_
          refine s_ireturn dX3_readHouse_73 rfl (rfl) (Nat.le_refl _) (Nat.le_refl _) ?_
          have e : hsP f l i n = (1, (tkE f l (tkE f l i))) := by
            rw [hsP_h b10 rr]
            unfold houP
            rw [pN_ok (if1 b43)]
            rw [sq_ok]
            rw [pB_no (if0 b59)]
            rw [sq_no (one_ne)]
          rw [e]
          have nz : ¬ ((1, (tkE f l (tkE f l i))) : Int32 × Nat).1 = 0 := one_ne
          refine ⟨by rw [if_neg nz], g2, hS2, z2, fun z => absurd z nz, fun _ => ⟨(no2 (if0 b59)).1, (no2 (if0 b59)).2, St_fr (fr_tr (fr_tr hF0 hF1) hF2) (by omega) hU⟩, f2_t (fr_tr (fr_tr hF0 hF1) hF2)⟩
        · refine s_aload_n (n := 63) (i := 0) dX3_readHouse_62 rfl rfl rfl ?_
          refine s_iconst (n := 64) (v := 1) dX3_readHouse_63 rfl (by decide) ?_
          refine s_bipush (n := 66) (v := 9) dX3_readHouse_64 rfl (by decide) ?_
          refine s_v2 (M' := MX3_takesNumber) (n := 69) (ci := 3) dX3_readHouse_66 rfl wd_X3_42 okX3_takesNumber rfl rfl (by omega) ⟨Nat.le_refl _, Nat.le_refl _⟩ (by assumption) (c_takesNumber (d := d - 1) hS2 (ok2 (if1 b59)).1 hl hb (tkE_le (tkE_le (tkE_le hi).2).2).2 (A := 1) (B := 9) (by decide) (by decide) (by omega)) ?_
          rintro v66 hh66 ⟨rfl, g3, hS3, hF3, z3, ok3, no3⟩
          have t2 := hS3.1
          refine s_if_ne (n := 72) (tgt := 74) dX3_readHouse_69 rfl rfl (fun b69 => ?_) (fun b69 => ?_)
          · refine s_aload_n (n := 75) (i := 0) dX3_readHouse_74 rfl rfl rfl ?_
            refine gf_X3_46 (n := 78) rfl dX3_readHouse_75 rfl (by assumption) (by rfl) ?_
            rw [(ok3 (if1 b69)).2]
            refine s_istore (n := 80) (i := 4) (ls' := [_, _, _, _, _]) dX3_readHouse_78 rfl rfl rfl rfl ?_
            refine s_aload_n (n := 81) (i := 0) dX3_readHouse_80 rfl rfl rfl ?_
            refine s_bipush (n := 83) (v := 44) dX3_readHouse_81 rfl (by decide) ?_
            refine s_v1 (M' := MX3_takesByte) (n := 86) (ci := 3) dX3_readHouse_83 rfl wd_X3_38 okX3_takesByte rfl rfl (by omega) ⟨Nat.le_refl _, Nat.le_refl _⟩ (by assumption) (c_takesByte (d := d - 1) hS3 (ok3 (if1 b69)).1 hl hb (tkE_le (tkE_le (tkE_le (tkE_le hi).2).2).2).2 (by omega)) ?_
            rintro v83 hh83 ⟨rfl, g4, hS4, hF4, z4, ok4, no4⟩
            have t2 := hS4.1
            refine s_if_eq (n := 89) (tgt := 108) dX3_readHouse_86 rfl rfl (fun b86 => ?_) (fun b86 => ?_)
            · refine s_iconst (n := 109) (v := 0) dX3_readHouse_108 rfl (by decide) ?_
              refine s_ireturn dX3_readHouse_109 rfl (rfl) (Nat.le_refl _) (Nat.le_refl _) ?_
              have e : hsP f l i n = (1, (tkE f l (tkE f l (tkE f l (tkE f l i))))) := by
                rw [hsP_h b10 rr]
                unfold houP
                rw [pN_ok (if1 b43)]
                rw [sq_ok]
                rw [pB_ok (if1 b59)]
                rw [sq_ok]
                rw [pN_ok (if1 b69)]
                rw [sq_ok]
                rw [pB_no (if0 b86)]
                rw [sq_no (one_ne)]
              rw [e]
              have nz : ¬ ((1, (tkE f l (tkE f l (tkE f l (tkE f l i))))) : Int32 × Nat).1 = 0 := one_ne
              refine ⟨by rw [if_neg nz], g4, hS4, z4, fun z => absurd z nz, fun _ => ⟨(no4 (if0 b86)).1, (no4 (if0 b86)).2, St_fr (fr_tr (fr_tr (fr_tr (fr_tr hF0 hF1) hF2) hF3) hF4) (by omega) hU⟩, f2_t (fr_tr (fr_tr (fr_tr (fr_tr hF0 hF1) hF2) hF3) hF4)⟩
            · refine s_aload_n (n := 90) (i := 0) dX3_readHouse_89 rfl rfl rfl ?_
              refine s_iconst (n := 91) (v := 0) dX3_readHouse_90 rfl (by decide) ?_
              refine s_bipush (n := 93) (v := 9) dX3_readHouse_91 rfl (by decide) ?_
              refine s_v2 (M' := MX3_takesNumber) (n := 96) (ci := 3) dX3_readHouse_93 rfl wd_X3_42 okX3_takesNumber rfl rfl (by omega) ⟨Nat.le_refl _, Nat.le_refl _⟩ (by assumption) (c_takesNumber (d := d - 1) hS4 (ok4 (if1 b86)).1 hl hb (tkE_le (tkE_le (tkE_le (tkE_le (tkE_le hi).2).2).2).2).2 (A := 0) (B := 9) (by decide) (by decide) (by omega)) ?_
              rintro v93 hh93 ⟨rfl, g5, hS5, hF5, z5, ok5, no5⟩
              have t2 := hS5.1
              refine s_if_eq (n := 99) (tgt := 108) dX3_readHouse_96 rfl rfl (fun b96 => ?_) (fun b96 => ?_)
              · refine s_iconst (n := 109) (v := 0) dX3_readHouse_108 rfl (by decide) ?_
                refine s_ireturn dX3_readHouse_109 rfl (rfl) (Nat.le_refl _) (Nat.le_refl _) ?_
                have e : hsP f l i n = ((if tok f l (tkE f l (tkE f l (tkE f l (tkE f l (tkE f l i))))) = 256 then 2 else 1), (tkE f l (tkE f l (tkE f l (tkE f l (tkE f l i)))))) := by
                  rw [hsP_h b10 rr]
                  unfold houP
                  rw [pN_ok (if1 b43)]
                  rw [sq_ok]
                  rw [pB_ok (if1 b59)]
                  rw [sq_ok]
                  rw [pN_ok (if1 b69)]
                  rw [sq_ok]
                  rw [pB_ok (if1 b86)]
                  rw [sq_ok]
                  rw [pN_no (if0 b96)]
                  rw [sq_no (flt_ne)]
                rw [e]
                have nz : ¬ (((if tok f l (tkE f l (tkE f l (tkE f l (tkE f l (tkE f l i))))) = 256 then 2 else 1), (tkE f l (tkE f l (tkE f l (tkE f l (tkE f l i)))))) : Int32 × Nat).1 = 0 := flt_ne
                refine ⟨by rw [if_neg nz], g5, hS5, z5, fun z => absurd z nz, fun _ => ⟨(no5 (if0 b96)).1, (no5 (if0 b96)).2, St_fr (fr_tr (fr_tr (fr_tr (fr_tr (fr_tr hF0 hF1) hF2) hF3) hF4) hF5) (by omega) hU⟩, f2_t (fr_tr (fr_tr (fr_tr (fr_tr (fr_tr hF0 hF1) hF2) hF3) hF4) hF5)⟩
              · refine s_aload_n (n := 100) (i := 0) dX3_readHouse_99 rfl rfl rfl ?_
                refine s_bipush (n := 102) (v := 59) dX3_readHouse_100 rfl (by decide) ?_
                refine s_v1 (M' := MX3_takesByte) (n := 105) (ci := 3) dX3_readHouse_102 rfl wd_X3_38 okX3_takesByte rfl rfl (by omega) ⟨Nat.le_refl _, Nat.le_refl _⟩ (by assumption) (c_takesByte (d := d - 1) hS5 (ok5 (if1 b96)).1 hl hb (tkE_le (tkE_le (tkE_le (tkE_le (tkE_le (tkE_le hi).2).2).2).2).2).2 (by omega)) ?_
                rintro v102 hh102 ⟨rfl, g6, hS6, hF6, z6, ok6, no6⟩
                have t2 := hS6.1
                refine s_if_ne (n := 108) (tgt := 110) dX3_readHouse_105 rfl rfl (fun b105 => ?_) (fun b105 => ?_)
                · have hU6 := St_fr (fr_tr (fr_tr (fr_tr (fr_tr (fr_tr (fr_tr hF0 hF1) hF2) hF3) hF4) hF5) hF6) (by omega) hU
                  have u0 := hU6.1
                  refine s_aload_n (n := 111) (i := 1) dX3_readHouse_110 rfl rfl rfl ?_
                  refine s_iload_n (n := 112) (i := 2) dX3_readHouse_111 rfl rfl rfl ?_
                  refine s_iload_n (n := 113) (i := 3) dX3_readHouse_112 rfl rfl rfl ?_
                  refine s_iload (n := 115) dX3_readHouse_113 rfl rfl ?_
                  refine s_aload_n (n := 116) (i := 0) dX3_readHouse_115 rfl rfl rfl ?_
                  refine gf_X3_46 (n := 119) rfl dX3_readHouse_116 rfl (by assumption) (by rfl) ?_
                  rw [(ok6 (if1 b105)).2, (ok5 (if1 b96)).2]
                  refine s_v4 (M' := MX2_build) (n := 122) (ci := 2) dX3_readHouse_119 rfl wd_X3_66 okX2_build rfl rfl (by omega) ⟨Nat.le_refl _, Nat.le_refl _⟩ (by assumption) (c_build (d := d - 1) hU6 rr hn (by omega)) ?_
                  rintro v119 hh119 ⟨rfl, hS7, hF7⟩
                  refine s_iconst (n := 123) (v := 1) dX3_readHouse_122 rfl (by decide) ?_
                  refine s_ireturn dX3_readHouse_123 rfl (rfl) (Nat.le_refl _) (Nat.le_refl _) ?_
                  have e : hsP f l i n = (0, (tkE f l (tkE f l (tkE f l (tkE f l (tkE f l (tkE f l (tkE f l i)))))))) := by
                    rw [hsP_h b10 rr]
                    unfold houP
                    rw [pN_ok (if1 b43)]
                    rw [sq_ok]
                    rw [pB_ok (if1 b59)]
                    rw [sq_ok]
                    rw [pN_ok (if1 b69)]
                    rw [sq_ok]
                    rw [pB_ok (if1 b86)]
                    rw [sq_ok]
                    rw [pN_ok (if1 b96)]
                    rw [sq_ok]
                    rw [pB_ok (if1 b105)]
                  rw [e]
                  refine ⟨rfl, g6, ⟨fr_get hF7 (by omega) hS6.1, fr_get hF7 (by omega) hS6.2⟩, z6, fun _ => ⟨(ok6 (if1 b105)).1, hS7, (tkE_le (tkE_le (tkE_le (tkE_le (tkE_le (tkE_le (tkE_le hi).2).2).2).2).2).2).2, rr⟩, fun z => absurd rfl z, f2_tr (f2_t (fr_tr (fr_tr (fr_tr (fr_tr (fr_tr (fr_tr hF0 hF1) hF2) hF3) hF4) hF5) hF6)) (f2_f hF7)⟩
                · refine s_iconst (n := 109) (v := 0) dX3_readHouse_108 rfl (by decide) ?_
                  refine s_ireturn dX3_readHouse_109 rfl (rfl) (Nat.le_refl _) (Nat.le_refl _) ?_
                  have e : hsP f l i n = (1, (tkE f l (tkE f l (tkE f l (tkE f l (tkE f l (tkE f l i))))))) := by
                    rw [hsP_h b10 rr]
                    unfold houP
                    rw [pN_ok (if1 b43)]
                    rw [sq_ok]
                    rw [pB_ok (if1 b59)]
                    rw [sq_ok]
                    rw [pN_ok (if1 b69)]
                    rw [sq_ok]
                    rw [pB_ok (if1 b86)]
                    rw [sq_ok]
                    rw [pN_ok (if1 b96)]
                    rw [sq_ok]
                    rw [pB_no (if0 b105)]
                  rw [e]
                  have nz : ¬ ((1, (tkE f l (tkE f l (tkE f l (tkE f l (tkE f l (tkE f l i))))))) : Int32 × Nat).1 = 0 := one_ne
                  refine ⟨by rw [if_neg nz], g6, hS6, z6, fun z => absurd z nz, fun _ => ⟨(no6 (if0 b105)).1, (no6 (if0 b105)).2, St_fr (fr_tr (fr_tr (fr_tr (fr_tr (fr_tr (fr_tr hF0 hF1) hF2) hF3) hF4) hF5) hF6) (by omega) hU⟩, f2_t (fr_tr (fr_tr (fr_tr (fr_tr (fr_tr (fr_tr hF0 hF1) hF2) hF3) hF4) hF5) hF6)⟩
          · refine s_iconst (n := 73) (v := 0) dX3_readHouse_72 rfl (by decide) ?_
            refine s_ireturn dX3_readHouse_73 rfl (rfl) (Nat.le_refl _) (Nat.le_refl _) ?_
            have e : hsP f l i n = ((if tok f l (tkE f l (tkE f l (tkE f l i))) = 256 then 2 else 1), (tkE f l (tkE f l (tkE f l i)))) := by
              rw [hsP_h b10 rr]
              unfold houP
              rw [pN_ok (if1 b43)]
              rw [sq_ok]
              rw [pB_ok (if1 b59)]
              rw [sq_ok]
              rw [pN_no (if0 b69)]
              rw [sq_no (flt_ne)]
            rw [e]
            have nz : ¬ (((if tok f l (tkE f l (tkE f l (tkE f l i))) = 256 then 2 else 1), (tkE f l (tkE f l (tkE f l i)))) : Int32 × Nat).1 = 0 := flt_ne
            refine ⟨by rw [if_neg nz], g3, hS3, z3, fun z => absurd z nz, fun _ => ⟨(no3 (if0 b69)).1, (no3 (if0 b69)).2, St_fr (fr_tr (fr_tr (fr_tr hF0 hF1) hF2) hF3) (by omega) hU⟩, f2_t (fr_tr (fr_tr (fr_tr hF0 hF1) hF2) hF3)⟩
      · refine s_iconst (n := 47) (v := 0) dX3_readHouse_46 rfl (by decide) ?_
        refine s_ireturn dX3_readHouse_47 rfl (rfl) (Nat.le_refl _) (Nat.le_refl _) ?_
        have e : hsP f l i n = ((if tok f l (tkE f l i) = 256 then 2 else 1), (tkE f l i)) := by
          rw [hsP_h b10 rr]
          unfold houP
          rw [pN_no (if0 b43)]
          rw [sq_no (flt_ne)]
        rw [e]
        have nz : ¬ (((if tok f l (tkE f l i) = 256 then 2 else 1), (tkE f l i)) : Int32 × Nat).1 = 0 := flt_ne
        refine ⟨by rw [if_neg nz], g1, hS1, z1, fun z => absurd z nz, fun _ => ⟨(no1 (if0 b43)).1, (no1 (if0 b43)).2, St_fr (fr_tr hF0 hF1) (by omega) hU⟩, f2_t (fr_tr hF0 hF1)⟩
    · have rr : ¬ n < 7 := by
        have := if0 b23
        rw [hn] at this
        exact fun z => this ((nI_ltE (b := 7) (by omega) (by omega)).mpr z)
      refine s_aload_n (n := 27) (i := 0) dX3_readHouse_26 rfl rfl rfl ?_
      refine s_iconst (n := 28) (v := 3) dX3_readHouse_27 rfl (by decide) ?_
      refine s_v1 (M' := MX3_fails) (n := 31) (ci := 3) dX3_readHouse_28 rfl wd_X3_59 okX3_fails rfl rfl (by omega) ⟨Nat.le_refl _, Nat.le_refl _⟩ (by assumption) (c_fails (d := d - 1) hS) ?_
      rintro v28 hh28 ⟨rfl, hSf, hFf⟩
      refine s_ireturn dX3_readHouse_31 rfl (rfl) (Nat.le_refl _) (Nat.le_refl _) ?_
      have e : hsP f l i n = (3, i) := hsP_3 b10 rr
      rw [e]
      refine ⟨rfl, _, hSf, hT.1, fun z => absurd z three_ne, fun _ => ⟨hT.2.1, rfl, St_fr hFf (by omega) hU⟩, f2_t hFf⟩
  · refine s_aload_n (n := 14) (i := 0) dX3_readHouse_13 rfl rfl rfl ?_
    refine s_iconst (n := 15) (v := 1) dX3_readHouse_14 rfl (by decide) ?_
    refine s_v1 (M' := MX3_fails) (n := 18) (ci := 3) dX3_readHouse_15 rfl wd_X3_59 okX3_fails rfl rfl (by omega) ⟨Nat.le_refl _, Nat.le_refl _⟩ (by assumption) (c_fails (d := d - 1) hS) ?_
    rintro v15 hh15 ⟨rfl, hSf, hFf⟩
    refine s_ireturn dX3_readHouse_18 rfl (rfl) (Nat.le_refl _) (Nat.le_refl _) ?_
    have e : hsP f l i n = (1, i) := hsP_1 b10
    rw [e]
    refine ⟨rfl, _, hSf, hT.1, fun z => absurd z one_ne, fun _ => ⟨hT.2.1, rfl, St_fr hFf (by omega) hU⟩, f2_t hFf⟩
def prs (f : Nat → Int32) (l : Nat) : Nat → Nat → Nat → (Nat → Int32) → (Int32 × Nat) × ((Nat → Int32) × Nat)
  | 0, i, n, T => ((3, i), (T, n))
  | r + 1, i, n, T => if (hsP f l i n).1 = 0 then (if tok f l (hsP f l i n).2 = 258 then ((0, (hsP f l i n).2), (bldP f l i n T, n + 1)) else prs f l r (hsP f l i n).2 (n + 1) (bldP f l i n T)) else (hsP f l i n, (T, n))
def strP (f : Nat → Int32) (l : Nat) (T : Nat → Int32) : (Int32 × Nat) × ((Nat → Int32) × Nat) := if (lawP f l 0).1 = 0 then prs f l 8 (lawP f l 0).2 0 (beg T (tkV f l (tkN f l 1 0)) (tkV f l (tkN f l 3 0))) else (lawP f l 0, (T, 0))
theorem bldP_2 {f : Nat → Int32} {l i n : Nat} {T : Nat → Int32} : bldP f l i n T 2 = nI (n + 1) := by
  unfold bldP bld
  exact up_eq
def prQ (G : mj_G) (h : mj_H) (f : Nat → Int32) (l : Nat) (R : (Int32 × Nat) × ((Nat → Int32) × Nat)) : Option Value → mj_H → Prop := fun v h' => v = some (.int (if R.1.1 = 0 then 1 else 0)) ∧ ∃ g', TpS G h' f g' ∧ g' 0 = nI l ∧ (R.1.1 = 0 → mj_St G h' 11 R.2.1) ∧ (¬ R.1.1 = 0 → g' 1 = nI R.1.2 ∧ g' 2 = R.1.1 ∧ ∃ F, mj_St G h' 11 F) ∧ mj_f2 h h'
theorem Tp_fr16 {G : mj_G} {h h' : mj_H} {f g : Nat → Int32} (a : TpS G h f g) : TpS G h f g := a
set_option maxRecDepth 100000 in
set_option maxHeartbeats 4000000 in
theorem x_readStreet {G : mj_G} {h : mj_H} {d m : Nat} {Q : Option Value → mj_H → Prop} (hm : m ≤ 200) (hq : Q (some (.int 0)) h) : mj_wp G MX3_readStreet d 0 0 38 [some (.ref (G.1 + 2)), some (.ref (G.1 + 11)), some (.int 0), some (.int (nI m))] [] h 0 0 Q := by
  refine s_iload_n (n := 39) (i := 3) dX3_readStreet_38 rfl rfl rfl ?_
  refine s_bipush (n := 41) (v := 120) dX3_readStreet_39 rfl (by decide) ?_
  refine s_icmp_ge (n := 44) (tgt := 70) dX3_readStreet_41 rfl rfl (fun b41 => ?_) (fun b41 => ?_)
  · refine s_iload_n (n := 71) (i := 2) dX3_readStreet_70 rfl rfl rfl ?_
    refine s_ireturn dX3_readStreet_71 rfl (rfl) (Nat.le_refl _) (Nat.le_refl _) ?_
    exact hq
  · refine s_iload_n (n := 45) (i := 2) dX3_readStreet_44 rfl rfl rfl ?_
    refine s_if_eq (n := 48) (tgt := 70) dX3_readStreet_45 rfl rfl (fun b45 => ?_) (fun b45 => ?_)
    · refine s_iload_n (n := 71) (i := 2) dX3_readStreet_70 rfl rfl rfl ?_
      refine s_ireturn dX3_readStreet_71 rfl (rfl) (Nat.le_refl _) (Nat.le_refl _) ?_
      exact hq
    · exact absurd rfl b45
set_option maxRecDepth 100000 in
set_option maxHeartbeats 4000000 in
theorem l_readStreet {G : mj_G} {h0 : mj_H} {d l : Nat} {f : Nat → Int32} (hl : l ≤ 120) (hb : bts f l) (hd : 5 ≤ d) : ∀ (r n : Nat), n + r = 8 → 1 ≤ n → ∀ (i : Nat) (h : mj_H) (g T : Nat → Int32), i ≤ l → TpS G h f g → tokS f l g i → mj_St G h 11 T → T 2 = nI n → n ≤ 7 → mj_f2 h0 h → mj_wp G MX3_readStreet d 0 0 38 [some (.ref (G.1 + 2)), some (.ref (G.1 + 11)), some (.int 1), some (.int (nI (n - 1)))] [] h 0 0 (prQ G h0 f l (if tok f l i = 258 then ((0, i), (T, n)) else prs f l r i n T)) := by
  intro r
  induction r with
  | zero =>
    intro n hn8 hn1 i h g T hi hS hT hU hn h7 hF
    omega
  | succ r ih =>
    intro n hn8 hn1 i h g T hi hS hT hU hn h7 hF
    obtain ⟨t2, t3⟩ := id hS
    have u0 := hU.1
    refine s_iload_n (n := 39) (i := 3) dX3_readStreet_38 rfl rfl rfl ?_
    refine s_bipush (n := 41) (v := 120) dX3_readStreet_39 rfl (by decide) ?_
    refine s_icmp_ge (n := 44) (tgt := 70) dX3_readStreet_41 rfl rfl (fun b41 => ?_) (fun b41 => ?_)
    · exact absurd ((nI_leE (a := 120) (by omega) (by omega)).mp b41) (by omega)
    · refine s_iload_n (n := 45) (i := 2) dX3_readStreet_44 rfl rfl rfl ?_
      refine s_if_eq (n := 48) (tgt := 70) dX3_readStreet_45 rfl rfl (fun b45 => ?_) (fun b45 => ?_)
      · exact absurd b45 (by decide)
      · refine s_aload_n (n := 49) (i := 0) dX3_readStreet_48 rfl rfl rfl ?_
        refine gf_X3_35 (n := 52) rfl dX3_readStreet_49 rfl (by assumption) (by rfl) ?_
        rw [hT.2.2.2.1]
        refine s_sipush (n := 55) (v := 258) dX3_readStreet_52 rfl (by decide) ?_
        refine s_icmp_eq (n := 58) (tgt := 70) dX3_readStreet_55 rfl rfl (fun b55 => ?_) (fun b55 => ?_)
        · rw [if_pos b55]
          refine s_iload_n (n := 71) (i := 2) dX3_readStreet_70 rfl rfl rfl ?_
          refine s_ireturn dX3_readStreet_71 rfl (rfl) (Nat.le_refl _) (Nat.le_refl _) ?_
          exact ⟨rfl, g, hS, hT.1, fun _ => hU, fun z => absurd rfl z, hF⟩
        · rw [if_neg b55]
          refine s_aload_n (n := 59) (i := 0) dX3_readStreet_58 rfl rfl rfl ?_
          refine s_aload_n (n := 60) (i := 1) dX3_readStreet_59 rfl rfl rfl ?_
          refine s_v1 (M' := MX3_readHouse) (n := 63) (ci := 3) dX3_readStreet_60 rfl wd_X3_32 okX3_readHouse rfl rfl (by omega) ⟨Nat.le_refl _, Nat.le_refl _⟩ (by assumption) (c_readHouse (d := d - 1) hS hT hl hb hi hU hn h7 (by omega)) ?_
          rintro v60 hh60 ⟨rfl, g2, hS2, z2, ok2, no2, hF2⟩
          refine s_istore_n (n := 64) (i := 2) (ls' := [_, _, _, _]) dX3_readStreet_63 rfl rfl rfl rfl rfl ?_
          refine s_iinc (n := 67) (v := _ + 1) (ls' := [_, _, _, _]) dX3_readStreet_64 rfl rfl rfl rfl rfl ?_
          refine s_goto (tgt := 38) dX3_readStreet_67 rfl ?_
          by_cases q : (hsP f l i n).1 = 0
          · have e : prs f l (r + 1) i n T = (if tok f l (hsP f l i n).2 = 258 then ((0, (hsP f l i n).2), (bldP f l i n T, n + 1)) else prs f l r (hsP f l i n).2 (n + 1) (bldP f l i n T)) := if_pos q
            obtain ⟨o1, o2, o3, o4⟩ := ok2 q
            rw [e, if_pos q, nI_1]
            have := ih (n + 1) (by omega) (by omega) _ _ g2 _ o3 hS2 o1 o2 bldP_2 (by omega) (f2_tr hF hF2)
            rw [show n + 1 - 1 = n - 1 + 1 by omega] at this
            exact this
          · have e : prs f l (r + 1) i n T = (hsP f l i n, (T, n)) := if_neg q
            obtain ⟨o1, o2, o3⟩ := no2 q
            rw [e, if_neg q, nI_1]
            exact x_readStreet (by omega) ⟨by rw [if_neg q], g2, hS2, z2, fun z => absurd z q, fun _ => ⟨o1, o2, _, o3⟩, f2_tr hF hF2⟩
set_option maxRecDepth 100000 in
set_option maxHeartbeats 4000000 in
theorem c_readStreet {G : mj_G} {h : mj_H} {d : Nat} {f g : Nat → Int32} (hS : TpS G h f g) {l : Nat} (q0 : g 0 = nI l) (hl : l ≤ 120) (hb : bts f l) {T : Nat → Int32} (hU : mj_St G h 11 T) (hd : 5 ≤ d) : mj_con G MX3_readStreet d 0 0 [.ref (G.1 + 2), .ref (G.1 + 11)] h (prQ G h f l (strP f l T)) := by
  refine mj_conV okX3_readStreet (ls := [some (.ref (G.1 + 2)), some (.ref (G.1 + 11)), none, none]) rfl rfl ?_
  obtain ⟨t2, t3⟩ := id hS
  have u0 := hU.1
  refine s_aload_n (n := 1) (i := 0) dX3_readStreet_0 rfl rfl rfl ?_
  refine s_iconst (n := 2) (v := 0) dX3_readStreet_1 rfl (by decide) ?_
  refine pf_X3_19 (n := 5) (fs' := [_, _, _, _, _, _, _, _]) rfl dX3_readStreet_2 rfl (by assumption) (by rfl) (by rfl) ?_
  refine TP_3 hS (fun h1 hS1 hF1 => ?_)
  have t2 := hS1.1
  refine s_aload_n (n := 6) (i := 0) dX3_readStreet_5 rfl rfl rfl ?_
  refine s_iconst (n := 7) (v := 0) dX3_readStreet_6 rfl (by decide) ?_
  refine pf_X3_22 (n := 10) (fs' := [_, _, _, _, _, _, _, _]) rfl dX3_readStreet_7 rfl (by assumption) (by rfl) (by rfl) ?_
  refine TP_2 hS1 (fun h2 hS2 hF2 => ?_)
  have t2 := hS2.1
  refine s_aload_n (n := 11) (i := 0) dX3_readStreet_10 rfl rfl rfl ?_
  refine s_v0 (M' := MX3_advance) (n := 14) (ci := 3) dX3_readStreet_11 rfl wd_X3_25 okX3_advance rfl rfl (by omega) ⟨Nat.le_refl _, Nat.le_refl _⟩ (by assumption) (c_advance (d := d - 1) (i := 0) hS2 (q0 : upd (upd g 3 0) 2 0 0 = nI l) rfl rfl (rfl : upd (upd g 3 0) 2 0 3 = nI 0) rfl rfl rfl hl hb (by omega) (by omega)) ?_
  rintro v11 hh11 ⟨rfl, g3, hS3, hF3, hT3, k2, k6⟩
  have hFa := fr_tr hF1 (fr_tr hF2 hF3)
  have hU3 := St_fr hFa (by omega) hU
  have t2 := hS3.1
  replace hFa := f2_t hFa
  refine s_aload_n (n := 15) (i := 0) dX3_readStreet_14 rfl rfl rfl ?_
  refine s_aload_n (n := 16) (i := 1) dX3_readStreet_15 rfl rfl rfl ?_
  refine s_v1 (M' := MX3_readLaw) (n := 19) (ci := 3) dX3_readStreet_16 rfl wd_X3_28 okX3_readLaw rfl rfl (by omega) ⟨Nat.le_refl _, Nat.le_refl _⟩ (by assumption) (c_readLaw (d := d - 1) hS3 hT3 hl hb (by omega) hU3 (by omega)) ?_
  rintro v16 hh16 ⟨rfl, g4, hS4, z4, ok4, no4, hF4⟩
  have t2 := hS4.1
  refine s_if_eq (n := 22) (tgt := 34) dX3_readStreet_19 rfl rfl (fun b19 => ?_) (fun b19 => ?_)
  · have q := if0 b19
    have e : strP f l T = (lawP f l 0, (T, 0)) := if_neg q
    obtain ⟨o1, o2, o3⟩ := no4 q
    refine s_iconst (n := 35) (v := 0) dX3_readStreet_34 rfl (by decide) ?_
    refine s_istore_n (n := 36) (i := 2) (ls' := [_, _, _, _]) dX3_readStreet_35 rfl rfl rfl rfl rfl ?_
    refine s_iconst (n := 37) (v := 0) dX3_readStreet_36 rfl (by decide) ?_
    refine s_istore_n (n := 38) (i := 3) (ls' := [_, _, _, _]) dX3_readStreet_37 rfl rfl rfl rfl rfl ?_
    rw [e]
    exact x_readStreet (m := 0) (by omega) ⟨by rw [if_neg q], g4, hS4, z4, fun z => absurd z q, fun _ => ⟨o1, o2, _, o3⟩, f2_tr hFa hF4⟩
  · have q := if1 b19
    have e : strP f l T = prs f l 8 (lawP f l 0).2 0 (beg T (tkV f l (tkN f l 1 0)) (tkV f l (tkN f l 3 0))) := if_pos q
    obtain ⟨o1, o2, o3⟩ := ok4 q
    rw [e]
    refine s_aload_n (n := 23) (i := 0) dX3_readStreet_22 rfl rfl rfl ?_
    refine s_aload_n (n := 24) (i := 1) dX3_readStreet_23 rfl rfl rfl ?_
    refine s_v1 (M' := MX3_readHouse) (n := 27) (ci := 3) dX3_readStreet_24 rfl wd_X3_32 okX3_readHouse rfl rfl (by omega) ⟨Nat.le_refl _, Nat.le_refl _⟩ (by assumption) (c_readHouse (d := d - 1) (n := 0) hS4 o1 hl hb o3 o2 rfl (by omega) (by omega)) ?_
    rintro v24 hh24 ⟨rfl, g5, hS5, z5, ok5, no5, hF5⟩
    refine s_if_eq (n := 30) (tgt := 34) dX3_readStreet_27 rfl rfl (fun b27 => ?_) (fun b27 => ?_)
    · have q2 := if0 b27
      have e2 : prs f l 8 (lawP f l 0).2 0 (beg T (tkV f l (tkN f l 1 0)) (tkV f l (tkN f l 3 0))) = (hsP f l (lawP f l 0).2 0, (beg T (tkV f l (tkN f l 1 0)) (tkV f l (tkN f l 3 0)), 0)) := if_neg q2
      obtain ⟨p1, p2, p3⟩ := no5 q2
      refine s_iconst (n := 35) (v := 0) dX3_readStreet_34 rfl (by decide) ?_
      refine s_istore_n (n := 36) (i := 2) (ls' := [_, _, _, _]) dX3_readStreet_35 rfl rfl rfl rfl rfl ?_
      refine s_iconst (n := 37) (v := 0) dX3_readStreet_36 rfl (by decide) ?_
      refine s_istore_n (n := 38) (i := 3) (ls' := [_, _, _, _]) dX3_readStreet_37 rfl rfl rfl rfl rfl ?_
      rw [e2]
      exact x_readStreet (m := 0) (by omega) ⟨by rw [if_neg q2], g5, hS5, z5, fun z => absurd z q2, fun _ => ⟨p1, p2, _, p3⟩, f2_tr hFa (f2_tr hF4 hF5)⟩
    · have q2 := if1 b27
      have e2 : prs f l 8 (lawP f l 0).2 0 (beg T (tkV f l (tkN f l 1 0)) (tkV f l (tkN f l 3 0))) = (if tok f l (hsP f l (lawP f l 0).2 0).2 = 258 then ((0, (hsP f l (lawP f l 0).2 0).2), (bldP f l (lawP f l 0).2 0 (beg T (tkV f l (tkN f l 1 0)) (tkV f l (tkN f l 3 0))), 0 + 1)) else prs f l 7 (hsP f l (lawP f l 0).2 0).2 (0 + 1) (bldP f l (lawP f l 0).2 0 (beg T (tkV f l (tkN f l 1 0)) (tkV f l (tkN f l 3 0))))) := if_pos q2
      obtain ⟨p1, p2, p3, p4⟩ := ok5 q2
      refine s_iconst (n := 31) (v := 1) dX3_readStreet_30 rfl (by decide) ?_
      refine s_goto (tgt := 35) dX3_readStreet_31 rfl ?_
      refine s_istore_n (n := 36) (i := 2) (ls' := [_, _, _, _]) dX3_readStreet_35 rfl rfl rfl rfl rfl ?_
      refine s_iconst (n := 37) (v := 0) dX3_readStreet_36 rfl (by decide) ?_
      refine s_istore_n (n := 38) (i := 3) (ls' := [_, _, _, _]) dX3_readStreet_37 rfl rfl rfl rfl rfl ?_
      rw [e2]
      exact l_readStreet hl hb (by omega) 7 1 (by omega) (by omega) _ _ g5 _ p3 hS5 p1 p2 bldP_2 (by omega) (f2_tr hFa (f2_tr hF4 hF5))
