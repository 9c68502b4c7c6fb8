abbrev hbt (x m : Nat) : Prop := (nI x >>> (nI m &&& 31)) &&& 1 = 1
def blF (c : Nat) : Nat → Int64
  | 0 => 1
  | m + 1 => blF c m * (if hbt c m then 10 else 1)
def ptF (c s : Nat) (q : Int32) : Nat → Int64
  | 0 => 1
  | m + 1 => ptF c s q m * (if hbt c m then (if hbt s m then q.toInt64 else (10 - q).toInt64) else 1)
def cA (c : Nat) : Nat → Nat
  | 0 => 0
  | m + 1 => if hbt c m then cA c m + 1 else cA c m
def cS (c s : Nat) : Nat → Nat
  | 0 => 0
  | m + 1 => if hbt c m ∧ hbt s m then cS c s m + 1 else cS c s m
def cN (c s : Nat) : Nat → Nat
  | 0 => 0
  | m + 1 => if hbt c m ∧ ¬ hbt s m then cN c s m + 1 else cN c s m
theorem blF_c {c : Nat} : ∀ m, blF c m = powL 10 (cA c m)
  | 0 => rfl
  | m + 1 => by
    unfold blF cA
    rw [blF_c m]
    by_cases h : hbt c m
    · rw [if_pos h, if_pos h]
      rfl
    · rw [if_neg h, if_neg h, Int64.mul_one]
theorem ptF_c {c s : Nat} {q : Int32} : ∀ m, ptF c s q m = powL q.toInt64 (cS c s m) * powL (10 - q).toInt64 (cN c s m)
  | 0 => rfl
  | m + 1 => by
    unfold ptF cS cN
    rw [ptF_c m]
    by_cases h : hbt c m
    · rw [if_pos h]
      by_cases h2 : hbt s m
      · rw [if_pos h2, if_pos ⟨h, h2⟩, if_neg (fun z => z.2 h2)]
        show _ = powL q.toInt64 (cS c s m) * q.toInt64 * _
        rw [Int64.mul_assoc, Int64.mul_assoc, Int64.mul_comm (powL (10 - q).toInt64 (cN c s m))]
      · rw [if_neg h2, if_neg (fun z => h2 z.2), if_pos ⟨h, h2⟩]
        show _ = _ * (powL (10 - q).toInt64 (cN c s m) * (10 - q).toInt64)
        rw [Int64.mul_assoc]
    · rw [if_neg h, if_neg (fun z => h z.1), if_neg (fun z => h z.1), Int64.mul_one]
set_option maxRecDepth 100000 in
theorem cnt_all : ∀ n, n < 8 → ∀ h, h < 2 ^ n → cA (2 ^ n - 1 - h) n = (nI n - bc (nI h)).toNatClampNeg ∧ cA (2 ^ n - 1 - h) n ≤ 7 ∧ ∀ s, s < 2 ^ n → nI s &&& nI h = 0 → cS (2 ^ n - 1 - h) s n = (bc (nI s)).toNatClampNeg ∧ cN (2 ^ n - 1 - h) s n = ((nI n - bc (nI h)) - bc (nI s)).toNatClampNeg ∧ cS (2 ^ n - 1 - h) s n + cN (2 ^ n - 1 - h) s n ≤ 7 := by decide +kernel
theorem csF_skip {n k : Nat} {q : Int32} {T : Nat → Int32} {acc : Int64} : ∀ (r s : Nat), (∀ x, s ≤ x → x < s + r → ¬ nI x &&& T 4 = 0) → csF n k q T r s acc = acc
  | 0, _, _ => rfl
  | r + 1, s, h => by
    unfold csF
    rw [if_neg (fun z => h s (by omega) (by omega) z.1)]
    exact csF_skip r (s + 1) (fun x h1 h2 => h x (by omega) (by omega))
def gcE : Nat → Int64 → Int64 → Prop
  | 0, _, r => r = 0
  | t + 1, g, r => r = 0 ∨ gcE t r (g - g / r * r)
theorem gc_ok : ∀ (k a b : Nat), a < 2147483648 → b < 2147483648 → b < 2 ^ k → (0 < a ∨ 0 < b) → gcE (2 * k) (lN a) (lN b) ∧ ∃ g, 0 < g ∧ g < 2147483648 ∧ gcF (2 * k) (lN a) (lN b) = lN g
  | 0, a, b, ha, hb, hk, h0 => by
    have e : b = 0 := by
      have : 2 ^ 0 = 1 := rfl
      omega
    subst e
    exact ⟨rfl, a, by omega, ha, rfl⟩
  | k + 1, a, b, ha, hb, hk, h0 => by
    rw [show 2 * (k + 1) = 2 * k + 1 + 1 from by omega]
    by_cases e : b = 0
    · subst e
      refine ⟨Or.inl rfl, a, by omega, ha, ?_⟩
      exact if_pos rfl
    · have nb0 : ¬ lN b = 0 := fun z => e ((lN_z hb).mp z)
      have hm := Nat.mod_lt a (show 0 < b by omega)
      have e1 : gcF (2 * k + 1 + 1) (lN a) (lN b) = gcF (2 * k + 1) (lN b) (lN (a % b)) := by
        rw [← lN_mod ha (by omega) hb]
        exact if_neg nb0
      have e2 : gcE (2 * k + 1 + 1) (lN a) (lN b) = (lN b = 0 ∨ gcE (2 * k + 1) (lN b) (lN (a % b))) := by
        rw [← lN_mod ha (by omega) hb]
        rfl
      rw [e1, e2]
      by_cases f : a % b = 0
      · rw [f]
        exact ⟨Or.inr (Or.inl rfl), b, by omega, hb, if_pos rfl⟩
      · have nb1 : ¬ lN (a % b) = 0 := fun z => f ((lN_z (by omega)).mp z)
        have hm2 := Nat.mod_lt b (show 0 < a % b by omega)
        have e3 : gcF (2 * k + 1) (lN b) (lN (a % b)) = gcF (2 * k) (lN (a % b)) (lN (b % (a % b))) := by
          rw [← lN_mod hb (by omega) (show a % b < 2147483648 by omega)]
          exact if_neg nb1
        have e4 : gcE (2 * k + 1) (lN b) (lN (a % b)) = (lN (a % b) = 0 ∨ gcE (2 * k) (lN (a % b)) (lN (b % (a % b)))) := by
          rw [← lN_mod hb (by omega) (show a % b < 2147483648 by omega)]
          rfl
        have hlt : b % (a % b) < 2 ^ k := by
          have h1 := Nat.div_add_mod b (a % b)
          have h2 : 1 ≤ b / (a % b) := (Nat.le_div_iff_mul_le (by omega)).mpr (by omega)
          have h3 : a % b ≤ (a % b) * (b / (a % b)) := Nat.le_mul_of_pos_right _ h2
          have h4 : 2 ^ (k + 1) = 2 * 2 ^ k := by rw [Nat.pow_succ]; omega
          omega
        obtain ⟨g1, g2⟩ := gc_ok k (a % b) (b % (a % b)) (by omega) (by omega) hlt (Or.inl (by omega))
        rw [e3, e4]
        exact ⟨Or.inr (Or.inr g1), g2⟩
theorem lNm {a b : Nat} : lN a * lN b = lN (a * b) := (Int64.ofNat_mul a b).symm
theorem lNa {a b : Nat} : lN a + lN b = lN (a + b) := (Int64.ofNat_add a b).symm
theorem powL_n {b : Nat} : ∀ m, powL (lN b) m = lN (b ^ m)
  | 0 => rfl
  | m + 1 => by
    unfold powL
    rw [powL_n m, lNm, Nat.pow_succ]
theorem q_all : ∀ p, p < 11 → (nI p).toInt64 = lN p ∧ (10 - nI p).toInt64 = lN (10 - p) := by decide +kernel
theorem pw_le {p i j : Nat} (hp : p ≤ 10) (h : i + j ≤ 7) : p ^ i * (10 - p) ^ j ≤ 10000000 := by
  have h1 : p ^ i ≤ 10 ^ i := Nat.pow_le_pow_left hp i
  have h2 : (10 - p) ^ j ≤ 10 ^ j := Nat.pow_le_pow_left (by omega) j
  have h3 : p ^ i * (10 - p) ^ j ≤ 10 ^ i * 10 ^ j := Nat.mul_le_mul h1 h2
  rw [← Nat.pow_add] at h3
  have h4 : 10 ^ (i + j) ≤ 10 ^ 7 := Nat.pow_le_pow_right (by omega) h
  exact Nat.le_trans h3 h4
theorem csF_n {n k p h4 C : Nat} {T : Nat → Int32} (hn : n < 8) (e4 : T 4 = nI h4) (hh : h4 < 2 ^ n) (hp : p ≤ 10) (hC : ∀ i j, i + j ≤ 7 → p ^ i * (10 - p) ^ j ≤ C) : ∀ (r s A : Nat), s + r = 2 ^ n → ∃ B, B ≤ A + r * C ∧ csF n k (nI p) T r s (lN A) = lN B
  | 0, s, A, _ => ⟨A, by omega, rfl⟩
  | r + 1, s, A, hs => by
    have eC : (r + 1) * C = r * C + C := Nat.succ_mul r C
    unfold csF
    split
    · next h =>
      rw [e4] at h
      obtain ⟨c1, c2, c3⟩ := (cnt_all n hn h4 hh).2.2 s (by omega) h.1
      rw [e4, ← c1, ← c2, (q_all p (by omega)).1, (q_all p (by omega)).2, powL_n, powL_n, lNm, lNa]
      obtain ⟨B, hB, e⟩ := csF_n (k := k) hn e4 hh hp hC r (s + 1) (A + p ^ cS (2 ^ n - 1 - h4) s n * (10 - p) ^ cN (2 ^ n - 1 - h4) s n) (by omega)
      have := hC _ _ c3
      exact ⟨B, by rw [eC]; omega, e⟩
    · obtain ⟨B, hB, e⟩ := csF_n (k := k) hn e4 hh hp hC r (s + 1) A (by omega)
      exact ⟨B, by rw [eC]; omega, e⟩
theorem Wi_ex {x : Int32} {a b : Int} (h : Wi x a b) (ha : 0 ≤ a) : ∃ k : Nat, x = nI k ∧ a ≤ (k : Int) ∧ (k : Int) ≤ b := by
  have hx := Int32.toInt_lt x
  refine ⟨x.toInt.toNat, ?_, ?_, ?_⟩
  · apply Int32.toInt_inj.mp
    rw [nI_toInt (by omega)]
    omega
  · have := h.1
    omega
  · have := h.2
    have := h.1
    omega
set_option maxRecDepth 100000 in
set_option maxHeartbeats 4000000 in
theorem y_hushed_st {G : mj_G} {h : mj_H} {d : Nat} {τ : Nat → Nat → Int32} (hY : YS G h τ) {x y z : Int32} (hb : τ 12 1 = 0) (hd : 2 ≤ d) : mj_con G MX5_hushed d 0 0 [.ref (G.1 + 220), .int x, .int y, .int z] h (rL (-1000002) h) := by
  refine mj_conV okX5_hushed (ls := [some (.ref (G.1 + 220)), some (.int x), some (.int y), some (.int z), none, none, none, none, none, none, none, none, none, none, none]) rfl rfl ?_
  obtain ⟨y0, y1, y2, y3, y4, y5, y6, y7, y8, y9, y10, y11, y12⟩ := id hY
  refine s_aload_n (n := 1) (i := 0) dX5_hushed_0 rfl rfl rfl ?_
  refine gf_X5_132 (n := 4) rfl dX5_hushed_1 rfl (by assumption) (by rfl) ?_
  refine s_if_ne (n := 7) (tgt := 11) dX5_hushed_4 rfl rfl (fun b4 => ?_) (fun b4 => ?_)
  · exact absurd hb b4
  · refine s_ldc2 (n := 10) dX5_hushed_7 rfl wd_X5_213 ?_
    refine s_lreturn dX5_hushed_10 rfl (Nat.le_refl _) (Nat.le_refl _) ?_
    exact ⟨rfl, rfl⟩
set_option maxRecDepth 100000 in
set_option maxHeartbeats 4000000 in
theorem y_hushed_bad {G : mj_G} {h : mj_H} {d : Nat} {τ : Nat → Nat → Int32} (hY : YS G h τ) {x y z : Int32} (hT : ¬ τ 12 1 = 0) (hb : ¬ (Wi x 0 40 ∧ Wi y 0 10 ∧ Wi z 0 1)) (hd : 2 ≤ d) : mj_con G MX5_hushed d 0 0 [.ref (G.1 + 220), .int x, .int y, .int z] h (rL (-1000001) h) := by
  refine mj_conV okX5_hushed (ls := [some (.ref (G.1 + 220)), some (.int x), some (.int y), some (.int z), none, none, none, none, none, none, none, none, none, none, none]) rfl rfl ?_
  obtain ⟨y0, y1, y2, y3, y4, y5, y6, y7, y8, y9, y10, y11, y12⟩ := id hY
  refine s_aload_n (n := 1) (i := 0) dX5_hushed_0 rfl rfl rfl ?_
  refine gf_X5_132 (n := 4) rfl dX5_hushed_1 rfl (by assumption) (by rfl) ?_
  refine s_if_ne (n := 7) (tgt := 11) dX5_hushed_4 rfl rfl (fun b4 => ?_) (fun b4 => ?_)
  · refine s_iload_n (n := 12) (i := 1) dX5_hushed_11 rfl rfl rfl ?_
    refine s_i2l (n := 13) dX5_hushed_12 rfl ?_
    refine s_lconst (n := 14) (v := 0) dX5_hushed_13 rfl (by decide) ?_
    refine s_ldc2 (n := 17) dX5_hushed_14 rfl wd_X5_194 ?_
    refine s_s3 (M' := MX5_in) (n := 20) dX5_hushed_17 rfl wd_X5_54 okX5_in rfl (by omega) ⟨Nat.le_refl _, Nat.le_refl _⟩ (y_in (d := d - 1) (A := 0) (B := 40) (by decide) (by decide)) ?_
    rintro v17 hh17 ⟨rfl, rfl⟩
    refine s_if_eq (n := 23) (tgt := 42) dX5_hushed_20 rfl rfl (fun b20 => ?_) (fun b20 => ?_)
    · refine s_ldc2 (n := 45) dX5_hushed_42 rfl wd_X5_217 ?_
      refine s_lreturn dX5_hushed_45 rfl (Nat.le_refl _) (Nat.le_refl _) ?_
      exact ⟨rfl, rfl⟩
    · refine s_iload_n (n := 24) (i := 2) dX5_hushed_23 rfl rfl rfl ?_
      refine s_i2l (n := 25) dX5_hushed_24 rfl ?_
      refine s_lconst (n := 26) (v := 0) dX5_hushed_25 rfl (by decide) ?_
      refine s_ldc2 (n := 29) dX5_hushed_26 rfl wd_X5_215 ?_
      refine s_s3 (M' := MX5_in) (n := 32) dX5_hushed_29 rfl wd_X5_54 okX5_in rfl (by omega) ⟨Nat.le_refl _, Nat.le_refl _⟩ (y_in (d := d - 1) (A := 0) (B := 10) (by decide) (by decide)) ?_
      rintro v29 hh29 ⟨rfl, rfl⟩
      refine s_if_eq (n := 35) (tgt := 42) dX5_hushed_32 rfl rfl (fun b32 => ?_) (fun b32 => ?_)
      · refine s_ldc2 (n := 45) dX5_hushed_42 rfl wd_X5_217 ?_
        refine s_lreturn dX5_hushed_45 rfl (Nat.le_refl _) (Nat.le_refl _) ?_
        exact ⟨rfl, rfl⟩
      · refine s_iload_n (n := 36) (i := 3) dX5_hushed_35 rfl rfl rfl ?_
        refine s_s1 (M' := MX5_isWhat) (n := 39) dX5_hushed_36 rfl wd_X5_183 okX5_isWhat rfl (by omega) ⟨Nat.le_refl _, Nat.le_refl _⟩ (y_isWhat (d := d - 1) (by omega)) ?_
        rintro v36 hh36 ⟨rfl, rfl⟩
        refine s_if_ne (n := 42) (tgt := 46) dX5_hushed_39 rfl rfl (fun b39 => ?_) (fun b39 => ?_)
        · exact absurd (⟨if1 b20, if1 b32, if1 b39⟩) hb
        · refine s_ldc2 (n := 45) dX5_hushed_42 rfl wd_X5_217 ?_
          refine s_lreturn dX5_hushed_45 rfl (Nat.le_refl _) (Nat.le_refl _) ?_
          exact ⟨rfl, rfl⟩
  · exact absurd b4 hT
set_option maxRecDepth 100000 in
set_option maxHeartbeats 4000000 in
theorem l_ybel {G : mj_G} {h : mj_H} {d n k h4 : Nat} {τ : Nat → Nat → Int32} {q w : Int32} {Q : Option Value → mj_H → Prop} (h7 : n ≤ 7) (hn : τ 0 2 = nI n) (hd : 1 ≤ d) (hY : YS G h (u2 (asS τ) 0 (τ 0))) (K : mj_wp G MX5_hushed d 0 0 119 [some (.ref (G.1 + 220)), some (.int (nI k)), some (.int q), some (.int w), some (.int (nI (2 ^ n - 1 - h4))), some (.long 0), none, some (.long (blF (2 ^ n - 1 - h4) n)), none, some (.int (nI n)), none, none, none, none, none] [] h 0 0 Q) : ∀ (r i : Nat), i + r = n → mj_wp G MX5_hushed d 0 0 80 [some (.ref (G.1 + 220)), some (.int (nI k)), some (.int q), some (.int w), some (.int (nI (2 ^ n - 1 - h4))), some (.long 0), none, some (.long (blF (2 ^ n - 1 - h4) i)), none, some (.int (nI i)), none, none, none, none, none] [] h 0 0 Q := by
  obtain ⟨y0, y1, y2, y3, y4, y5, y6, y7, y8, y9, y10, y11, y12⟩ := id hY
  replace y4 : h.2 224 = mj_ar 0 48 (τ 0) := y4
  replace y0 : h.2 220 = YO G (τ 12) := y0
  intro r
  induction r with
  | zero =>
    intro i hi
    have e : i = n := by omega
    subst e
    refine s_iload (n := 82) dX5_hushed_80 rfl rfl ?_
    refine s_aload_n (n := 83) (i := 0) dX5_hushed_82 rfl rfl rfl ?_
    refine gf_X5_19 (n := 86) rfl dX5_hushed_83 rfl (by assumption) (by rfl) ?_
    refine s_iconst (n := 87) (v := 2) dX5_hushed_86 rfl (by decide) ?_
    refine s_iald (n := 88) dX5_hushed_87 rfl (by assumption) (mj_ixe (j := 2) rfl (by omega)) ?_
    rw [hn]
    refine s_icmp_ge (n := 91) (tgt := 119) dX5_hushed_88 rfl rfl (fun b88 => ?_) (fun b88 => ?_)
    · exact K
    · exact absurd (Int32.le_refl _) b88
  | succ r ih =>
    intro i hi
    have ih2 := ih (i + 1) (by omega)
    refine s_iload (n := 82) dX5_hushed_80 rfl rfl ?_
    refine s_aload_n (n := 83) (i := 0) dX5_hushed_82 rfl rfl rfl ?_
    refine gf_X5_19 (n := 86) rfl dX5_hushed_83 rfl (by assumption) (by rfl) ?_
    refine s_iconst (n := 87) (v := 2) dX5_hushed_86 rfl (by decide) ?_
    refine s_iald (n := 88) dX5_hushed_87 rfl (by assumption) (mj_ixe (j := 2) rfl (by omega)) ?_
    rw [hn]
    refine s_icmp_ge (n := 91) (tgt := 119) dX5_hushed_88 rfl rfl (fun b88 => ?_) (fun b88 => ?_)
    · exact absurd ((nI_leE (by omega) (by omega)).mp b88) (by omega)
    · refine s_lload (n := 93) dX5_hushed_91 rfl rfl ?_
      refine s_iload (n := 95) dX5_hushed_93 rfl rfl ?_
      refine s_iload (n := 97) dX5_hushed_95 rfl rfl ?_
      refine s_s2 (M' := MX5_has) (n := 100) dX5_hushed_97 rfl wd_X5_139 okX5_has rfl (by omega) ⟨Nat.le_refl _, Nat.le_refl _⟩ (y_has (d := d - 1)) ?_
      rintro v97 hh97 ⟨rfl, rfl⟩
      refine s_if_eq (n := 103) (tgt := 109) dX5_hushed_100 rfl rfl (fun b100 => ?_) (fun b100 => ?_)
      · have e : blF (2 ^ n - 1 - h4) (i + 1) = blF (2 ^ n - 1 - h4) i * 1 := by
          show _ * (if _ then _ else _) = _
          rw [if_neg (by exact if0 b100)]
        rw [e] at ih2
        refine s_lconst (n := 110) (v := 1) dX5_hushed_109 rfl (by decide) ?_
        refine s_lmul (n := 111) dX5_hushed_110 rfl ?_
        refine s_lstore (n := 113) (i := 7) (ls' := [_, _, _, _, _, _, _, _, _, _, _, _, _, _, _]) dX5_hushed_111 rfl rfl rfl rfl ?_
        refine s_iinc (n := 116) (v := _ + 1) (ls' := [_, _, _, _, _, _, _, _, _, _, _, _, _, _, _]) dX5_hushed_113 rfl rfl rfl rfl rfl ?_
        refine s_goto (tgt := 80) dX5_hushed_116 rfl ?_
        rw [nI_1]
        exact ih2
      · have e : blF (2 ^ n - 1 - h4) (i + 1) = blF (2 ^ n - 1 - h4) i * 10 := by
          show _ * (if _ then _ else _) = _
          rw [if_pos (by exact if1 b100)]
        rw [e] at ih2
        refine s_ldc2 (n := 106) dX5_hushed_103 rfl wd_X5_215 ?_
        refine s_goto (tgt := 110) dX5_hushed_106 rfl ?_
        refine s_lmul (n := 111) dX5_hushed_110 rfl ?_
        refine s_lstore (n := 113) (i := 7) (ls' := [_, _, _, _, _, _, _, _, _, _, _, _, _, _, _]) dX5_hushed_111 rfl rfl rfl rfl ?_
        refine s_iinc (n := 116) (v := _ + 1) (ls' := [_, _, _, _, _, _, _, _, _, _, _, _, _, _, _]) dX5_hushed_113 rfl rfl rfl rfl rfl ?_
        refine s_goto (tgt := 80) dX5_hushed_116 rfl ?_
        rw [nI_1]
        exact ih2
set_option maxRecDepth 100000 in
set_option maxHeartbeats 4000000 in
theorem l_ypart {G : mj_G} {h : mj_H} {d n k h4 s : Nat} {τ : Nat → Nat → Int32} {q w : Int32} {acc b : Int64} {Q : Option Value → mj_H → Prop} (h7 : n ≤ 7) (hn : τ 0 2 = nI n) (hd : 1 ≤ d) (hY : YS G h (u2 (asS τ) 0 (τ 0))) (K : mj_wp G MX5_hushed d 0 0 201 [some (.ref (G.1 + 220)), some (.int (nI k)), some (.int q), some (.int w), some (.int (nI (2 ^ n - 1 - h4))), some (.long acc), none, some (.long b), none, some (.int (nI s)), some (.long (ptF (2 ^ n - 1 - h4) s q n)), none, some (.int (nI n)), none, none] [] h 0 0 Q) : ∀ (r i : Nat), i + r = n → mj_wp G MX5_hushed d 0 0 145 [some (.ref (G.1 + 220)), some (.int (nI k)), some (.int q), some (.int w), some (.int (nI (2 ^ n - 1 - h4))), some (.long acc), none, some (.long b), none, some (.int (nI s)), some (.long (ptF (2 ^ n - 1 - h4) s q i)), none, some (.int (nI i)), none, none] [] h 0 0 Q := by
  obtain ⟨y0, y1, y2, y3, y4, y5, y6, y7, y8, y9, y10, y11, y12⟩ := id hY
  replace y4 : h.2 224 = mj_ar 0 48 (τ 0) := y4
  replace y0 : h.2 220 = YO G (τ 12) := y0
  intro r
  induction r with
  | zero =>
    intro i hi
    have e : i = n := by omega
    subst e
    refine s_iload (n := 147) dX5_hushed_145 rfl rfl ?_
    refine s_aload_n (n := 148) (i := 0) dX5_hushed_147 rfl rfl rfl ?_
    refine gf_X5_19 (n := 151) rfl dX5_hushed_148 rfl (by assumption) (by rfl) ?_
    refine s_iconst (n := 152) (v := 2) dX5_hushed_151 rfl (by decide) ?_
    refine s_iald (n := 153) dX5_hushed_152 rfl (by assumption) (mj_ixe (j := 2) rfl (by omega)) ?_
    rw [hn]
    refine s_icmp_ge (n := 156) (tgt := 201) dX5_hushed_153 rfl rfl (fun b153 => ?_) (fun b153 => ?_)
    · exact K
    · exact absurd (Int32.le_refl _) b153
  | succ r ih =>
    intro i hi
    have ih2 := ih (i + 1) (by omega)
    refine s_iload (n := 147) dX5_hushed_145 rfl rfl ?_
    refine s_aload_n (n := 148) (i := 0) dX5_hushed_147 rfl rfl rfl ?_
    refine gf_X5_19 (n := 151) rfl dX5_hushed_148 rfl (by assumption) (by rfl) ?_
    refine s_iconst (n := 152) (v := 2) dX5_hushed_151 rfl (by decide) ?_
    refine s_iald (n := 153) dX5_hushed_152 rfl (by assumption) (mj_ixe (j := 2) rfl (by omega)) ?_
    rw [hn]
    refine s_icmp_ge (n := 156) (tgt := 201) dX5_hushed_153 rfl rfl (fun b153 => ?_) (fun b153 => ?_)
    · exact absurd ((nI_leE (by omega) (by omega)).mp b153) (by omega)
    · refine s_lload (n := 158) dX5_hushed_156 rfl rfl ?_
      refine s_iload (n := 160) dX5_hushed_158 rfl rfl ?_
      refine s_iload (n := 162) dX5_hushed_160 rfl rfl ?_
      refine s_s2 (M' := MX5_has) (n := 165) dX5_hushed_162 rfl wd_X5_139 okX5_has rfl (by omega) ⟨Nat.le_refl _, Nat.le_refl _⟩ (y_has (d := d - 1)) ?_
      rintro v162 hh162 ⟨rfl, rfl⟩
      refine s_if_ne (n := 168) (tgt := 172) dX5_hushed_165 rfl rfl (fun b165 => ?_) (fun b165 => ?_)
      · refine s_iload (n := 174) dX5_hushed_172 rfl rfl ?_
        refine s_iload (n := 176) dX5_hushed_174 rfl rfl ?_
        refine s_s2 (M' := MX5_has) (n := 179) dX5_hushed_176 rfl wd_X5_139 okX5_has rfl (by omega) ⟨Nat.le_refl _, Nat.le_refl _⟩ (y_has (d := d - 1)) ?_
        rintro v176 hh176 ⟨rfl, rfl⟩
        refine s_if_eq (n := 182) (tgt := 187) dX5_hushed_179 rfl rfl (fun b179 => ?_) (fun b179 => ?_)
        · have e : ptF (2 ^ n - 1 - h4) s q (i + 1) = ptF (2 ^ n - 1 - h4) s q i * (10 - q).toInt64 := by
            show _ * (if _ then _ else _) = _
            rw [if_pos (by exact if1 b165), if_neg (by exact if0 b179)]
          rw [e] at ih2
          refine s_bipush (n := 189) (v := 10) dX5_hushed_187 rfl (by decide) ?_
          refine s_iload_n (n := 190) (i := 2) dX5_hushed_189 rfl rfl rfl ?_
          refine s_isub (n := 191) dX5_hushed_190 rfl ?_
          refine s_i2l (n := 192) dX5_hushed_191 rfl ?_
          refine s_lmul (n := 193) dX5_hushed_192 rfl ?_
          refine s_lstore (n := 195) (i := 10) (ls' := [_, _, _, _, _, _, _, _, _, _, _, _, _, _, _]) dX5_hushed_193 rfl rfl rfl rfl ?_
          refine s_iinc (n := 198) (v := _ + 1) (ls' := [_, _, _, _, _, _, _, _, _, _, _, _, _, _, _]) dX5_hushed_195 rfl rfl rfl rfl rfl ?_
          refine s_goto (tgt := 145) dX5_hushed_198 rfl ?_
          rw [nI_1]
          exact ih2
        · have e : ptF (2 ^ n - 1 - h4) s q (i + 1) = ptF (2 ^ n - 1 - h4) s q i * q.toInt64 := by
            show _ * (if _ then _ else _) = _
            rw [if_pos (by exact if1 b165), if_pos (by exact if1 b179)]
          rw [e] at ih2
          refine s_iload_n (n := 183) (i := 2) dX5_hushed_182 rfl rfl rfl ?_
          refine s_i2l (n := 184) dX5_hushed_183 rfl ?_
          refine s_goto (tgt := 192) dX5_hushed_184 rfl ?_
          refine s_lmul (n := 193) dX5_hushed_192 rfl ?_
          refine s_lstore (n := 195) (i := 10) (ls' := [_, _, _, _, _, _, _, _, _, _, _, _, _, _, _]) dX5_hushed_193 rfl rfl rfl rfl ?_
          refine s_iinc (n := 198) (v := _ + 1) (ls' := [_, _, _, _, _, _, _, _, _, _, _, _, _, _, _]) dX5_hushed_195 rfl rfl rfl rfl rfl ?_
          refine s_goto (tgt := 145) dX5_hushed_198 rfl ?_
          rw [nI_1]
          exact ih2
      · have e : ptF (2 ^ n - 1 - h4) s q (i + 1) = ptF (2 ^ n - 1 - h4) s q i * 1 := by
          show _ * (if _ then _ else _) = _
          rw [if_neg (by exact if0 b165)]
        rw [e] at ih2
        refine s_lconst (n := 169) (v := 1) dX5_hushed_168 rfl (by decide) ?_
        refine s_goto (tgt := 192) dX5_hushed_169 rfl ?_
        refine s_lmul (n := 193) dX5_hushed_192 rfl ?_
        refine s_lstore (n := 195) (i := 10) (ls' := [_, _, _, _, _, _, _, _, _, _, _, _, _, _, _]) dX5_hushed_193 rfl rfl rfl rfl ?_
        refine s_iinc (n := 198) (v := _ + 1) (ls' := [_, _, _, _, _, _, _, _, _, _, _, _, _, _, _]) dX5_hushed_195 rfl rfl rfl rfl rfl ?_
        refine s_goto (tgt := 145) dX5_hushed_198 rfl ?_
        rw [nI_1]
        exact ih2
set_option maxRecDepth 100000 in
set_option maxHeartbeats 4000000 in
theorem cut_yset {G : mj_G} {h0 h : mj_H} {d n k h4 s r : Nat} {τ : Nat → Nat → Int32} {q w : Int32} {b acc : Int64} {Q : Option Value → mj_H → Prop} (hok : okB n (τ 0)) (e4 : τ 0 4 = nI h4) (hh : h4 < 2 ^ n) (hk : k ≤ 100) (hd : 5 ≤ d) (hs : s + (r + 1) = 2 ^ n) (hz : nI s &&& τ 0 4 = 0) (hY : YS G h (u2 (asS τ) 0 (τ 0))) (hF0 : mj_fr 220 13 h0 h) (K : ∀ (h1 : mj_H) (a1 : Int64) (p10 p12 : Option Value), YS G h1 (u2 (asS τ) 0 (τ 0)) → mj_fr 220 13 h0 h1 → csF n k q (τ 0) (r + 1) s acc = csF n k q (τ 0) r (s + 1) a1 → mj_wp G MX5_hushed d 0 0 122 [some (.ref (G.1 + 220)), some (.int (nI k)), some (.int q), some (.int w), some (.int (nI (2 ^ n - 1 - h4))), some (.long a1), none, some (.long b), none, some (.int (nI (s + 1))), p10, none, p12, none, none] [] h1 0 0 Q) : mj_wp G MX5_hushed d 0 0 201 [some (.ref (G.1 + 220)), some (.int (nI k)), some (.int q), some (.int w), some (.int (nI (2 ^ n - 1 - h4))), some (.long acc), none, some (.long b), none, some (.int (nI s)), some (.long (ptF (2 ^ n - 1 - h4) s q n)), none, some (.int (nI n)), none, none] [] h 0 0 Q := by
  have h7 : n ≤ 7 := hok.1.2.1
  have hn := hok.1.1
  have hp := p2_le h7
  obtain ⟨y0, y1, y2, y3, y4, y5, y6, y7, y8, y9, y10, y11, y12⟩ := id hY
  replace y4 : h.2 224 = mj_ar 0 48 (τ 0) := y4
  replace y0 : h.2 220 = YO G (τ 12) := y0
  refine s_aload_n (n := 202) (i := 0) dX5_hushed_201 rfl rfl rfl ?_
  refine gf_X5_19 (n := 205) rfl dX5_hushed_202 rfl (by assumption) (by rfl) ?_
  refine s_iconst (n := 206) (v := 4) dX5_hushed_205 rfl (by decide) ?_
  refine s_dup2 (n := 207) dX5_hushed_206 rfl rfl rfl ?_
  refine s_iald (n := 208) dX5_hushed_207 rfl (by assumption) (mj_ixe (j := 4) rfl (by omega)) ?_
  refine s_iload (n := 210) dX5_hushed_208 rfl rfl ?_
  refine s_ior (n := 211) dX5_hushed_210 rfl ?_
  refine s_iast (n := 212) dX5_hushed_211 rfl (by assumption) (mj_ixe (j := 4) rfl (by omega)) ?_
  refine YA_0 hY (fun h1 hY1 hF1 => ?_)
  rw [u2_u2] at hY1
  obtain ⟨y0, y1, y2, y3, y4, y5, y6, y7, y8, y9, y10, y11, y12⟩ := id hY1
  replace y4 : h1.2 224 = mj_ar 0 48 (upd (τ 0) 4 (τ 0 4 ||| nI s)) := y4
  replace y0 : h1.2 220 = YO G (τ 12) := y0
  refine s_lload (n := 214) dX5_hushed_212 rfl rfl ?_
  refine s_aload_n (n := 215) (i := 0) dX5_hushed_214 rfl rfl rfl ?_
  refine s_iload_n (n := 216) (i := 1) dX5_hushed_215 rfl rfl rfl ?_
  refine s_v1 (M' := MX5_pondBy) (n := 219) (ci := 5) dX5_hushed_216 rfl wd_X5_200 okX5_pondBy rfl rfl (by omega) ⟨Nat.le_refl _, Nat.le_refl _⟩ (by assumption) (y_pondBy (d := d - 1) hY1 (n := n) (m := k) (okB_up hok (Or.inl rfl)) (fun x hx => up_ne (by omega)) (by omega) (by omega)) ?_
  rintro v216 hh216 ⟨rfl, hY2, hF2⟩
  obtain ⟨y0, y1, y2, y3, y4, y5, y6, y7, y8, y9, y10, y11, y12⟩ := id hY2
  replace y4 : hh216.2 224 = mj_ar 0 48 (τ 0) := y4
  replace y0 : hh216.2 220 = YO G (τ 12) := y0
  refine s_aload_n (n := 220) (i := 0) dX5_hushed_219 rfl rfl rfl ?_
  refine gf_X5_19 (n := 223) rfl dX5_hushed_220 rfl (by assumption) (by rfl) ?_
  refine s_iconst (n := 224) (v := 1) dX5_hushed_223 rfl (by decide) ?_
  refine s_iald (n := 225) dX5_hushed_224 rfl (by assumption) (mj_ixe (j := 1) rfl (by omega)) ?_
  refine s_icmp_le (n := 228) (tgt := 233) dX5_hushed_225 rfl rfl (fun b225 => ?_) (fun b225 => ?_)
  · have e : csF n k q (τ 0) (r + 1) s acc = csF n k q (τ 0) r (s + 1) (acc + 0) := by
      rw [Int64.add_zero]
      refine if_neg (fun z => ?_)
      have := z.2
      rw [mns_1 h7] at this
      exact absurd this (Int32.not_lt.mpr b225)
    refine s_lconst (n := 234) (v := 0) dX5_hushed_233 rfl (by decide) ?_
    refine s_ladd (n := 235) dX5_hushed_234 rfl ?_
    refine s_lstore (n := 237) (i := 5) (ls' := [_, _, _, _, _, _, _, _, _, _, _, _, _, _, _]) dX5_hushed_235 rfl rfl rfl rfl ?_
    refine s_iinc (n := 240) (v := _ + 1) (ls' := [_, _, _, _, _, _, _, _, _, _, _, _, _, _, _]) dX5_hushed_237 rfl rfl rfl rfl rfl ?_
    refine s_goto (tgt := 122) dX5_hushed_240 rfl ?_
    rw [nI_1]
    exact K _ _ _ _ hY2 (fr_tr hF0 (fr_tr hF1 hF2)) e
  · have e : csF n k q (τ 0) (r + 1) s acc = csF n k q (τ 0) r (s + 1) (acc + ptF (2 ^ n - 1 - h4) s q n) := by
      obtain ⟨c1, c2, c3⟩ := (cnt_all n (by omega) h4 hh).2.2 s (by omega) (by rw [← e4]; exact hz)
      rw [ptF_c, c1, c2, ← e4]
      refine if_pos ⟨hz, ?_⟩
      rw [mns_1 h7]
      exact Int32.not_le.mp b225
    refine s_lload (n := 230) dX5_hushed_228 rfl rfl ?_
    refine s_goto (tgt := 234) dX5_hushed_230 rfl ?_
    refine s_ladd (n := 235) dX5_hushed_234 rfl ?_
    refine s_lstore (n := 237) (i := 5) (ls' := [_, _, _, _, _, _, _, _, _, _, _, _, _, _, _]) dX5_hushed_235 rfl rfl rfl rfl ?_
    refine s_iinc (n := 240) (v := _ + 1) (ls' := [_, _, _, _, _, _, _, _, _, _, _, _, _, _, _]) dX5_hushed_237 rfl rfl rfl rfl rfl ?_
    refine s_goto (tgt := 122) dX5_hushed_240 rfl ?_
    rw [nI_1]
    exact K _ _ _ _ hY2 (fr_tr hF0 (fr_tr hF1 hF2)) e
set_option maxRecDepth 100000 in
set_option maxHeartbeats 4000000 in
theorem l_ysets {G : mj_G} {h0 : mj_H} {d n k h4 : Nat} {τ : Nat → Nat → Int32} {q w : Int32} {b : Int64} {Q : Option Value → mj_H → Prop} (hok : okB n (τ 0)) (e4 : τ 0 4 = nI h4) (hh : h4 < 2 ^ n) (hk : k ≤ 100) (hd : 5 ≤ d) : ∀ (r s : Nat), s + r = 2 ^ n → ∀ (h : mj_H) (acc : Int64) (o10 o12 : Option Value), YS G h (u2 (asS τ) 0 (τ 0)) → mj_fr 220 13 h0 h → (∀ (h' : mj_H) (s' : Nat) (p10 p12 : Option Value), YS G h' (u2 (asS τ) 0 (τ 0)) → mj_fr 220 13 h0 h' → mj_wp G MX5_hushed d 0 0 243 [some (.ref (G.1 + 220)), some (.int (nI k)), some (.int q), some (.int w), some (.int (nI (2 ^ n - 1 - h4))), some (.long (csF n k q (τ 0) r s acc)), none, some (.long b), none, some (.int (nI s')), p10, none, p12, none, none] [] h' 0 0 Q) → mj_wp G MX5_hushed d 0 0 122 [some (.ref (G.1 + 220)), some (.int (nI k)), some (.int q), some (.int w), some (.int (nI (2 ^ n - 1 - h4))), some (.long acc), none, some (.long b), none, some (.int (nI s)), o10, none, o12, none, none] [] h 0 0 Q := by
  have h7 : n ≤ 7 := hok.1.2.1
  have hn := hok.1.1
  have hp := p2_le h7
  have hb := (bits_all n (by omega) h4 hh).2
  intro r
  induction r with
  | zero =>
    intro s hs h acc o10 o12 hY hF0 K
    obtain ⟨y0, y1, y2, y3, y4, y5, y6, y7, y8, y9, y10, y11, y12⟩ := id hY
    replace y4 : h.2 224 = mj_ar 0 48 (τ 0) := y4
    replace y0 : h.2 220 = YO G (τ 12) := y0
    refine s_iload (n := 124) dX5_hushed_122 rfl rfl ?_
    refine s_iload (n := 126) dX5_hushed_124 rfl rfl ?_
    refine s_icmp_gt (n := 129) (tgt := 243) dX5_hushed_126 rfl rfl (fun b126 => ?_) (fun b126 => ?_)
    · exact K _ _ _ _ hY hF0
    · exact absurd ((nI_ltE (by omega) (by omega)).mpr (by omega)) b126
  | succ r ih =>
    intro s hs h acc o10 o12 hY hF0 K
    obtain ⟨y0, y1, y2, y3, y4, y5, y6, y7, y8, y9, y10, y11, y12⟩ := id hY
    replace y4 : h.2 224 = mj_ar 0 48 (τ 0) := y4
    replace y0 : h.2 220 = YO G (τ 12) := y0
    refine s_iload (n := 124) dX5_hushed_122 rfl rfl ?_
    refine s_iload (n := 126) dX5_hushed_124 rfl rfl ?_
    refine s_icmp_gt (n := 129) (tgt := 243) dX5_hushed_126 rfl rfl (fun b126 => ?_) (fun b126 => ?_)
    · have e : csF n k q (τ 0) (r + 1) s acc = acc := csF_skip (r + 1) s (fun x h1 h2 => by rw [e4]; exact (hb x (by omega)).2 (by have := (nI_ltE (by omega) (by omega)).mp b126; omega))
      rw [e] at K
      exact K _ _ _ _ hY hF0
    · refine s_iload (n := 131) dX5_hushed_129 rfl rfl ?_
      refine s_iload (n := 133) dX5_hushed_131 rfl rfl ?_
      refine s_iconst (n := 134) (v := (-1)) dX5_hushed_133 rfl (by decide) ?_
      refine s_ixor (n := 135) dX5_hushed_134 rfl ?_
      refine s_iand (n := 136) dX5_hushed_135 rfl ?_
      refine s_if_ne (n := 139) (tgt := 237) dX5_hushed_136 rfl rfl (fun b136 => ?_) (fun b136 => ?_)
      · have hz : ¬ nI s &&& τ 0 4 = 0 := by
          rw [e4]
          exact fun z => b136 ((hb s (by omega)).1.mpr z)
        have e : csF n k q (τ 0) (r + 1) s acc = csF n k q (τ 0) r (s + 1) acc := if_neg (fun z => hz z.1)
        rw [e] at K
        refine s_iinc (n := 240) (v := _ + 1) (ls' := [_, _, _, _, _, _, _, _, _, _, _, _, _, _, _]) dX5_hushed_237 rfl rfl rfl rfl rfl ?_
        refine s_goto (tgt := 122) dX5_hushed_240 rfl ?_
        rw [nI_1]
        exact ih (s + 1) (by omega) _ _ _ _ hY hF0 K
      · have hz : nI s &&& τ 0 4 = 0 := by
          rw [e4]
          exact (hb s (by omega)).1.mp b136
        refine s_lconst (n := 140) (v := 1) dX5_hushed_139 rfl (by decide) ?_
        refine s_lstore (n := 142) (i := 10) (ls' := [_, _, _, _, _, _, _, _, _, _, _, _, _, _, _]) dX5_hushed_140 rfl rfl rfl rfl ?_
        refine s_iconst (n := 143) (v := 0) dX5_hushed_142 rfl (by decide) ?_
        refine s_istore (n := 145) (i := 12) (ls' := [_, _, _, _, _, _, _, _, _, _, _, _, _, _, _]) dX5_hushed_143 rfl rfl rfl rfl ?_
        refine l_ypart h7 hn (by omega) hY ?_ n 0 (by omega)
        exact cut_yset hok e4 hh hk hd hs hz hY hF0 (fun h1 a1 p1 p2 c1 c2 c3 => ih (s + 1) (by omega) h1 a1 p1 p2 c1 c2 (by rw [c3] at K; exact K))
set_option maxRecDepth 100000 in
set_option maxHeartbeats 4000000 in
theorem l_ygcd {G : mj_G} {h : mj_H} {d n k h4 : Nat} {q w : Int32} {a b : Int64} {Q : Option Value → mj_H → Prop} : ∀ (t : Nat) (x y : Int64) (o13 : Option Value), gcE t x y → (∀ (p13 : Option Value), mj_wp G MX5_hushed d 0 0 276 [some (.ref (G.1 + 220)), some (.int (nI k)), some (.int q), some (.int w), some (.int (nI (2 ^ n - 1 - h4))), some (.long a), none, some (.long b), none, some (.long (gcF t x y)), none, some (.long 0), none, p13, none] [] h 0 0 Q) → mj_wp G MX5_hushed d 0 0 251 [some (.ref (G.1 + 220)), some (.int (nI k)), some (.int q), some (.int w), some (.int (nI (2 ^ n - 1 - h4))), some (.long a), none, some (.long b), none, some (.long x), none, some (.long y), none, o13, none] [] h 0 0 Q := by
  intro t
  induction t with
  | zero =>
    intro x y o13 hE K
    have e : y = 0 := hE
    subst e
    refine s_lload (n := 253) dX5_hushed_251 rfl rfl ?_
    refine s_lconst (n := 254) (v := 0) dX5_hushed_253 rfl (by decide) ?_
    refine s_lcmp (n := 255) dX5_hushed_254 rfl ?_
    refine s_if_eq (n := 258) (tgt := 276) dX5_hushed_255 rfl rfl (fun b255 => ?_) (fun b255 => ?_)
    · exact K _
    · exact absurd (lc0.mpr rfl) b255
  | succ t ih =>
    intro x y o13 hE K
    refine s_lload (n := 253) dX5_hushed_251 rfl rfl ?_
    refine s_lconst (n := 254) (v := 0) dX5_hushed_253 rfl (by decide) ?_
    refine s_lcmp (n := 255) dX5_hushed_254 rfl ?_
    refine s_if_eq (n := 258) (tgt := 276) dX5_hushed_255 rfl rfl (fun b255 => ?_) (fun b255 => ?_)
    · have e : y = 0 := lc0.mp b255
      subst e
      have eg : gcF (t + 1) x 0 = x := if_pos rfl
      rw [eg] at K
      exact K _
    · have hy : ¬ y = 0 := fun z => b255 (lc0.mpr z)
      have eg : gcF (t + 1) x y = gcF t y (x - x / y * y) := if_neg hy
      rw [eg] at K
      refine s_lload (n := 260) dX5_hushed_258 rfl rfl ?_
      refine s_lload (n := 262) dX5_hushed_260 rfl rfl ?_
      refine s_lrem (n := 263) dX5_hushed_262 rfl (hy) ?_
      refine s_lstore (n := 265) (i := 13) (ls' := [_, _, _, _, _, _, _, _, _, _, _, _, _, _, _]) dX5_hushed_263 rfl rfl rfl rfl ?_
      refine s_lload (n := 267) dX5_hushed_265 rfl rfl ?_
      refine s_lstore (n := 269) (i := 9) (ls' := [_, _, _, _, _, _, _, _, _, _, _, _, _, _, _]) dX5_hushed_267 rfl rfl rfl rfl ?_
      refine s_lload (n := 271) dX5_hushed_269 rfl rfl ?_
      refine s_lstore (n := 273) (i := 11) (ls' := [_, _, _, _, _, _, _, _, _, _, _, _, _, _, _]) dX5_hushed_271 rfl rfl rfl rfl ?_
      refine s_goto (tgt := 251) dX5_hushed_273 rfl ?_
      exact ih _ _ _ (hE.elim (fun z => absurd z hy) id) K
set_option maxRecDepth 100000 in
set_option maxHeartbeats 4000000 in
theorem e_yhush {G : mj_G} {h0 h : mj_H} {d n k h4 : Nat} {τ : Nat → Nat → Int32} {q w : Int32} {p13 : Option Value} (hw : Wi w 0 1) (hY : YS G h (u2 (asS τ) 0 (τ 0))) (hF0 : mj_fr 220 13 h0 h) (hgz : ¬ gcF 200 (csF n k q (τ 0) (2 ^ n) 0 0) (powL 10 (nI n - bc (τ 0 4)).toNatClampNeg) = 0) (hgp : 0 < gcF 200 (csF n k q (τ 0) (2 ^ n) 0 0) (powL 10 (nI n - bc (τ 0 4)).toNatClampNeg)) : mj_wp G MX5_hushed d 0 0 276 [some (.ref (G.1 + 220)), some (.int (nI k)), some (.int q), some (.int w), some (.int (nI (2 ^ n - 1 - h4))), some (.long (csF n k q (τ 0) (2 ^ n) 0 0)), none, some (.long (powL 10 (nI n - bc (τ 0 4)).toNatClampNeg)), none, some (.long (gcF 200 (csF n k q (τ 0) (2 ^ n) 0 0) (powL 10 (nI n - bc (τ 0 4)).toNatClampNeg))), none, some (.long 0), none, p13, none] [] h 0 0 (fun v h' => v = some (.long (huF n k q (τ 0) w)) ∧ YS G h' (u2 (asS τ) 0 (τ 0)) ∧ mj_fr 220 13 h0 h') := by
  refine s_iload_n (n := 277) (i := 3) dX5_hushed_276 rfl rfl rfl ?_
  refine s_if_ne (n := 280) (tgt := 288) dX5_hushed_277 rfl rfl (fun b277 => ?_) (fun b277 => ?_)
  · have e : huF n k q (τ 0) w = (powL 10 (nI n - bc (τ 0 4)).toNatClampNeg) / gcF 200 (csF n k q (τ 0) (2 ^ n) 0 0) (powL 10 (nI n - bc (τ 0 4)).toNatClampNeg) := by
      unfold huF
      simp only [if_pos hgp, if_neg b277]
    refine s_lload (n := 290) dX5_hushed_288 rfl rfl ?_
    refine s_lload (n := 292) dX5_hushed_290 rfl rfl ?_
    refine s_ldiv (n := 293) dX5_hushed_292 rfl (hgz) ?_
    refine s_lreturn dX5_hushed_293 rfl (Nat.le_refl _) (Nat.le_refl _) ?_
    rw [e]
    exact ⟨rfl, hY, hF0⟩
  · have e : huF n k q (τ 0) w = (csF n k q (τ 0) (2 ^ n) 0 0) / gcF 200 (csF n k q (τ 0) (2 ^ n) 0 0) (powL 10 (nI n - bc (τ 0 4)).toNatClampNeg) := by
      unfold huF
      simp only [if_pos hgp, if_pos b277]
    refine s_lload (n := 282) dX5_hushed_280 rfl rfl ?_
    refine s_lload (n := 284) dX5_hushed_282 rfl rfl ?_
    refine s_ldiv (n := 285) dX5_hushed_284 rfl (hgz) ?_
    refine s_goto (tgt := 293) dX5_hushed_285 rfl ?_
    refine s_lreturn dX5_hushed_293 rfl (Nat.le_refl _) (Nat.le_refl _) ?_
    rw [e]
    exact ⟨rfl, hY, hF0⟩
set_option maxRecDepth 100000 in
set_option maxHeartbeats 4000000 in
theorem z_yhush {G : mj_G} {h0 h : mj_H} {d n k h4 s : Nat} {τ : Nat → Nat → Int32} {q w : Int32} {o10 o12 : Option Value} (hok : okB n (τ 0)) (e4 : τ 0 4 = nI h4) (hh : h4 < 2 ^ n) (hq : Wi q 0 10) (hw : Wi w 0 1) (hY : YS G h (u2 (asS τ) 0 (τ 0))) (hF0 : mj_fr 220 13 h0 h) : mj_wp G MX5_hushed d 0 0 243 [some (.ref (G.1 + 220)), some (.int (nI k)), some (.int q), some (.int w), some (.int (nI (2 ^ n - 1 - h4))), some (.long (csF n k q (τ 0) (2 ^ n) 0 0)), none, some (.long (blF (2 ^ n - 1 - h4) n)), none, some (.int (nI s)), o10, none, o12, none, none] [] h 0 0 (fun v h' => v = some (.long (huF n k q (τ 0) w)) ∧ YS G h' (u2 (asS τ) 0 (τ 0)) ∧ mj_fr 220 13 h0 h') := by
  have h7 : n ≤ 7 := hok.1.2.1
  have hp := p2_le h7
  obtain ⟨c1, c2, -⟩ := cnt_all n (by omega) h4 hh
  have eb : blF (2 ^ n - 1 - h4) n = powL 10 (nI n - bc (τ 0 4)).toNatClampNeg := by
    rw [blF_c, c1, ← e4]
  obtain ⟨p, rfl, -, hp10⟩ := Wi_ex hq (by omega)
  obtain ⟨A, hA, eA⟩ := csF_n (k := k) (T := τ 0) (C := 10000000) (by omega) e4 hh (show p ≤ 10 by omega) (fun i j h => pw_le (by omega) h) (2 ^ n) 0 0 (by omega)
  have hA2 : 2 ^ n * 10000000 ≤ 128 * 10000000 := Nat.mul_le_mul_right _ hp
  have eB : powL 10 (nI n - bc (τ 0 4)).toNatClampNeg = lN (10 ^ cA (2 ^ n - 1 - h4) n) := by
    rw [e4, ← c1]
    exact powL_n (b := 10) _
  have hB : 10 ^ cA (2 ^ n - 1 - h4) n ≤ 10 ^ 7 := Nat.pow_le_pow_right (by omega) c2
  have hB0 : 0 < 10 ^ cA (2 ^ n - 1 - h4) n := Nat.pow_pos (by omega)
  have e0 : (lN 0 : Int64) = 0 := rfl
  rw [e0] at eA
  obtain ⟨gE, g, hg0, hg1, hg⟩ := gc_ok 100 A (10 ^ cA (2 ^ n - 1 - h4) n) (by omega) (by omega) (Nat.lt_of_le_of_lt hB (by decide)) (Or.inr hB0)
  rw [← eA, ← eB] at gE hg
  have hgz : ¬ gcF 200 (csF n k (nI p) (τ 0) (2 ^ n) 0 0) (powL 10 (nI n - bc (τ 0 4)).toNatClampNeg) = 0 := by
    show ¬ gcF (2 * 100) _ _ = 0
    rw [hg]
    exact fun z => absurd ((lN_z hg1).mp z) (by omega)
  have hgp : 0 < gcF 200 (csF n k (nI p) (τ 0) (2 ^ n) 0 0) (powL 10 (nI n - bc (τ 0 4)).toNatClampNeg) := by
    show 0 < gcF (2 * 100) _ _
    rw [hg]
    apply Int64.lt_iff_toInt_lt.mpr
    rw [lN_toInt hg1]
    have : (0 : Int64).toInt = 0 := by decide
    omega
  rw [eb]
  refine s_lload (n := 245) dX5_hushed_243 rfl rfl ?_
  refine s_lstore (n := 247) (i := 9) (ls' := [_, _, _, _, _, _, _, _, _, _, _, _, _, _, _]) dX5_hushed_245 rfl rfl rfl rfl ?_
  refine s_lload (n := 249) dX5_hushed_247 rfl rfl ?_
  refine s_lstore (n := 251) (i := 11) (ls' := [_, _, _, _, _, _, _, _, _, _, _, _, _, _, _]) dX5_hushed_249 rfl rfl rfl rfl ?_
  refine l_ygcd 200 _ _ _ gE (fun p13 => ?_)
  exact e_yhush hw hY hF0 hgz hgp
set_option maxRecDepth 100000 in
set_option maxHeartbeats 4000000 in
theorem m_yhush {G : mj_G} {h0 h : mj_H} {d n k h4 : Nat} {τ : Nat → Nat → Int32} {q w : Int32} (hok : okB n (τ 0)) (e4 : τ 0 4 = nI h4) (hh : h4 < 2 ^ n) (hk : k ≤ 40) (hq : Wi q 0 10) (hw : Wi w 0 1) (hd : 5 ≤ d) (hY : YS G h (u2 (asS τ) 0 (τ 0))) (hF0 : mj_fr 220 13 h0 h) : mj_wp G MX5_hushed d 0 0 119 [some (.ref (G.1 + 220)), some (.int (nI k)), some (.int q), some (.int w), some (.int (nI (2 ^ n - 1 - h4))), some (.long 0), none, some (.long (blF (2 ^ n - 1 - h4) n)), none, some (.int (nI n)), none, none, none, none, none] [] h 0 0 (fun v h' => v = some (.long (huF n k q (τ 0) w)) ∧ YS G h' (u2 (asS τ) 0 (τ 0)) ∧ mj_fr 220 13 h0 h') := by
  refine s_iconst (n := 120) (v := 0) dX5_hushed_119 rfl (by decide) ?_
  refine s_istore (n := 122) (i := 9) (ls' := [_, _, _, _, _, _, _, _, _, _, _, _, _, _, _]) dX5_hushed_120 rfl rfl rfl rfl ?_
  exact l_ysets hok e4 hh (by omega) hd (2 ^ n) 0 (by omega) _ _ _ _ hY hF0 (fun h1 s1 p10 p12 hY1 hF1 => z_yhush hok e4 hh hq hw hY1 hF1)
set_option maxRecDepth 100000 in
set_option maxHeartbeats 4000000 in
theorem y_hushed {G : mj_G} {h : mj_H} {d : Nat} {τ : Nat → Nat → Int32} (hY : YS G h τ) {n : Nat} (hn : τ 0 2 = nI n) (h7 : n ≤ 7) (hok : okB n (τ 0)) {h4 : Nat} (e4 : τ 0 4 = nI h4) (hh : h4 < 2 ^ n) {k : Nat} (hk : k ≤ 40) {q : Int32} (hq : Wi q 0 10) (hT : ¬ τ 12 1 = 0) {w : Int32} (hw : Wi w 0 1) (hd : 5 ≤ d) : mj_con G MX5_hushed d 0 0 [.ref (G.1 + 220), .int (nI k), .int q, .int w] h (fun v h' => v = some (.long (huF n k q (τ 0) w)) ∧ YS G h' (u2 (asS τ) 0 (τ 0)) ∧ mj_fr 220 13 h h') := by
  refine mj_conV okX5_hushed (ls := [some (.ref (G.1 + 220)), some (.int (nI k)), some (.int q), some (.int w), none, none, none, none, none, none, none, none, none, none, none]) rfl rfl ?_
  obtain ⟨y0, y1, y2, y3, y4, y5, y6, y7, y8, y9, y10, y11, y12⟩ := id hY
  refine s_aload_n (n := 1) (i := 0) dX5_hushed_0 rfl rfl rfl ?_
  refine gf_X5_132 (n := 4) rfl dX5_hushed_1 rfl (by assumption) (by rfl) ?_
  refine s_if_ne (n := 7) (tgt := 11) dX5_hushed_4 rfl rfl (fun b4 => ?_) (fun b4 => ?_)
  · refine s_iload_n (n := 12) (i := 1) dX5_hushed_11 rfl rfl rfl ?_
    refine s_i2l (n := 13) dX5_hushed_12 rfl ?_
    refine s_lconst (n := 14) (v := 0) dX5_hushed_13 rfl (by decide) ?_
    refine s_ldc2 (n := 17) dX5_hushed_14 rfl wd_X5_194 ?_
    refine s_s3 (M' := MX5_in) (n := 20) dX5_hushed_17 rfl wd_X5_54 okX5_in rfl (by omega) ⟨Nat.le_refl _, Nat.le_refl _⟩ (y_in (d := d - 1) (A := 0) (B := 40) (by decide) (by decide)) ?_
    rintro v17 hh17 ⟨rfl, rfl⟩
    refine s_if_eq (n := 23) (tgt := 42) dX5_hushed_20 rfl rfl (fun b20 => ?_) (fun b20 => ?_)
    · exact absurd (Wi_n (by omega) (by omega) (by omega)) (if0 b20)
    · refine s_iload_n (n := 24) (i := 2) dX5_hushed_23 rfl rfl rfl ?_
      refine s_i2l (n := 25) dX5_hushed_24 rfl ?_
      refine s_lconst (n := 26) (v := 0) dX5_hushed_25 rfl (by decide) ?_
      refine s_ldc2 (n := 29) dX5_hushed_26 rfl wd_X5_215 ?_
      refine s_s3 (M' := MX5_in) (n := 32) dX5_hushed_29 rfl wd_X5_54 okX5_in rfl (by omega) ⟨Nat.le_refl _, Nat.le_refl _⟩ (y_in (d := d - 1) (A := 0) (B := 10) (by decide) (by decide)) ?_
      rintro v29 hh29 ⟨rfl, rfl⟩
      refine s_if_eq (n := 35) (tgt := 42) dX5_hushed_32 rfl rfl (fun b32 => ?_) (fun b32 => ?_)
      · exact absurd (hq) (if0 b32)
      · refine s_iload_n (n := 36) (i := 3) dX5_hushed_35 rfl rfl rfl ?_
        refine s_s1 (M' := MX5_isWhat) (n := 39) dX5_hushed_36 rfl wd_X5_183 okX5_isWhat rfl (by omega) ⟨Nat.le_refl _, Nat.le_refl _⟩ (y_isWhat (d := d - 1) (by omega)) ?_
        rintro v36 hh36 ⟨rfl, rfl⟩
        refine s_if_ne (n := 42) (tgt := 46) dX5_hushed_39 rfl rfl (fun b39 => ?_) (fun b39 => ?_)
        · refine s_aload_n (n := 47) (i := 0) dX5_hushed_46 rfl rfl rfl ?_
          refine s_v0 (M' := MX5_putAside) (n := 50) (ci := 5) dX5_hushed_47 rfl wd_X5_174 okX5_putAside rfl rfl (by omega) ⟨Nat.le_refl _, Nat.le_refl _⟩ (by assumption) (y_pa (d := d - 1) hY) ?_
          rintro v47 hh47 ⟨rfl, hY1, hF1⟩
          obtain ⟨y0, y1, y2, y3, y4, y5, y6, y7, y8, y9, y10, y11, y12⟩ := id hY1
          replace y4 : hh47.2 224 = mj_ar 0 48 (τ 0) := y4
          replace y0 : hh47.2 220 = YO G (τ 12) := y0
          refine s_iconst (n := 51) (v := 1) dX5_hushed_50 rfl (by decide) ?_
          refine s_aload_n (n := 52) (i := 0) dX5_hushed_51 rfl rfl rfl ?_
          refine gf_X5_19 (n := 55) rfl dX5_hushed_52 rfl (by assumption) (by rfl) ?_
          refine s_iconst (n := 56) (v := 2) dX5_hushed_55 rfl (by decide) ?_
          refine s_iald (n := 57) dX5_hushed_56 rfl (by assumption) (mj_ixe (j := 2) rfl (by omega)) ?_
          refine s_ishl (n := 58) dX5_hushed_57 rfl ?_
          refine s_iconst (n := 59) (v := 1) dX5_hushed_58 rfl (by decide) ?_
          refine s_isub (n := 60) dX5_hushed_59 rfl ?_
          refine s_aload_n (n := 61) (i := 0) dX5_hushed_60 rfl rfl rfl ?_
          refine gf_X5_19 (n := 64) rfl dX5_hushed_61 rfl (by assumption) (by rfl) ?_
          refine s_iconst (n := 65) (v := 4) dX5_hushed_64 rfl (by decide) ?_
          refine s_iald (n := 66) dX5_hushed_65 rfl (by assumption) (mj_ixe (j := 4) rfl (by omega)) ?_
          refine s_iconst (n := 67) (v := (-1)) dX5_hushed_66 rfl (by decide) ?_
          refine s_ixor (n := 68) dX5_hushed_67 rfl ?_
          refine s_iand (n := 69) dX5_hushed_68 rfl ?_
          rw [hn, e4, (bits_all n (by omega) h4 hh).1]
          refine s_istore (n := 71) (i := 4) (ls' := [_, _, _, _, _, _, _, _, _, _, _, _, _, _, _]) dX5_hushed_69 rfl rfl rfl rfl ?_
          refine s_lconst (n := 72) (v := 0) dX5_hushed_71 rfl (by decide) ?_
          refine s_lstore (n := 74) (i := 5) (ls' := [_, _, _, _, _, _, _, _, _, _, _, _, _, _, _]) dX5_hushed_72 rfl rfl rfl rfl ?_
          refine s_lconst (n := 75) (v := 1) dX5_hushed_74 rfl (by decide) ?_
          refine s_lstore (n := 77) (i := 7) (ls' := [_, _, _, _, _, _, _, _, _, _, _, _, _, _, _]) dX5_hushed_75 rfl rfl rfl rfl ?_
          refine s_iconst (n := 78) (v := 0) dX5_hushed_77 rfl (by decide) ?_
          refine s_istore (n := 80) (i := 9) (ls' := [_, _, _, _, _, _, _, _, _, _, _, _, _, _, _]) dX5_hushed_78 rfl rfl rfl rfl ?_
          refine l_ybel h7 hn (by omega) hY1 ?_ n 0 (by omega)
          exact m_yhush hok e4 hh hk hq hw hd hY1 hF1
        · exact absurd (hw) (if0 b39)
  · exact absurd b4 hT
